theorem dX5_stepsOnWay_24 : decode cX5_stepsOnWay 24 = .ok (.ireturn, 1) := by decide +kernel
theorem dX5_mostStepsOnWay_0 : decode cX5_mostStepsOnWay 0 = .ok (.iconst 0, 1) := by decide +kernel
theorem dX5_mostStepsOnWay_1 : decode cX5_mostStepsOnWay 1 = .ok (.istore_n 1, 1) := by decide +kernel
theorem dX5_mostStepsOnWay_2 : decode cX5_mostStepsOnWay 2 = .ok (.aload_n 0, 1) := by decide +kernel
theorem dX5_mostStepsOnWay_3 : decode cX5_mostStepsOnWay 3 = .ok (.astore_n 2, 1) := by decide +kernel
theorem dX5_mostStepsOnWay_4 : decode cX5_mostStepsOnWay 4 = .ok (.aload_n 2, 1) := by decide +kernel
theorem dX5_mostStepsOnWay_5 : decode cX5_mostStepsOnWay 5 = .ok (.ifnull 20, 3) := by decide +kernel
theorem dX5_mostStepsOnWay_8 : decode cX5_mostStepsOnWay 8 = .ok (.iload_n 1, 1) := by decide +kernel
theorem dX5_mostStepsOnWay_9 : decode cX5_mostStepsOnWay 9 = .ok (.aload_n 2, 1) := by decide +kernel
theorem dX5_mostStepsOnWay_10 : decode cX5_mostStepsOnWay 10 = .ok (.getfield 32, 3) := by decide +kernel
theorem dX5_mostStepsOnWay_13 : decode cX5_mostStepsOnWay 13 = .ok (.invokestatic 103, 3) := by decide +kernel
theorem dX5_mostStepsOnWay_16 : decode cX5_mostStepsOnWay 16 = .ok (.istore_n 1, 1) := by decide +kernel
theorem dX5_mostStepsOnWay_17 : decode cX5_mostStepsOnWay 17 = .ok (.aload_n 2, 1) := by decide +kernel
theorem dX5_mostStepsOnWay_18 : decode cX5_mostStepsOnWay 18 = .ok (.getfield 35, 3) := by decide +kernel
theorem dX5_mostStepsOnWay_21 : decode cX5_mostStepsOnWay 21 = .ok (.astore_n 2, 1) := by decide +kernel
theorem dX5_mostStepsOnWay_22 : decode cX5_mostStepsOnWay 22 = .ok (.goto (-18), 3) := by decide +kernel
theorem dX5_mostStepsOnWay_25 : decode cX5_mostStepsOnWay 25 = .ok (.iload_n 1, 1) := by decide +kernel
theorem dX5_mostStepsOnWay_26 : decode cX5_mostStepsOnWay 26 = .ok (.ireturn, 1) := by decide +kernel
theorem dX6_init_0 : decode cX6_init 0 = .ok (.aload_n 0, 1) := by decide +kernel
theorem dX6_init_1 : decode cX6_init 1 = .ok (.invokespecial 3, 3) := by decide +kernel
theorem dX6_init_4 : decode cX6_init 4 = .ok (.aload_n 0, 1) := by decide +kernel
theorem dX6_init_5 : decode cX6_init 5 = .ok (.sipush 500, 3) := by decide +kernel
theorem dX6_init_8 : decode cX6_init 8 = .ok (.newarray .byte, 2) := by decide +kernel
theorem dX6_init_10 : decode cX6_init 10 = .ok (.putfield 9, 3) := by decide +kernel
theorem dX6_init_13 : decode cX6_init 13 = .ok (.aload_n 0, 1) := by decide +kernel
theorem dX6_init_14 : decode cX6_init 14 = .ok (.new 13, 3) := by decide +kernel
theorem dX6_init_17 : decode cX6_init 17 = .ok (.dup, 1) := by decide +kernel
theorem dX6_init_18 : decode cX6_init 18 = .ok (.invokespecial 15, 3) := by decide +kernel
theorem dX6_init_21 : decode cX6_init 21 = .ok (.putfield 16, 3) := by decide +kernel
theorem dX6_init_24 : decode cX6_init 24 = .ok (.aload_n 0, 1) := by decide +kernel
theorem dX6_init_25 : decode cX6_init 25 = .ok (.bipush 10, 2) := by decide +kernel
theorem dX6_init_27 : decode cX6_init 27 = .ok (.anewarray 20, 3) := by decide +kernel
theorem dX6_init_30 : decode cX6_init 30 = .ok (.putfield 22, 3) := by decide +kernel
theorem dX6_init_33 : decode cX6_init 33 = .ok (.aload_n 0, 1) := by decide +kernel
theorem dX6_init_34 : decode cX6_init 34 = .ok (.new 26, 3) := by decide +kernel
theorem dX6_init_37 : decode cX6_init 37 = .ok (.dup, 1) := by decide +kernel
theorem dX6_init_38 : decode cX6_init 38 = .ok (.invokespecial 28, 3) := by decide +kernel
theorem dX6_init_41 : decode cX6_init 41 = .ok (.putfield 29, 3) := by decide +kernel
theorem dX6_init_44 : decode cX6_init 44 = .ok (.aload_n 0, 1) := by decide +kernel
theorem dX6_init_45 : decode cX6_init 45 = .ok (.bipush 64, 2) := by decide +kernel
theorem dX6_init_47 : decode cX6_init 47 = .ok (.newarray .int, 2) := by decide +kernel
theorem dX6_init_49 : decode cX6_init 49 = .ok (.putfield 33, 3) := by decide +kernel
theorem dX6_init_52 : decode cX6_init 52 = .ok (.aload_n 0, 1) := by decide +kernel
theorem dX6_init_53 : decode cX6_init 53 = .ok (.bipush 64, 2) := by decide +kernel
theorem dX6_init_55 : decode cX6_init 55 = .ok (.newarray .int, 2) := by decide +kernel
theorem dX6_init_57 : decode cX6_init 57 = .ok (.putfield 37, 3) := by decide +kernel
theorem dX6_init_60 : decode cX6_init 60 = .ok (.aload_n 0, 1) := by decide +kernel
theorem dX6_init_61 : decode cX6_init 61 = .ok (.iconst 0, 1) := by decide +kernel
theorem dX6_init_62 : decode cX6_init 62 = .ok (.putfield 40, 3) := by decide +kernel
theorem dX6_init_65 : decode cX6_init 65 = .ok (.aload_n 0, 1) := by decide +kernel
theorem dX6_init_66 : decode cX6_init 66 = .ok (.iconst (-1), 1) := by decide +kernel
theorem dX6_init_67 : decode cX6_init 67 = .ok (.putfield 44, 3) := by decide +kernel
theorem dX6_init_70 : decode cX6_init 70 = .ok (.aload_n 0, 1) := by decide +kernel
theorem dX6_init_71 : decode cX6_init 71 = .ok (.iconst 0, 1) := by decide +kernel
theorem dX6_init_72 : decode cX6_init 72 = .ok (.putfield 47, 3) := by decide +kernel
theorem dX6_init_75 : decode cX6_init 75 = .ok (.aload_n 0, 1) := by decide +kernel
theorem dX6_init_76 : decode cX6_init 76 = .ok (.iconst 0, 1) := by decide +kernel
theorem dX6_init_77 : decode cX6_init 77 = .ok (.putfield 50, 3) := by decide +kernel
theorem dX6_init_80 : decode cX6_init 80 = .ok (.new 53, 3) := by decide +kernel
theorem dX6_init_83 : decode cX6_init 83 = .ok (.dup, 1) := by decide +kernel
theorem dX6_init_84 : decode cX6_init 84 = .ok (.aconst_null, 1) := by decide +kernel
theorem dX6_init_85 : decode cX6_init 85 = .ok (.iconst (-1), 1) := by decide +kernel
theorem dX6_init_86 : decode cX6_init 86 = .ok (.invokespecial 55, 3) := by decide +kernel
theorem dX6_init_89 : decode cX6_init 89 = .ok (.astore_n 1, 1) := by decide +kernel
theorem dX6_init_90 : decode cX6_init 90 = .ok (.iconst 0, 1) := by decide +kernel
theorem dX6_init_91 : decode cX6_init 91 = .ok (.istore_n 2, 1) := by decide +kernel
theorem dX6_init_92 : decode cX6_init 92 = .ok (.iload_n 2, 1) := by decide +kernel
theorem dX6_init_93 : decode cX6_init 93 = .ok (.bipush 10, 2) := by decide +kernel
theorem dX6_init_95 : decode cX6_init 95 = .ok (.if_icmp .ge 23, 3) := by decide +kernel
theorem dX6_init_98 : decode cX6_init 98 = .ok (.aload_n 0, 1) := by decide +kernel
theorem dX6_init_99 : decode cX6_init 99 = .ok (.getfield 22, 3) := by decide +kernel
theorem dX6_init_102 : decode cX6_init 102 = .ok (.iload_n 2, 1) := by decide +kernel
theorem dX6_init_103 : decode cX6_init 103 = .ok (.new 20, 3) := by decide +kernel
theorem dX6_init_106 : decode cX6_init 106 = .ok (.dup, 1) := by decide +kernel
theorem dX6_init_107 : decode cX6_init 107 = .ok (.aload_n 1, 1) := by decide +kernel
theorem dX6_init_108 : decode cX6_init 108 = .ok (.invokespecial 58, 3) := by decide +kernel
theorem dX6_init_111 : decode cX6_init 111 = .ok (.aastore, 1) := by decide +kernel
theorem dX6_init_112 : decode cX6_init 112 = .ok (.iinc 2 1, 3) := by decide +kernel
theorem dX6_init_115 : decode cX6_init 115 = .ok (.goto (-23), 3) := by decide +kernel
theorem dX6_init_118 : decode cX6_init 118 = .ok (.return_, 1) := by decide +kernel
theorem dX6_append_0 : decode cX6_append 0 = .ok (.aload_n 0, 1) := by decide +kernel
theorem dX6_append_1 : decode cX6_append 1 = .ok (.getfield 40, 3) := by decide +kernel
theorem dX6_append_4 : decode cX6_append 4 = .ok (.bipush 20, 2) := by decide +kernel
theorem dX6_append_6 : decode cX6_append 6 = .ok (.iadd, 1) := by decide +kernel
theorem dX6_append_7 : decode cX6_append 7 = .ok (.sipush 500, 3) := by decide +kernel
theorem dX6_append_10 : decode cX6_append 10 = .ok (.if_icmp .le 5, 3) := by decide +kernel
theorem dX6_append_13 : decode cX6_append 13 = .ok (.iconst (-1), 1) := by decide +kernel
theorem dX6_append_14 : decode cX6_append 14 = .ok (.ireturn, 1) := by decide +kernel
theorem dX6_append_15 : decode cX6_append 15 = .ok (.aload_n 0, 1) := by decide +kernel
theorem dX6_append_16 : decode cX6_append 16 = .ok (.iload_n 1, 1) := by decide +kernel
theorem dX6_append_17 : decode cX6_append 17 = .ok (.invokevirtual 61, 3) := by decide +kernel
theorem dX6_append_20 : decode cX6_append 20 = .ok (.aload_n 0, 1) := by decide +kernel
theorem dX6_append_21 : decode cX6_append 21 = .ok (.iload_n 2, 1) := by decide +kernel
theorem dX6_append_22 : decode cX6_append 22 = .ok (.invokevirtual 61, 3) := by decide +kernel
theorem dX6_append_25 : decode cX6_append 25 = .ok (.aload_n 0, 1) := by decide +kernel
theorem dX6_append_26 : decode cX6_append 26 = .ok (.iload_n 3, 1) := by decide +kernel
theorem dX6_append_27 : decode cX6_append 27 = .ok (.invokevirtual 61, 3) := by decide +kernel
theorem dX6_append_30 : decode cX6_append 30 = .ok (.aload_n 0, 1) := by decide +kernel
theorem dX6_append_31 : decode cX6_append 31 = .ok (.iload 4, 2) := by decide +kernel
theorem dX6_append_33 : decode cX6_append 33 = .ok (.invokevirtual 61, 3) := by decide +kernel
theorem dX6_append_36 : decode cX6_append 36 = .ok (.aload_n 0, 1) := by decide +kernel
theorem dX6_append_37 : decode cX6_append 37 = .ok (.iload 5, 2) := by decide +kernel
theorem dX6_append_39 : decode cX6_append 39 = .ok (.invokevirtual 61, 3) := by decide +kernel
theorem dX6_append_42 : decode cX6_append 42 = .ok (.aload_n 0, 1) := by decide +kernel
theorem dX6_append_43 : decode cX6_append 43 = .ok (.getfield 40, 3) := by decide +kernel
theorem dX6_append_46 : decode cX6_append 46 = .ok (.ireturn, 1) := by decide +kernel
theorem dX6_load_0 : decode cX6_load 0 = .ok (.iload_n 1, 1) := by decide +kernel
theorem dX6_load_1 : decode cX6_load 1 = .ok (.ifCond .lt 11, 3) := by decide +kernel
theorem dX6_load_4 : decode cX6_load 4 = .ok (.iload_n 1, 1) := by decide +kernel
theorem dX6_load_5 : decode cX6_load 5 = .ok (.aload_n 0, 1) := by decide +kernel
theorem dX6_load_6 : decode cX6_load 6 = .ok (.getfield 40, 3) := by decide +kernel
theorem dX6_load_9 : decode cX6_load 9 = .ok (.if_icmp .le 13, 3) := by decide +kernel
theorem dX6_load_12 : decode cX6_load 12 = .ok (.new 65, 3) := by decide +kernel
theorem dX6_load_15 : decode cX6_load 15 = .ok (.dup, 1) := by decide +kernel
theorem dX6_load_16 : decode cX6_load 16 = .ok (.ldc 67, 2) := by decide +kernel
theorem dX6_load_18 : decode cX6_load 18 = .ok (.invokespecial 69, 3) := by decide +kernel
theorem dX6_load_21 : decode cX6_load 21 = .ok (.athrow, 1) := by decide +kernel
theorem dX6_load_22 : decode cX6_load 22 = .ok (.aload_n 0, 1) := by decide +kernel
theorem dX6_load_23 : decode cX6_load 23 = .ok (.iconst 0, 1) := by decide +kernel
theorem dX6_load_24 : decode cX6_load 24 = .ok (.putfield 40, 3) := by decide +kernel
theorem dX6_load_27 : decode cX6_load 27 = .ok (.aload_n 0, 1) := by decide +kernel
theorem dX6_load_28 : decode cX6_load 28 = .ok (.getfield 22, 3) := by decide +kernel
theorem dX6_load_31 : decode cX6_load 31 = .ok (.aload_n 0, 1) := by decide +kernel
theorem dX6_load_32 : decode cX6_load 32 = .ok (.getfield 47, 3) := by decide +kernel
theorem dX6_load_35 : decode cX6_load 35 = .ok (.invokestatic 72, 3) := by decide +kernel
theorem dX6_load_38 : decode cX6_load 38 = .ok (.aaload, 1) := by decide +kernel
theorem dX6_load_39 : decode cX6_load 39 = .ok (.astore_n 2, 1) := by decide +kernel
theorem dX6_load_40 : decode cX6_load 40 = .ok (.aload_n 2, 1) := by decide +kernel
theorem dX6_load_41 : decode cX6_load 41 = .ok (.invokevirtual 76, 3) := by decide +kernel
theorem dX6_load_44 : decode cX6_load 44 = .ok (.aload_n 0, 1) := by decide +kernel
theorem dX6_load_45 : decode cX6_load 45 = .ok (.getfield 16, 3) := by decide +kernel
theorem dX6_load_48 : decode cX6_load 48 = .ok (.aload_n 0, 1) := by decide +kernel
theorem dX6_load_49 : decode cX6_load 49 = .ok (.getfield 9, 3) := by decide +kernel
theorem dX6_load_52 : decode cX6_load 52 = .ok (.iload_n 1, 1) := by decide +kernel
theorem dX6_load_53 : decode cX6_load 53 = .ok (.aload_n 2, 1) := by decide +kernel
theorem dX6_load_54 : decode cX6_load 54 = .ok (.invokevirtual 79, 3) := by decide +kernel
theorem dX6_load_57 : decode cX6_load 57 = .ok (.istore_n 3, 1) := by decide +kernel
theorem dX6_load_58 : decode cX6_load 58 = .ok (.aload_n 0, 1) := by decide +kernel
theorem dX6_load_59 : decode cX6_load 59 = .ok (.aload_n 0, 1) := by decide +kernel
theorem dX6_load_60 : decode cX6_load 60 = .ok (.getfield 16, 3) := by decide +kernel
theorem dX6_load_63 : decode cX6_load 63 = .ok (.getfield 83, 3) := by decide +kernel
theorem dX6_load_66 : decode cX6_load 66 = .ok (.putfield 44, 3) := by decide +kernel
theorem dX6_load_69 : decode cX6_load 69 = .ok (.iload_n 3, 1) := by decide +kernel
theorem dX6_load_70 : decode cX6_load 70 = .ok (.ifCond .eq 5, 3) := by decide +kernel
theorem dX6_load_73 : decode cX6_load 73 = .ok (.iload_n 3, 1) := by decide +kernel
theorem dX6_load_74 : decode cX6_load 74 = .ok (.ireturn, 1) := by decide +kernel
theorem dX6_load_75 : decode cX6_load 75 = .ok (.aload_n 0, 1) := by decide +kernel
theorem dX6_load_76 : decode cX6_load 76 = .ok (.invokevirtual 84, 3) := by decide +kernel
theorem dX6_load_79 : decode cX6_load 79 = .ok (.aload_n 2, 1) := by decide +kernel
theorem dX6_load_80 : decode cX6_load 80 = .ok (.getfield 87, 3) := by decide +kernel
theorem dX6_load_83 : decode cX6_load 83 = .ok (.ireturn, 1) := by decide +kernel
theorem dX6_errorOffset_0 : decode cX6_errorOffset 0 = .ok (.aload_n 0, 1) := by decide +kernel
theorem dX6_errorOffset_1 : decode cX6_errorOffset 1 = .ok (.getfield 44, 3) := by decide +kernel
theorem dX6_errorOffset_4 : decode cX6_errorOffset 4 = .ok (.ireturn, 1) := by decide +kernel
theorem dX6_state_0 : decode cX6_state 0 = .ok (.iload_n 1, 1) := by decide +kernel
theorem dX6_state_1 : decode cX6_state 1 = .ok (.ifCond .lt 9, 3) := by decide +kernel
theorem dX6_state_4 : decode cX6_state 4 = .ok (.iload_n 1, 1) := by decide +kernel
theorem dX6_state_5 : decode cX6_state 5 = .ok (.bipush 10, 2) := by decide +kernel
theorem dX6_state_7 : decode cX6_state 7 = .ok (.if_icmp .lt 13, 3) := by decide +kernel
theorem dX6_state_10 : decode cX6_state 10 = .ok (.new 65, 3) := by decide +kernel
theorem dX6_state_13 : decode cX6_state 13 = .ok (.dup, 1) := by decide +kernel
theorem dX6_state_14 : decode cX6_state 14 = .ok (.ldc 90, 2) := by decide +kernel
theorem dX6_state_16 : decode cX6_state 16 = .ok (.invokespecial 69, 3) := by decide +kernel
theorem dX6_state_19 : decode cX6_state 19 = .ok (.athrow, 1) := by decide +kernel
theorem dX6_state_20 : decode cX6_state 20 = .ok (.iload_n 1, 1) := by decide +kernel
theorem dX6_state_21 : decode cX6_state 21 = .ok (.bipush 8, 2) := by decide +kernel
theorem dX6_state_23 : decode cX6_state 23 = .ok (.if_icmp .ne 10, 3) := by decide +kernel
theorem dX6_state_26 : decode cX6_state 26 = .ok (.aload_n 0, 1) := by decide +kernel
theorem dX6_state_27 : decode cX6_state 27 = .ok (.getfield 50, 3) := by decide +kernel
theorem dX6_state_30 : decode cX6_state 30 = .ok (.goto 16, 3) := by decide +kernel
theorem dX6_state_33 : decode cX6_state 33 = .ok (.aload_n 0, 1) := by decide +kernel
theorem dX6_state_34 : decode cX6_state 34 = .ok (.getfield 22, 3) := by decide +kernel
theorem dX6_state_37 : decode cX6_state 37 = .ok (.aload_n 0, 1) := by decide +kernel
theorem dX6_state_38 : decode cX6_state 38 = .ok (.getfield 47, 3) := by decide +kernel
theorem dX6_state_41 : decode cX6_state 41 = .ok (.aaload, 1) := by decide +kernel
theorem dX6_state_42 : decode cX6_state 42 = .ok (.iload_n 1, 1) := by decide +kernel
theorem dX6_state_43 : decode cX6_state 43 = .ok (.invokevirtual 92, 3) := by decide +kernel
theorem dX6_state_46 : decode cX6_state 46 = .ok (.ireturn, 1) := by decide +kernel
theorem dX6_version_0 : decode cX6_version 0 = .ok (.aload_n 0, 1) := by decide +kernel
theorem dX6_version_1 : decode cX6_version 1 = .ok (.iload_n 1, 1) := by decide +kernel
theorem dX6_version_2 : decode cX6_version 2 = .ok (.invokevirtual 95, 3) := by decide +kernel
theorem dX6_version_5 : decode cX6_version 5 = .ok (.pop, 1) := by decide +kernel
theorem dX6_version_6 : decode cX6_version 6 = .ok (.iload_n 2, 1) := by decide +kernel
theorem dX6_version_7 : decode cX6_version 7 = .ok (.ifCond .lt 9, 3) := by decide +kernel
theorem dX6_version_10 : decode cX6_version 10 = .ok (.iload_n 2, 1) := by decide +kernel
theorem dX6_version_11 : decode cX6_version 11 = .ok (.bipush 11, 2) := by decide +kernel
theorem dX6_version_13 : decode cX6_version 13 = .ok (.if_icmp .lt 13, 3) := by decide +kernel
theorem dX6_version_16 : decode cX6_version 16 = .ok (.new 65, 3) := by decide +kernel
theorem dX6_version_19 : decode cX6_version 19 = .ok (.dup, 1) := by decide +kernel
theorem dX6_version_20 : decode cX6_version 20 = .ok (.ldc 90, 2) := by decide +kernel
theorem dX6_version_22 : decode cX6_version 22 = .ok (.invokespecial 69, 3) := by decide +kernel
theorem dX6_version_25 : decode cX6_version 25 = .ok (.athrow, 1) := by decide +kernel
theorem dX6_version_26 : decode cX6_version 26 = .ok (.aload_n 0, 1) := by decide +kernel
theorem dX6_version_27 : decode cX6_version 27 = .ok (.getfield 22, 3) := by decide +kernel
theorem dX6_version_30 : decode cX6_version 30 = .ok (.aload_n 0, 1) := by decide +kernel
theorem dX6_version_31 : decode cX6_version 31 = .ok (.getfield 47, 3) := by decide +kernel
theorem dX6_version_34 : decode cX6_version 34 = .ok (.aaload, 1) := by decide +kernel
theorem dX6_version_35 : decode cX6_version 35 = .ok (.iload_n 1, 1) := by decide +kernel
theorem dX6_version_36 : decode cX6_version 36 = .ok (.iload_n 2, 1) := by decide +kernel
theorem dX6_version_37 : decode cX6_version 37 = .ok (.invokevirtual 99, 3) := by decide +kernel
theorem dX6_version_40 : decode cX6_version 40 = .ok (.ireturn, 1) := by decide +kernel
theorem dX6_value_0 : decode cX6_value 0 = .ok (.aload_n 0, 1) := by decide +kernel
theorem dX6_value_1 : decode cX6_value 1 = .ok (.iload_n 1, 1) := by decide +kernel
theorem dX6_value_2 : decode cX6_value 2 = .ok (.invokevirtual 95, 3) := by decide +kernel
theorem dX6_value_5 : decode cX6_value 5 = .ok (.astore 4, 2) := by decide +kernel
theorem dX6_value_7 : decode cX6_value 7 = .ok (.iload_n 2, 1) := by decide +kernel
theorem dX6_value_8 : decode cX6_value 8 = .ok (.ifCond .lt 9, 3) := by decide +kernel
theorem dX6_value_11 : decode cX6_value 11 = .ok (.iload_n 2, 1) := by decide +kernel
theorem dX6_value_12 : decode cX6_value 12 = .ok (.bipush 7, 2) := by decide +kernel
theorem dX6_value_14 : decode cX6_value 14 = .ok (.if_icmp .lt 13, 3) := by decide +kernel
theorem dX6_value_17 : decode cX6_value 17 = .ok (.new 65, 3) := by decide +kernel
theorem dX6_value_20 : decode cX6_value 20 = .ok (.dup, 1) := by decide +kernel
theorem dX6_value_21 : decode cX6_value 21 = .ok (.ldc 103, 2) := by decide +kernel
theorem dX6_value_23 : decode cX6_value 23 = .ok (.invokespecial 69, 3) := by decide +kernel
theorem dX6_value_26 : decode cX6_value 26 = .ok (.athrow, 1) := by decide +kernel
theorem dX6_value_27 : decode cX6_value 27 = .ok (.iload_n 2, 1) := by decide +kernel
theorem dX6_value_28 : decode cX6_value 28 = .ok (.ifCond .le 14, 3) := by decide +kernel
theorem dX6_value_31 : decode cX6_value 31 = .ok (.aload 4, 2) := by decide +kernel
theorem dX6_value_33 : decode cX6_value 33 = .ok (.iload_n 2, 1) := by decide +kernel
theorem dX6_value_34 : decode cX6_value 34 = .ok (.invokevirtual 105, 3) := by decide +kernel
theorem dX6_value_37 : decode cX6_value 37 = .ok (.iload_n 3, 1) := by decide +kernel
theorem dX6_value_38 : decode cX6_value 38 = .ok (.invokestatic 109, 3) := by decide +kernel
theorem dX6_value_41 : decode cX6_value 41 = .ok (.ireturn, 1) := by decide +kernel
theorem dX6_value_42 : decode cX6_value 42 = .ok (.aload 4, 2) := by decide +kernel
theorem dX6_value_44 : decode cX6_value 44 = .ok (.aload_n 0, 1) := by decide +kernel
theorem dX6_value_45 : decode cX6_value 45 = .ok (.getfield 33, 3) := by decide +kernel
theorem dX6_value_48 : decode cX6_value 48 = .ok (.invokevirtual 115, 3) := by decide +kernel
theorem dX6_value_51 : decode cX6_value 51 = .ok (.istore 5, 2) := by decide +kernel
theorem dX6_value_53 : decode cX6_value 53 = .ok (.iload_n 3, 1) := by decide +kernel
theorem dX6_value_54 : decode cX6_value 54 = .ok (.ifCond .lt 18, 3) := by decide +kernel
theorem dX6_value_57 : decode cX6_value 57 = .ok (.iload_n 3, 1) := by decide +kernel
theorem dX6_value_58 : decode cX6_value 58 = .ok (.iload 5, 2) := by decide +kernel
theorem dX6_value_60 : decode cX6_value 60 = .ok (.if_icmp .ge 12, 3) := by decide +kernel
theorem dX6_value_63 : decode cX6_value 63 = .ok (.aload_n 0, 1) := by decide +kernel
theorem dX6_value_64 : decode cX6_value 64 = .ok (.getfield 33, 3) := by decide +kernel
theorem dX6_value_67 : decode cX6_value 67 = .ok (.iload_n 3, 1) := by decide +kernel
theorem dX6_value_68 : decode cX6_value 68 = .ok (.iaload, 1) := by decide +kernel
theorem dX6_value_69 : decode cX6_value 69 = .ok (.goto 4, 3) := by decide +kernel
theorem dX6_value_72 : decode cX6_value 72 = .ok (.iconst (-1), 1) := by decide +kernel
theorem dX6_value_73 : decode cX6_value 73 = .ok (.ireturn, 1) := by decide +kernel
theorem dX6_first_0 : decode cX6_first 0 = .ok (.aload_n 0, 1) := by decide +kernel
theorem dX6_first_1 : decode cX6_first 1 = .ok (.iload_n 1, 1) := by decide +kernel
theorem dX6_first_2 : decode cX6_first 2 = .ok (.invokevirtual 95, 3) := by decide +kernel
theorem dX6_first_5 : decode cX6_first 5 = .ok (.astore_n 2, 1) := by decide +kernel
theorem dX6_first_6 : decode cX6_first 6 = .ok (.aload_n 2, 1) := by decide +kernel
theorem dX6_first_7 : decode cX6_first 7 = .ok (.aload_n 0, 1) := by decide +kernel
theorem dX6_first_8 : decode cX6_first 8 = .ok (.getfield 33, 3) := by decide +kernel
theorem dX6_first_11 : decode cX6_first 11 = .ok (.invokevirtual 115, 3) := by decide +kernel
theorem dX6_first_14 : decode cX6_first 14 = .ok (.ifCond .ne 13, 3) := by decide +kernel
theorem dX6_first_17 : decode cX6_first 17 = .ok (.new 119, 3) := by decide +kernel
theorem dX6_first_20 : decode cX6_first 20 = .ok (.dup, 1) := by decide +kernel
theorem dX6_first_21 : decode cX6_first 21 = .ok (.ldc 121, 2) := by decide +kernel
theorem dX6_first_23 : decode cX6_first 23 = .ok (.invokespecial 123, 3) := by decide +kernel
theorem dX6_first_26 : decode cX6_first 26 = .ok (.athrow, 1) := by decide +kernel
theorem dX6_first_27 : decode cX6_first 27 = .ok (.aload_n 0, 1) := by decide +kernel
theorem dX6_first_28 : decode cX6_first 28 = .ok (.getfield 33, 3) := by decide +kernel
theorem dX6_first_31 : decode cX6_first 31 = .ok (.iconst 0, 1) := by decide +kernel
theorem dX6_first_32 : decode cX6_first 32 = .ok (.iaload, 1) := by decide +kernel
theorem dX6_first_33 : decode cX6_first 33 = .ok (.ireturn, 1) := by decide +kernel
theorem dX6_find_0 : decode cX6_find 0 = .ok (.aload_n 0, 1) := by decide +kernel
theorem dX6_find_1 : decode cX6_find 1 = .ok (.iload_n 1, 1) := by decide +kernel
theorem dX6_find_2 : decode cX6_find 2 = .ok (.invokevirtual 95, 3) := by decide +kernel
theorem dX6_find_5 : decode cX6_find 5 = .ok (.aload_n 0, 1) := by decide +kernel
theorem dX6_find_6 : decode cX6_find 6 = .ok (.getfield 33, 3) := by decide +kernel
theorem dX6_find_9 : decode cX6_find 9 = .ok (.invokevirtual 115, 3) := by decide +kernel
theorem dX6_find_12 : decode cX6_find 12 = .ok (.istore_n 3, 1) := by decide +kernel
theorem dX6_find_13 : decode cX6_find 13 = .ok (.iconst 0, 1) := by decide +kernel
theorem dX6_find_14 : decode cX6_find 14 = .ok (.istore 4, 2) := by decide +kernel
theorem dX6_find_16 : decode cX6_find 16 = .ok (.iload 4, 2) := by decide +kernel
theorem dX6_find_18 : decode cX6_find 18 = .ok (.iload_n 3, 1) := by decide +kernel
theorem dX6_find_19 : decode cX6_find 19 = .ok (.if_icmp .ge 23, 3) := by decide +kernel
theorem dX6_find_22 : decode cX6_find 22 = .ok (.aload_n 0, 1) := by decide +kernel
theorem dX6_find_23 : decode cX6_find 23 = .ok (.getfield 33, 3) := by decide +kernel
theorem dX6_find_26 : decode cX6_find 26 = .ok (.iload 4, 2) := by decide +kernel
theorem dX6_find_28 : decode cX6_find 28 = .ok (.iaload, 1) := by decide +kernel
theorem dX6_find_29 : decode cX6_find 29 = .ok (.iload_n 2, 1) := by decide +kernel
theorem dX6_find_30 : decode cX6_find 30 = .ok (.if_icmp .ne 6, 3) := by decide +kernel
theorem dX6_find_33 : decode cX6_find 33 = .ok (.iload 4, 2) := by decide +kernel
theorem dX6_find_35 : decode cX6_find 35 = .ok (.ireturn, 1) := by decide +kernel
theorem dX6_find_36 : decode cX6_find 36 = .ok (.iinc 4 1, 3) := by decide +kernel
theorem dX6_find_39 : decode cX6_find 39 = .ok (.goto (-23), 3) := by decide +kernel
theorem dX6_find_42 : decode cX6_find 42 = .ok (.iconst (-1), 1) := by decide +kernel
theorem dX6_find_43 : decode cX6_find 43 = .ok (.ireturn, 1) := by decide +kernel
theorem dX6_alike_0 : decode cX6_alike 0 = .ok (.aload_n 0, 1) := by decide +kernel
theorem dX6_alike_1 : decode cX6_alike 1 = .ok (.iload_n 1, 1) := by decide +kernel
theorem dX6_alike_2 : decode cX6_alike 2 = .ok (.invokevirtual 95, 3) := by decide +kernel
theorem dX6_alike_5 : decode cX6_alike 5 = .ok (.astore_n 3, 1) := by decide +kernel
theorem dX6_alike_6 : decode cX6_alike 6 = .ok (.aload_n 0, 1) := by decide +kernel
theorem dX6_alike_7 : decode cX6_alike 7 = .ok (.iload_n 2, 1) := by decide +kernel
theorem dX6_alike_8 : decode cX6_alike 8 = .ok (.invokevirtual 95, 3) := by decide +kernel
theorem dX6_alike_11 : decode cX6_alike 11 = .ok (.astore 4, 2) := by decide +kernel
theorem dX6_alike_13 : decode cX6_alike 13 = .ok (.aload_n 0, 1) := by decide +kernel
theorem dX6_alike_14 : decode cX6_alike 14 = .ok (.aload_n 3, 1) := by decide +kernel
theorem dX6_alike_15 : decode cX6_alike 15 = .ok (.aload_n 0, 1) := by decide +kernel
theorem dX6_alike_16 : decode cX6_alike 16 = .ok (.getfield 33, 3) := by decide +kernel
theorem dX6_alike_19 : decode cX6_alike 19 = .ok (.invokevirtual 115, 3) := by decide +kernel
theorem dX6_alike_22 : decode cX6_alike 22 = .ok (.aload 4, 2) := by decide +kernel
theorem dX6_alike_24 : decode cX6_alike 24 = .ok (.aload_n 0, 1) := by decide +kernel
theorem dX6_alike_25 : decode cX6_alike 25 = .ok (.getfield 37, 3) := by decide +kernel
theorem dX6_alike_28 : decode cX6_alike 28 = .ok (.invokevirtual 115, 3) := by decide +kernel
theorem dX6_alike_31 : decode cX6_alike 31 = .ok (.invokevirtual 124, 3) := by decide +kernel
theorem dX6_alike_34 : decode cX6_alike 34 = .ok (.ireturn, 1) := by decide +kernel
theorem dX6_common_0 : decode cX6_common 0 = .ok (.aload_n 0, 1) := by decide +kernel
theorem dX6_common_1 : decode cX6_common 1 = .ok (.iload_n 1, 1) := by decide +kernel
theorem dX6_common_2 : decode cX6_common 2 = .ok (.invokevirtual 95, 3) := by decide +kernel
theorem dX6_common_5 : decode cX6_common 5 = .ok (.astore_n 3, 1) := by decide +kernel
theorem dX6_common_6 : decode cX6_common 6 = .ok (.aload_n 0, 1) := by decide +kernel
theorem dX6_common_7 : decode cX6_common 7 = .ok (.iload_n 2, 1) := by decide +kernel
theorem dX6_common_8 : decode cX6_common 8 = .ok (.invokevirtual 95, 3) := by decide +kernel
theorem dX6_common_11 : decode cX6_common 11 = .ok (.astore 4, 2) := by decide +kernel
theorem dX6_common_13 : decode cX6_common 13 = .ok (.aload_n 3, 1) := by decide +kernel
theorem dX6_common_14 : decode cX6_common 14 = .ok (.astore 5, 2) := by decide +kernel
theorem dX6_common_16 : decode cX6_common 16 = .ok (.aload 5, 2) := by decide +kernel
theorem dX6_common_18 : decode cX6_common 18 = .ok (.ifnull 38, 3) := by decide +kernel
theorem dX6_common_21 : decode cX6_common 21 = .ok (.aload 4, 2) := by decide +kernel
theorem dX6_common_23 : decode cX6_common 23 = .ok (.aload 5, 2) := by decide +kernel
theorem dX6_common_25 : decode cX6_common 25 = .ok (.invokevirtual 128, 3) := by decide +kernel
theorem dX6_common_28 : decode cX6_common 28 = .ok (.ifCond .eq 18, 3) := by decide +kernel
theorem dX6_common_31 : decode cX6_common 31 = .ok (.aload_n 0, 1) := by decide +kernel
theorem dX6_common_32 : decode cX6_common 32 = .ok (.getfield 22, 3) := by decide +kernel
theorem dX6_common_35 : decode cX6_common 35 = .ok (.aload_n 0, 1) := by decide +kernel
theorem dX6_common_36 : decode cX6_common 36 = .ok (.getfield 47, 3) := by decide +kernel
theorem dX6_common_39 : decode cX6_common 39 = .ok (.aaload, 1) := by decide +kernel
theorem dX6_common_40 : decode cX6_common 40 = .ok (.aload 5, 2) := by decide +kernel
theorem dX6_common_42 : decode cX6_common 42 = .ok (.invokevirtual 132, 3) := by decide +kernel
theorem dX6_common_45 : decode cX6_common 45 = .ok (.ireturn, 1) := by decide +kernel
theorem dX6_common_46 : decode cX6_common 46 = .ok (.aload 5, 2) := by decide +kernel
theorem dX6_common_48 : decode cX6_common 48 = .ok (.getfield 136, 3) := by decide +kernel
theorem dX6_common_51 : decode cX6_common 51 = .ok (.astore 5, 2) := by decide +kernel
theorem dX6_common_53 : decode cX6_common 53 = .ok (.goto (-37), 3) := by decide +kernel
theorem dX6_common_56 : decode cX6_common 56 = .ok (.iconst 0, 1) := by decide +kernel
theorem dX6_common_57 : decode cX6_common 57 = .ok (.ireturn, 1) := by decide +kernel
theorem dX6_work_0 : decode cX6_work 0 = .ok (.aload_n 0, 1) := by decide +kernel
theorem dX6_work_1 : decode cX6_work 1 = .ok (.iload_n 1, 1) := by decide +kernel
theorem dX6_work_2 : decode cX6_work 2 = .ok (.invokevirtual 95, 3) := by decide +kernel
theorem dX6_work_5 : decode cX6_work 5 = .ok (.astore_n 3, 1) := by decide +kernel
theorem dX6_work_6 : decode cX6_work 6 = .ok (.iload_n 2, 1) := by decide +kernel
theorem dX6_work_7 : decode cX6_work 7 = .ok (.ifCond .lt 8, 3) := by decide +kernel
theorem dX6_work_10 : decode cX6_work 10 = .ok (.iload_n 2, 1) := by decide +kernel
theorem dX6_work_11 : decode cX6_work 11 = .ok (.iconst 4, 1) := by decide +kernel
theorem dX6_work_12 : decode cX6_work 12 = .ok (.if_icmp .lt 13, 3) := by decide +kernel
theorem dX6_work_15 : decode cX6_work 15 = .ok (.new 65, 3) := by decide +kernel
theorem dX6_work_18 : decode cX6_work 18 = .ok (.dup, 1) := by decide +kernel
theorem dX6_work_19 : decode cX6_work 19 = .ok (.ldc 90, 2) := by decide +kernel
theorem dX6_work_21 : decode cX6_work 21 = .ok (.invokespecial 69, 3) := by decide +kernel
theorem dX6_work_24 : decode cX6_work 24 = .ok (.athrow, 1) := by decide +kernel
theorem dX6_work_25 : decode cX6_work 25 = .ok (.iload_n 2, 1) := by decide +kernel
theorem dX6_work_26 : decode cX6_work 26 = .ok (.ifCond .ne 8, 3) := by decide +kernel
theorem dX6_work_29 : decode cX6_work 29 = .ok (.aload_n 3, 1) := by decide +kernel
theorem dX6_work_30 : decode cX6_work 30 = .ok (.invokevirtual 140, 3) := by decide +kernel
theorem dX6_work_33 : decode cX6_work 33 = .ok (.ireturn, 1) := by decide +kernel
theorem dX6_work_34 : decode cX6_work 34 = .ok (.iload_n 2, 1) := by decide +kernel
theorem dX6_work_35 : decode cX6_work 35 = .ok (.iconst 1, 1) := by decide +kernel
theorem dX6_work_36 : decode cX6_work 36 = .ok (.if_icmp .ne 8, 3) := by decide +kernel
theorem dX6_work_39 : decode cX6_work 39 = .ok (.aload_n 3, 1) := by decide +kernel
theorem dX6_work_40 : decode cX6_work 40 = .ok (.invokevirtual 144, 3) := by decide +kernel
theorem dX6_work_43 : decode cX6_work 43 = .ok (.ireturn, 1) := by decide +kernel
theorem dX6_work_44 : decode cX6_work 44 = .ok (.aload_n 0, 1) := by decide +kernel
theorem dX6_work_45 : decode cX6_work 45 = .ok (.getfield 29, 3) := by decide +kernel
theorem dX6_work_48 : decode cX6_work 48 = .ok (.aload_n 0, 1) := by decide +kernel
theorem dX6_work_49 : decode cX6_work 49 = .ok (.getfield 33, 3) := by decide +kernel
theorem dX6_work_52 : decode cX6_work 52 = .ok (.aload_n 3, 1) := by decide +kernel
theorem dX6_work_53 : decode cX6_work 53 = .ok (.aload_n 0, 1) := by decide +kernel
theorem dX6_work_54 : decode cX6_work 54 = .ok (.getfield 33, 3) := by decide +kernel
theorem dX6_work_57 : decode cX6_work 57 = .ok (.invokevirtual 147, 3) := by decide +kernel
theorem dX6_work_60 : decode cX6_work 60 = .ok (.invokevirtual 150, 3) := by decide +kernel
theorem dX6_work_63 : decode cX6_work 63 = .ok (.iload_n 2, 1) := by decide +kernel
theorem dX6_work_64 : decode cX6_work 64 = .ok (.iconst 2, 1) := by decide +kernel
theorem dX6_work_65 : decode cX6_work 65 = .ok (.if_icmp .ne 13, 3) := by decide +kernel
theorem dX6_work_68 : decode cX6_work 68 = .ok (.aload_n 0, 1) := by decide +kernel
theorem dX6_work_69 : decode cX6_work 69 = .ok (.getfield 29, 3) := by decide +kernel
theorem dX6_work_72 : decode cX6_work 72 = .ok (.getfield 154, 3) := by decide +kernel
theorem dX6_work_75 : decode cX6_work 75 = .ok (.goto 10, 3) := by decide +kernel
theorem dX6_work_78 : decode cX6_work 78 = .ok (.aload_n 0, 1) := by decide +kernel
theorem dX6_work_79 : decode cX6_work 79 = .ok (.getfield 29, 3) := by decide +kernel
theorem dX6_work_82 : decode cX6_work 82 = .ok (.getfield 157, 3) := by decide +kernel
theorem dX6_work_85 : decode cX6_work 85 = .ok (.ireturn, 1) := by decide +kernel
theorem dX6_idleIn_0 : decode cX6_idleIn 0 = .ok (.aload_n 0, 1) := by decide +kernel
theorem dX6_idleIn_1 : decode cX6_idleIn 1 = .ok (.iload_n 1, 1) := by decide +kernel
theorem dX6_idleIn_2 : decode cX6_idleIn 2 = .ok (.invokevirtual 95, 3) := by decide +kernel
theorem dX6_idleIn_5 : decode cX6_idleIn 5 = .ok (.astore_n 2, 1) := by decide +kernel
theorem dX6_idleIn_6 : decode cX6_idleIn 6 = .ok (.aload_n 2, 1) := by decide +kernel
theorem dX6_idleIn_7 : decode cX6_idleIn 7 = .ok (.getfield 160, 3) := by decide +kernel
theorem dX6_idleIn_10 : decode cX6_idleIn 10 = .ok (.getfield 164, 3) := by decide +kernel
theorem dX6_idleIn_13 : decode cX6_idleIn 13 = .ok (.ifCond .ne 5, 3) := by decide +kernel
theorem dX6_idleIn_16 : decode cX6_idleIn 16 = .ok (.iconst 0, 1) := by decide +kernel
theorem dX6_idleIn_17 : decode cX6_idleIn 17 = .ok (.ireturn, 1) := by decide +kernel
theorem dX6_idleIn_18 : decode cX6_idleIn 18 = .ok (.new 53, 3) := by decide +kernel
theorem dX6_idleIn_21 : decode cX6_idleIn 21 = .ok (.dup, 1) := by decide +kernel
theorem dX6_idleIn_22 : decode cX6_idleIn 22 = .ok (.aload_n 2, 1) := by decide +kernel
theorem dX6_idleIn_23 : decode cX6_idleIn 23 = .ok (.iconst (-1), 1) := by decide +kernel
theorem dX6_idleIn_24 : decode cX6_idleIn 24 = .ok (.invokespecial 55, 3) := by decide +kernel
theorem dX6_idleIn_27 : decode cX6_idleIn 27 = .ok (.astore_n 3, 1) := by decide +kernel
theorem dX6_idleIn_28 : decode cX6_idleIn 28 = .ok (.aload_n 2, 1) := by decide +kernel
theorem dX6_idleIn_29 : decode cX6_idleIn 29 = .ok (.invokevirtual 169, 3) := by decide +kernel
theorem dX6_idleIn_32 : decode cX6_idleIn 32 = .ok (.istore 4, 2) := by decide +kernel
theorem dX6_idleIn_34 : decode cX6_idleIn 34 = .ok (.iconst 1, 1) := by decide +kernel
theorem dX6_idleIn_35 : decode cX6_idleIn 35 = .ok (.istore 5, 2) := by decide +kernel
theorem dX6_idleIn_37 : decode cX6_idleIn 37 = .ok (.iload 5, 2) := by decide +kernel
theorem dX6_idleIn_39 : decode cX6_idleIn 39 = .ok (.iload 4, 2) := by decide +kernel
theorem dX6_idleIn_41 : decode cX6_idleIn 41 = .ok (.if_icmp .gt 42, 3) := by decide +kernel
theorem dX6_idleIn_44 : decode cX6_idleIn 44 = .ok (.aload_n 3, 1) := by decide +kernel
theorem dX6_idleIn_45 : decode cX6_idleIn 45 = .ok (.invokevirtual 172, 3) := by decide +kernel
theorem dX6_idleIn_48 : decode cX6_idleIn 48 = .ok (.aload_n 3, 1) := by decide +kernel
theorem dX6_idleIn_49 : decode cX6_idleIn 49 = .ok (.aload_n 0, 1) := by decide +kernel
theorem dX6_idleIn_50 : decode cX6_idleIn 50 = .ok (.getfield 22, 3) := by decide +kernel
theorem dX6_idleIn_53 : decode cX6_idleIn 53 = .ok (.aload_n 0, 1) := by decide +kernel
theorem dX6_idleIn_54 : decode cX6_idleIn 54 = .ok (.getfield 47, 3) := by decide +kernel
theorem dX6_idleIn_57 : decode cX6_idleIn 57 = .ok (.aaload, 1) := by decide +kernel
theorem dX6_idleIn_58 : decode cX6_idleIn 58 = .ok (.getfield 175, 3) := by decide +kernel
theorem dX6_idleIn_61 : decode cX6_idleIn 61 = .ok (.invokevirtual 178, 3) := by decide +kernel
theorem dX6_idleIn_64 : decode cX6_idleIn 64 = .ok (.aload_n 3, 1) := by decide +kernel
theorem dX6_idleIn_65 : decode cX6_idleIn 65 = .ok (.getfield 160, 3) := by decide +kernel
theorem dX6_idleIn_68 : decode cX6_idleIn 68 = .ok (.getfield 164, 3) := by decide +kernel
theorem dX6_idleIn_71 : decode cX6_idleIn 71 = .ok (.ifCond .ne 6, 3) := by decide +kernel
theorem dX6_idleIn_74 : decode cX6_idleIn 74 = .ok (.iload 5, 2) := by decide +kernel
theorem dX6_idleIn_76 : decode cX6_idleIn 76 = .ok (.ireturn, 1) := by decide +kernel
theorem dX6_idleIn_77 : decode cX6_idleIn 77 = .ok (.iinc 5 1, 3) := by decide +kernel
theorem dX6_idleIn_80 : decode cX6_idleIn 80 = .ok (.goto (-43), 3) := by decide +kernel
theorem dX6_idleIn_83 : decode cX6_idleIn 83 = .ok (.iconst (-1), 1) := by decide +kernel
theorem dX6_idleIn_84 : decode cX6_idleIn 84 = .ok (.ireturn, 1) := by decide +kernel
theorem dX6_gap_0 : decode cX6_gap 0 = .ok (.aload_n 0, 1) := by decide +kernel
theorem dX6_gap_1 : decode cX6_gap 1 = .ok (.getfield 22, 3) := by decide +kernel
theorem dX6_gap_4 : decode cX6_gap 4 = .ok (.aload_n 0, 1) := by decide +kernel
theorem dX6_gap_5 : decode cX6_gap 5 = .ok (.getfield 47, 3) := by decide +kernel
theorem dX6_gap_8 : decode cX6_gap 8 = .ok (.aaload, 1) := by decide +kernel
theorem dX6_gap_9 : decode cX6_gap 9 = .ok (.astore_n 1, 1) := by decide +kernel
theorem dX6_gap_10 : decode cX6_gap 10 = .ok (.iconst 0, 1) := by decide +kernel
theorem dX6_gap_11 : decode cX6_gap 11 = .ok (.istore_n 2, 1) := by decide +kernel
theorem dX6_gap_12 : decode cX6_gap 12 = .ok (.iconst 0, 1) := by decide +kernel
theorem dX6_gap_13 : decode cX6_gap 13 = .ok (.istore_n 3, 1) := by decide +kernel
theorem dX6_gap_14 : decode cX6_gap 14 = .ok (.iload_n 3, 1) := by decide +kernel
theorem dX6_gap_15 : decode cX6_gap 15 = .ok (.aload_n 1, 1) := by decide +kernel
theorem dX6_gap_16 : decode cX6_gap 16 = .ok (.getfield 87, 3) := by decide +kernel
theorem dX6_gap_19 : decode cX6_gap 19 = .ok (.if_icmp .ge 45, 3) := by decide +kernel
theorem dX6_gap_22 : decode cX6_gap 22 = .ok (.aload_n 1, 1) := by decide +kernel
theorem dX6_gap_23 : decode cX6_gap 23 = .ok (.getfield 181, 3) := by decide +kernel
theorem dX6_gap_26 : decode cX6_gap 26 = .ok (.iload_n 3, 1) := by decide +kernel
theorem dX6_gap_27 : decode cX6_gap 27 = .ok (.aaload, 1) := by decide +kernel
theorem dX6_gap_28 : decode cX6_gap 28 = .ok (.astore 4, 2) := by decide +kernel
theorem dX6_gap_30 : decode cX6_gap 30 = .ok (.aload_n 0, 1) := by decide +kernel
theorem dX6_gap_31 : decode cX6_gap 31 = .ok (.aload 4, 2) := by decide +kernel
theorem dX6_gap_33 : decode cX6_gap 33 = .ok (.aload_n 0, 1) := by decide +kernel
theorem dX6_gap_34 : decode cX6_gap 34 = .ok (.getfield 33, 3) := by decide +kernel
theorem dX6_gap_37 : decode cX6_gap 37 = .ok (.invokevirtual 115, 3) := by decide +kernel
theorem dX6_gap_40 : decode cX6_gap 40 = .ok (.aload 4, 2) := by decide +kernel
theorem dX6_gap_42 : decode cX6_gap 42 = .ok (.aload_n 0, 1) := by decide +kernel
theorem dX6_gap_43 : decode cX6_gap 43 = .ok (.getfield 37, 3) := by decide +kernel
theorem dX6_gap_46 : decode cX6_gap 46 = .ok (.invokevirtual 185, 3) := by decide +kernel
theorem dX6_gap_49 : decode cX6_gap 49 = .ok (.invokevirtual 124, 3) := by decide +kernel
theorem dX6_gap_52 : decode cX6_gap 52 = .ok (.ifCond .ne 6, 3) := by decide +kernel
theorem dX6_gap_55 : decode cX6_gap 55 = .ok (.iinc 2 1, 3) := by decide +kernel
theorem dX6_gap_58 : decode cX6_gap 58 = .ok (.iinc 3 1, 3) := by decide +kernel
theorem dX6_gap_61 : decode cX6_gap 61 = .ok (.goto (-47), 3) := by decide +kernel
theorem dX6_gap_64 : decode cX6_gap 64 = .ok (.iload_n 2, 1) := by decide +kernel
theorem dX6_gap_65 : decode cX6_gap 65 = .ok (.ireturn, 1) := by decide +kernel
theorem dX6_ranked_0 : decode cX6_ranked 0 = .ok (.aload_n 0, 1) := by decide +kernel
theorem dX6_ranked_1 : decode cX6_ranked 1 = .ok (.getfield 22, 3) := by decide +kernel
theorem dX6_ranked_4 : decode cX6_ranked 4 = .ok (.aload_n 0, 1) := by decide +kernel
theorem dX6_ranked_5 : decode cX6_ranked 5 = .ok (.getfield 47, 3) := by decide +kernel
theorem dX6_ranked_8 : decode cX6_ranked 8 = .ok (.aaload, 1) := by decide +kernel
theorem dX6_ranked_9 : decode cX6_ranked 9 = .ok (.astore_n 2, 1) := by decide +kernel
theorem dX6_ranked_10 : decode cX6_ranked 10 = .ok (.iconst 0, 1) := by decide +kernel
theorem dX6_ranked_11 : decode cX6_ranked 11 = .ok (.istore_n 3, 1) := by decide +kernel
theorem dX6_ranked_12 : decode cX6_ranked 12 = .ok (.iload_n 3, 1) := by decide +kernel
theorem dX6_ranked_13 : decode cX6_ranked 13 = .ok (.aload_n 2, 1) := by decide +kernel
theorem dX6_ranked_14 : decode cX6_ranked 14 = .ok (.getfield 87, 3) := by decide +kernel
theorem dX6_ranked_17 : decode cX6_ranked 17 = .ok (.if_icmp .ge 20, 3) := by decide +kernel
theorem dX6_ranked_20 : decode cX6_ranked 20 = .ok (.aload_n 2, 1) := by decide +kernel
theorem dX6_ranked_21 : decode cX6_ranked 21 = .ok (.iload_n 3, 1) := by decide +kernel
theorem dX6_ranked_22 : decode cX6_ranked 22 = .ok (.invokevirtual 188, 3) := by decide +kernel
theorem dX6_ranked_25 : decode cX6_ranked 25 = .ok (.iload_n 1, 1) := by decide +kernel
theorem dX6_ranked_26 : decode cX6_ranked 26 = .ok (.if_icmp .ne 5, 3) := by decide +kernel
theorem dX6_ranked_29 : decode cX6_ranked 29 = .ok (.iload_n 3, 1) := by decide +kernel
theorem dX6_ranked_30 : decode cX6_ranked 30 = .ok (.ireturn, 1) := by decide +kernel
theorem dX6_ranked_31 : decode cX6_ranked 31 = .ok (.iinc 3 1, 3) := by decide +kernel
theorem dX6_ranked_34 : decode cX6_ranked 34 = .ok (.goto (-22), 3) := by decide +kernel
theorem dX6_ranked_37 : decode cX6_ranked 37 = .ok (.new 119, 3) := by decide +kernel
theorem dX6_ranked_40 : decode cX6_ranked 40 = .ok (.dup, 1) := by decide +kernel
theorem dX6_ranked_41 : decode cX6_ranked 41 = .ok (.ldc 191, 2) := by decide +kernel
theorem dX6_ranked_43 : decode cX6_ranked 43 = .ok (.invokespecial 123, 3) := by decide +kernel
theorem dX6_ranked_46 : decode cX6_ranked 46 = .ok (.athrow, 1) := by decide +kernel
theorem dX6_meanSteps_0 : decode cX6_meanSteps 0 = .ok (.aload_n 0, 1) := by decide +kernel
theorem dX6_meanSteps_1 : decode cX6_meanSteps 1 = .ok (.getfield 22, 3) := by decide +kernel
theorem dX6_meanSteps_4 : decode cX6_meanSteps 4 = .ok (.aload_n 0, 1) := by decide +kernel
theorem dX6_meanSteps_5 : decode cX6_meanSteps 5 = .ok (.getfield 47, 3) := by decide +kernel
theorem dX6_meanSteps_8 : decode cX6_meanSteps 8 = .ok (.aaload, 1) := by decide +kernel
theorem dX6_meanSteps_9 : decode cX6_meanSteps 9 = .ok (.astore_n 1, 1) := by decide +kernel
theorem dX6_meanSteps_10 : decode cX6_meanSteps 10 = .ok (.aload_n 1, 1) := by decide +kernel
theorem dX6_meanSteps_11 : decode cX6_meanSteps 11 = .ok (.getfield 87, 3) := by decide +kernel
theorem dX6_meanSteps_14 : decode cX6_meanSteps 14 = .ok (.iconst 1, 1) := by decide +kernel
theorem dX6_meanSteps_15 : decode cX6_meanSteps 15 = .ok (.isub, 1) := by decide +kernel
theorem dX6_meanSteps_16 : decode cX6_meanSteps 16 = .ok (.istore_n 2, 1) := by decide +kernel
theorem dX6_meanSteps_17 : decode cX6_meanSteps 17 = .ok (.iload_n 2, 1) := by decide +kernel
theorem dX6_meanSteps_18 : decode cX6_meanSteps 18 = .ok (.ifCond .gt 5, 3) := by decide +kernel
theorem dX6_meanSteps_21 : decode cX6_meanSteps 21 = .ok (.fconst 0, 1) := by decide +kernel
theorem dX6_meanSteps_22 : decode cX6_meanSteps 22 = .ok (.freturn, 1) := by decide +kernel
theorem dX6_meanSteps_23 : decode cX6_meanSteps 23 = .ok (.aload_n 1, 1) := by decide +kernel
theorem dX6_meanSteps_24 : decode cX6_meanSteps 24 = .ok (.invokevirtual 193, 3) := by decide +kernel
theorem dX6_meanSteps_27 : decode cX6_meanSteps 27 = .ok (.i2f, 1) := by decide +kernel
theorem dX6_meanSteps_28 : decode cX6_meanSteps 28 = .ok (.iload_n 2, 1) := by decide +kernel
theorem dX6_meanSteps_29 : decode cX6_meanSteps 29 = .ok (.i2f, 1) := by decide +kernel
theorem dX6_meanSteps_30 : decode cX6_meanSteps 30 = .ok (.fdiv, 1) := by decide +kernel
theorem dX6_meanSteps_31 : decode cX6_meanSteps 31 = .ok (.freturn, 1) := by decide +kernel
theorem dX6_push_0 : decode cX6_push 0 = .ok (.aload_n 0, 1) := by decide +kernel
theorem dX6_push_1 : decode cX6_push 1 = .ok (.iload_n 1, 1) := by decide +kernel
theorem dX6_push_2 : decode cX6_push 2 = .ok (.invokevirtual 95, 3) := by decide +kernel
theorem dX6_push_5 : decode cX6_push 5 = .ok (.pop, 1) := by decide +kernel
theorem dX6_push_6 : decode cX6_push 6 = .ok (.iload_n 2, 1) := by decide +kernel
theorem dX6_push_7 : decode cX6_push 7 = .ok (.ifCond .lt 9, 3) := by decide +kernel
theorem dX6_push_10 : decode cX6_push 10 = .ok (.iload_n 2, 1) := by decide +kernel
theorem dX6_push_11 : decode cX6_push 11 = .ok (.bipush 99, 2) := by decide +kernel
theorem dX6_push_13 : decode cX6_push 13 = .ok (.if_icmp .le 13, 3) := by decide +kernel
theorem dX6_push_16 : decode cX6_push 16 = .ok (.new 65, 3) := by decide +kernel
theorem dX6_push_19 : decode cX6_push 19 = .ok (.dup, 1) := by decide +kernel
theorem dX6_push_20 : decode cX6_push 20 = .ok (.ldc 196, 2) := by decide +kernel
theorem dX6_push_22 : decode cX6_push 22 = .ok (.invokespecial 69, 3) := by decide +kernel
theorem dX6_push_25 : decode cX6_push 25 = .ok (.athrow, 1) := by decide +kernel
theorem dX6_push_26 : decode cX6_push 26 = .ok (.aload_n 0, 1) := by decide +kernel
theorem dX6_push_27 : decode cX6_push 27 = .ok (.invokevirtual 198, 3) := by decide +kernel
theorem dX6_push_30 : decode cX6_push 30 = .ok (.aload_n 0, 1) := by decide +kernel
theorem dX6_push_31 : decode cX6_push 31 = .ok (.invokevirtual 201, 3) := by decide +kernel
theorem dX6_push_34 : decode cX6_push 34 = .ok (.iload_n 1, 1) := by decide +kernel
theorem dX6_push_35 : decode cX6_push 35 = .ok (.iload_n 2, 1) := by decide +kernel
theorem dX6_push_36 : decode cX6_push 36 = .ok (.invokevirtual 205, 3) := by decide +kernel
theorem dX6_push_39 : decode cX6_push 39 = .ok (.istore_n 3, 1) := by decide +kernel
theorem dX6_push_40 : decode cX6_push 40 = .ok (.aload_n 0, 1) := by decide +kernel
theorem dX6_push_41 : decode cX6_push 41 = .ok (.invokevirtual 84, 3) := by decide +kernel
theorem dX6_push_44 : decode cX6_push 44 = .ok (.iload_n 3, 1) := by decide +kernel
theorem dX6_push_45 : decode cX6_push 45 = .ok (.ireturn, 1) := by decide +kernel
theorem dX6_pop_0 : decode cX6_pop 0 = .ok (.aload_n 0, 1) := by decide +kernel
theorem dX6_pop_1 : decode cX6_pop 1 = .ok (.iload_n 1, 1) := by decide +kernel
theorem dX6_pop_2 : decode cX6_pop 2 = .ok (.invokevirtual 95, 3) := by decide +kernel
theorem dX6_pop_5 : decode cX6_pop 5 = .ok (.invokevirtual 169, 3) := by decide +kernel
theorem dX6_pop_8 : decode cX6_pop 8 = .ok (.ifCond .ne 13, 3) := by decide +kernel
theorem dX6_pop_11 : decode cX6_pop 11 = .ok (.new 208, 3) := by decide +kernel
theorem dX6_pop_14 : decode cX6_pop 14 = .ok (.dup, 1) := by decide +kernel
theorem dX6_pop_15 : decode cX6_pop 15 = .ok (.ldc 121, 2) := by decide +kernel
theorem dX6_pop_17 : decode cX6_pop 17 = .ok (.invokespecial 210, 3) := by decide +kernel
theorem dX6_pop_20 : decode cX6_pop 20 = .ok (.athrow, 1) := by decide +kernel
theorem dX6_pop_21 : decode cX6_pop 21 = .ok (.aload_n 0, 1) := by decide +kernel
theorem dX6_pop_22 : decode cX6_pop 22 = .ok (.invokevirtual 198, 3) := by decide +kernel
theorem dX6_pop_25 : decode cX6_pop 25 = .ok (.aload_n 0, 1) := by decide +kernel
theorem dX6_pop_26 : decode cX6_pop 26 = .ok (.invokevirtual 201, 3) := by decide +kernel
theorem dX6_pop_29 : decode cX6_pop 29 = .ok (.iload_n 1, 1) := by decide +kernel
theorem dX6_pop_30 : decode cX6_pop 30 = .ok (.invokevirtual 211, 3) := by decide +kernel
theorem dX6_pop_33 : decode cX6_pop 33 = .ok (.istore_n 2, 1) := by decide +kernel
theorem dX6_pop_34 : decode cX6_pop 34 = .ok (.aload_n 0, 1) := by decide +kernel
theorem dX6_pop_35 : decode cX6_pop 35 = .ok (.invokevirtual 84, 3) := by decide +kernel
theorem dX6_pop_38 : decode cX6_pop 38 = .ok (.iload_n 2, 1) := by decide +kernel
theorem dX6_pop_39 : decode cX6_pop 39 = .ok (.ireturn, 1) := by decide +kernel
theorem dX6_drop_0 : decode cX6_drop 0 = .ok (.aload_n 0, 1) := by decide +kernel
theorem dX6_drop_1 : decode cX6_drop 1 = .ok (.iload_n 1, 1) := by decide +kernel
theorem dX6_drop_2 : decode cX6_drop 2 = .ok (.invokevirtual 95, 3) := by decide +kernel
theorem dX6_drop_5 : decode cX6_drop 5 = .ok (.astore_n 2, 1) := by decide +kernel
theorem dX6_drop_6 : decode cX6_drop 6 = .ok (.iload_n 1, 1) := by decide +kernel
theorem dX6_drop_7 : decode cX6_drop 7 = .ok (.ifCond .eq 19, 3) := by decide +kernel
theorem dX6_drop_10 : decode cX6_drop 10 = .ok (.aload_n 0, 1) := by decide +kernel
theorem dX6_drop_11 : decode cX6_drop 11 = .ok (.getfield 22, 3) := by decide +kernel
theorem dX6_drop_14 : decode cX6_drop 14 = .ok (.aload_n 0, 1) := by decide +kernel
theorem dX6_drop_15 : decode cX6_drop 15 = .ok (.getfield 47, 3) := by decide +kernel
theorem dX6_drop_18 : decode cX6_drop 18 = .ok (.aaload, 1) := by decide +kernel
theorem dX6_drop_19 : decode cX6_drop 19 = .ok (.aload_n 2, 1) := by decide +kernel
theorem dX6_drop_20 : decode cX6_drop 20 = .ok (.invokevirtual 214, 3) := by decide +kernel
theorem dX6_drop_23 : decode cX6_drop 23 = .ok (.ifCond .le 13, 3) := by decide +kernel
theorem dX6_drop_26 : decode cX6_drop 26 = .ok (.new 208, 3) := by decide +kernel
theorem dX6_drop_29 : decode cX6_drop 29 = .ok (.dup, 1) := by decide +kernel
theorem dX6_drop_30 : decode cX6_drop 30 = .ok (.ldc 217, 2) := by decide +kernel
theorem dX6_drop_32 : decode cX6_drop 32 = .ok (.invokespecial 210, 3) := by decide +kernel
theorem dX6_drop_35 : decode cX6_drop 35 = .ok (.athrow, 1) := by decide +kernel
theorem dX6_drop_36 : decode cX6_drop 36 = .ok (.aload_n 0, 1) := by decide +kernel
theorem dX6_drop_37 : decode cX6_drop 37 = .ok (.invokevirtual 201, 3) := by decide +kernel
theorem dX6_drop_40 : decode cX6_drop 40 = .ok (.astore_n 3, 1) := by decide +kernel
theorem dX6_drop_41 : decode cX6_drop 41 = .ok (.aload_n 3, 1) := by decide +kernel
theorem dX6_drop_42 : decode cX6_drop 42 = .ok (.iload_n 1, 1) := by decide +kernel
theorem dX6_drop_43 : decode cX6_drop 43 = .ok (.invokevirtual 219, 3) := by decide +kernel
theorem dX6_drop_46 : decode cX6_drop 46 = .ok (.aload_n 0, 1) := by decide +kernel
theorem dX6_drop_47 : decode cX6_drop 47 = .ok (.invokevirtual 84, 3) := by decide +kernel
theorem dX6_drop_50 : decode cX6_drop 50 = .ok (.aload_n 3, 1) := by decide +kernel
theorem dX6_drop_51 : decode cX6_drop 51 = .ok (.getfield 87, 3) := by decide +kernel
theorem dX6_drop_54 : decode cX6_drop 54 = .ok (.ireturn, 1) := by decide +kernel
theorem dX6_rule_0 : decode cX6_rule 0 = .ok (.iload_n 1, 1) := by decide +kernel
theorem dX6_rule_1 : decode cX6_rule 1 = .ok (.iconst 2, 1) := by decide +kernel
theorem dX6_rule_2 : decode cX6_rule 2 = .ok (.if_icmp .lt 8, 3) := by decide +kernel
theorem dX6_rule_5 : decode cX6_rule 5 = .ok (.iload_n 1, 1) := by decide +kernel
theorem dX6_rule_6 : decode cX6_rule 6 = .ok (.iconst 4, 1) := by decide +kernel
theorem dX6_rule_7 : decode cX6_rule 7 = .ok (.if_icmp .le 13, 3) := by decide +kernel
theorem dX6_rule_10 : decode cX6_rule 10 = .ok (.new 65, 3) := by decide +kernel
theorem dX6_rule_13 : decode cX6_rule 13 = .ok (.dup, 1) := by decide +kernel
theorem dX6_rule_14 : decode cX6_rule 14 = .ok (.ldc 222, 2) := by decide +kernel
theorem dX6_rule_16 : decode cX6_rule 16 = .ok (.invokespecial 69, 3) := by decide +kernel
theorem dX6_rule_19 : decode cX6_rule 19 = .ok (.athrow, 1) := by decide +kernel
theorem dX6_rule_20 : decode cX6_rule 20 = .ok (.aload_n 0, 1) := by decide +kernel
theorem dX6_rule_21 : decode cX6_rule 21 = .ok (.getfield 22, 3) := by decide +kernel
theorem dX6_rule_24 : decode cX6_rule 24 = .ok (.aload_n 0, 1) := by decide +kernel
theorem dX6_rule_25 : decode cX6_rule 25 = .ok (.getfield 47, 3) := by decide +kernel
theorem dX6_rule_28 : decode cX6_rule 28 = .ok (.aaload, 1) := by decide +kernel
theorem dX6_rule_29 : decode cX6_rule 29 = .ok (.getfield 175, 3) := by decide +kernel
theorem dX6_rule_32 : decode cX6_rule 32 = .ok (.istore_n 2, 1) := by decide +kernel
theorem dX6_rule_33 : decode cX6_rule 33 = .ok (.aload_n 0, 1) := by decide +kernel
