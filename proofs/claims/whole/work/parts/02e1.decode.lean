theorem dX0_init_0 : decode cX0_init 0 = .ok (.aload_n 0, 1) := by decide +kernel
theorem dX0_init_1 : decode cX0_init 1 = .ok (.invokespecial 3, 3) := by decide +kernel
theorem dX0_init_4 : decode cX0_init 4 = .ok (.aload_n 0, 1) := by decide +kernel
theorem dX0_init_5 : decode cX0_init 5 = .ok (.bipush 64, 2) := by decide +kernel
theorem dX0_init_7 : decode cX0_init 7 = .ok (.anewarray 9, 3) := by decide +kernel
theorem dX0_init_10 : decode cX0_init 10 = .ok (.putfield 11, 3) := by decide +kernel
theorem dX0_init_13 : decode cX0_init 13 = .ok (.aload_n 0, 1) := by decide +kernel
theorem dX0_init_14 : decode cX0_init 14 = .ok (.iconst 1, 1) := by decide +kernel
theorem dX0_init_15 : decode cX0_init 15 = .ok (.putfield 17, 3) := by decide +kernel
theorem dX0_init_18 : decode cX0_init 18 = .ok (.aload_n 0, 1) := by decide +kernel
theorem dX0_init_19 : decode cX0_init 19 = .ok (.iconst 2, 1) := by decide +kernel
theorem dX0_init_20 : decode cX0_init 20 = .ok (.putfield 21, 3) := by decide +kernel
theorem dX0_init_23 : decode cX0_init 23 = .ok (.aload_n 0, 1) := by decide +kernel
theorem dX0_init_24 : decode cX0_init 24 = .ok (.iconst 0, 1) := by decide +kernel
theorem dX0_init_25 : decode cX0_init 25 = .ok (.putfield 24, 3) := by decide +kernel
theorem dX0_init_28 : decode cX0_init 28 = .ok (.aload_n 0, 1) := by decide +kernel
theorem dX0_init_29 : decode cX0_init 29 = .ok (.getfield 11, 3) := by decide +kernel
theorem dX0_init_32 : decode cX0_init 32 = .ok (.iconst 0, 1) := by decide +kernel
theorem dX0_init_33 : decode cX0_init 33 = .ok (.aload_n 1, 1) := by decide +kernel
theorem dX0_init_34 : decode cX0_init 34 = .ok (.aastore, 1) := by decide +kernel
theorem dX0_init_35 : decode cX0_init 35 = .ok (.return_, 1) := by decide +kernel
theorem dX0_restart_0 : decode cX0_restart 0 = .ok (.aload_n 0, 1) := by decide +kernel
theorem dX0_restart_1 : decode cX0_restart 1 = .ok (.iconst 1, 1) := by decide +kernel
theorem dX0_restart_2 : decode cX0_restart 2 = .ok (.putfield 17, 3) := by decide +kernel
theorem dX0_restart_5 : decode cX0_restart 5 = .ok (.aload_n 0, 1) := by decide +kernel
theorem dX0_restart_6 : decode cX0_restart 6 = .ok (.iconst 2, 1) := by decide +kernel
theorem dX0_restart_7 : decode cX0_restart 7 = .ok (.putfield 21, 3) := by decide +kernel
theorem dX0_restart_10 : decode cX0_restart 10 = .ok (.aload_n 0, 1) := by decide +kernel
theorem dX0_restart_11 : decode cX0_restart 11 = .ok (.iconst 0, 1) := by decide +kernel
theorem dX0_restart_12 : decode cX0_restart 12 = .ok (.putfield 24, 3) := by decide +kernel
theorem dX0_restart_15 : decode cX0_restart 15 = .ok (.return_, 1) := by decide +kernel
theorem dX0_copyFrom_0 : decode cX0_copyFrom 0 = .ok (.iconst 0, 1) := by decide +kernel
theorem dX0_copyFrom_1 : decode cX0_copyFrom 1 = .ok (.istore_n 2, 1) := by decide +kernel
theorem dX0_copyFrom_2 : decode cX0_copyFrom 2 = .ok (.iload_n 2, 1) := by decide +kernel
theorem dX0_copyFrom_3 : decode cX0_copyFrom 3 = .ok (.aload_n 1, 1) := by decide +kernel
theorem dX0_copyFrom_4 : decode cX0_copyFrom 4 = .ok (.getfield 17, 3) := by decide +kernel
theorem dX0_copyFrom_7 : decode cX0_copyFrom 7 = .ok (.if_icmp .ge 21, 3) := by decide +kernel
theorem dX0_copyFrom_10 : decode cX0_copyFrom 10 = .ok (.aload_n 0, 1) := by decide +kernel
theorem dX0_copyFrom_11 : decode cX0_copyFrom 11 = .ok (.getfield 11, 3) := by decide +kernel
theorem dX0_copyFrom_14 : decode cX0_copyFrom 14 = .ok (.iload_n 2, 1) := by decide +kernel
theorem dX0_copyFrom_15 : decode cX0_copyFrom 15 = .ok (.aload_n 1, 1) := by decide +kernel
theorem dX0_copyFrom_16 : decode cX0_copyFrom 16 = .ok (.getfield 11, 3) := by decide +kernel
theorem dX0_copyFrom_19 : decode cX0_copyFrom 19 = .ok (.iload_n 2, 1) := by decide +kernel
theorem dX0_copyFrom_20 : decode cX0_copyFrom 20 = .ok (.aaload, 1) := by decide +kernel
theorem dX0_copyFrom_21 : decode cX0_copyFrom 21 = .ok (.aastore, 1) := by decide +kernel
theorem dX0_copyFrom_22 : decode cX0_copyFrom 22 = .ok (.iinc 2 1, 3) := by decide +kernel
theorem dX0_copyFrom_25 : decode cX0_copyFrom 25 = .ok (.goto (-23), 3) := by decide +kernel
theorem dX0_copyFrom_28 : decode cX0_copyFrom 28 = .ok (.aload_n 0, 1) := by decide +kernel
theorem dX0_copyFrom_29 : decode cX0_copyFrom 29 = .ok (.aload_n 1, 1) := by decide +kernel
theorem dX0_copyFrom_30 : decode cX0_copyFrom 30 = .ok (.getfield 17, 3) := by decide +kernel
theorem dX0_copyFrom_33 : decode cX0_copyFrom 33 = .ok (.putfield 17, 3) := by decide +kernel
theorem dX0_copyFrom_36 : decode cX0_copyFrom 36 = .ok (.aload_n 0, 1) := by decide +kernel
theorem dX0_copyFrom_37 : decode cX0_copyFrom 37 = .ok (.aload_n 1, 1) := by decide +kernel
theorem dX0_copyFrom_38 : decode cX0_copyFrom 38 = .ok (.getfield 21, 3) := by decide +kernel
theorem dX0_copyFrom_41 : decode cX0_copyFrom 41 = .ok (.putfield 21, 3) := by decide +kernel
theorem dX0_copyFrom_44 : decode cX0_copyFrom 44 = .ok (.aload_n 0, 1) := by decide +kernel
theorem dX0_copyFrom_45 : decode cX0_copyFrom 45 = .ok (.aload_n 1, 1) := by decide +kernel
theorem dX0_copyFrom_46 : decode cX0_copyFrom 46 = .ok (.getfield 24, 3) := by decide +kernel
theorem dX0_copyFrom_49 : decode cX0_copyFrom 49 = .ok (.putfield 24, 3) := by decide +kernel
theorem dX0_copyFrom_52 : decode cX0_copyFrom 52 = .ok (.return_, 1) := by decide +kernel
theorem dX0_makeByPush_0 : decode cX0_makeByPush 0 = .ok (.new 9, 3) := by decide +kernel
theorem dX0_makeByPush_3 : decode cX0_makeByPush 3 = .ok (.dup, 1) := by decide +kernel
theorem dX0_makeByPush_4 : decode cX0_makeByPush 4 = .ok (.aload_n 0, 1) := by decide +kernel
theorem dX0_makeByPush_5 : decode cX0_makeByPush 5 = .ok (.getfield 11, 3) := by decide +kernel
theorem dX0_makeByPush_8 : decode cX0_makeByPush 8 = .ok (.iload_n 1, 1) := by decide +kernel
theorem dX0_makeByPush_9 : decode cX0_makeByPush 9 = .ok (.aaload, 1) := by decide +kernel
theorem dX0_makeByPush_10 : decode cX0_makeByPush 10 = .ok (.iload_n 2, 1) := by decide +kernel
theorem dX0_makeByPush_11 : decode cX0_makeByPush 11 = .ok (.invokespecial 27, 3) := by decide +kernel
theorem dX0_makeByPush_14 : decode cX0_makeByPush 14 = .ok (.astore_n 3, 1) := by decide +kernel
theorem dX0_makeByPush_15 : decode cX0_makeByPush 15 = .ok (.aload_n 3, 1) := by decide +kernel
theorem dX0_makeByPush_16 : decode cX0_makeByPush 16 = .ok (.iload_n 2, 1) := by decide +kernel
theorem dX0_makeByPush_17 : decode cX0_makeByPush 17 = .ok (.invokevirtual 30, 3) := by decide +kernel
theorem dX0_makeByPush_20 : decode cX0_makeByPush 20 = .ok (.aload_n 3, 1) := by decide +kernel
theorem dX0_makeByPush_21 : decode cX0_makeByPush 21 = .ok (.aload_n 0, 1) := by decide +kernel
theorem dX0_makeByPush_22 : decode cX0_makeByPush 22 = .ok (.getfield 21, 3) := by decide +kernel
theorem dX0_makeByPush_25 : decode cX0_makeByPush 25 = .ok (.invokevirtual 34, 3) := by decide +kernel
theorem dX0_makeByPush_28 : decode cX0_makeByPush 28 = .ok (.aload_n 0, 1) := by decide +kernel
theorem dX0_makeByPush_29 : decode cX0_makeByPush 29 = .ok (.aload_n 3, 1) := by decide +kernel
theorem dX0_makeByPush_30 : decode cX0_makeByPush 30 = .ok (.invokevirtual 37, 3) := by decide +kernel
theorem dX0_makeByPush_33 : decode cX0_makeByPush 33 = .ok (.ireturn, 1) := by decide +kernel
theorem dX0_makeByPop_0 : decode cX0_makeByPop 0 = .ok (.new 9, 3) := by decide +kernel
theorem dX0_makeByPop_3 : decode cX0_makeByPop 3 = .ok (.dup, 1) := by decide +kernel
theorem dX0_makeByPop_4 : decode cX0_makeByPop 4 = .ok (.aload_n 0, 1) := by decide +kernel
theorem dX0_makeByPop_5 : decode cX0_makeByPop 5 = .ok (.getfield 11, 3) := by decide +kernel
theorem dX0_makeByPop_8 : decode cX0_makeByPop 8 = .ok (.iload_n 1, 1) := by decide +kernel
theorem dX0_makeByPop_9 : decode cX0_makeByPop 9 = .ok (.aaload, 1) := by decide +kernel
theorem dX0_makeByPop_10 : decode cX0_makeByPop 10 = .ok (.iconst (-1), 1) := by decide +kernel
theorem dX0_makeByPop_11 : decode cX0_makeByPop 11 = .ok (.invokespecial 27, 3) := by decide +kernel
theorem dX0_makeByPop_14 : decode cX0_makeByPop 14 = .ok (.astore_n 2, 1) := by decide +kernel
theorem dX0_makeByPop_15 : decode cX0_makeByPop 15 = .ok (.aload_n 2, 1) := by decide +kernel
theorem dX0_makeByPop_16 : decode cX0_makeByPop 16 = .ok (.invokevirtual 41, 3) := by decide +kernel
theorem dX0_makeByPop_19 : decode cX0_makeByPop 19 = .ok (.aload_n 2, 1) := by decide +kernel
theorem dX0_makeByPop_20 : decode cX0_makeByPop 20 = .ok (.aload_n 0, 1) := by decide +kernel
theorem dX0_makeByPop_21 : decode cX0_makeByPop 21 = .ok (.getfield 21, 3) := by decide +kernel
theorem dX0_makeByPop_24 : decode cX0_makeByPop 24 = .ok (.invokevirtual 34, 3) := by decide +kernel
theorem dX0_makeByPop_27 : decode cX0_makeByPop 27 = .ok (.aload_n 0, 1) := by decide +kernel
theorem dX0_makeByPop_28 : decode cX0_makeByPop 28 = .ok (.aload_n 2, 1) := by decide +kernel
theorem dX0_makeByPop_29 : decode cX0_makeByPop 29 = .ok (.invokevirtual 37, 3) := by decide +kernel
theorem dX0_makeByPop_32 : decode cX0_makeByPop 32 = .ok (.ireturn, 1) := by decide +kernel
theorem dX0_add_0 : decode cX0_add 0 = .ok (.aload_n 0, 1) := by decide +kernel
theorem dX0_add_1 : decode cX0_add 1 = .ok (.getfield 11, 3) := by decide +kernel
theorem dX0_add_4 : decode cX0_add 4 = .ok (.aload_n 0, 1) := by decide +kernel
theorem dX0_add_5 : decode cX0_add 5 = .ok (.getfield 17, 3) := by decide +kernel
theorem dX0_add_8 : decode cX0_add 8 = .ok (.aload_n 1, 1) := by decide +kernel
theorem dX0_add_9 : decode cX0_add 9 = .ok (.aastore, 1) := by decide +kernel
theorem dX0_add_10 : decode cX0_add 10 = .ok (.aload_n 0, 1) := by decide +kernel
theorem dX0_add_11 : decode cX0_add 11 = .ok (.dup, 1) := by decide +kernel
theorem dX0_add_12 : decode cX0_add 12 = .ok (.getfield 17, 3) := by decide +kernel
theorem dX0_add_15 : decode cX0_add 15 = .ok (.iconst 1, 1) := by decide +kernel
theorem dX0_add_16 : decode cX0_add 16 = .ok (.iadd, 1) := by decide +kernel
theorem dX0_add_17 : decode cX0_add 17 = .ok (.putfield 17, 3) := by decide +kernel
theorem dX0_add_20 : decode cX0_add 20 = .ok (.aload_n 0, 1) := by decide +kernel
theorem dX0_add_21 : decode cX0_add 21 = .ok (.getfield 17, 3) := by decide +kernel
theorem dX0_add_24 : decode cX0_add 24 = .ok (.iconst 1, 1) := by decide +kernel
theorem dX0_add_25 : decode cX0_add 25 = .ok (.isub, 1) := by decide +kernel
theorem dX0_add_26 : decode cX0_add 26 = .ok (.ireturn, 1) := by decide +kernel
theorem dX0_remove_0 : decode cX0_remove 0 = .ok (.aload_n 0, 1) := by decide +kernel
theorem dX0_remove_1 : decode cX0_remove 1 = .ok (.dup, 1) := by decide +kernel
theorem dX0_remove_2 : decode cX0_remove 2 = .ok (.getfield 17, 3) := by decide +kernel
theorem dX0_remove_5 : decode cX0_remove 5 = .ok (.iconst 1, 1) := by decide +kernel
theorem dX0_remove_6 : decode cX0_remove 6 = .ok (.isub, 1) := by decide +kernel
theorem dX0_remove_7 : decode cX0_remove 7 = .ok (.putfield 17, 3) := by decide +kernel
theorem dX0_remove_10 : decode cX0_remove 10 = .ok (.iload_n 1, 1) := by decide +kernel
theorem dX0_remove_11 : decode cX0_remove 11 = .ok (.istore_n 2, 1) := by decide +kernel
theorem dX0_remove_12 : decode cX0_remove 12 = .ok (.iload_n 2, 1) := by decide +kernel
theorem dX0_remove_13 : decode cX0_remove 13 = .ok (.aload_n 0, 1) := by decide +kernel
theorem dX0_remove_14 : decode cX0_remove 14 = .ok (.getfield 17, 3) := by decide +kernel
theorem dX0_remove_17 : decode cX0_remove 17 = .ok (.if_icmp .ge 23, 3) := by decide +kernel
theorem dX0_remove_20 : decode cX0_remove 20 = .ok (.aload_n 0, 1) := by decide +kernel
theorem dX0_remove_21 : decode cX0_remove 21 = .ok (.getfield 11, 3) := by decide +kernel
theorem dX0_remove_24 : decode cX0_remove 24 = .ok (.iload_n 2, 1) := by decide +kernel
theorem dX0_remove_25 : decode cX0_remove 25 = .ok (.aload_n 0, 1) := by decide +kernel
theorem dX0_remove_26 : decode cX0_remove 26 = .ok (.getfield 11, 3) := by decide +kernel
theorem dX0_remove_29 : decode cX0_remove 29 = .ok (.iload_n 2, 1) := by decide +kernel
theorem dX0_remove_30 : decode cX0_remove 30 = .ok (.iconst 1, 1) := by decide +kernel
theorem dX0_remove_31 : decode cX0_remove 31 = .ok (.iadd, 1) := by decide +kernel
theorem dX0_remove_32 : decode cX0_remove 32 = .ok (.aaload, 1) := by decide +kernel
theorem dX0_remove_33 : decode cX0_remove 33 = .ok (.aastore, 1) := by decide +kernel
theorem dX0_remove_34 : decode cX0_remove 34 = .ok (.iinc 2 1, 3) := by decide +kernel
theorem dX0_remove_37 : decode cX0_remove 37 = .ok (.goto (-25), 3) := by decide +kernel
theorem dX0_remove_40 : decode cX0_remove 40 = .ok (.aload_n 0, 1) := by decide +kernel
theorem dX0_remove_41 : decode cX0_remove 41 = .ok (.dup, 1) := by decide +kernel
theorem dX0_remove_42 : decode cX0_remove 42 = .ok (.getfield 24, 3) := by decide +kernel
theorem dX0_remove_45 : decode cX0_remove 45 = .ok (.iconst 1, 1) := by decide +kernel
theorem dX0_remove_46 : decode cX0_remove 46 = .ok (.iadd, 1) := by decide +kernel
theorem dX0_remove_47 : decode cX0_remove 47 = .ok (.putfield 24, 3) := by decide +kernel
theorem dX0_remove_50 : decode cX0_remove 50 = .ok (.return_, 1) := by decide +kernel
theorem dX0_indexOf_0 : decode cX0_indexOf 0 = .ok (.iconst 0, 1) := by decide +kernel
theorem dX0_indexOf_1 : decode cX0_indexOf 1 = .ok (.istore_n 2, 1) := by decide +kernel
theorem dX0_indexOf_2 : decode cX0_indexOf 2 = .ok (.iload_n 2, 1) := by decide +kernel
theorem dX0_indexOf_3 : decode cX0_indexOf 3 = .ok (.aload_n 0, 1) := by decide +kernel
theorem dX0_indexOf_4 : decode cX0_indexOf 4 = .ok (.getfield 17, 3) := by decide +kernel
theorem dX0_indexOf_7 : decode cX0_indexOf 7 = .ok (.if_icmp .ge 21, 3) := by decide +kernel
theorem dX0_indexOf_10 : decode cX0_indexOf 10 = .ok (.aload_n 0, 1) := by decide +kernel
theorem dX0_indexOf_11 : decode cX0_indexOf 11 = .ok (.getfield 11, 3) := by decide +kernel
theorem dX0_indexOf_14 : decode cX0_indexOf 14 = .ok (.iload_n 2, 1) := by decide +kernel
theorem dX0_indexOf_15 : decode cX0_indexOf 15 = .ok (.aaload, 1) := by decide +kernel
theorem dX0_indexOf_16 : decode cX0_indexOf 16 = .ok (.aload_n 1, 1) := by decide +kernel
theorem dX0_indexOf_17 : decode cX0_indexOf 17 = .ok (.if_acmp .ne 5, 3) := by decide +kernel
theorem dX0_indexOf_20 : decode cX0_indexOf 20 = .ok (.iload_n 2, 1) := by decide +kernel
theorem dX0_indexOf_21 : decode cX0_indexOf 21 = .ok (.ireturn, 1) := by decide +kernel
theorem dX0_indexOf_22 : decode cX0_indexOf 22 = .ok (.iinc 2 1, 3) := by decide +kernel
theorem dX0_indexOf_25 : decode cX0_indexOf 25 = .ok (.goto (-23), 3) := by decide +kernel
theorem dX0_indexOf_28 : decode cX0_indexOf 28 = .ok (.iconst (-1), 1) := by decide +kernel
theorem dX0_indexOf_29 : decode cX0_indexOf 29 = .ok (.ireturn, 1) := by decide +kernel
theorem dX0_childrenOf_0 : decode cX0_childrenOf 0 = .ok (.iconst 0, 1) := by decide +kernel
theorem dX0_childrenOf_1 : decode cX0_childrenOf 1 = .ok (.istore_n 2, 1) := by decide +kernel
theorem dX0_childrenOf_2 : decode cX0_childrenOf 2 = .ok (.iconst 0, 1) := by decide +kernel
theorem dX0_childrenOf_3 : decode cX0_childrenOf 3 = .ok (.istore_n 3, 1) := by decide +kernel
theorem dX0_childrenOf_4 : decode cX0_childrenOf 4 = .ok (.iload_n 3, 1) := by decide +kernel
theorem dX0_childrenOf_5 : decode cX0_childrenOf 5 = .ok (.aload_n 0, 1) := by decide +kernel
theorem dX0_childrenOf_6 : decode cX0_childrenOf 6 = .ok (.getfield 17, 3) := by decide +kernel
theorem dX0_childrenOf_9 : decode cX0_childrenOf 9 = .ok (.if_icmp .ge 25, 3) := by decide +kernel
theorem dX0_childrenOf_12 : decode cX0_childrenOf 12 = .ok (.aload_n 0, 1) := by decide +kernel
theorem dX0_childrenOf_13 : decode cX0_childrenOf 13 = .ok (.getfield 11, 3) := by decide +kernel
theorem dX0_childrenOf_16 : decode cX0_childrenOf 16 = .ok (.iload_n 3, 1) := by decide +kernel
theorem dX0_childrenOf_17 : decode cX0_childrenOf 17 = .ok (.aaload, 1) := by decide +kernel
theorem dX0_childrenOf_18 : decode cX0_childrenOf 18 = .ok (.getfield 44, 3) := by decide +kernel
theorem dX0_childrenOf_21 : decode cX0_childrenOf 21 = .ok (.aload_n 1, 1) := by decide +kernel
theorem dX0_childrenOf_22 : decode cX0_childrenOf 22 = .ok (.if_acmp .ne 6, 3) := by decide +kernel
theorem dX0_childrenOf_25 : decode cX0_childrenOf 25 = .ok (.iinc 2 1, 3) := by decide +kernel
theorem dX0_childrenOf_28 : decode cX0_childrenOf 28 = .ok (.iinc 3 1, 3) := by decide +kernel
theorem dX0_childrenOf_31 : decode cX0_childrenOf 31 = .ok (.goto (-27), 3) := by decide +kernel
theorem dX0_childrenOf_34 : decode cX0_childrenOf 34 = .ok (.iload_n 2, 1) := by decide +kernel
theorem dX0_childrenOf_35 : decode cX0_childrenOf 35 = .ok (.ireturn, 1) := by decide +kernel
theorem dX0_longerAhead_0 : decode cX0_longerAhead 0 = .ok (.aload_n 0, 1) := by decide +kernel
theorem dX0_longerAhead_1 : decode cX0_longerAhead 1 = .ok (.getfield 11, 3) := by decide +kernel
theorem dX0_longerAhead_4 : decode cX0_longerAhead 4 = .ok (.iload_n 1, 1) := by decide +kernel
theorem dX0_longerAhead_5 : decode cX0_longerAhead 5 = .ok (.aaload, 1) := by decide +kernel
theorem dX0_longerAhead_6 : decode cX0_longerAhead 6 = .ok (.invokevirtual 48, 3) := by decide +kernel
theorem dX0_longerAhead_9 : decode cX0_longerAhead 9 = .ok (.istore_n 2, 1) := by decide +kernel
theorem dX0_longerAhead_10 : decode cX0_longerAhead 10 = .ok (.iconst 0, 1) := by decide +kernel
theorem dX0_longerAhead_11 : decode cX0_longerAhead 11 = .ok (.istore_n 3, 1) := by decide +kernel
theorem dX0_longerAhead_12 : decode cX0_longerAhead 12 = .ok (.iconst 0, 1) := by decide +kernel
theorem dX0_longerAhead_13 : decode cX0_longerAhead 13 = .ok (.istore 4, 2) := by decide +kernel
theorem dX0_longerAhead_15 : decode cX0_longerAhead 15 = .ok (.iload 4, 2) := by decide +kernel
theorem dX0_longerAhead_17 : decode cX0_longerAhead 17 = .ok (.aload_n 0, 1) := by decide +kernel
theorem dX0_longerAhead_18 : decode cX0_longerAhead 18 = .ok (.getfield 17, 3) := by decide +kernel
theorem dX0_longerAhead_21 : decode cX0_longerAhead 21 = .ok (.if_icmp .ge 42, 3) := by decide +kernel
theorem dX0_longerAhead_24 : decode cX0_longerAhead 24 = .ok (.aload_n 0, 1) := by decide +kernel
theorem dX0_longerAhead_25 : decode cX0_longerAhead 25 = .ok (.getfield 11, 3) := by decide +kernel
theorem dX0_longerAhead_28 : decode cX0_longerAhead 28 = .ok (.iload 4, 2) := by decide +kernel
theorem dX0_longerAhead_30 : decode cX0_longerAhead 30 = .ok (.aaload, 1) := by decide +kernel
theorem dX0_longerAhead_31 : decode cX0_longerAhead 31 = .ok (.invokevirtual 48, 3) := by decide +kernel
theorem dX0_longerAhead_34 : decode cX0_longerAhead 34 = .ok (.istore 5, 2) := by decide +kernel
theorem dX0_longerAhead_36 : decode cX0_longerAhead 36 = .ok (.iload 5, 2) := by decide +kernel
theorem dX0_longerAhead_38 : decode cX0_longerAhead 38 = .ok (.iload_n 2, 1) := by decide +kernel
theorem dX0_longerAhead_39 : decode cX0_longerAhead 39 = .ok (.if_icmp .gt 15, 3) := by decide +kernel
theorem dX0_longerAhead_42 : decode cX0_longerAhead 42 = .ok (.iload 5, 2) := by decide +kernel
theorem dX0_longerAhead_44 : decode cX0_longerAhead 44 = .ok (.iload_n 2, 1) := by decide +kernel
theorem dX0_longerAhead_45 : decode cX0_longerAhead 45 = .ok (.if_icmp .ne 12, 3) := by decide +kernel
theorem dX0_longerAhead_48 : decode cX0_longerAhead 48 = .ok (.iload 4, 2) := by decide +kernel
theorem dX0_longerAhead_50 : decode cX0_longerAhead 50 = .ok (.iload_n 1, 1) := by decide +kernel
theorem dX0_longerAhead_51 : decode cX0_longerAhead 51 = .ok (.if_icmp .ge 6, 3) := by decide +kernel
theorem dX0_longerAhead_54 : decode cX0_longerAhead 54 = .ok (.iinc 3 1, 3) := by decide +kernel
theorem dX0_longerAhead_57 : decode cX0_longerAhead 57 = .ok (.iinc 4 1, 3) := by decide +kernel
theorem dX0_longerAhead_60 : decode cX0_longerAhead 60 = .ok (.goto (-45), 3) := by decide +kernel
theorem dX0_longerAhead_63 : decode cX0_longerAhead 63 = .ok (.iload_n 3, 1) := by decide +kernel
theorem dX0_longerAhead_64 : decode cX0_longerAhead 64 = .ok (.ireturn, 1) := by decide +kernel
theorem dX0_numberOfAll_0 : decode cX0_numberOfAll 0 = .ok (.iload_n 1, 1) := by decide +kernel
theorem dX0_numberOfAll_1 : decode cX0_numberOfAll 1 = .ok (.tableswitch 100 0 9 #[55, 60, 65, 70, 75, 80, 85, 90, 100, 95], 55) := by decide +kernel
theorem dX0_numberOfAll_56 : decode cX0_numberOfAll 56 = .ok (.aload_n 0, 1) := by decide +kernel
theorem dX0_numberOfAll_57 : decode cX0_numberOfAll 57 = .ok (.getfield 17, 3) := by decide +kernel
theorem dX0_numberOfAll_60 : decode cX0_numberOfAll 60 = .ok (.ireturn, 1) := by decide +kernel
theorem dX0_numberOfAll_61 : decode cX0_numberOfAll 61 = .ok (.aload_n 0, 1) := by decide +kernel
theorem dX0_numberOfAll_62 : decode cX0_numberOfAll 62 = .ok (.getfield 21, 3) := by decide +kernel
theorem dX0_numberOfAll_65 : decode cX0_numberOfAll 65 = .ok (.ireturn, 1) := by decide +kernel
theorem dX0_numberOfAll_66 : decode cX0_numberOfAll 66 = .ok (.aload_n 0, 1) := by decide +kernel
theorem dX0_numberOfAll_67 : decode cX0_numberOfAll 67 = .ok (.invokevirtual 52, 3) := by decide +kernel
theorem dX0_numberOfAll_70 : decode cX0_numberOfAll 70 = .ok (.ireturn, 1) := by decide +kernel
theorem dX0_numberOfAll_71 : decode cX0_numberOfAll 71 = .ok (.aload_n 0, 1) := by decide +kernel
theorem dX0_numberOfAll_72 : decode cX0_numberOfAll 72 = .ok (.invokevirtual 55, 3) := by decide +kernel
theorem dX0_numberOfAll_75 : decode cX0_numberOfAll 75 = .ok (.ireturn, 1) := by decide +kernel
theorem dX0_numberOfAll_76 : decode cX0_numberOfAll 76 = .ok (.aload_n 0, 1) := by decide +kernel
theorem dX0_numberOfAll_77 : decode cX0_numberOfAll 77 = .ok (.invokevirtual 58, 3) := by decide +kernel
theorem dX0_numberOfAll_80 : decode cX0_numberOfAll 80 = .ok (.ireturn, 1) := by decide +kernel
theorem dX0_numberOfAll_81 : decode cX0_numberOfAll 81 = .ok (.aload_n 0, 1) := by decide +kernel
theorem dX0_numberOfAll_82 : decode cX0_numberOfAll 82 = .ok (.invokevirtual 61, 3) := by decide +kernel
theorem dX0_numberOfAll_85 : decode cX0_numberOfAll 85 = .ok (.ireturn, 1) := by decide +kernel
theorem dX0_numberOfAll_86 : decode cX0_numberOfAll 86 = .ok (.aload_n 0, 1) := by decide +kernel
theorem dX0_numberOfAll_87 : decode cX0_numberOfAll 87 = .ok (.invokevirtual 64, 3) := by decide +kernel
theorem dX0_numberOfAll_90 : decode cX0_numberOfAll 90 = .ok (.ireturn, 1) := by decide +kernel
theorem dX0_numberOfAll_91 : decode cX0_numberOfAll 91 = .ok (.aload_n 0, 1) := by decide +kernel
theorem dX0_numberOfAll_92 : decode cX0_numberOfAll 92 = .ok (.invokevirtual 67, 3) := by decide +kernel
theorem dX0_numberOfAll_95 : decode cX0_numberOfAll 95 = .ok (.ireturn, 1) := by decide +kernel
theorem dX0_numberOfAll_96 : decode cX0_numberOfAll 96 = .ok (.aload_n 0, 1) := by decide +kernel
theorem dX0_numberOfAll_97 : decode cX0_numberOfAll 97 = .ok (.getfield 24, 3) := by decide +kernel
theorem dX0_numberOfAll_100 : decode cX0_numberOfAll 100 = .ok (.ireturn, 1) := by decide +kernel
theorem dX0_numberOfAll_101 : decode cX0_numberOfAll 101 = .ok (.iconst (-1), 1) := by decide +kernel
theorem dX0_numberOfAll_102 : decode cX0_numberOfAll 102 = .ok (.ireturn, 1) := by decide +kernel
theorem dX0_numberOfOne_0 : decode cX0_numberOfOne 0 = .ok (.aload_n 0, 1) := by decide +kernel
theorem dX0_numberOfOne_1 : decode cX0_numberOfOne 1 = .ok (.getfield 11, 3) := by decide +kernel
theorem dX0_numberOfOne_4 : decode cX0_numberOfOne 4 = .ok (.iload_n 1, 1) := by decide +kernel
theorem dX0_numberOfOne_5 : decode cX0_numberOfOne 5 = .ok (.aaload, 1) := by decide +kernel
theorem dX0_numberOfOne_6 : decode cX0_numberOfOne 6 = .ok (.astore_n 3, 1) := by decide +kernel
theorem dX0_numberOfOne_7 : decode cX0_numberOfOne 7 = .ok (.iload_n 2, 1) := by decide +kernel
theorem dX0_numberOfOne_8 : decode cX0_numberOfOne 8 = .ok (.tableswitch 129 0 10 #[60, 69, 74, 79, 84, 89, 94, 102, 110, 115, 121], 60) := by decide +kernel
theorem dX0_numberOfOne_68 : decode cX0_numberOfOne 68 = .ok (.aload_n 0, 1) := by decide +kernel
theorem dX0_numberOfOne_69 : decode cX0_numberOfOne 69 = .ok (.aload_n 3, 1) := by decide +kernel
theorem dX0_numberOfOne_70 : decode cX0_numberOfOne 70 = .ok (.getfield 44, 3) := by decide +kernel
theorem dX0_numberOfOne_73 : decode cX0_numberOfOne 73 = .ok (.invokevirtual 70, 3) := by decide +kernel
theorem dX0_numberOfOne_76 : decode cX0_numberOfOne 76 = .ok (.ireturn, 1) := by decide +kernel
theorem dX0_numberOfOne_77 : decode cX0_numberOfOne 77 = .ok (.aload_n 3, 1) := by decide +kernel
theorem dX0_numberOfOne_78 : decode cX0_numberOfOne 78 = .ok (.getfield 73, 3) := by decide +kernel
theorem dX0_numberOfOne_81 : decode cX0_numberOfOne 81 = .ok (.ireturn, 1) := by decide +kernel
theorem dX0_numberOfOne_82 : decode cX0_numberOfOne 82 = .ok (.aload_n 3, 1) := by decide +kernel
theorem dX0_numberOfOne_83 : decode cX0_numberOfOne 83 = .ok (.getfield 76, 3) := by decide +kernel
theorem dX0_numberOfOne_86 : decode cX0_numberOfOne 86 = .ok (.ireturn, 1) := by decide +kernel
theorem dX0_numberOfOne_87 : decode cX0_numberOfOne 87 = .ok (.aload_n 3, 1) := by decide +kernel
theorem dX0_numberOfOne_88 : decode cX0_numberOfOne 88 = .ok (.invokevirtual 48, 3) := by decide +kernel
theorem dX0_numberOfOne_91 : decode cX0_numberOfOne 91 = .ok (.ireturn, 1) := by decide +kernel
theorem dX0_numberOfOne_92 : decode cX0_numberOfOne 92 = .ok (.aload_n 3, 1) := by decide +kernel
theorem dX0_numberOfOne_93 : decode cX0_numberOfOne 93 = .ok (.getfield 79, 3) := by decide +kernel
theorem dX0_numberOfOne_96 : decode cX0_numberOfOne 96 = .ok (.ireturn, 1) := by decide +kernel
theorem dX0_numberOfOne_97 : decode cX0_numberOfOne 97 = .ok (.aload_n 3, 1) := by decide +kernel
theorem dX0_numberOfOne_98 : decode cX0_numberOfOne 98 = .ok (.getfield 82, 3) := by decide +kernel
theorem dX0_numberOfOne_101 : decode cX0_numberOfOne 101 = .ok (.ireturn, 1) := by decide +kernel
theorem dX0_numberOfOne_102 : decode cX0_numberOfOne 102 = .ok (.aload_n 3, 1) := by decide +kernel
theorem dX0_numberOfOne_103 : decode cX0_numberOfOne 103 = .ok (.getfield 85, 3) := by decide +kernel
theorem dX0_numberOfOne_106 : decode cX0_numberOfOne 106 = .ok (.getfield 89, 3) := by decide +kernel
theorem dX0_numberOfOne_109 : decode cX0_numberOfOne 109 = .ok (.ireturn, 1) := by decide +kernel
theorem dX0_numberOfOne_110 : decode cX0_numberOfOne 110 = .ok (.aload_n 3, 1) := by decide +kernel
theorem dX0_numberOfOne_111 : decode cX0_numberOfOne 111 = .ok (.getfield 85, 3) := by decide +kernel
theorem dX0_numberOfOne_114 : decode cX0_numberOfOne 114 = .ok (.getfield 94, 3) := by decide +kernel
theorem dX0_numberOfOne_117 : decode cX0_numberOfOne 117 = .ok (.ireturn, 1) := by decide +kernel
theorem dX0_numberOfOne_118 : decode cX0_numberOfOne 118 = .ok (.aload_n 3, 1) := by decide +kernel
theorem dX0_numberOfOne_119 : decode cX0_numberOfOne 119 = .ok (.getfield 97, 3) := by decide +kernel
theorem dX0_numberOfOne_122 : decode cX0_numberOfOne 122 = .ok (.ireturn, 1) := by decide +kernel
theorem dX0_numberOfOne_123 : decode cX0_numberOfOne 123 = .ok (.aload_n 0, 1) := by decide +kernel
theorem dX0_numberOfOne_124 : decode cX0_numberOfOne 124 = .ok (.aload_n 3, 1) := by decide +kernel
theorem dX0_numberOfOne_125 : decode cX0_numberOfOne 125 = .ok (.invokevirtual 100, 3) := by decide +kernel
theorem dX0_numberOfOne_128 : decode cX0_numberOfOne 128 = .ok (.ireturn, 1) := by decide +kernel
theorem dX0_numberOfOne_129 : decode cX0_numberOfOne 129 = .ok (.aload_n 3, 1) := by decide +kernel
theorem dX0_numberOfOne_130 : decode cX0_numberOfOne 130 = .ok (.getfield 103, 3) := by decide +kernel
theorem dX0_numberOfOne_133 : decode cX0_numberOfOne 133 = .ok (.invokestatic 107, 3) := by decide +kernel
theorem dX0_numberOfOne_136 : decode cX0_numberOfOne 136 = .ok (.ireturn, 1) := by decide +kernel
theorem dX0_numberOfOne_137 : decode cX0_numberOfOne 137 = .ok (.iconst (-1), 1) := by decide +kernel
theorem dX0_numberOfOne_138 : decode cX0_numberOfOne 138 = .ok (.ireturn, 1) := by decide +kernel
theorem dX0_allSteps_0 : decode cX0_allSteps 0 = .ok (.iconst 0, 1) := by decide +kernel
theorem dX0_allSteps_1 : decode cX0_allSteps 1 = .ok (.istore_n 1, 1) := by decide +kernel
theorem dX0_allSteps_2 : decode cX0_allSteps 2 = .ok (.iconst 0, 1) := by decide +kernel
theorem dX0_allSteps_3 : decode cX0_allSteps 3 = .ok (.istore_n 2, 1) := by decide +kernel
theorem dX0_allSteps_4 : decode cX0_allSteps 4 = .ok (.iload_n 2, 1) := by decide +kernel
theorem dX0_allSteps_5 : decode cX0_allSteps 5 = .ok (.aload_n 0, 1) := by decide +kernel
theorem dX0_allSteps_6 : decode cX0_allSteps 6 = .ok (.getfield 17, 3) := by decide +kernel
theorem dX0_allSteps_9 : decode cX0_allSteps 9 = .ok (.if_icmp .ge 21, 3) := by decide +kernel
theorem dX0_allSteps_12 : decode cX0_allSteps 12 = .ok (.iload_n 1, 1) := by decide +kernel
theorem dX0_allSteps_13 : decode cX0_allSteps 13 = .ok (.aload_n 0, 1) := by decide +kernel
theorem dX0_allSteps_14 : decode cX0_allSteps 14 = .ok (.getfield 11, 3) := by decide +kernel
theorem dX0_allSteps_17 : decode cX0_allSteps 17 = .ok (.iload_n 2, 1) := by decide +kernel
theorem dX0_allSteps_18 : decode cX0_allSteps 18 = .ok (.aaload, 1) := by decide +kernel
theorem dX0_allSteps_19 : decode cX0_allSteps 19 = .ok (.getfield 97, 3) := by decide +kernel
theorem dX0_allSteps_22 : decode cX0_allSteps 22 = .ok (.iadd, 1) := by decide +kernel
theorem dX0_allSteps_23 : decode cX0_allSteps 23 = .ok (.istore_n 1, 1) := by decide +kernel
theorem dX0_allSteps_24 : decode cX0_allSteps 24 = .ok (.iinc 2 1, 3) := by decide +kernel
theorem dX0_allSteps_27 : decode cX0_allSteps 27 = .ok (.goto (-23), 3) := by decide +kernel
theorem dX0_allSteps_30 : decode cX0_allSteps 30 = .ok (.iload_n 1, 1) := by decide +kernel
theorem dX0_allSteps_31 : decode cX0_allSteps 31 = .ok (.ireturn, 1) := by decide +kernel
theorem dX0_mostSteps_0 : decode cX0_mostSteps 0 = .ok (.iconst 0, 1) := by decide +kernel
theorem dX0_mostSteps_1 : decode cX0_mostSteps 1 = .ok (.istore_n 1, 1) := by decide +kernel
theorem dX0_mostSteps_2 : decode cX0_mostSteps 2 = .ok (.iconst 0, 1) := by decide +kernel
theorem dX0_mostSteps_3 : decode cX0_mostSteps 3 = .ok (.istore_n 2, 1) := by decide +kernel
theorem dX0_mostSteps_4 : decode cX0_mostSteps 4 = .ok (.iload_n 2, 1) := by decide +kernel
theorem dX0_mostSteps_5 : decode cX0_mostSteps 5 = .ok (.aload_n 0, 1) := by decide +kernel
theorem dX0_mostSteps_6 : decode cX0_mostSteps 6 = .ok (.getfield 17, 3) := by decide +kernel
theorem dX0_mostSteps_9 : decode cX0_mostSteps 9 = .ok (.if_icmp .ge 23, 3) := by decide +kernel
theorem dX0_mostSteps_12 : decode cX0_mostSteps 12 = .ok (.iload_n 1, 1) := by decide +kernel
theorem dX0_mostSteps_13 : decode cX0_mostSteps 13 = .ok (.aload_n 0, 1) := by decide +kernel
theorem dX0_mostSteps_14 : decode cX0_mostSteps 14 = .ok (.getfield 11, 3) := by decide +kernel
theorem dX0_mostSteps_17 : decode cX0_mostSteps 17 = .ok (.iload_n 2, 1) := by decide +kernel
theorem dX0_mostSteps_18 : decode cX0_mostSteps 18 = .ok (.aaload, 1) := by decide +kernel
theorem dX0_mostSteps_19 : decode cX0_mostSteps 19 = .ok (.getfield 97, 3) := by decide +kernel
theorem dX0_mostSteps_22 : decode cX0_mostSteps 22 = .ok (.invokestatic 113, 3) := by decide +kernel
theorem dX0_mostSteps_25 : decode cX0_mostSteps 25 = .ok (.istore_n 1, 1) := by decide +kernel
theorem dX0_mostSteps_26 : decode cX0_mostSteps 26 = .ok (.iinc 2 1, 3) := by decide +kernel
theorem dX0_mostSteps_29 : decode cX0_mostSteps 29 = .ok (.goto (-25), 3) := by decide +kernel
theorem dX0_mostSteps_32 : decode cX0_mostSteps 32 = .ok (.iload_n 1, 1) := by decide +kernel
theorem dX0_mostSteps_33 : decode cX0_mostSteps 33 = .ok (.ireturn, 1) := by decide +kernel
theorem dX0_withoutChildren_0 : decode cX0_withoutChildren 0 = .ok (.iconst 0, 1) := by decide +kernel
theorem dX0_withoutChildren_1 : decode cX0_withoutChildren 1 = .ok (.istore_n 1, 1) := by decide +kernel
theorem dX0_withoutChildren_2 : decode cX0_withoutChildren 2 = .ok (.iconst 0, 1) := by decide +kernel
theorem dX0_withoutChildren_3 : decode cX0_withoutChildren 3 = .ok (.istore_n 2, 1) := by decide +kernel
theorem dX0_withoutChildren_4 : decode cX0_withoutChildren 4 = .ok (.iload_n 2, 1) := by decide +kernel
theorem dX0_withoutChildren_5 : decode cX0_withoutChildren 5 = .ok (.aload_n 0, 1) := by decide +kernel
theorem dX0_withoutChildren_6 : decode cX0_withoutChildren 6 = .ok (.getfield 17, 3) := by decide +kernel
theorem dX0_withoutChildren_9 : decode cX0_withoutChildren 9 = .ok (.if_icmp .ge 25, 3) := by decide +kernel
theorem dX0_withoutChildren_12 : decode cX0_withoutChildren 12 = .ok (.aload_n 0, 1) := by decide +kernel
theorem dX0_withoutChildren_13 : decode cX0_withoutChildren 13 = .ok (.aload_n 0, 1) := by decide +kernel
theorem dX0_withoutChildren_14 : decode cX0_withoutChildren 14 = .ok (.getfield 11, 3) := by decide +kernel
theorem dX0_withoutChildren_17 : decode cX0_withoutChildren 17 = .ok (.iload_n 2, 1) := by decide +kernel
theorem dX0_withoutChildren_18 : decode cX0_withoutChildren 18 = .ok (.aaload, 1) := by decide +kernel
theorem dX0_withoutChildren_19 : decode cX0_withoutChildren 19 = .ok (.invokevirtual 100, 3) := by decide +kernel
theorem dX0_withoutChildren_22 : decode cX0_withoutChildren 22 = .ok (.ifCond .ne 6, 3) := by decide +kernel
theorem dX0_withoutChildren_25 : decode cX0_withoutChildren 25 = .ok (.iinc 1 1, 3) := by decide +kernel
theorem dX0_withoutChildren_28 : decode cX0_withoutChildren 28 = .ok (.iinc 2 1, 3) := by decide +kernel
theorem dX0_withoutChildren_31 : decode cX0_withoutChildren 31 = .ok (.goto (-27), 3) := by decide +kernel
theorem dX0_withoutChildren_34 : decode cX0_withoutChildren 34 = .ok (.iload_n 1, 1) := by decide +kernel
theorem dX0_withoutChildren_35 : decode cX0_withoutChildren 35 = .ok (.ireturn, 1) := by decide +kernel
theorem dX0_turning_0 : decode cX0_turning 0 = .ok (.iconst 0, 1) := by decide +kernel
theorem dX0_turning_1 : decode cX0_turning 1 = .ok (.istore_n 1, 1) := by decide +kernel
theorem dX0_turning_2 : decode cX0_turning 2 = .ok (.iconst 0, 1) := by decide +kernel
theorem dX0_turning_3 : decode cX0_turning 3 = .ok (.istore_n 2, 1) := by decide +kernel
theorem dX0_turning_4 : decode cX0_turning 4 = .ok (.iload_n 2, 1) := by decide +kernel
theorem dX0_turning_5 : decode cX0_turning 5 = .ok (.aload_n 0, 1) := by decide +kernel
theorem dX0_turning_6 : decode cX0_turning 6 = .ok (.getfield 17, 3) := by decide +kernel
theorem dX0_turning_9 : decode cX0_turning 9 = .ok (.if_icmp .ge 27, 3) := by decide +kernel
theorem dX0_turning_12 : decode cX0_turning 12 = .ok (.aload_n 0, 1) := by decide +kernel
theorem dX0_turning_13 : decode cX0_turning 13 = .ok (.getfield 11, 3) := by decide +kernel
theorem dX0_turning_16 : decode cX0_turning 16 = .ok (.iload_n 2, 1) := by decide +kernel
theorem dX0_turning_17 : decode cX0_turning 17 = .ok (.aaload, 1) := by decide +kernel
theorem dX0_turning_18 : decode cX0_turning 18 = .ok (.getfield 85, 3) := by decide +kernel
theorem dX0_turning_21 : decode cX0_turning 21 = .ok (.getfield 89, 3) := by decide +kernel
theorem dX0_turning_24 : decode cX0_turning 24 = .ok (.ifCond .eq 6, 3) := by decide +kernel
theorem dX0_turning_27 : decode cX0_turning 27 = .ok (.iinc 1 1, 3) := by decide +kernel
theorem dX0_turning_30 : decode cX0_turning 30 = .ok (.iinc 2 1, 3) := by decide +kernel
theorem dX0_turning_33 : decode cX0_turning 33 = .ok (.goto (-29), 3) := by decide +kernel
theorem dX0_turning_36 : decode cX0_turning 36 = .ok (.iload_n 1, 1) := by decide +kernel
theorem dX0_turning_37 : decode cX0_turning 37 = .ok (.ireturn, 1) := by decide +kernel
theorem dX0_greatestDepth_0 : decode cX0_greatestDepth 0 = .ok (.iconst 0, 1) := by decide +kernel
theorem dX0_greatestDepth_1 : decode cX0_greatestDepth 1 = .ok (.istore_n 1, 1) := by decide +kernel
theorem dX0_greatestDepth_2 : decode cX0_greatestDepth 2 = .ok (.iconst 0, 1) := by decide +kernel
theorem dX0_greatestDepth_3 : decode cX0_greatestDepth 3 = .ok (.istore_n 2, 1) := by decide +kernel
theorem dX0_greatestDepth_4 : decode cX0_greatestDepth 4 = .ok (.iload_n 2, 1) := by decide +kernel
theorem dX0_greatestDepth_5 : decode cX0_greatestDepth 5 = .ok (.aload_n 0, 1) := by decide +kernel
theorem dX0_greatestDepth_6 : decode cX0_greatestDepth 6 = .ok (.getfield 17, 3) := by decide +kernel
theorem dX0_greatestDepth_9 : decode cX0_greatestDepth 9 = .ok (.if_icmp .ge 23, 3) := by decide +kernel
theorem dX0_greatestDepth_12 : decode cX0_greatestDepth 12 = .ok (.iload_n 1, 1) := by decide +kernel
theorem dX0_greatestDepth_13 : decode cX0_greatestDepth 13 = .ok (.aload_n 0, 1) := by decide +kernel
theorem dX0_greatestDepth_14 : decode cX0_greatestDepth 14 = .ok (.getfield 11, 3) := by decide +kernel
theorem dX0_greatestDepth_17 : decode cX0_greatestDepth 17 = .ok (.iload_n 2, 1) := by decide +kernel
theorem dX0_greatestDepth_18 : decode cX0_greatestDepth 18 = .ok (.aaload, 1) := by decide +kernel
theorem dX0_greatestDepth_19 : decode cX0_greatestDepth 19 = .ok (.getfield 76, 3) := by decide +kernel
theorem dX0_greatestDepth_22 : decode cX0_greatestDepth 22 = .ok (.invokestatic 113, 3) := by decide +kernel
theorem dX0_greatestDepth_25 : decode cX0_greatestDepth 25 = .ok (.istore_n 1, 1) := by decide +kernel
theorem dX0_greatestDepth_26 : decode cX0_greatestDepth 26 = .ok (.iinc 2 1, 3) := by decide +kernel
theorem dX0_greatestDepth_29 : decode cX0_greatestDepth 29 = .ok (.goto (-25), 3) := by decide +kernel
theorem dX0_greatestDepth_32 : decode cX0_greatestDepth 32 = .ok (.iload_n 1, 1) := by decide +kernel
theorem dX0_greatestDepth_33 : decode cX0_greatestDepth 33 = .ok (.ireturn, 1) := by decide +kernel
theorem dX0_withoutValues_0 : decode cX0_withoutValues 0 = .ok (.iconst 0, 1) := by decide +kernel
theorem dX0_withoutValues_1 : decode cX0_withoutValues 1 = .ok (.istore_n 1, 1) := by decide +kernel
theorem dX0_withoutValues_2 : decode cX0_withoutValues 2 = .ok (.iconst 0, 1) := by decide +kernel
theorem dX0_withoutValues_3 : decode cX0_withoutValues 3 = .ok (.istore_n 2, 1) := by decide +kernel
theorem dX0_withoutValues_4 : decode cX0_withoutValues 4 = .ok (.iload_n 2, 1) := by decide +kernel
theorem dX0_withoutValues_5 : decode cX0_withoutValues 5 = .ok (.aload_n 0, 1) := by decide +kernel
theorem dX0_withoutValues_6 : decode cX0_withoutValues 6 = .ok (.getfield 17, 3) := by decide +kernel
theorem dX0_withoutValues_9 : decode cX0_withoutValues 9 = .ok (.if_icmp .ge 24, 3) := by decide +kernel
theorem dX0_withoutValues_12 : decode cX0_withoutValues 12 = .ok (.aload_n 0, 1) := by decide +kernel
theorem dX0_withoutValues_13 : decode cX0_withoutValues 13 = .ok (.getfield 11, 3) := by decide +kernel
theorem dX0_withoutValues_16 : decode cX0_withoutValues 16 = .ok (.iload_n 2, 1) := by decide +kernel
theorem dX0_withoutValues_17 : decode cX0_withoutValues 17 = .ok (.aaload, 1) := by decide +kernel
theorem dX0_withoutValues_18 : decode cX0_withoutValues 18 = .ok (.invokevirtual 48, 3) := by decide +kernel
theorem dX0_withoutValues_21 : decode cX0_withoutValues 21 = .ok (.ifCond .ne 6, 3) := by decide +kernel
theorem dX0_withoutValues_24 : decode cX0_withoutValues 24 = .ok (.iinc 1 1, 3) := by decide +kernel
theorem dX0_withoutValues_27 : decode cX0_withoutValues 27 = .ok (.iinc 2 1, 3) := by decide +kernel
theorem dX0_withoutValues_30 : decode cX0_withoutValues 30 = .ok (.goto (-26), 3) := by decide +kernel
theorem dX0_withoutValues_33 : decode cX0_withoutValues 33 = .ok (.iload_n 1, 1) := by decide +kernel
theorem dX0_withoutValues_34 : decode cX0_withoutValues 34 = .ok (.ireturn, 1) := by decide +kernel
theorem dX1_init_0 : decode cX1_init 0 = .ok (.aload_n 0, 1) := by decide +kernel
theorem dX1_init_1 : decode cX1_init 1 = .ok (.invokespecial 3, 3) := by decide +kernel
theorem dX1_init_4 : decode cX1_init 4 = .ok (.aload_n 0, 1) := by decide +kernel
theorem dX1_init_5 : decode cX1_init 5 = .ok (.iload_n 1, 1) := by decide +kernel
theorem dX1_init_6 : decode cX1_init 6 = .ok (.putfield 9, 3) := by decide +kernel
theorem dX1_init_9 : decode cX1_init 9 = .ok (.aload_n 0, 1) := by decide +kernel
theorem dX1_init_10 : decode cX1_init 10 = .ok (.aload_n 2, 1) := by decide +kernel
theorem dX1_init_11 : decode cX1_init 11 = .ok (.putfield 15, 3) := by decide +kernel
theorem dX1_init_14 : decode cX1_init 14 = .ok (.return_, 1) := by decide +kernel
theorem dX1_behindFirst_0 : decode cX1_behindFirst 0 = .ok (.aload_n 0, 1) := by decide +kernel
theorem dX1_behindFirst_1 : decode cX1_behindFirst 1 = .ok (.ifnonnull 7, 3) := by decide +kernel
theorem dX1_behindFirst_4 : decode cX1_behindFirst 4 = .ok (.aconst_null, 1) := by decide +kernel
theorem dX1_behindFirst_5 : decode cX1_behindFirst 5 = .ok (.goto 7, 3) := by decide +kernel
theorem dX1_behindFirst_8 : decode cX1_behindFirst 8 = .ok (.aload_n 0, 1) := by decide +kernel
theorem dX1_behindFirst_9 : decode cX1_behindFirst 9 = .ok (.getfield 15, 3) := by decide +kernel
theorem dX1_behindFirst_12 : decode cX1_behindFirst 12 = .ok (.areturn, 1) := by decide +kernel
theorem dX1_sizeOf_0 : decode cX1_sizeOf 0 = .ok (.iconst 0, 1) := by decide +kernel
theorem dX1_sizeOf_1 : decode cX1_sizeOf 1 = .ok (.istore_n 1, 1) := by decide +kernel
theorem dX1_sizeOf_2 : decode cX1_sizeOf 2 = .ok (.aload_n 0, 1) := by decide +kernel
theorem dX1_sizeOf_3 : decode cX1_sizeOf 3 = .ok (.astore_n 2, 1) := by decide +kernel
theorem dX1_sizeOf_4 : decode cX1_sizeOf 4 = .ok (.aload_n 2, 1) := by decide +kernel
theorem dX1_sizeOf_5 : decode cX1_sizeOf 5 = .ok (.ifnull 14, 3) := by decide +kernel
theorem dX1_sizeOf_8 : decode cX1_sizeOf 8 = .ok (.iinc 1 1, 3) := by decide +kernel
theorem dX1_sizeOf_11 : decode cX1_sizeOf 11 = .ok (.aload_n 2, 1) := by decide +kernel
theorem dX1_sizeOf_12 : decode cX1_sizeOf 12 = .ok (.getfield 15, 3) := by decide +kernel
theorem dX1_sizeOf_15 : decode cX1_sizeOf 15 = .ok (.astore_n 2, 1) := by decide +kernel
theorem dX1_sizeOf_16 : decode cX1_sizeOf 16 = .ok (.goto (-12), 3) := by decide +kernel
theorem dX1_sizeOf_19 : decode cX1_sizeOf 19 = .ok (.iload_n 1, 1) := by decide +kernel
theorem dX1_sizeOf_20 : decode cX1_sizeOf 20 = .ok (.ireturn, 1) := by decide +kernel
theorem dX1_valueAt_0 : decode cX1_valueAt 0 = .ok (.iconst 0, 1) := by decide +kernel
theorem dX1_valueAt_1 : decode cX1_valueAt 1 = .ok (.istore_n 2, 1) := by decide +kernel
theorem dX1_valueAt_2 : decode cX1_valueAt 2 = .ok (.aload_n 0, 1) := by decide +kernel
theorem dX1_valueAt_3 : decode cX1_valueAt 3 = .ok (.astore_n 3, 1) := by decide +kernel
theorem dX1_valueAt_4 : decode cX1_valueAt 4 = .ok (.aload_n 3, 1) := by decide +kernel
theorem dX1_valueAt_5 : decode cX1_valueAt 5 = .ok (.ifnull 24, 3) := by decide +kernel
theorem dX1_valueAt_8 : decode cX1_valueAt 8 = .ok (.iload_n 2, 1) := by decide +kernel
theorem dX1_valueAt_9 : decode cX1_valueAt 9 = .ok (.iload_n 1, 1) := by decide +kernel
theorem dX1_valueAt_10 : decode cX1_valueAt 10 = .ok (.if_icmp .ne 8, 3) := by decide +kernel
theorem dX1_valueAt_13 : decode cX1_valueAt 13 = .ok (.aload_n 3, 1) := by decide +kernel
theorem dX1_valueAt_14 : decode cX1_valueAt 14 = .ok (.getfield 9, 3) := by decide +kernel
theorem dX1_valueAt_17 : decode cX1_valueAt 17 = .ok (.ireturn, 1) := by decide +kernel
theorem dX1_valueAt_18 : decode cX1_valueAt 18 = .ok (.iinc 2 1, 3) := by decide +kernel
theorem dX1_valueAt_21 : decode cX1_valueAt 21 = .ok (.aload_n 3, 1) := by decide +kernel
theorem dX1_valueAt_22 : decode cX1_valueAt 22 = .ok (.getfield 15, 3) := by decide +kernel
theorem dX1_valueAt_25 : decode cX1_valueAt 25 = .ok (.astore_n 3, 1) := by decide +kernel
theorem dX1_valueAt_26 : decode cX1_valueAt 26 = .ok (.goto (-22), 3) := by decide +kernel
theorem dX1_valueAt_29 : decode cX1_valueAt 29 = .ok (.iconst (-1), 1) := by decide +kernel
theorem dX1_valueAt_30 : decode cX1_valueAt 30 = .ok (.ireturn, 1) := by decide +kernel
theorem dX1_writeFirst_0 : decode cX1_writeFirst 0 = .ok (.iload_n 3, 1) := by decide +kernel
theorem dX1_writeFirst_1 : decode cX1_writeFirst 1 = .ok (.istore 4, 2) := by decide +kernel
theorem dX1_writeFirst_3 : decode cX1_writeFirst 3 = .ok (.aload_n 0, 1) := by decide +kernel
theorem dX1_writeFirst_4 : decode cX1_writeFirst 4 = .ok (.astore 5, 2) := by decide +kernel
theorem dX1_writeFirst_6 : decode cX1_writeFirst 6 = .ok (.aload 5, 2) := by decide +kernel
theorem dX1_writeFirst_8 : decode cX1_writeFirst 8 = .ok (.ifnull 40, 3) := by decide +kernel
theorem dX1_writeFirst_11 : decode cX1_writeFirst 11 = .ok (.iload 4, 2) := by decide +kernel
theorem dX1_writeFirst_13 : decode cX1_writeFirst 13 = .ok (.iload_n 3, 1) := by decide +kernel
theorem dX1_writeFirst_14 : decode cX1_writeFirst 14 = .ok (.isub, 1) := by decide +kernel
theorem dX1_writeFirst_15 : decode cX1_writeFirst 15 = .ok (.iload_n 1, 1) := by decide +kernel
theorem dX1_writeFirst_16 : decode cX1_writeFirst 16 = .ok (.if_icmp .ge 22, 3) := by decide +kernel
theorem dX1_writeFirst_19 : decode cX1_writeFirst 19 = .ok (.iload 4, 2) := by decide +kernel
theorem dX1_writeFirst_21 : decode cX1_writeFirst 21 = .ok (.aload_n 2, 1) := by decide +kernel
theorem dX1_writeFirst_22 : decode cX1_writeFirst 22 = .ok (.arraylength, 1) := by decide +kernel
theorem dX1_writeFirst_23 : decode cX1_writeFirst 23 = .ok (.if_icmp .ge 15, 3) := by decide +kernel
theorem dX1_writeFirst_26 : decode cX1_writeFirst 26 = .ok (.aload_n 2, 1) := by decide +kernel
theorem dX1_writeFirst_27 : decode cX1_writeFirst 27 = .ok (.iload 4, 2) := by decide +kernel
theorem dX1_writeFirst_29 : decode cX1_writeFirst 29 = .ok (.aload 5, 2) := by decide +kernel
theorem dX1_writeFirst_31 : decode cX1_writeFirst 31 = .ok (.getfield 9, 3) := by decide +kernel
theorem dX1_writeFirst_34 : decode cX1_writeFirst 34 = .ok (.iastore, 1) := by decide +kernel
theorem dX1_writeFirst_35 : decode cX1_writeFirst 35 = .ok (.iinc 4 1, 3) := by decide +kernel
theorem dX1_writeFirst_38 : decode cX1_writeFirst 38 = .ok (.aload 5, 2) := by decide +kernel
theorem dX1_writeFirst_40 : decode cX1_writeFirst 40 = .ok (.getfield 15, 3) := by decide +kernel
theorem dX1_writeFirst_43 : decode cX1_writeFirst 43 = .ok (.astore 5, 2) := by decide +kernel
theorem dX1_writeFirst_45 : decode cX1_writeFirst 45 = .ok (.goto (-39), 3) := by decide +kernel
theorem dX1_writeFirst_48 : decode cX1_writeFirst 48 = .ok (.iload 4, 2) := by decide +kernel
theorem dX1_writeFirst_50 : decode cX1_writeFirst 50 = .ok (.ireturn, 1) := by decide +kernel
theorem dX1_writeReversed_0 : decode cX1_writeReversed 0 = .ok (.iload_n 2, 1) := by decide +kernel
theorem dX1_writeReversed_1 : decode cX1_writeReversed 1 = .ok (.aload_n 0, 1) := by decide +kernel
theorem dX1_writeReversed_2 : decode cX1_writeReversed 2 = .ok (.invokestatic 19, 3) := by decide +kernel
theorem dX1_writeReversed_5 : decode cX1_writeReversed 5 = .ok (.iadd, 1) := by decide +kernel
theorem dX1_writeReversed_6 : decode cX1_writeReversed 6 = .ok (.istore_n 3, 1) := by decide +kernel
theorem dX1_writeReversed_7 : decode cX1_writeReversed 7 = .ok (.iload_n 3, 1) := by decide +kernel
theorem dX1_writeReversed_8 : decode cX1_writeReversed 8 = .ok (.istore 4, 2) := by decide +kernel
theorem dX1_writeReversed_10 : decode cX1_writeReversed 10 = .ok (.aload_n 0, 1) := by decide +kernel
theorem dX1_writeReversed_11 : decode cX1_writeReversed 11 = .ok (.astore 5, 2) := by decide +kernel
theorem dX1_writeReversed_13 : decode cX1_writeReversed 13 = .ok (.aload 5, 2) := by decide +kernel
theorem dX1_writeReversed_15 : decode cX1_writeReversed 15 = .ok (.ifnull 37, 3) := by decide +kernel
theorem dX1_writeReversed_18 : decode cX1_writeReversed 18 = .ok (.iinc 4 (-1), 3) := by decide +kernel
theorem dX1_writeReversed_21 : decode cX1_writeReversed 21 = .ok (.iload 4, 2) := by decide +kernel
theorem dX1_writeReversed_23 : decode cX1_writeReversed 23 = .ok (.ifCond .lt 19, 3) := by decide +kernel
theorem dX1_writeReversed_26 : decode cX1_writeReversed 26 = .ok (.iload 4, 2) := by decide +kernel
theorem dX1_writeReversed_28 : decode cX1_writeReversed 28 = .ok (.aload_n 1, 1) := by decide +kernel
theorem dX1_writeReversed_29 : decode cX1_writeReversed 29 = .ok (.arraylength, 1) := by decide +kernel
theorem dX1_writeReversed_30 : decode cX1_writeReversed 30 = .ok (.if_icmp .ge 12, 3) := by decide +kernel
theorem dX1_writeReversed_33 : decode cX1_writeReversed 33 = .ok (.aload_n 1, 1) := by decide +kernel
theorem dX1_writeReversed_34 : decode cX1_writeReversed 34 = .ok (.iload 4, 2) := by decide +kernel
theorem dX1_writeReversed_36 : decode cX1_writeReversed 36 = .ok (.aload 5, 2) := by decide +kernel
theorem dX1_writeReversed_38 : decode cX1_writeReversed 38 = .ok (.getfield 9, 3) := by decide +kernel
theorem dX1_writeReversed_41 : decode cX1_writeReversed 41 = .ok (.iastore, 1) := by decide +kernel
theorem dX1_writeReversed_42 : decode cX1_writeReversed 42 = .ok (.aload 5, 2) := by decide +kernel
theorem dX1_writeReversed_44 : decode cX1_writeReversed 44 = .ok (.getfield 15, 3) := by decide +kernel
theorem dX1_writeReversed_47 : decode cX1_writeReversed 47 = .ok (.astore 5, 2) := by decide +kernel
theorem dX1_writeReversed_49 : decode cX1_writeReversed 49 = .ok (.goto (-36), 3) := by decide +kernel
theorem dX1_writeReversed_52 : decode cX1_writeReversed 52 = .ok (.iload_n 3, 1) := by decide +kernel
theorem dX1_writeReversed_53 : decode cX1_writeReversed 53 = .ok (.aload_n 1, 1) := by decide +kernel
theorem dX1_writeReversed_54 : decode cX1_writeReversed 54 = .ok (.arraylength, 1) := by decide +kernel
theorem dX1_writeReversed_55 : decode cX1_writeReversed 55 = .ok (.if_icmp .ge 7, 3) := by decide +kernel
theorem dX1_writeReversed_58 : decode cX1_writeReversed 58 = .ok (.iload_n 3, 1) := by decide +kernel
theorem dX1_writeReversed_59 : decode cX1_writeReversed 59 = .ok (.goto 5, 3) := by decide +kernel
theorem dX1_writeReversed_62 : decode cX1_writeReversed 62 = .ok (.aload_n 1, 1) := by decide +kernel
theorem dX1_writeReversed_63 : decode cX1_writeReversed 63 = .ok (.arraylength, 1) := by decide +kernel
theorem dX1_writeReversed_64 : decode cX1_writeReversed 64 = .ok (.ireturn, 1) := by decide +kernel
theorem dX2_init_0 : decode cX2_init 0 = .ok (.aload_n 0, 1) := by decide +kernel
theorem dX2_init_1 : decode cX2_init 1 = .ok (.invokespecial 3, 3) := by decide +kernel
theorem dX2_init_4 : decode cX2_init 4 = .ok (.aload_n 0, 1) := by decide +kernel
theorem dX2_init_5 : decode cX2_init 5 = .ok (.iconst 0, 1) := by decide +kernel
theorem dX2_init_6 : decode cX2_init 6 = .ok (.putfield 9, 3) := by decide +kernel
theorem dX2_init_9 : decode cX2_init 9 = .ok (.aload_n 0, 1) := by decide +kernel
theorem dX2_init_10 : decode cX2_init 10 = .ok (.iconst 0, 1) := by decide +kernel
theorem dX2_init_11 : decode cX2_init 11 = .ok (.putfield 15, 3) := by decide +kernel
theorem dX2_init_14 : decode cX2_init 14 = .ok (.aload_n 0, 1) := by decide +kernel
theorem dX2_init_15 : decode cX2_init 15 = .ok (.iconst 0, 1) := by decide +kernel
theorem dX2_init_16 : decode cX2_init 16 = .ok (.putfield 18, 3) := by decide +kernel
theorem dX2_init_19 : decode cX2_init 19 = .ok (.aload_n 0, 1) := by decide +kernel
theorem dX2_init_20 : decode cX2_init 20 = .ok (.iconst 0, 1) := by decide +kernel
theorem dX2_init_21 : decode cX2_init 21 = .ok (.putfield 21, 3) := by decide +kernel
theorem dX2_init_24 : decode cX2_init 24 = .ok (.return_, 1) := by decide +kernel
theorem dX2_go_0 : decode cX2_go 0 = .ok (.aload_n 0, 1) := by decide +kernel
theorem dX2_go_1 : decode cX2_go 1 = .ok (.iconst 0, 1) := by decide +kernel
theorem dX2_go_2 : decode cX2_go 2 = .ok (.putfield 9, 3) := by decide +kernel
theorem dX2_go_5 : decode cX2_go 5 = .ok (.aload_n 0, 1) := by decide +kernel
theorem dX2_go_6 : decode cX2_go 6 = .ok (.iconst 0, 1) := by decide +kernel
theorem dX2_go_7 : decode cX2_go 7 = .ok (.putfield 15, 3) := by decide +kernel
theorem dX2_go_10 : decode cX2_go 10 = .ok (.aload_n 0, 1) := by decide +kernel
theorem dX2_go_11 : decode cX2_go 11 = .ok (.iconst 0, 1) := by decide +kernel
theorem dX2_go_12 : decode cX2_go 12 = .ok (.putfield 18, 3) := by decide +kernel
theorem dX2_go_15 : decode cX2_go 15 = .ok (.aload_n 0, 1) := by decide +kernel
theorem dX2_go_16 : decode cX2_go 16 = .ok (.iconst 0, 1) := by decide +kernel
theorem dX2_go_17 : decode cX2_go 17 = .ok (.putfield 21, 3) := by decide +kernel
theorem dX2_go_20 : decode cX2_go 20 = .ok (.iconst 0, 1) := by decide +kernel
theorem dX2_go_21 : decode cX2_go 21 = .ok (.istore_n 3, 1) := by decide +kernel
theorem dX2_go_22 : decode cX2_go 22 = .ok (.iload_n 3, 1) := by decide +kernel
theorem dX2_go_23 : decode cX2_go 23 = .ok (.iload_n 2, 1) := by decide +kernel
theorem dX2_go_24 : decode cX2_go 24 = .ok (.if_icmp .ge 53, 3) := by decide +kernel
theorem dX2_go_27 : decode cX2_go 27 = .ok (.aload_n 1, 1) := by decide +kernel
theorem dX2_go_28 : decode cX2_go 28 = .ok (.iload_n 3, 1) := by decide +kernel
theorem dX2_go_29 : decode cX2_go 29 = .ok (.iaload, 1) := by decide +kernel
theorem dX2_go_30 : decode cX2_go 30 = .ok (.iconst (-1), 1) := by decide +kernel
theorem dX2_go_31 : decode cX2_go 31 = .ok (.if_icmp .ne 10, 3) := by decide +kernel
theorem dX2_go_34 : decode cX2_go 34 = .ok (.aload_n 0, 1) := by decide +kernel
theorem dX2_go_35 : decode cX2_go 35 = .ok (.invokevirtual 24, 3) := by decide +kernel
theorem dX2_go_38 : decode cX2_go 38 = .ok (.goto 7, 3) := by decide +kernel
theorem dX2_go_41 : decode cX2_go 41 = .ok (.aload_n 0, 1) := by decide +kernel
theorem dX2_go_42 : decode cX2_go 42 = .ok (.invokevirtual 28, 3) := by decide +kernel
theorem dX2_go_45 : decode cX2_go 45 = .ok (.istore 4, 2) := by decide +kernel
theorem dX2_go_47 : decode cX2_go 47 = .ok (.aload_n 0, 1) := by decide +kernel
theorem dX2_go_48 : decode cX2_go 48 = .ok (.dup, 1) := by decide +kernel
theorem dX2_go_49 : decode cX2_go 49 = .ok (.getfield 9, 3) := by decide +kernel
theorem dX2_go_52 : decode cX2_go 52 = .ok (.iload 4, 2) := by decide +kernel
theorem dX2_go_54 : decode cX2_go 54 = .ok (.iadd, 1) := by decide +kernel
theorem dX2_go_55 : decode cX2_go 55 = .ok (.putfield 9, 3) := by decide +kernel
theorem dX2_go_58 : decode cX2_go 58 = .ok (.aload_n 0, 1) := by decide +kernel
theorem dX2_go_59 : decode cX2_go 59 = .ok (.aload_n 0, 1) := by decide +kernel
theorem dX2_go_60 : decode cX2_go 60 = .ok (.getfield 15, 3) := by decide +kernel
theorem dX2_go_63 : decode cX2_go 63 = .ok (.iload 4, 2) := by decide +kernel
theorem dX2_go_65 : decode cX2_go 65 = .ok (.invokestatic 31, 3) := by decide +kernel
theorem dX2_go_68 : decode cX2_go 68 = .ok (.putfield 15, 3) := by decide +kernel
theorem dX2_go_71 : decode cX2_go 71 = .ok (.iinc 3 1, 3) := by decide +kernel
theorem dX2_go_74 : decode cX2_go 74 = .ok (.goto (-52), 3) := by decide +kernel
theorem dX2_go_77 : decode cX2_go 77 = .ok (.return_, 1) := by decide +kernel
theorem dX2_putLast_0 : decode cX2_putLast 0 = .ok (.aload_n 0, 1) := by decide +kernel
theorem dX2_putLast_1 : decode cX2_putLast 1 = .ok (.dup, 1) := by decide +kernel
theorem dX2_putLast_2 : decode cX2_putLast 2 = .ok (.getfield 21, 3) := by decide +kernel
theorem dX2_putLast_5 : decode cX2_putLast 5 = .ok (.iconst 1, 1) := by decide +kernel
theorem dX2_putLast_6 : decode cX2_putLast 6 = .ok (.iadd, 1) := by decide +kernel
theorem dX2_putLast_7 : decode cX2_putLast 7 = .ok (.putfield 21, 3) := by decide +kernel
theorem dX2_putLast_10 : decode cX2_putLast 10 = .ok (.iconst 1, 1) := by decide +kernel
theorem dX2_putLast_11 : decode cX2_putLast 11 = .ok (.ireturn, 1) := by decide +kernel
theorem dX2_takeFirst_0 : decode cX2_takeFirst 0 = .ok (.iconst 0, 1) := by decide +kernel
theorem dX2_takeFirst_1 : decode cX2_takeFirst 1 = .ok (.istore_n 1, 1) := by decide +kernel
theorem dX2_takeFirst_2 : decode cX2_takeFirst 2 = .ok (.aload_n 0, 1) := by decide +kernel
theorem dX2_takeFirst_3 : decode cX2_takeFirst 3 = .ok (.getfield 18, 3) := by decide +kernel
theorem dX2_takeFirst_6 : decode cX2_takeFirst 6 = .ok (.ifCond .ne 21, 3) := by decide +kernel
theorem dX2_takeFirst_9 : decode cX2_takeFirst 9 = .ok (.aload_n 0, 1) := by decide +kernel
