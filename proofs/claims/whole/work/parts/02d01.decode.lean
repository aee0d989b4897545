theorem dX1_valueAt_4 : decode cX1_valueAt 4 = .ok (.aload_n 3, 1) := by decide +kernel
theorem dX1_valueAt_5 : decode cX1_valueAt 5 = .ok (.ifnull 24, 3) := by decide +kernel
theorem dX1_valueAt_8 : decode cX1_valueAt 8 = .ok (.iload_n 2, 1) := by decide +kernel
theorem dX1_valueAt_9 : decode cX1_valueAt 9 = .ok (.iload_n 1, 1) := by decide +kernel
theorem dX1_valueAt_10 : decode cX1_valueAt 10 = .ok (.if_icmp .ne 8, 3) := by decide +kernel
theorem dX1_valueAt_13 : decode cX1_valueAt 13 = .ok (.aload_n 3, 1) := by decide +kernel
theorem dX1_valueAt_14 : decode cX1_valueAt 14 = .ok (.getfield 9, 3) := by decide +kernel
theorem dX1_valueAt_17 : decode cX1_valueAt 17 = .ok (.ireturn, 1) := by decide +kernel
theorem dX1_valueAt_18 : decode cX1_valueAt 18 = .ok (.iinc 2 1, 3) := by decide +kernel
theorem dX1_valueAt_21 : decode cX1_valueAt 21 = .ok (.aload_n 3, 1) := by decide +kernel
theorem dX1_valueAt_22 : decode cX1_valueAt 22 = .ok (.getfield 15, 3) := by decide +kernel
theorem dX1_valueAt_25 : decode cX1_valueAt 25 = .ok (.astore_n 3, 1) := by decide +kernel
theorem dX1_valueAt_26 : decode cX1_valueAt 26 = .ok (.goto (-22), 3) := by decide +kernel
theorem dX1_valueAt_29 : decode cX1_valueAt 29 = .ok (.iconst (-1), 1) := by decide +kernel
theorem dX1_valueAt_30 : decode cX1_valueAt 30 = .ok (.ireturn, 1) := by decide +kernel
theorem dX1_writeFirst_0 : decode cX1_writeFirst 0 = .ok (.iload_n 3, 1) := by decide +kernel
theorem dX1_writeFirst_1 : decode cX1_writeFirst 1 = .ok (.istore 4, 2) := by decide +kernel
theorem dX1_writeFirst_3 : decode cX1_writeFirst 3 = .ok (.aload_n 0, 1) := by decide +kernel
theorem dX1_writeFirst_4 : decode cX1_writeFirst 4 = .ok (.astore 5, 2) := by decide +kernel
theorem dX1_writeFirst_6 : decode cX1_writeFirst 6 = .ok (.aload 5, 2) := by decide +kernel
theorem dX1_writeFirst_8 : decode cX1_writeFirst 8 = .ok (.ifnull 40, 3) := by decide +kernel
theorem dX1_writeFirst_11 : decode cX1_writeFirst 11 = .ok (.iload 4, 2) := by decide +kernel
theorem dX1_writeFirst_13 : decode cX1_writeFirst 13 = .ok (.iload_n 3, 1) := by decide +kernel
theorem dX1_writeFirst_14 : decode cX1_writeFirst 14 = .ok (.isub, 1) := by decide +kernel
theorem dX1_writeFirst_15 : decode cX1_writeFirst 15 = .ok (.iload_n 1, 1) := by decide +kernel
theorem dX1_writeFirst_16 : decode cX1_writeFirst 16 = .ok (.if_icmp .ge 22, 3) := by decide +kernel
theorem dX1_writeFirst_19 : decode cX1_writeFirst 19 = .ok (.iload 4, 2) := by decide +kernel
theorem dX1_writeFirst_21 : decode cX1_writeFirst 21 = .ok (.aload_n 2, 1) := by decide +kernel
theorem dX1_writeFirst_22 : decode cX1_writeFirst 22 = .ok (.arraylength, 1) := by decide +kernel
theorem dX1_writeFirst_23 : decode cX1_writeFirst 23 = .ok (.if_icmp .ge 15, 3) := by decide +kernel
theorem dX1_writeFirst_26 : decode cX1_writeFirst 26 = .ok (.aload_n 2, 1) := by decide +kernel
theorem dX1_writeFirst_27 : decode cX1_writeFirst 27 = .ok (.iload 4, 2) := by decide +kernel
theorem dX1_writeFirst_29 : decode cX1_writeFirst 29 = .ok (.aload 5, 2) := by decide +kernel
theorem dX1_writeFirst_31 : decode cX1_writeFirst 31 = .ok (.getfield 9, 3) := by decide +kernel
theorem dX1_writeFirst_34 : decode cX1_writeFirst 34 = .ok (.iastore, 1) := by decide +kernel
theorem dX1_writeFirst_35 : decode cX1_writeFirst 35 = .ok (.iinc 4 1, 3) := by decide +kernel
theorem dX1_writeFirst_38 : decode cX1_writeFirst 38 = .ok (.aload 5, 2) := by decide +kernel
theorem dX1_writeFirst_40 : decode cX1_writeFirst 40 = .ok (.getfield 15, 3) := by decide +kernel
theorem dX1_writeFirst_43 : decode cX1_writeFirst 43 = .ok (.astore 5, 2) := by decide +kernel
theorem dX1_writeFirst_45 : decode cX1_writeFirst 45 = .ok (.goto (-39), 3) := by decide +kernel
theorem dX1_writeFirst_48 : decode cX1_writeFirst 48 = .ok (.iload 4, 2) := by decide +kernel
theorem dX1_writeFirst_50 : decode cX1_writeFirst 50 = .ok (.ireturn, 1) := by decide +kernel
theorem dX1_writeReversed_0 : decode cX1_writeReversed 0 = .ok (.iload_n 2, 1) := by decide +kernel
theorem dX1_writeReversed_1 : decode cX1_writeReversed 1 = .ok (.aload_n 0, 1) := by decide +kernel
theorem dX1_writeReversed_2 : decode cX1_writeReversed 2 = .ok (.invokestatic 19, 3) := by decide +kernel
theorem dX1_writeReversed_5 : decode cX1_writeReversed 5 = .ok (.iadd, 1) := by decide +kernel
theorem dX1_writeReversed_6 : decode cX1_writeReversed 6 = .ok (.istore_n 3, 1) := by decide +kernel
theorem dX1_writeReversed_7 : decode cX1_writeReversed 7 = .ok (.iload_n 3, 1) := by decide +kernel
theorem dX1_writeReversed_8 : decode cX1_writeReversed 8 = .ok (.istore 4, 2) := by decide +kernel
theorem dX1_writeReversed_10 : decode cX1_writeReversed 10 = .ok (.aload_n 0, 1) := by decide +kernel
theorem dX1_writeReversed_11 : decode cX1_writeReversed 11 = .ok (.astore 5, 2) := by decide +kernel
theorem dX1_writeReversed_13 : decode cX1_writeReversed 13 = .ok (.aload 5, 2) := by decide +kernel
theorem dX1_writeReversed_15 : decode cX1_writeReversed 15 = .ok (.ifnull 37, 3) := by decide +kernel
theorem dX1_writeReversed_18 : decode cX1_writeReversed 18 = .ok (.iinc 4 (-1), 3) := by decide +kernel
theorem dX1_writeReversed_21 : decode cX1_writeReversed 21 = .ok (.iload 4, 2) := by decide +kernel
theorem dX1_writeReversed_23 : decode cX1_writeReversed 23 = .ok (.ifCond .lt 19, 3) := by decide +kernel
theorem dX1_writeReversed_26 : decode cX1_writeReversed 26 = .ok (.iload 4, 2) := by decide +kernel
theorem dX1_writeReversed_28 : decode cX1_writeReversed 28 = .ok (.aload_n 1, 1) := by decide +kernel
theorem dX1_writeReversed_29 : decode cX1_writeReversed 29 = .ok (.arraylength, 1) := by decide +kernel
theorem dX1_writeReversed_30 : decode cX1_writeReversed 30 = .ok (.if_icmp .ge 12, 3) := by decide +kernel
theorem dX1_writeReversed_33 : decode cX1_writeReversed 33 = .ok (.aload_n 1, 1) := by decide +kernel
theorem dX1_writeReversed_34 : decode cX1_writeReversed 34 = .ok (.iload 4, 2) := by decide +kernel
theorem dX1_writeReversed_36 : decode cX1_writeReversed 36 = .ok (.aload 5, 2) := by decide +kernel
theorem dX1_writeReversed_38 : decode cX1_writeReversed 38 = .ok (.getfield 9, 3) := by decide +kernel
theorem dX1_writeReversed_41 : decode cX1_writeReversed 41 = .ok (.iastore, 1) := by decide +kernel
theorem dX1_writeReversed_42 : decode cX1_writeReversed 42 = .ok (.aload 5, 2) := by decide +kernel
theorem dX1_writeReversed_44 : decode cX1_writeReversed 44 = .ok (.getfield 15, 3) := by decide +kernel
theorem dX1_writeReversed_47 : decode cX1_writeReversed 47 = .ok (.astore 5, 2) := by decide +kernel
theorem dX1_writeReversed_49 : decode cX1_writeReversed 49 = .ok (.goto (-36), 3) := by decide +kernel
theorem dX1_writeReversed_52 : decode cX1_writeReversed 52 = .ok (.iload_n 3, 1) := by decide +kernel
theorem dX1_writeReversed_53 : decode cX1_writeReversed 53 = .ok (.aload_n 1, 1) := by decide +kernel
theorem dX1_writeReversed_54 : decode cX1_writeReversed 54 = .ok (.arraylength, 1) := by decide +kernel
theorem dX1_writeReversed_55 : decode cX1_writeReversed 55 = .ok (.if_icmp .ge 7, 3) := by decide +kernel
theorem dX1_writeReversed_58 : decode cX1_writeReversed 58 = .ok (.iload_n 3, 1) := by decide +kernel
theorem dX1_writeReversed_59 : decode cX1_writeReversed 59 = .ok (.goto 5, 3) := by decide +kernel
theorem dX1_writeReversed_62 : decode cX1_writeReversed 62 = .ok (.aload_n 1, 1) := by decide +kernel
theorem dX1_writeReversed_63 : decode cX1_writeReversed 63 = .ok (.arraylength, 1) := by decide +kernel
theorem dX1_writeReversed_64 : decode cX1_writeReversed 64 = .ok (.ireturn, 1) := by decide +kernel
theorem dX2_init_0 : decode cX2_init 0 = .ok (.aload_n 0, 1) := by decide +kernel
theorem dX2_init_1 : decode cX2_init 1 = .ok (.invokespecial 3, 3) := by decide +kernel
theorem dX2_init_4 : decode cX2_init 4 = .ok (.aload_n 0, 1) := by decide +kernel
theorem dX2_init_5 : decode cX2_init 5 = .ok (.iconst 0, 1) := by decide +kernel
theorem dX2_init_6 : decode cX2_init 6 = .ok (.putfield 9, 3) := by decide +kernel
theorem dX2_init_9 : decode cX2_init 9 = .ok (.aload_n 0, 1) := by decide +kernel
theorem dX2_init_10 : decode cX2_init 10 = .ok (.iconst 0, 1) := by decide +kernel
theorem dX2_init_11 : decode cX2_init 11 = .ok (.putfield 15, 3) := by decide +kernel
theorem dX2_init_14 : decode cX2_init 14 = .ok (.aload_n 0, 1) := by decide +kernel
theorem dX2_init_15 : decode cX2_init 15 = .ok (.iconst 0, 1) := by decide +kernel
theorem dX2_init_16 : decode cX2_init 16 = .ok (.putfield 18, 3) := by decide +kernel
theorem dX2_init_19 : decode cX2_init 19 = .ok (.aload_n 0, 1) := by decide +kernel
theorem dX2_init_20 : decode cX2_init 20 = .ok (.iconst 0, 1) := by decide +kernel
theorem dX2_init_21 : decode cX2_init 21 = .ok (.putfield 21, 3) := by decide +kernel
theorem dX2_init_24 : decode cX2_init 24 = .ok (.return_, 1) := by decide +kernel
theorem dX2_go_0 : decode cX2_go 0 = .ok (.aload_n 0, 1) := by decide +kernel
theorem dX2_go_1 : decode cX2_go 1 = .ok (.iconst 0, 1) := by decide +kernel
theorem dX2_go_2 : decode cX2_go 2 = .ok (.putfield 9, 3) := by decide +kernel
theorem dX2_go_5 : decode cX2_go 5 = .ok (.aload_n 0, 1) := by decide +kernel
theorem dX2_go_6 : decode cX2_go 6 = .ok (.iconst 0, 1) := by decide +kernel
theorem dX2_go_7 : decode cX2_go 7 = .ok (.putfield 15, 3) := by decide +kernel
theorem dX2_go_10 : decode cX2_go 10 = .ok (.aload_n 0, 1) := by decide +kernel
theorem dX2_go_11 : decode cX2_go 11 = .ok (.iconst 0, 1) := by decide +kernel
theorem dX2_go_12 : decode cX2_go 12 = .ok (.putfield 18, 3) := by decide +kernel
theorem dX2_go_15 : decode cX2_go 15 = .ok (.aload_n 0, 1) := by decide +kernel
theorem dX2_go_16 : decode cX2_go 16 = .ok (.iconst 0, 1) := by decide +kernel
theorem dX2_go_17 : decode cX2_go 17 = .ok (.putfield 21, 3) := by decide +kernel
theorem dX2_go_20 : decode cX2_go 20 = .ok (.iconst 0, 1) := by decide +kernel
theorem dX2_go_21 : decode cX2_go 21 = .ok (.istore_n 3, 1) := by decide +kernel
theorem dX2_go_22 : decode cX2_go 22 = .ok (.iload_n 3, 1) := by decide +kernel
theorem dX2_go_23 : decode cX2_go 23 = .ok (.iload_n 2, 1) := by decide +kernel
theorem dX2_go_24 : decode cX2_go 24 = .ok (.if_icmp .ge 53, 3) := by decide +kernel
theorem dX2_go_27 : decode cX2_go 27 = .ok (.aload_n 1, 1) := by decide +kernel
theorem dX2_go_28 : decode cX2_go 28 = .ok (.iload_n 3, 1) := by decide +kernel
theorem dX2_go_29 : decode cX2_go 29 = .ok (.iaload, 1) := by decide +kernel
theorem dX2_go_30 : decode cX2_go 30 = .ok (.iconst (-1), 1) := by decide +kernel
theorem dX2_go_31 : decode cX2_go 31 = .ok (.if_icmp .ne 10, 3) := by decide +kernel
theorem dX2_go_34 : decode cX2_go 34 = .ok (.aload_n 0, 1) := by decide +kernel
theorem dX2_go_35 : decode cX2_go 35 = .ok (.invokevirtual 24, 3) := by decide +kernel
theorem dX2_go_38 : decode cX2_go 38 = .ok (.goto 7, 3) := by decide +kernel
theorem dX2_go_41 : decode cX2_go 41 = .ok (.aload_n 0, 1) := by decide +kernel
theorem dX2_go_42 : decode cX2_go 42 = .ok (.invokevirtual 28, 3) := by decide +kernel
theorem dX2_go_45 : decode cX2_go 45 = .ok (.istore 4, 2) := by decide +kernel
theorem dX2_go_47 : decode cX2_go 47 = .ok (.aload_n 0, 1) := by decide +kernel
theorem dX2_go_48 : decode cX2_go 48 = .ok (.dup, 1) := by decide +kernel
theorem dX2_go_49 : decode cX2_go 49 = .ok (.getfield 9, 3) := by decide +kernel
theorem dX2_go_52 : decode cX2_go 52 = .ok (.iload 4, 2) := by decide +kernel
theorem dX2_go_54 : decode cX2_go 54 = .ok (.iadd, 1) := by decide +kernel
theorem dX2_go_55 : decode cX2_go 55 = .ok (.putfield 9, 3) := by decide +kernel
theorem dX2_go_58 : decode cX2_go 58 = .ok (.aload_n 0, 1) := by decide +kernel
theorem dX2_go_59 : decode cX2_go 59 = .ok (.aload_n 0, 1) := by decide +kernel
theorem dX2_go_60 : decode cX2_go 60 = .ok (.getfield 15, 3) := by decide +kernel
theorem dX2_go_63 : decode cX2_go 63 = .ok (.iload 4, 2) := by decide +kernel
theorem dX2_go_65 : decode cX2_go 65 = .ok (.invokestatic 31, 3) := by decide +kernel
theorem dX2_go_68 : decode cX2_go 68 = .ok (.putfield 15, 3) := by decide +kernel
theorem dX2_go_71 : decode cX2_go 71 = .ok (.iinc 3 1, 3) := by decide +kernel
theorem dX2_go_74 : decode cX2_go 74 = .ok (.goto (-52), 3) := by decide +kernel
theorem dX2_go_77 : decode cX2_go 77 = .ok (.return_, 1) := by decide +kernel
theorem dX2_putLast_0 : decode cX2_putLast 0 = .ok (.aload_n 0, 1) := by decide +kernel
theorem dX2_putLast_1 : decode cX2_putLast 1 = .ok (.dup, 1) := by decide +kernel
theorem dX2_putLast_2 : decode cX2_putLast 2 = .ok (.getfield 21, 3) := by decide +kernel
theorem dX2_putLast_5 : decode cX2_putLast 5 = .ok (.iconst 1, 1) := by decide +kernel
theorem dX2_putLast_6 : decode cX2_putLast 6 = .ok (.iadd, 1) := by decide +kernel
theorem dX2_putLast_7 : decode cX2_putLast 7 = .ok (.putfield 21, 3) := by decide +kernel
theorem dX2_putLast_10 : decode cX2_putLast 10 = .ok (.iconst 1, 1) := by decide +kernel
theorem dX2_putLast_11 : decode cX2_putLast 11 = .ok (.ireturn, 1) := by decide +kernel
theorem dX2_takeFirst_0 : decode cX2_takeFirst 0 = .ok (.iconst 0, 1) := by decide +kernel
theorem dX2_takeFirst_1 : decode cX2_takeFirst 1 = .ok (.istore_n 1, 1) := by decide +kernel
theorem dX2_takeFirst_2 : decode cX2_takeFirst 2 = .ok (.aload_n 0, 1) := by decide +kernel
theorem dX2_takeFirst_3 : decode cX2_takeFirst 3 = .ok (.getfield 18, 3) := by decide +kernel
theorem dX2_takeFirst_6 : decode cX2_takeFirst 6 = .ok (.ifCond .ne 21, 3) := by decide +kernel
theorem dX2_takeFirst_9 : decode cX2_takeFirst 9 = .ok (.aload_n 0, 1) := by decide +kernel
theorem dX2_takeFirst_10 : decode cX2_takeFirst 10 = .ok (.getfield 21, 3) := by decide +kernel
theorem dX2_takeFirst_13 : decode cX2_takeFirst 13 = .ok (.istore_n 1, 1) := by decide +kernel
theorem dX2_takeFirst_14 : decode cX2_takeFirst 14 = .ok (.aload_n 0, 1) := by decide +kernel
theorem dX2_takeFirst_15 : decode cX2_takeFirst 15 = .ok (.aload_n 0, 1) := by decide +kernel
theorem dX2_takeFirst_16 : decode cX2_takeFirst 16 = .ok (.getfield 21, 3) := by decide +kernel
theorem dX2_takeFirst_19 : decode cX2_takeFirst 19 = .ok (.putfield 18, 3) := by decide +kernel
theorem dX2_takeFirst_22 : decode cX2_takeFirst 22 = .ok (.aload_n 0, 1) := by decide +kernel
theorem dX2_takeFirst_23 : decode cX2_takeFirst 23 = .ok (.iconst 0, 1) := by decide +kernel
theorem dX2_takeFirst_24 : decode cX2_takeFirst 24 = .ok (.putfield 21, 3) := by decide +kernel
theorem dX2_takeFirst_27 : decode cX2_takeFirst 27 = .ok (.aload_n 0, 1) := by decide +kernel
theorem dX2_takeFirst_28 : decode cX2_takeFirst 28 = .ok (.dup, 1) := by decide +kernel
theorem dX2_takeFirst_29 : decode cX2_takeFirst 29 = .ok (.getfield 18, 3) := by decide +kernel
theorem dX2_takeFirst_32 : decode cX2_takeFirst 32 = .ok (.iconst 1, 1) := by decide +kernel
theorem dX2_takeFirst_33 : decode cX2_takeFirst 33 = .ok (.isub, 1) := by decide +kernel
theorem dX2_takeFirst_34 : decode cX2_takeFirst 34 = .ok (.putfield 18, 3) := by decide +kernel
theorem dX2_takeFirst_37 : decode cX2_takeFirst 37 = .ok (.iload_n 1, 1) := by decide +kernel
theorem dX2_takeFirst_38 : decode cX2_takeFirst 38 = .ok (.iconst 1, 1) := by decide +kernel
theorem dX2_takeFirst_39 : decode cX2_takeFirst 39 = .ok (.iadd, 1) := by decide +kernel
theorem dX2_takeFirst_40 : decode cX2_takeFirst 40 = .ok (.ireturn, 1) := by decide +kernel
theorem dX3_init_0 : decode cX3_init 0 = .ok (.aload_n 0, 1) := by decide +kernel
theorem dX3_init_1 : decode cX3_init 1 = .ok (.invokespecial 3, 3) := by decide +kernel
theorem dX3_init_4 : decode cX3_init 4 = .ok (.aload_n 0, 1) := by decide +kernel
theorem dX3_init_5 : decode cX3_init 5 = .ok (.iconst (-1), 1) := by decide +kernel
theorem dX3_init_6 : decode cX3_init 6 = .ok (.putfield 9, 3) := by decide +kernel
theorem dX3_init_9 : decode cX3_init 9 = .ok (.aload_n 0, 1) := by decide +kernel
theorem dX3_init_10 : decode cX3_init 10 = .ok (.aconst_null, 1) := by decide +kernel
theorem dX3_init_11 : decode cX3_init 11 = .ok (.putfield 15, 3) := by decide +kernel
theorem dX3_init_14 : decode cX3_init 14 = .ok (.aload_n 0, 1) := by decide +kernel
theorem dX3_init_15 : decode cX3_init 15 = .ok (.iconst 0, 1) := by decide +kernel
theorem dX3_init_16 : decode cX3_init 16 = .ok (.putfield 19, 3) := by decide +kernel
theorem dX3_init_19 : decode cX3_init 19 = .ok (.aload_n 0, 1) := by decide +kernel
theorem dX3_init_20 : decode cX3_init 20 = .ok (.aconst_null, 1) := by decide +kernel
theorem dX3_init_21 : decode cX3_init 21 = .ok (.putfield 22, 3) := by decide +kernel
theorem dX3_init_24 : decode cX3_init 24 = .ok (.aload_n 0, 1) := by decide +kernel
theorem dX3_init_25 : decode cX3_init 25 = .ok (.iconst 0, 1) := by decide +kernel
theorem dX3_init_26 : decode cX3_init 26 = .ok (.putfield 26, 3) := by decide +kernel
theorem dX3_init_29 : decode cX3_init 29 = .ok (.aload_n 0, 1) := by decide +kernel
theorem dX3_init_30 : decode cX3_init 30 = .ok (.iconst 0, 1) := by decide +kernel
theorem dX3_init_31 : decode cX3_init 31 = .ok (.putfield 29, 3) := by decide +kernel
theorem dX3_init_34 : decode cX3_init 34 = .ok (.aload_n 0, 1) := by decide +kernel
theorem dX3_init_35 : decode cX3_init 35 = .ok (.iconst 0, 1) := by decide +kernel
theorem dX3_init_36 : decode cX3_init 36 = .ok (.putfield 32, 3) := by decide +kernel
theorem dX3_init_39 : decode cX3_init 39 = .ok (.aload_n 0, 1) := by decide +kernel
theorem dX3_init_40 : decode cX3_init 40 = .ok (.iconst 0, 1) := by decide +kernel
theorem dX3_init_41 : decode cX3_init 41 = .ok (.putfield 35, 3) := by decide +kernel
theorem dX3_init_44 : decode cX3_init 44 = .ok (.aload_n 0, 1) := by decide +kernel
theorem dX3_init_45 : decode cX3_init 45 = .ok (.iconst 0, 1) := by decide +kernel
theorem dX3_init_46 : decode cX3_init 46 = .ok (.putfield 38, 3) := by decide +kernel
theorem dX3_init_49 : decode cX3_init 49 = .ok (.aload_n 0, 1) := by decide +kernel
theorem dX3_init_50 : decode cX3_init 50 = .ok (.iconst 1, 1) := by decide +kernel
theorem dX3_init_51 : decode cX3_init 51 = .ok (.putfield 41, 3) := by decide +kernel
theorem dX3_init_54 : decode cX3_init 54 = .ok (.return_, 1) := by decide +kernel
theorem dX3_read_0 : decode cX3_read 0 = .ok (.aload_n 0, 1) := by decide +kernel
theorem dX3_read_1 : decode cX3_read 1 = .ok (.aload_n 1, 1) := by decide +kernel
theorem dX3_read_2 : decode cX3_read 2 = .ok (.putfield 15, 3) := by decide +kernel
theorem dX3_read_5 : decode cX3_read 5 = .ok (.aload_n 0, 1) := by decide +kernel
theorem dX3_read_6 : decode cX3_read 6 = .ok (.iload_n 2, 1) := by decide +kernel
theorem dX3_read_7 : decode cX3_read 7 = .ok (.aload_n 1, 1) := by decide +kernel
theorem dX3_read_8 : decode cX3_read 8 = .ok (.arraylength, 1) := by decide +kernel
theorem dX3_read_9 : decode cX3_read 9 = .ok (.invokestatic 45, 3) := by decide +kernel
theorem dX3_read_12 : decode cX3_read 12 = .ok (.putfield 19, 3) := by decide +kernel
theorem dX3_read_15 : decode cX3_read 15 = .ok (.aload_n 0, 1) := by decide +kernel
theorem dX3_read_16 : decode cX3_read 16 = .ok (.aload_n 3, 1) := by decide +kernel
theorem dX3_read_17 : decode cX3_read 17 = .ok (.putfield 22, 3) := by decide +kernel
theorem dX3_read_20 : decode cX3_read 20 = .ok (.aload_n 0, 1) := by decide +kernel
theorem dX3_read_21 : decode cX3_read 21 = .ok (.iconst 0, 1) := by decide +kernel
theorem dX3_read_22 : decode cX3_read 22 = .ok (.putfield 26, 3) := by decide +kernel
theorem dX3_read_25 : decode cX3_read 25 = .ok (.aload_n 0, 1) := by decide +kernel
theorem dX3_read_26 : decode cX3_read 26 = .ok (.iconst (-1), 1) := by decide +kernel
theorem dX3_read_27 : decode cX3_read 27 = .ok (.putfield 9, 3) := by decide +kernel
theorem dX3_read_30 : decode cX3_read 30 = .ok (.aload_n 0, 1) := by decide +kernel
theorem dX3_read_31 : decode cX3_read 31 = .ok (.iconst 0, 1) := by decide +kernel
theorem dX3_read_32 : decode cX3_read 32 = .ok (.putfield 29, 3) := by decide +kernel
theorem dX3_read_35 : decode cX3_read 35 = .ok (.aload_n 0, 1) := by decide +kernel
theorem dX3_read_36 : decode cX3_read 36 = .ok (.iconst 1, 1) := by decide +kernel
theorem dX3_read_37 : decode cX3_read 37 = .ok (.putfield 41, 3) := by decide +kernel
theorem dX3_read_40 : decode cX3_read 40 = .ok (.aload_n 0, 1) := by decide +kernel
theorem dX3_read_41 : decode cX3_read 41 = .ok (.invokevirtual 51, 3) := by decide +kernel
theorem dX3_read_44 : decode cX3_read 44 = .ok (.aload_n 0, 1) := by decide +kernel
theorem dX3_read_45 : decode cX3_read 45 = .ok (.iconst 4, 1) := by decide +kernel
theorem dX3_read_46 : decode cX3_read 46 = .ok (.invokevirtual 54, 3) := by decide +kernel
theorem dX3_read_49 : decode cX3_read 49 = .ok (.ifCond .eq 15, 3) := by decide +kernel
theorem dX3_read_52 : decode cX3_read 52 = .ok (.aload_n 0, 1) := by decide +kernel
theorem dX3_read_53 : decode cX3_read 53 = .ok (.iconst 3, 1) := by decide +kernel
theorem dX3_read_54 : decode cX3_read 54 = .ok (.invokevirtual 54, 3) := by decide +kernel
theorem dX3_read_57 : decode cX3_read 57 = .ok (.ifCond .eq 7, 3) := by decide +kernel
theorem dX3_read_60 : decode cX3_read 60 = .ok (.iconst 1, 1) := by decide +kernel
theorem dX3_read_61 : decode cX3_read 61 = .ok (.goto 4, 3) := by decide +kernel
theorem dX3_read_64 : decode cX3_read 64 = .ok (.iconst 0, 1) := by decide +kernel
theorem dX3_read_65 : decode cX3_read 65 = .ok (.istore 4, 2) := by decide +kernel
theorem dX3_read_67 : decode cX3_read 67 = .ok (.iconst 0, 1) := by decide +kernel
theorem dX3_read_68 : decode cX3_read 68 = .ok (.istore 5, 2) := by decide +kernel
theorem dX3_read_70 : decode cX3_read 70 = .ok (.iload 5, 2) := by decide +kernel
theorem dX3_read_72 : decode cX3_read 72 = .ok (.aload_n 0, 1) := by decide +kernel
theorem dX3_read_73 : decode cX3_read 73 = .ok (.getfield 19, 3) := by decide +kernel
theorem dX3_read_76 : decode cX3_read 76 = .ok (.if_icmp .ge 109, 3) := by decide +kernel
theorem dX3_read_79 : decode cX3_read 79 = .ok (.iload 4, 2) := by decide +kernel
theorem dX3_read_81 : decode cX3_read 81 = .ok (.ifCond .eq 104, 3) := by decide +kernel
theorem dX3_read_84 : decode cX3_read 84 = .ok (.aload_n 0, 1) := by decide +kernel
theorem dX3_read_85 : decode cX3_read 85 = .ok (.getfield 35, 3) := by decide +kernel
theorem dX3_read_88 : decode cX3_read 88 = .ok (.ifCond .eq 97, 3) := by decide +kernel
theorem dX3_read_91 : decode cX3_read 91 = .ok (.aload_n 0, 1) := by decide +kernel
theorem dX3_read_92 : decode cX3_read 92 = .ok (.getfield 35, 3) := by decide +kernel
theorem dX3_read_95 : decode cX3_read 95 = .ok (.iconst 5, 1) := by decide +kernel
theorem dX3_read_96 : decode cX3_read 96 = .ok (.if_icmp .ne 12, 3) := by decide +kernel
theorem dX3_read_99 : decode cX3_read 99 = .ok (.aload_n 0, 1) := by decide +kernel
theorem dX3_read_100 : decode cX3_read 100 = .ok (.invokevirtual 58, 3) := by decide +kernel
theorem dX3_read_103 : decode cX3_read 103 = .ok (.istore 4, 2) := by decide +kernel
theorem dX3_read_105 : decode cX3_read 105 = .ok (.goto 54, 3) := by decide +kernel
theorem dX3_read_108 : decode cX3_read 108 = .ok (.aload_n 0, 1) := by decide +kernel
theorem dX3_read_109 : decode cX3_read 109 = .ok (.getfield 35, 3) := by decide +kernel
theorem dX3_read_112 : decode cX3_read 112 = .ok (.bipush 6, 2) := by decide +kernel
theorem dX3_read_114 : decode cX3_read 114 = .ok (.if_icmp .ne 12, 3) := by decide +kernel
theorem dX3_read_117 : decode cX3_read 117 = .ok (.aload_n 0, 1) := by decide +kernel
theorem dX3_read_118 : decode cX3_read 118 = .ok (.invokevirtual 62, 3) := by decide +kernel
theorem dX3_read_121 : decode cX3_read 121 = .ok (.istore 4, 2) := by decide +kernel
theorem dX3_read_123 : decode cX3_read 123 = .ok (.goto 36, 3) := by decide +kernel
theorem dX3_read_126 : decode cX3_read 126 = .ok (.aload_n 0, 1) := by decide +kernel
theorem dX3_read_127 : decode cX3_read 127 = .ok (.getfield 35, 3) := by decide +kernel
theorem dX3_read_130 : decode cX3_read 130 = .ok (.bipush 7, 2) := by decide +kernel
theorem dX3_read_132 : decode cX3_read 132 = .ok (.if_icmp .ne 19, 3) := by decide +kernel
theorem dX3_read_135 : decode cX3_read 135 = .ok (.aload_n 0, 1) := by decide +kernel
theorem dX3_read_136 : decode cX3_read 136 = .ok (.getfield 41, 3) := by decide +kernel
theorem dX3_read_139 : decode cX3_read 139 = .ok (.ifCond .eq 12, 3) := by decide +kernel
theorem dX3_read_142 : decode cX3_read 142 = .ok (.aload_n 0, 1) := by decide +kernel
theorem dX3_read_143 : decode cX3_read 143 = .ok (.invokevirtual 65, 3) := by decide +kernel
theorem dX3_read_146 : decode cX3_read 146 = .ok (.istore 4, 2) := by decide +kernel
theorem dX3_read_148 : decode cX3_read 148 = .ok (.goto 11, 3) := by decide +kernel
theorem dX3_read_151 : decode cX3_read 151 = .ok (.aload_n 0, 1) := by decide +kernel
theorem dX3_read_152 : decode cX3_read 152 = .ok (.bipush (-2), 2) := by decide +kernel
theorem dX3_read_154 : decode cX3_read 154 = .ok (.invokevirtual 68, 3) := by decide +kernel
theorem dX3_read_157 : decode cX3_read 157 = .ok (.istore 4, 2) := by decide +kernel
theorem dX3_read_159 : decode cX3_read 159 = .ok (.iload 4, 2) := by decide +kernel
theorem dX3_read_161 : decode cX3_read 161 = .ok (.ifCond .eq 15, 3) := by decide +kernel
theorem dX3_read_164 : decode cX3_read 164 = .ok (.aload_n 0, 1) := by decide +kernel
theorem dX3_read_165 : decode cX3_read 165 = .ok (.iconst 3, 1) := by decide +kernel
theorem dX3_read_166 : decode cX3_read 166 = .ok (.invokevirtual 54, 3) := by decide +kernel
theorem dX3_read_169 : decode cX3_read 169 = .ok (.ifCond .eq 7, 3) := by decide +kernel
theorem dX3_read_172 : decode cX3_read 172 = .ok (.iconst 1, 1) := by decide +kernel
theorem dX3_read_173 : decode cX3_read 173 = .ok (.goto 4, 3) := by decide +kernel
theorem dX3_read_176 : decode cX3_read 176 = .ok (.iconst 0, 1) := by decide +kernel
theorem dX3_read_177 : decode cX3_read 177 = .ok (.istore 4, 2) := by decide +kernel
theorem dX3_read_179 : decode cX3_read 179 = .ok (.iinc 5 1, 3) := by decide +kernel
theorem dX3_read_182 : decode cX3_read 182 = .ok (.goto (-112), 3) := by decide +kernel
theorem dX3_read_185 : decode cX3_read 185 = .ok (.aload_n 0, 1) := by decide +kernel
theorem dX3_read_186 : decode cX3_read 186 = .ok (.getfield 26, 3) := by decide +kernel
theorem dX3_read_189 : decode cX3_read 189 = .ok (.ireturn, 1) := by decide +kernel
theorem dX3_readPush_0 : decode cX3_readPush 0 = .ok (.aload_n 0, 1) := by decide +kernel
theorem dX3_readPush_1 : decode cX3_readPush 1 = .ok (.iconst 0, 1) := by decide +kernel
theorem dX3_readPush_2 : decode cX3_readPush 2 = .ok (.putfield 41, 3) := by decide +kernel
theorem dX3_readPush_5 : decode cX3_readPush 5 = .ok (.aload_n 0, 1) := by decide +kernel
theorem dX3_readPush_6 : decode cX3_readPush 6 = .ok (.invokevirtual 51, 3) := by decide +kernel
theorem dX3_readPush_9 : decode cX3_readPush 9 = .ok (.aload_n 0, 1) := by decide +kernel
theorem dX3_readPush_10 : decode cX3_readPush 10 = .ok (.iconst 0, 1) := by decide +kernel
theorem dX3_readPush_11 : decode cX3_readPush 11 = .ok (.aload_n 0, 1) := by decide +kernel
theorem dX3_readPush_12 : decode cX3_readPush 12 = .ok (.getfield 22, 3) := by decide +kernel
theorem dX3_readPush_15 : decode cX3_readPush 15 = .ok (.getfield 71, 3) := by decide +kernel
theorem dX3_readPush_18 : decode cX3_readPush 18 = .ok (.iconst 1, 1) := by decide +kernel
theorem dX3_readPush_19 : decode cX3_readPush 19 = .ok (.isub, 1) := by decide +kernel
theorem dX3_readPush_20 : decode cX3_readPush 20 = .ok (.invokevirtual 76, 3) := by decide +kernel
theorem dX3_readPush_23 : decode cX3_readPush 23 = .ok (.ifCond .ne 5, 3) := by decide +kernel
theorem dX3_readPush_26 : decode cX3_readPush 26 = .ok (.iconst 0, 1) := by decide +kernel
theorem dX3_readPush_27 : decode cX3_readPush 27 = .ok (.ireturn, 1) := by decide +kernel
theorem dX3_readPush_28 : decode cX3_readPush 28 = .ok (.aload_n 0, 1) := by decide +kernel
theorem dX3_readPush_29 : decode cX3_readPush 29 = .ok (.getfield 38, 3) := by decide +kernel
theorem dX3_readPush_32 : decode cX3_readPush 32 = .ok (.istore_n 1, 1) := by decide +kernel
theorem dX3_readPush_33 : decode cX3_readPush 33 = .ok (.aload_n 0, 1) := by decide +kernel
theorem dX3_readPush_34 : decode cX3_readPush 34 = .ok (.invokevirtual 51, 3) := by decide +kernel
theorem dX3_readPush_37 : decode cX3_readPush 37 = .ok (.iconst 0, 1) := by decide +kernel
theorem dX3_readPush_38 : decode cX3_readPush 38 = .ok (.istore_n 2, 1) := by decide +kernel
theorem dX3_readPush_39 : decode cX3_readPush 39 = .ok (.iload_n 2, 1) := by decide +kernel
theorem dX3_readPush_40 : decode cX3_readPush 40 = .ok (.bipush 64, 2) := by decide +kernel
theorem dX3_readPush_42 : decode cX3_readPush 42 = .ok (.if_icmp .ge 69, 3) := by decide +kernel
theorem dX3_readPush_45 : decode cX3_readPush 45 = .ok (.iload_n 2, 1) := by decide +kernel
theorem dX3_readPush_46 : decode cX3_readPush 46 = .ok (.ifCond .eq 11, 3) := by decide +kernel
theorem dX3_readPush_49 : decode cX3_readPush 49 = .ok (.aload_n 0, 1) := by decide +kernel
theorem dX3_readPush_50 : decode cX3_readPush 50 = .ok (.getfield 35, 3) := by decide +kernel
theorem dX3_readPush_53 : decode cX3_readPush 53 = .ok (.iconst 2, 1) := by decide +kernel
theorem dX3_readPush_54 : decode cX3_readPush 54 = .ok (.if_icmp .ne 57, 3) := by decide +kernel
theorem dX3_readPush_57 : decode cX3_readPush 57 = .ok (.aload_n 0, 1) := by decide +kernel
theorem dX3_readPush_58 : decode cX3_readPush 58 = .ok (.iconst 0, 1) := by decide +kernel
theorem dX3_readPush_59 : decode cX3_readPush 59 = .ok (.bipush 99, 2) := by decide +kernel
theorem dX3_readPush_61 : decode cX3_readPush 61 = .ok (.invokevirtual 76, 3) := by decide +kernel
theorem dX3_readPush_64 : decode cX3_readPush 64 = .ok (.ifCond .ne 5, 3) := by decide +kernel
theorem dX3_readPush_67 : decode cX3_readPush 67 = .ok (.iconst 0, 1) := by decide +kernel
theorem dX3_readPush_68 : decode cX3_readPush 68 = .ok (.ireturn, 1) := by decide +kernel
theorem dX3_readPush_69 : decode cX3_readPush 69 = .ok (.aload_n 0, 1) := by decide +kernel
theorem dX3_readPush_70 : decode cX3_readPush 70 = .ok (.getfield 22, 3) := by decide +kernel
theorem dX3_readPush_73 : decode cX3_readPush 73 = .ok (.getfield 71, 3) := by decide +kernel
theorem dX3_readPush_76 : decode cX3_readPush 76 = .ok (.bipush 64, 2) := by decide +kernel
theorem dX3_readPush_78 : decode cX3_readPush 78 = .ok (.if_icmp .lt 10, 3) := by decide +kernel
theorem dX3_readPush_81 : decode cX3_readPush 81 = .ok (.aload_n 0, 1) := by decide +kernel
theorem dX3_readPush_82 : decode cX3_readPush 82 = .ok (.bipush (-4), 2) := by decide +kernel
theorem dX3_readPush_84 : decode cX3_readPush 84 = .ok (.invokevirtual 68, 3) := by decide +kernel
theorem dX3_readPush_87 : decode cX3_readPush 87 = .ok (.ireturn, 1) := by decide +kernel
theorem dX3_readPush_88 : decode cX3_readPush 88 = .ok (.aload_n 0, 1) := by decide +kernel
theorem dX3_readPush_89 : decode cX3_readPush 89 = .ok (.getfield 22, 3) := by decide +kernel
theorem dX3_readPush_92 : decode cX3_readPush 92 = .ok (.iload_n 1, 1) := by decide +kernel
theorem dX3_readPush_93 : decode cX3_readPush 93 = .ok (.aload_n 0, 1) := by decide +kernel
theorem dX3_readPush_94 : decode cX3_readPush 94 = .ok (.getfield 38, 3) := by decide +kernel
theorem dX3_readPush_97 : decode cX3_readPush 97 = .ok (.invokevirtual 80, 3) := by decide +kernel
theorem dX3_readPush_100 : decode cX3_readPush 100 = .ok (.istore_n 1, 1) := by decide +kernel
theorem dX3_readPush_101 : decode cX3_readPush 101 = .ok (.aload_n 0, 1) := by decide +kernel
theorem dX3_readPush_102 : decode cX3_readPush 102 = .ok (.invokevirtual 51, 3) := by decide +kernel
theorem dX3_readPush_105 : decode cX3_readPush 105 = .ok (.iinc 2 1, 3) := by decide +kernel
theorem dX3_readPush_108 : decode cX3_readPush 108 = .ok (.goto (-69), 3) := by decide +kernel
theorem dX3_readPush_111 : decode cX3_readPush 111 = .ok (.iconst 1, 1) := by decide +kernel
theorem dX3_readPush_112 : decode cX3_readPush 112 = .ok (.ireturn, 1) := by decide +kernel
theorem dX3_readPop_0 : decode cX3_readPop 0 = .ok (.aload_n 0, 1) := by decide +kernel
theorem dX3_readPop_1 : decode cX3_readPop 1 = .ok (.iconst 0, 1) := by decide +kernel
theorem dX3_readPop_2 : decode cX3_readPop 2 = .ok (.putfield 41, 3) := by decide +kernel
theorem dX3_readPop_5 : decode cX3_readPop 5 = .ok (.aload_n 0, 1) := by decide +kernel
theorem dX3_readPop_6 : decode cX3_readPop 6 = .ok (.invokevirtual 51, 3) := by decide +kernel
theorem dX3_readPop_9 : decode cX3_readPop 9 = .ok (.aload_n 0, 1) := by decide +kernel
theorem dX3_readPop_10 : decode cX3_readPop 10 = .ok (.iconst 0, 1) := by decide +kernel
theorem dX3_readPop_11 : decode cX3_readPop 11 = .ok (.aload_n 0, 1) := by decide +kernel
theorem dX3_readPop_12 : decode cX3_readPop 12 = .ok (.getfield 22, 3) := by decide +kernel
theorem dX3_readPop_15 : decode cX3_readPop 15 = .ok (.getfield 71, 3) := by decide +kernel
theorem dX3_readPop_18 : decode cX3_readPop 18 = .ok (.iconst 1, 1) := by decide +kernel
theorem dX3_readPop_19 : decode cX3_readPop 19 = .ok (.isub, 1) := by decide +kernel
theorem dX3_readPop_20 : decode cX3_readPop 20 = .ok (.invokevirtual 76, 3) := by decide +kernel
theorem dX3_readPop_23 : decode cX3_readPop 23 = .ok (.ifCond .ne 5, 3) := by decide +kernel
theorem dX3_readPop_26 : decode cX3_readPop 26 = .ok (.iconst 0, 1) := by decide +kernel
theorem dX3_readPop_27 : decode cX3_readPop 27 = .ok (.ireturn, 1) := by decide +kernel
theorem dX3_readPop_28 : decode cX3_readPop 28 = .ok (.aload_n 0, 1) := by decide +kernel
theorem dX3_readPop_29 : decode cX3_readPop 29 = .ok (.getfield 38, 3) := by decide +kernel
theorem dX3_readPop_32 : decode cX3_readPop 32 = .ok (.istore_n 1, 1) := by decide +kernel
theorem dX3_readPop_33 : decode cX3_readPop 33 = .ok (.aload_n 0, 1) := by decide +kernel
theorem dX3_readPop_34 : decode cX3_readPop 34 = .ok (.invokevirtual 51, 3) := by decide +kernel
theorem dX3_readPop_37 : decode cX3_readPop 37 = .ok (.aload_n 0, 1) := by decide +kernel
theorem dX3_readPop_38 : decode cX3_readPop 38 = .ok (.iconst 1, 1) := by decide +kernel
theorem dX3_readPop_39 : decode cX3_readPop 39 = .ok (.bipush 64, 2) := by decide +kernel
theorem dX3_readPop_41 : decode cX3_readPop 41 = .ok (.invokevirtual 76, 3) := by decide +kernel
theorem dX3_readPop_44 : decode cX3_readPop 44 = .ok (.ifCond .ne 5, 3) := by decide +kernel
theorem dX3_readPop_47 : decode cX3_readPop 47 = .ok (.iconst 0, 1) := by decide +kernel
theorem dX3_readPop_48 : decode cX3_readPop 48 = .ok (.ireturn, 1) := by decide +kernel
theorem dX3_readPop_49 : decode cX3_readPop 49 = .ok (.aload_n 0, 1) := by decide +kernel
theorem dX3_readPop_50 : decode cX3_readPop 50 = .ok (.getfield 38, 3) := by decide +kernel
theorem dX3_readPop_53 : decode cX3_readPop 53 = .ok (.istore_n 2, 1) := by decide +kernel
theorem dX3_readPop_54 : decode cX3_readPop 54 = .ok (.aload_n 0, 1) := by decide +kernel
theorem dX3_readPop_55 : decode cX3_readPop 55 = .ok (.getfield 22, 3) := by decide +kernel
theorem dX3_readPop_58 : decode cX3_readPop 58 = .ok (.getfield 71, 3) := by decide +kernel
theorem dX3_readPop_61 : decode cX3_readPop 61 = .ok (.iload_n 2, 1) := by decide +kernel
theorem dX3_readPop_62 : decode cX3_readPop 62 = .ok (.iadd, 1) := by decide +kernel
theorem dX3_readPop_63 : decode cX3_readPop 63 = .ok (.bipush 64, 2) := by decide +kernel
theorem dX3_readPop_65 : decode cX3_readPop 65 = .ok (.if_icmp .le 10, 3) := by decide +kernel
theorem dX3_readPop_68 : decode cX3_readPop 68 = .ok (.aload_n 0, 1) := by decide +kernel
theorem dX3_readPop_69 : decode cX3_readPop 69 = .ok (.bipush (-4), 2) := by decide +kernel
theorem dX3_readPop_71 : decode cX3_readPop 71 = .ok (.invokevirtual 68, 3) := by decide +kernel
theorem dX3_readPop_74 : decode cX3_readPop 74 = .ok (.ireturn, 1) := by decide +kernel
theorem dX3_readPop_75 : decode cX3_readPop 75 = .ok (.iload_n 2, 1) := by decide +kernel
theorem dX3_readPop_76 : decode cX3_readPop 76 = .ok (.aload_n 0, 1) := by decide +kernel
theorem dX3_readPop_77 : decode cX3_readPop 77 = .ok (.getfield 22, 3) := by decide +kernel
theorem dX3_readPop_80 : decode cX3_readPop 80 = .ok (.getfield 83, 3) := by decide +kernel
theorem dX3_readPop_83 : decode cX3_readPop 83 = .ok (.iload_n 1, 1) := by decide +kernel
theorem dX3_readPop_84 : decode cX3_readPop 84 = .ok (.aaload, 1) := by decide +kernel
theorem dX3_readPop_85 : decode cX3_readPop 85 = .ok (.invokevirtual 87, 3) := by decide +kernel
theorem dX3_readPop_88 : decode cX3_readPop 88 = .ok (.if_icmp .le 10, 3) := by decide +kernel
theorem dX3_readPop_91 : decode cX3_readPop 91 = .ok (.aload_n 0, 1) := by decide +kernel
theorem dX3_readPop_92 : decode cX3_readPop 92 = .ok (.bipush (-5), 2) := by decide +kernel
theorem dX3_readPop_94 : decode cX3_readPop 94 = .ok (.invokevirtual 68, 3) := by decide +kernel
theorem dX3_readPop_97 : decode cX3_readPop 97 = .ok (.ireturn, 1) := by decide +kernel
theorem dX3_readPop_98 : decode cX3_readPop 98 = .ok (.iconst 0, 1) := by decide +kernel
theorem dX3_readPop_99 : decode cX3_readPop 99 = .ok (.istore_n 3, 1) := by decide +kernel
theorem dX3_readPop_100 : decode cX3_readPop 100 = .ok (.iload_n 3, 1) := by decide +kernel
theorem dX3_readPop_101 : decode cX3_readPop 101 = .ok (.iload_n 2, 1) := by decide +kernel
theorem dX3_readPop_102 : decode cX3_readPop 102 = .ok (.if_icmp .ge 18, 3) := by decide +kernel
theorem dX3_readPop_105 : decode cX3_readPop 105 = .ok (.aload_n 0, 1) := by decide +kernel
theorem dX3_readPop_106 : decode cX3_readPop 106 = .ok (.getfield 22, 3) := by decide +kernel
theorem dX3_readPop_109 : decode cX3_readPop 109 = .ok (.iload_n 1, 1) := by decide +kernel
theorem dX3_readPop_110 : decode cX3_readPop 110 = .ok (.invokevirtual 92, 3) := by decide +kernel
theorem dX3_readPop_113 : decode cX3_readPop 113 = .ok (.istore_n 1, 1) := by decide +kernel
theorem dX3_readPop_114 : decode cX3_readPop 114 = .ok (.iinc 3 1, 3) := by decide +kernel
theorem dX3_readPop_117 : decode cX3_readPop 117 = .ok (.goto (-17), 3) := by decide +kernel
theorem dX3_readPop_120 : decode cX3_readPop 120 = .ok (.aload_n 0, 1) := by decide +kernel
theorem dX3_readPop_121 : decode cX3_readPop 121 = .ok (.invokevirtual 51, 3) := by decide +kernel
theorem dX3_readPop_124 : decode cX3_readPop 124 = .ok (.iconst 1, 1) := by decide +kernel
theorem dX3_readPop_125 : decode cX3_readPop 125 = .ok (.ireturn, 1) := by decide +kernel
theorem dX3_readPace_0 : decode cX3_readPace 0 = .ok (.aload_n 0, 1) := by decide +kernel
theorem dX3_readPace_1 : decode cX3_readPace 1 = .ok (.iconst 0, 1) := by decide +kernel
theorem dX3_readPace_2 : decode cX3_readPace 2 = .ok (.putfield 41, 3) := by decide +kernel
theorem dX3_readPace_5 : decode cX3_readPace 5 = .ok (.aload_n 0, 1) := by decide +kernel
theorem dX3_readPace_6 : decode cX3_readPace 6 = .ok (.invokevirtual 51, 3) := by decide +kernel
theorem dX3_readPace_9 : decode cX3_readPace 9 = .ok (.aload_n 0, 1) := by decide +kernel
theorem dX3_readPace_10 : decode cX3_readPace 10 = .ok (.iconst 2, 1) := by decide +kernel
theorem dX3_readPace_11 : decode cX3_readPace 11 = .ok (.iconst 4, 1) := by decide +kernel
theorem dX3_readPace_12 : decode cX3_readPace 12 = .ok (.invokevirtual 76, 3) := by decide +kernel
theorem dX3_readPace_15 : decode cX3_readPace 15 = .ok (.ifCond .ne 5, 3) := by decide +kernel
theorem dX3_readPace_18 : decode cX3_readPace 18 = .ok (.iconst 0, 1) := by decide +kernel
theorem dX3_readPace_19 : decode cX3_readPace 19 = .ok (.ireturn, 1) := by decide +kernel
theorem dX3_readPace_20 : decode cX3_readPace 20 = .ok (.aload_n 0, 1) := by decide +kernel
theorem dX3_readPace_21 : decode cX3_readPace 21 = .ok (.getfield 22, 3) := by decide +kernel
theorem dX3_readPace_24 : decode cX3_readPace 24 = .ok (.aload_n 0, 1) := by decide +kernel
theorem dX3_readPace_25 : decode cX3_readPace 25 = .ok (.getfield 38, 3) := by decide +kernel
theorem dX3_readPace_28 : decode cX3_readPace 28 = .ok (.putfield 96, 3) := by decide +kernel
theorem dX3_readPace_31 : decode cX3_readPace 31 = .ok (.aload_n 0, 1) := by decide +kernel
theorem dX3_readPace_32 : decode cX3_readPace 32 = .ok (.invokevirtual 51, 3) := by decide +kernel
theorem dX3_readPace_35 : decode cX3_readPace 35 = .ok (.iconst 1, 1) := by decide +kernel
theorem dX3_readPace_36 : decode cX3_readPace 36 = .ok (.ireturn, 1) := by decide +kernel
theorem dX3_pass_0 : decode cX3_pass 0 = .ok (.aload_n 0, 1) := by decide +kernel
