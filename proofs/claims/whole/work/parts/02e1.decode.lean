theorem dX1_init_0 : decode cX1_init 0 = .ok (.aload_n 0, 1) := by decide +kernel
theorem dX1_init_1 : decode cX1_init 1 = .ok (.invokespecial 3, 3) := by decide +kernel
theorem dX1_init_4 : decode cX1_init 4 = .ok (.aload_n 0, 1) := by decide +kernel
theorem dX1_init_5 : decode cX1_init 5 = .ok (.iload_n 1, 1) := by decide +kernel
theorem dX1_init_6 : decode cX1_init 6 = .ok (.putfield 9, 3) := by decide +kernel
theorem dX1_init_9 : decode cX1_init 9 = .ok (.aload_n 0, 1) := by decide +kernel
theorem dX1_init_10 : decode cX1_init 10 = .ok (.aload_n 2, 1) := by decide +kernel
theorem dX1_init_11 : decode cX1_init 11 = .ok (.putfield 15, 3) := by decide +kernel
theorem dX1_init_14 : decode cX1_init 14 = .ok (.return_, 1) := by decide +kernel
theorem dX1_behindFirst_0 : decode cX1_behindFirst 0 = .ok (.aload_n 0, 1) := by decide +kernel
theorem dX1_behindFirst_1 : decode cX1_behindFirst 1 = .ok (.ifnonnull 7, 3) := by decide +kernel
theorem dX1_behindFirst_4 : decode cX1_behindFirst 4 = .ok (.aconst_null, 1) := by decide +kernel
theorem dX1_behindFirst_5 : decode cX1_behindFirst 5 = .ok (.goto 7, 3) := by decide +kernel
theorem dX1_behindFirst_8 : decode cX1_behindFirst 8 = .ok (.aload_n 0, 1) := by decide +kernel
theorem dX1_behindFirst_9 : decode cX1_behindFirst 9 = .ok (.getfield 15, 3) := by decide +kernel
theorem dX1_behindFirst_12 : decode cX1_behindFirst 12 = .ok (.areturn, 1) := by decide +kernel
theorem dX1_sizeOf_0 : decode cX1_sizeOf 0 = .ok (.iconst 0, 1) := by decide +kernel
theorem dX1_sizeOf_1 : decode cX1_sizeOf 1 = .ok (.istore_n 1, 1) := by decide +kernel
theorem dX1_sizeOf_2 : decode cX1_sizeOf 2 = .ok (.aload_n 0, 1) := by decide +kernel
theorem dX1_sizeOf_3 : decode cX1_sizeOf 3 = .ok (.astore_n 2, 1) := by decide +kernel
theorem dX1_sizeOf_4 : decode cX1_sizeOf 4 = .ok (.aload_n 2, 1) := by decide +kernel
theorem dX1_sizeOf_5 : decode cX1_sizeOf 5 = .ok (.ifnull 14, 3) := by decide +kernel
theorem dX1_sizeOf_8 : decode cX1_sizeOf 8 = .ok (.iinc 1 1, 3) := by decide +kernel
theorem dX1_sizeOf_11 : decode cX1_sizeOf 11 = .ok (.aload_n 2, 1) := by decide +kernel
theorem dX1_sizeOf_12 : decode cX1_sizeOf 12 = .ok (.getfield 15, 3) := by decide +kernel
theorem dX1_sizeOf_15 : decode cX1_sizeOf 15 = .ok (.astore_n 2, 1) := by decide +kernel
theorem dX1_sizeOf_16 : decode cX1_sizeOf 16 = .ok (.goto (-12), 3) := by decide +kernel
theorem dX1_sizeOf_19 : decode cX1_sizeOf 19 = .ok (.iload_n 1, 1) := by decide +kernel
theorem dX1_sizeOf_20 : decode cX1_sizeOf 20 = .ok (.ireturn, 1) := by decide +kernel
theorem dX1_valueAt_0 : decode cX1_valueAt 0 = .ok (.iconst 0, 1) := by decide +kernel
theorem dX1_valueAt_1 : decode cX1_valueAt 1 = .ok (.istore_n 2, 1) := by decide +kernel
theorem dX1_valueAt_2 : decode cX1_valueAt 2 = .ok (.aload_n 0, 1) := by decide +kernel
theorem dX1_valueAt_3 : decode cX1_valueAt 3 = .ok (.astore_n 3, 1) := by decide +kernel
theorem dX1_valueAt_4 : decode cX1_valueAt 4 = .ok (.aload_n 3, 1) := by decide +kernel
theorem dX1_valueAt_5 : decode cX1_valueAt 5 = .ok (.ifnull 24, 3) := by decide +kernel
theorem dX1_valueAt_8 : decode cX1_valueAt 8 = .ok (.iload_n 2, 1) := by decide +kernel
theorem dX1_valueAt_9 : decode cX1_valueAt 9 = .ok (.iload_n 1, 1) := by decide +kernel
theorem dX1_valueAt_10 : decode cX1_valueAt 10 = .ok (.if_icmp .ne 8, 3) := by decide +kernel
theorem dX1_valueAt_13 : decode cX1_valueAt 13 = .ok (.aload_n 3, 1) := by decide +kernel
theorem dX1_valueAt_14 : decode cX1_valueAt 14 = .ok (.getfield 9, 3) := by decide +kernel
theorem dX1_valueAt_17 : decode cX1_valueAt 17 = .ok (.ireturn, 1) := by decide +kernel
theorem dX1_valueAt_18 : decode cX1_valueAt 18 = .ok (.iinc 2 1, 3) := by decide +kernel
theorem dX1_valueAt_21 : decode cX1_valueAt 21 = .ok (.aload_n 3, 1) := by decide +kernel
theorem dX1_valueAt_22 : decode cX1_valueAt 22 = .ok (.getfield 15, 3) := by decide +kernel
theorem dX1_valueAt_25 : decode cX1_valueAt 25 = .ok (.astore_n 3, 1) := by decide +kernel
theorem dX1_valueAt_26 : decode cX1_valueAt 26 = .ok (.goto (-22), 3) := by decide +kernel
theorem dX1_valueAt_29 : decode cX1_valueAt 29 = .ok (.iconst (-1), 1) := by decide +kernel
theorem dX1_valueAt_30 : decode cX1_valueAt 30 = .ok (.ireturn, 1) := by decide +kernel
theorem dX1_writeFirst_0 : decode cX1_writeFirst 0 = .ok (.iload_n 3, 1) := by decide +kernel
theorem dX1_writeFirst_1 : decode cX1_writeFirst 1 = .ok (.istore 4, 2) := by decide +kernel
theorem dX1_writeFirst_3 : decode cX1_writeFirst 3 = .ok (.aload_n 0, 1) := by decide +kernel
theorem dX1_writeFirst_4 : decode cX1_writeFirst 4 = .ok (.astore 5, 2) := by decide +kernel
theorem dX1_writeFirst_6 : decode cX1_writeFirst 6 = .ok (.aload 5, 2) := by decide +kernel
theorem dX1_writeFirst_8 : decode cX1_writeFirst 8 = .ok (.ifnull 40, 3) := by decide +kernel
theorem dX1_writeFirst_11 : decode cX1_writeFirst 11 = .ok (.iload 4, 2) := by decide +kernel
theorem dX1_writeFirst_13 : decode cX1_writeFirst 13 = .ok (.iload_n 3, 1) := by decide +kernel
theorem dX1_writeFirst_14 : decode cX1_writeFirst 14 = .ok (.isub, 1) := by decide +kernel
theorem dX1_writeFirst_15 : decode cX1_writeFirst 15 = .ok (.iload_n 1, 1) := by decide +kernel
theorem dX1_writeFirst_16 : decode cX1_writeFirst 16 = .ok (.if_icmp .ge 22, 3) := by decide +kernel
theorem dX1_writeFirst_19 : decode cX1_writeFirst 19 = .ok (.iload 4, 2) := by decide +kernel
theorem dX1_writeFirst_21 : decode cX1_writeFirst 21 = .ok (.aload_n 2, 1) := by decide +kernel
theorem dX1_writeFirst_22 : decode cX1_writeFirst 22 = .ok (.arraylength, 1) := by decide +kernel
theorem dX1_writeFirst_23 : decode cX1_writeFirst 23 = .ok (.if_icmp .ge 15, 3) := by decide +kernel
theorem dX1_writeFirst_26 : decode cX1_writeFirst 26 = .ok (.aload_n 2, 1) := by decide +kernel
theorem dX1_writeFirst_27 : decode cX1_writeFirst 27 = .ok (.iload 4, 2) := by decide +kernel
theorem dX1_writeFirst_29 : decode cX1_writeFirst 29 = .ok (.aload 5, 2) := by decide +kernel
theorem dX1_writeFirst_31 : decode cX1_writeFirst 31 = .ok (.getfield 9, 3) := by decide +kernel
theorem dX1_writeFirst_34 : decode cX1_writeFirst 34 = .ok (.iastore, 1) := by decide +kernel
theorem dX1_writeFirst_35 : decode cX1_writeFirst 35 = .ok (.iinc 4 1, 3) := by decide +kernel
theorem dX1_writeFirst_38 : decode cX1_writeFirst 38 = .ok (.aload 5, 2) := by decide +kernel
theorem dX1_writeFirst_40 : decode cX1_writeFirst 40 = .ok (.getfield 15, 3) := by decide +kernel
theorem dX1_writeFirst_43 : decode cX1_writeFirst 43 = .ok (.astore 5, 2) := by decide +kernel
theorem dX1_writeFirst_45 : decode cX1_writeFirst 45 = .ok (.goto (-39), 3) := by decide +kernel
theorem dX1_writeFirst_48 : decode cX1_writeFirst 48 = .ok (.iload 4, 2) := by decide +kernel
theorem dX1_writeFirst_50 : decode cX1_writeFirst 50 = .ok (.ireturn, 1) := by decide +kernel
theorem dX1_writeReversed_0 : decode cX1_writeReversed 0 = .ok (.iload_n 2, 1) := by decide +kernel
theorem dX1_writeReversed_1 : decode cX1_writeReversed 1 = .ok (.aload_n 0, 1) := by decide +kernel
theorem dX1_writeReversed_2 : decode cX1_writeReversed 2 = .ok (.invokestatic 19, 3) := by decide +kernel
theorem dX1_writeReversed_5 : decode cX1_writeReversed 5 = .ok (.iadd, 1) := by decide +kernel
theorem dX1_writeReversed_6 : decode cX1_writeReversed 6 = .ok (.istore_n 3, 1) := by decide +kernel
theorem dX1_writeReversed_7 : decode cX1_writeReversed 7 = .ok (.iload_n 3, 1) := by decide +kernel
theorem dX1_writeReversed_8 : decode cX1_writeReversed 8 = .ok (.istore 4, 2) := by decide +kernel
theorem dX1_writeReversed_10 : decode cX1_writeReversed 10 = .ok (.aload_n 0, 1) := by decide +kernel
theorem dX1_writeReversed_11 : decode cX1_writeReversed 11 = .ok (.astore 5, 2) := by decide +kernel
theorem dX1_writeReversed_13 : decode cX1_writeReversed 13 = .ok (.aload 5, 2) := by decide +kernel
theorem dX1_writeReversed_15 : decode cX1_writeReversed 15 = .ok (.ifnull 37, 3) := by decide +kernel
theorem dX1_writeReversed_18 : decode cX1_writeReversed 18 = .ok (.iinc 4 (-1), 3) := by decide +kernel
theorem dX1_writeReversed_21 : decode cX1_writeReversed 21 = .ok (.iload 4, 2) := by decide +kernel
theorem dX1_writeReversed_23 : decode cX1_writeReversed 23 = .ok (.ifCond .lt 19, 3) := by decide +kernel
theorem dX1_writeReversed_26 : decode cX1_writeReversed 26 = .ok (.iload 4, 2) := by decide +kernel
theorem dX1_writeReversed_28 : decode cX1_writeReversed 28 = .ok (.aload_n 1, 1) := by decide +kernel
theorem dX1_writeReversed_29 : decode cX1_writeReversed 29 = .ok (.arraylength, 1) := by decide +kernel
theorem dX1_writeReversed_30 : decode cX1_writeReversed 30 = .ok (.if_icmp .ge 12, 3) := by decide +kernel
theorem dX1_writeReversed_33 : decode cX1_writeReversed 33 = .ok (.aload_n 1, 1) := by decide +kernel
theorem dX1_writeReversed_34 : decode cX1_writeReversed 34 = .ok (.iload 4, 2) := by decide +kernel
theorem dX1_writeReversed_36 : decode cX1_writeReversed 36 = .ok (.aload 5, 2) := by decide +kernel
theorem dX1_writeReversed_38 : decode cX1_writeReversed 38 = .ok (.getfield 9, 3) := by decide +kernel
theorem dX1_writeReversed_41 : decode cX1_writeReversed 41 = .ok (.iastore, 1) := by decide +kernel
theorem dX1_writeReversed_42 : decode cX1_writeReversed 42 = .ok (.aload 5, 2) := by decide +kernel
theorem dX1_writeReversed_44 : decode cX1_writeReversed 44 = .ok (.getfield 15, 3) := by decide +kernel
theorem dX1_writeReversed_47 : decode cX1_writeReversed 47 = .ok (.astore 5, 2) := by decide +kernel
theorem dX1_writeReversed_49 : decode cX1_writeReversed 49 = .ok (.goto (-36), 3) := by decide +kernel
theorem dX1_writeReversed_52 : decode cX1_writeReversed 52 = .ok (.iload_n 3, 1) := by decide +kernel
theorem dX1_writeReversed_53 : decode cX1_writeReversed 53 = .ok (.aload_n 1, 1) := by decide +kernel
theorem dX1_writeReversed_54 : decode cX1_writeReversed 54 = .ok (.arraylength, 1) := by decide +kernel
theorem dX1_writeReversed_55 : decode cX1_writeReversed 55 = .ok (.if_icmp .ge 7, 3) := by decide +kernel
theorem dX1_writeReversed_58 : decode cX1_writeReversed 58 = .ok (.iload_n 3, 1) := by decide +kernel
theorem dX1_writeReversed_59 : decode cX1_writeReversed 59 = .ok (.goto 5, 3) := by decide +kernel
theorem dX1_writeReversed_62 : decode cX1_writeReversed 62 = .ok (.aload_n 1, 1) := by decide +kernel
theorem dX1_writeReversed_63 : decode cX1_writeReversed 63 = .ok (.arraylength, 1) := by decide +kernel
theorem dX1_writeReversed_64 : decode cX1_writeReversed 64 = .ok (.ireturn, 1) := by decide +kernel
theorem dX4_init_0 : decode cX4_init 0 = .ok (.aload_n 0, 1) := by decide +kernel
theorem dX4_init_1 : decode cX4_init 1 = .ok (.invokespecial 3, 3) := by decide +kernel
theorem dX4_init_4 : decode cX4_init 4 = .ok (.aload_n 0, 1) := by decide +kernel
theorem dX4_init_5 : decode cX4_init 5 = .ok (.iconst 0, 1) := by decide +kernel
theorem dX4_init_6 : decode cX4_init 6 = .ok (.putfield 9, 3) := by decide +kernel
theorem dX4_init_9 : decode cX4_init 9 = .ok (.aload_n 0, 1) := by decide +kernel
theorem dX4_init_10 : decode cX4_init 10 = .ok (.iconst 0, 1) := by decide +kernel
theorem dX4_init_11 : decode cX4_init 11 = .ok (.putfield 15, 3) := by decide +kernel
theorem dX4_init_14 : decode cX4_init 14 = .ok (.aload_n 0, 1) := by decide +kernel
theorem dX4_init_15 : decode cX4_init 15 = .ok (.aconst_null, 1) := by decide +kernel
theorem dX4_init_16 : decode cX4_init 16 = .ok (.putfield 18, 3) := by decide +kernel
theorem dX4_init_19 : decode cX4_init 19 = .ok (.aload_n 0, 1) := by decide +kernel
theorem dX4_init_20 : decode cX4_init 20 = .ok (.aconst_null, 1) := by decide +kernel
theorem dX4_init_21 : decode cX4_init 21 = .ok (.putfield 22, 3) := by decide +kernel
theorem dX4_init_24 : decode cX4_init 24 = .ok (.aload_n 0, 1) := by decide +kernel
theorem dX4_init_25 : decode cX4_init 25 = .ok (.aconst_null, 1) := by decide +kernel
theorem dX4_init_26 : decode cX4_init 26 = .ok (.putfield 25, 3) := by decide +kernel
theorem dX4_init_29 : decode cX4_init 29 = .ok (.aload_n 0, 1) := by decide +kernel
theorem dX4_init_30 : decode cX4_init 30 = .ok (.aconst_null, 1) := by decide +kernel
theorem dX4_init_31 : decode cX4_init 31 = .ok (.putfield 28, 3) := by decide +kernel
theorem dX4_init_34 : decode cX4_init 34 = .ok (.return_, 1) := by decide +kernel
theorem dX4_copyFrom_0 : decode cX4_copyFrom 0 = .ok (.aload_n 0, 1) := by decide +kernel
theorem dX4_copyFrom_1 : decode cX4_copyFrom 1 = .ok (.aload_n 1, 1) := by decide +kernel
theorem dX4_copyFrom_2 : decode cX4_copyFrom 2 = .ok (.getfield 9, 3) := by decide +kernel
theorem dX4_copyFrom_5 : decode cX4_copyFrom 5 = .ok (.putfield 9, 3) := by decide +kernel
theorem dX4_copyFrom_8 : decode cX4_copyFrom 8 = .ok (.aload_n 0, 1) := by decide +kernel
theorem dX4_copyFrom_9 : decode cX4_copyFrom 9 = .ok (.aload_n 1, 1) := by decide +kernel
theorem dX4_copyFrom_10 : decode cX4_copyFrom 10 = .ok (.getfield 15, 3) := by decide +kernel
theorem dX4_copyFrom_13 : decode cX4_copyFrom 13 = .ok (.putfield 15, 3) := by decide +kernel
theorem dX4_copyFrom_16 : decode cX4_copyFrom 16 = .ok (.aload_n 0, 1) := by decide +kernel
theorem dX4_copyFrom_17 : decode cX4_copyFrom 17 = .ok (.aload_n 1, 1) := by decide +kernel
theorem dX4_copyFrom_18 : decode cX4_copyFrom 18 = .ok (.getfield 18, 3) := by decide +kernel
theorem dX4_copyFrom_21 : decode cX4_copyFrom 21 = .ok (.putfield 18, 3) := by decide +kernel
theorem dX4_copyFrom_24 : decode cX4_copyFrom 24 = .ok (.aload_n 0, 1) := by decide +kernel
theorem dX4_copyFrom_25 : decode cX4_copyFrom 25 = .ok (.aload_n 1, 1) := by decide +kernel
theorem dX4_copyFrom_26 : decode cX4_copyFrom 26 = .ok (.getfield 22, 3) := by decide +kernel
theorem dX4_copyFrom_29 : decode cX4_copyFrom 29 = .ok (.putfield 22, 3) := by decide +kernel
theorem dX4_copyFrom_32 : decode cX4_copyFrom 32 = .ok (.aload_n 0, 1) := by decide +kernel
theorem dX4_copyFrom_33 : decode cX4_copyFrom 33 = .ok (.aload_n 1, 1) := by decide +kernel
theorem dX4_copyFrom_34 : decode cX4_copyFrom 34 = .ok (.getfield 25, 3) := by decide +kernel
theorem dX4_copyFrom_37 : decode cX4_copyFrom 37 = .ok (.putfield 25, 3) := by decide +kernel
theorem dX4_copyFrom_40 : decode cX4_copyFrom 40 = .ok (.aload_n 0, 1) := by decide +kernel
theorem dX4_copyFrom_41 : decode cX4_copyFrom 41 = .ok (.aload_n 1, 1) := by decide +kernel
theorem dX4_copyFrom_42 : decode cX4_copyFrom 42 = .ok (.getfield 28, 3) := by decide +kernel
theorem dX4_copyFrom_45 : decode cX4_copyFrom 45 = .ok (.putfield 28, 3) := by decide +kernel
theorem dX4_copyFrom_48 : decode cX4_copyFrom 48 = .ok (.return_, 1) := by decide +kernel
theorem dX4_begin_0 : decode cX4_begin 0 = .ok (.aload_n 0, 1) := by decide +kernel
theorem dX4_begin_1 : decode cX4_begin 1 = .ok (.iconst 1, 1) := by decide +kernel
theorem dX4_begin_2 : decode cX4_begin 2 = .ok (.putfield 9, 3) := by decide +kernel
theorem dX4_begin_5 : decode cX4_begin 5 = .ok (.aload_n 0, 1) := by decide +kernel
theorem dX4_begin_6 : decode cX4_begin 6 = .ok (.iconst 0, 1) := by decide +kernel
theorem dX4_begin_7 : decode cX4_begin 7 = .ok (.putfield 15, 3) := by decide +kernel
theorem dX4_begin_10 : decode cX4_begin 10 = .ok (.aload_n 0, 1) := by decide +kernel
theorem dX4_begin_11 : decode cX4_begin 11 = .ok (.aload_n 1, 1) := by decide +kernel
theorem dX4_begin_12 : decode cX4_begin 12 = .ok (.putfield 18, 3) := by decide +kernel
theorem dX4_begin_15 : decode cX4_begin 15 = .ok (.aload_n 0, 1) := by decide +kernel
theorem dX4_begin_16 : decode cX4_begin 16 = .ok (.aconst_null, 1) := by decide +kernel
theorem dX4_begin_17 : decode cX4_begin 17 = .ok (.putfield 22, 3) := by decide +kernel
theorem dX4_begin_20 : decode cX4_begin 20 = .ok (.aload_n 0, 1) := by decide +kernel
theorem dX4_begin_21 : decode cX4_begin 21 = .ok (.aload_n 2, 1) := by decide +kernel
theorem dX4_begin_22 : decode cX4_begin 22 = .ok (.putfield 25, 3) := by decide +kernel
theorem dX4_begin_25 : decode cX4_begin 25 = .ok (.aload_n 0, 1) := by decide +kernel
theorem dX4_begin_26 : decode cX4_begin 26 = .ok (.aconst_null, 1) := by decide +kernel
theorem dX4_begin_27 : decode cX4_begin 27 = .ok (.putfield 28, 3) := by decide +kernel
theorem dX4_begin_30 : decode cX4_begin 30 = .ok (.return_, 1) := by decide +kernel
theorem dX4_step_0 : decode cX4_step 0 = .ok (.aload_n 0, 1) := by decide +kernel
theorem dX4_step_1 : decode cX4_step 1 = .ok (.getfield 9, 3) := by decide +kernel
theorem dX4_step_4 : decode cX4_step 4 = .ok (.iconst 1, 1) := by decide +kernel
theorem dX4_step_5 : decode cX4_step 5 = .ok (.if_icmp .ne 95, 3) := by decide +kernel
theorem dX4_step_8 : decode cX4_step 8 = .ok (.aload_n 0, 1) := by decide +kernel
theorem dX4_step_9 : decode cX4_step 9 = .ok (.getfield 18, 3) := by decide +kernel
theorem dX4_step_12 : decode cX4_step 12 = .ok (.ifnull 88, 3) := by decide +kernel
theorem dX4_step_15 : decode cX4_step 15 = .ok (.aload_n 0, 1) := by decide +kernel
theorem dX4_step_16 : decode cX4_step 16 = .ok (.getfield 25, 3) := by decide +kernel
theorem dX4_step_19 : decode cX4_step 19 = .ok (.ifnull 81, 3) := by decide +kernel
theorem dX4_step_22 : decode cX4_step 22 = .ok (.aload_n 0, 1) := by decide +kernel
theorem dX4_step_23 : decode cX4_step 23 = .ok (.new 31, 3) := by decide +kernel
theorem dX4_step_26 : decode cX4_step 26 = .ok (.dup, 1) := by decide +kernel
theorem dX4_step_27 : decode cX4_step 27 = .ok (.aload_n 0, 1) := by decide +kernel
theorem dX4_step_28 : decode cX4_step 28 = .ok (.getfield 18, 3) := by decide +kernel
theorem dX4_step_31 : decode cX4_step 31 = .ok (.getfield 33, 3) := by decide +kernel
theorem dX4_step_34 : decode cX4_step 34 = .ok (.aload_n 0, 1) := by decide +kernel
theorem dX4_step_35 : decode cX4_step 35 = .ok (.getfield 22, 3) := by decide +kernel
theorem dX4_step_38 : decode cX4_step 38 = .ok (.invokespecial 36, 3) := by decide +kernel
theorem dX4_step_41 : decode cX4_step 41 = .ok (.putfield 22, 3) := by decide +kernel
theorem dX4_step_44 : decode cX4_step 44 = .ok (.aload_n 0, 1) := by decide +kernel
theorem dX4_step_45 : decode cX4_step 45 = .ok (.new 31, 3) := by decide +kernel
theorem dX4_step_48 : decode cX4_step 48 = .ok (.dup, 1) := by decide +kernel
theorem dX4_step_49 : decode cX4_step 49 = .ok (.aload_n 0, 1) := by decide +kernel
theorem dX4_step_50 : decode cX4_step 50 = .ok (.getfield 25, 3) := by decide +kernel
theorem dX4_step_53 : decode cX4_step 53 = .ok (.getfield 33, 3) := by decide +kernel
theorem dX4_step_56 : decode cX4_step 56 = .ok (.aload_n 0, 1) := by decide +kernel
theorem dX4_step_57 : decode cX4_step 57 = .ok (.getfield 28, 3) := by decide +kernel
theorem dX4_step_60 : decode cX4_step 60 = .ok (.invokespecial 36, 3) := by decide +kernel
theorem dX4_step_63 : decode cX4_step 63 = .ok (.putfield 28, 3) := by decide +kernel
theorem dX4_step_66 : decode cX4_step 66 = .ok (.aload_n 0, 1) := by decide +kernel
theorem dX4_step_67 : decode cX4_step 67 = .ok (.aload_n 0, 1) := by decide +kernel
theorem dX4_step_68 : decode cX4_step 68 = .ok (.getfield 18, 3) := by decide +kernel
theorem dX4_step_71 : decode cX4_step 71 = .ok (.getfield 39, 3) := by decide +kernel
theorem dX4_step_74 : decode cX4_step 74 = .ok (.putfield 18, 3) := by decide +kernel
theorem dX4_step_77 : decode cX4_step 77 = .ok (.aload_n 0, 1) := by decide +kernel
theorem dX4_step_78 : decode cX4_step 78 = .ok (.aload_n 0, 1) := by decide +kernel
theorem dX4_step_79 : decode cX4_step 79 = .ok (.getfield 25, 3) := by decide +kernel
theorem dX4_step_82 : decode cX4_step 82 = .ok (.getfield 39, 3) := by decide +kernel
theorem dX4_step_85 : decode cX4_step 85 = .ok (.putfield 25, 3) := by decide +kernel
theorem dX4_step_88 : decode cX4_step 88 = .ok (.aload_n 0, 1) := by decide +kernel
theorem dX4_step_89 : decode cX4_step 89 = .ok (.dup, 1) := by decide +kernel
theorem dX4_step_90 : decode cX4_step 90 = .ok (.getfield 15, 3) := by decide +kernel
theorem dX4_step_93 : decode cX4_step 93 = .ok (.iconst 1, 1) := by decide +kernel
theorem dX4_step_94 : decode cX4_step 94 = .ok (.iadd, 1) := by decide +kernel
theorem dX4_step_95 : decode cX4_step 95 = .ok (.putfield 15, 3) := by decide +kernel
theorem dX4_step_98 : decode cX4_step 98 = .ok (.iconst 1, 1) := by decide +kernel
theorem dX4_step_99 : decode cX4_step 99 = .ok (.ireturn, 1) := by decide +kernel
theorem dX4_step_100 : decode cX4_step 100 = .ok (.aload_n 0, 1) := by decide +kernel
theorem dX4_step_101 : decode cX4_step 101 = .ok (.getfield 9, 3) := by decide +kernel
theorem dX4_step_104 : decode cX4_step 104 = .ok (.iconst 1, 1) := by decide +kernel
theorem dX4_step_105 : decode cX4_step 105 = .ok (.if_icmp .ne 61, 3) := by decide +kernel
theorem dX4_step_108 : decode cX4_step 108 = .ok (.aload_n 0, 1) := by decide +kernel
theorem dX4_step_109 : decode cX4_step 109 = .ok (.getfield 18, 3) := by decide +kernel
theorem dX4_step_112 : decode cX4_step 112 = .ok (.ifnonnull 54, 3) := by decide +kernel
theorem dX4_step_115 : decode cX4_step 115 = .ok (.aload_n 0, 1) := by decide +kernel
theorem dX4_step_116 : decode cX4_step 116 = .ok (.getfield 25, 3) := by decide +kernel
theorem dX4_step_119 : decode cX4_step 119 = .ok (.ifnull 47, 3) := by decide +kernel
theorem dX4_step_122 : decode cX4_step 122 = .ok (.aload_n 0, 1) := by decide +kernel
theorem dX4_step_123 : decode cX4_step 123 = .ok (.getfield 25, 3) := by decide +kernel
theorem dX4_step_126 : decode cX4_step 126 = .ok (.getfield 39, 3) := by decide +kernel
theorem dX4_step_129 : decode cX4_step 129 = .ok (.ifnonnull 37, 3) := by decide +kernel
theorem dX4_step_132 : decode cX4_step 132 = .ok (.aload_n 0, 1) := by decide +kernel
theorem dX4_step_133 : decode cX4_step 133 = .ok (.new 31, 3) := by decide +kernel
theorem dX4_step_136 : decode cX4_step 136 = .ok (.dup, 1) := by decide +kernel
theorem dX4_step_137 : decode cX4_step 137 = .ok (.aload_n 0, 1) := by decide +kernel
theorem dX4_step_138 : decode cX4_step 138 = .ok (.getfield 25, 3) := by decide +kernel
theorem dX4_step_141 : decode cX4_step 141 = .ok (.getfield 33, 3) := by decide +kernel
theorem dX4_step_144 : decode cX4_step 144 = .ok (.aload_n 0, 1) := by decide +kernel
theorem dX4_step_145 : decode cX4_step 145 = .ok (.getfield 28, 3) := by decide +kernel
theorem dX4_step_148 : decode cX4_step 148 = .ok (.invokespecial 36, 3) := by decide +kernel
theorem dX4_step_151 : decode cX4_step 151 = .ok (.putfield 28, 3) := by decide +kernel
theorem dX4_step_154 : decode cX4_step 154 = .ok (.aload_n 0, 1) := by decide +kernel
theorem dX4_step_155 : decode cX4_step 155 = .ok (.aconst_null, 1) := by decide +kernel
theorem dX4_step_156 : decode cX4_step 156 = .ok (.putfield 25, 3) := by decide +kernel
theorem dX4_step_159 : decode cX4_step 159 = .ok (.aload_n 0, 1) := by decide +kernel
theorem dX4_step_160 : decode cX4_step 160 = .ok (.iconst 2, 1) := by decide +kernel
theorem dX4_step_161 : decode cX4_step 161 = .ok (.putfield 9, 3) := by decide +kernel
theorem dX4_step_164 : decode cX4_step 164 = .ok (.iconst 1, 1) := by decide +kernel
theorem dX4_step_165 : decode cX4_step 165 = .ok (.ireturn, 1) := by decide +kernel
theorem dX4_step_166 : decode cX4_step 166 = .ok (.aload_n 0, 1) := by decide +kernel
theorem dX4_step_167 : decode cX4_step 167 = .ok (.getfield 9, 3) := by decide +kernel
theorem dX4_step_170 : decode cX4_step 170 = .ok (.iconst 2, 1) := by decide +kernel
theorem dX4_step_171 : decode cX4_step 171 = .ok (.if_icmp .ne 16, 3) := by decide +kernel
theorem dX4_step_174 : decode cX4_step 174 = .ok (.aload_n 0, 1) := by decide +kernel
theorem dX4_step_175 : decode cX4_step 175 = .ok (.getfield 15, 3) := by decide +kernel
theorem dX4_step_178 : decode cX4_step 178 = .ok (.ifCond .ne 9, 3) := by decide +kernel
theorem dX4_step_181 : decode cX4_step 181 = .ok (.aload_n 0, 1) := by decide +kernel
theorem dX4_step_182 : decode cX4_step 182 = .ok (.invokevirtual 42, 3) := by decide +kernel
theorem dX4_step_185 : decode cX4_step 185 = .ok (.iconst 1, 1) := by decide +kernel
theorem dX4_step_186 : decode cX4_step 186 = .ok (.ireturn, 1) := by decide +kernel
theorem dX4_step_187 : decode cX4_step 187 = .ok (.aload_n 0, 1) := by decide +kernel
theorem dX4_step_188 : decode cX4_step 188 = .ok (.getfield 9, 3) := by decide +kernel
theorem dX4_step_191 : decode cX4_step 191 = .ok (.iconst 2, 1) := by decide +kernel
theorem dX4_step_192 : decode cX4_step 192 = .ok (.if_icmp .ne 62, 3) := by decide +kernel
theorem dX4_step_195 : decode cX4_step 195 = .ok (.aload_n 0, 1) := by decide +kernel
theorem dX4_step_196 : decode cX4_step 196 = .ok (.getfield 15, 3) := by decide +kernel
theorem dX4_step_199 : decode cX4_step 199 = .ok (.ifCond .le 55, 3) := by decide +kernel
theorem dX4_step_202 : decode cX4_step 202 = .ok (.aload_n 0, 1) := by decide +kernel
theorem dX4_step_203 : decode cX4_step 203 = .ok (.getfield 22, 3) := by decide +kernel
theorem dX4_step_206 : decode cX4_step 206 = .ok (.ifnull 48, 3) := by decide +kernel
theorem dX4_step_209 : decode cX4_step 209 = .ok (.aload_n 0, 1) := by decide +kernel
theorem dX4_step_210 : decode cX4_step 210 = .ok (.new 31, 3) := by decide +kernel
theorem dX4_step_213 : decode cX4_step 213 = .ok (.dup, 1) := by decide +kernel
theorem dX4_step_214 : decode cX4_step 214 = .ok (.aload_n 0, 1) := by decide +kernel
theorem dX4_step_215 : decode cX4_step 215 = .ok (.getfield 22, 3) := by decide +kernel
theorem dX4_step_218 : decode cX4_step 218 = .ok (.getfield 33, 3) := by decide +kernel
theorem dX4_step_221 : decode cX4_step 221 = .ok (.aload_n 0, 1) := by decide +kernel
theorem dX4_step_222 : decode cX4_step 222 = .ok (.getfield 28, 3) := by decide +kernel
theorem dX4_step_225 : decode cX4_step 225 = .ok (.invokespecial 36, 3) := by decide +kernel
theorem dX4_step_228 : decode cX4_step 228 = .ok (.putfield 28, 3) := by decide +kernel
theorem dX4_step_231 : decode cX4_step 231 = .ok (.aload_n 0, 1) := by decide +kernel
theorem dX4_step_232 : decode cX4_step 232 = .ok (.aload_n 0, 1) := by decide +kernel
theorem dX4_step_233 : decode cX4_step 233 = .ok (.getfield 22, 3) := by decide +kernel
theorem dX4_step_236 : decode cX4_step 236 = .ok (.getfield 39, 3) := by decide +kernel
theorem dX4_step_239 : decode cX4_step 239 = .ok (.putfield 22, 3) := by decide +kernel
theorem dX4_step_242 : decode cX4_step 242 = .ok (.aload_n 0, 1) := by decide +kernel
theorem dX4_step_243 : decode cX4_step 243 = .ok (.dup, 1) := by decide +kernel
theorem dX4_step_244 : decode cX4_step 244 = .ok (.getfield 15, 3) := by decide +kernel
theorem dX4_step_247 : decode cX4_step 247 = .ok (.iconst 1, 1) := by decide +kernel
theorem dX4_step_248 : decode cX4_step 248 = .ok (.isub, 1) := by decide +kernel
theorem dX4_step_249 : decode cX4_step 249 = .ok (.putfield 15, 3) := by decide +kernel
theorem dX4_step_252 : decode cX4_step 252 = .ok (.iconst 1, 1) := by decide +kernel
theorem dX4_step_253 : decode cX4_step 253 = .ok (.ireturn, 1) := by decide +kernel
theorem dX4_step_254 : decode cX4_step 254 = .ok (.iconst 0, 1) := by decide +kernel
theorem dX4_step_255 : decode cX4_step 255 = .ok (.ireturn, 1) := by decide +kernel
theorem dX4_loseFirst_0 : decode cX4_loseFirst 0 = .ok (.aload_n 0, 1) := by decide +kernel
theorem dX4_loseFirst_1 : decode cX4_loseFirst 1 = .ok (.getfield 9, 3) := by decide +kernel
theorem dX4_loseFirst_4 : decode cX4_loseFirst 4 = .ok (.iconst 1, 1) := by decide +kernel
theorem dX4_loseFirst_5 : decode cX4_loseFirst 5 = .ok (.if_icmp .ne 16, 3) := by decide +kernel
theorem dX4_loseFirst_8 : decode cX4_loseFirst 8 = .ok (.aload_n 0, 1) := by decide +kernel
theorem dX4_loseFirst_9 : decode cX4_loseFirst 9 = .ok (.dup, 1) := by decide +kernel
theorem dX4_loseFirst_10 : decode cX4_loseFirst 10 = .ok (.getfield 15, 3) := by decide +kernel
theorem dX4_loseFirst_13 : decode cX4_loseFirst 13 = .ok (.iconst 1, 1) := by decide +kernel
theorem dX4_loseFirst_14 : decode cX4_loseFirst 14 = .ok (.isub, 1) := by decide +kernel
theorem dX4_loseFirst_15 : decode cX4_loseFirst 15 = .ok (.putfield 15, 3) := by decide +kernel
theorem dX4_loseFirst_18 : decode cX4_loseFirst 18 = .ok (.goto 61, 3) := by decide +kernel
theorem dX4_loseFirst_21 : decode cX4_loseFirst 21 = .ok (.aload_n 0, 1) := by decide +kernel
theorem dX4_loseFirst_22 : decode cX4_loseFirst 22 = .ok (.getfield 9, 3) := by decide +kernel
theorem dX4_loseFirst_25 : decode cX4_loseFirst 25 = .ok (.iconst 2, 1) := by decide +kernel
theorem dX4_loseFirst_26 : decode cX4_loseFirst 26 = .ok (.if_icmp .ne 23, 3) := by decide +kernel
theorem dX4_loseFirst_29 : decode cX4_loseFirst 29 = .ok (.aload_n 0, 1) := by decide +kernel
theorem dX4_loseFirst_30 : decode cX4_loseFirst 30 = .ok (.getfield 15, 3) := by decide +kernel
theorem dX4_loseFirst_33 : decode cX4_loseFirst 33 = .ok (.ifCond .le 16, 3) := by decide +kernel
theorem dX4_loseFirst_36 : decode cX4_loseFirst 36 = .ok (.aload_n 0, 1) := by decide +kernel
theorem dX4_loseFirst_37 : decode cX4_loseFirst 37 = .ok (.dup, 1) := by decide +kernel
theorem dX4_loseFirst_38 : decode cX4_loseFirst 38 = .ok (.getfield 15, 3) := by decide +kernel
theorem dX4_loseFirst_41 : decode cX4_loseFirst 41 = .ok (.iconst 1, 1) := by decide +kernel
theorem dX4_loseFirst_42 : decode cX4_loseFirst 42 = .ok (.isub, 1) := by decide +kernel
theorem dX4_loseFirst_43 : decode cX4_loseFirst 43 = .ok (.putfield 15, 3) := by decide +kernel
theorem dX4_loseFirst_46 : decode cX4_loseFirst 46 = .ok (.goto 33, 3) := by decide +kernel
theorem dX4_loseFirst_49 : decode cX4_loseFirst 49 = .ok (.aload_n 0, 1) := by decide +kernel
theorem dX4_loseFirst_50 : decode cX4_loseFirst 50 = .ok (.getfield 9, 3) := by decide +kernel
theorem dX4_loseFirst_53 : decode cX4_loseFirst 53 = .ok (.iconst 2, 1) := by decide +kernel
theorem dX4_loseFirst_54 : decode cX4_loseFirst 54 = .ok (.if_icmp .ne 25, 3) := by decide +kernel
theorem dX4_loseFirst_57 : decode cX4_loseFirst 57 = .ok (.aload_n 0, 1) := by decide +kernel
theorem dX4_loseFirst_58 : decode cX4_loseFirst 58 = .ok (.getfield 15, 3) := by decide +kernel
theorem dX4_loseFirst_61 : decode cX4_loseFirst 61 = .ok (.ifCond .ne 18, 3) := by decide +kernel
theorem dX4_loseFirst_64 : decode cX4_loseFirst 64 = .ok (.aload_n 0, 1) := by decide +kernel
theorem dX4_loseFirst_65 : decode cX4_loseFirst 65 = .ok (.aload_n 0, 1) := by decide +kernel
theorem dX4_loseFirst_66 : decode cX4_loseFirst 66 = .ok (.getfield 28, 3) := by decide +kernel
theorem dX4_loseFirst_69 : decode cX4_loseFirst 69 = .ok (.invokestatic 45, 3) := by decide +kernel
theorem dX4_loseFirst_72 : decode cX4_loseFirst 72 = .ok (.putfield 28, 3) := by decide +kernel
theorem dX4_loseFirst_75 : decode cX4_loseFirst 75 = .ok (.aload_n 0, 1) := by decide +kernel
theorem dX4_loseFirst_76 : decode cX4_loseFirst 76 = .ok (.invokevirtual 42, 3) := by decide +kernel
theorem dX4_loseFirst_79 : decode cX4_loseFirst 79 = .ok (.return_, 1) := by decide +kernel
theorem dX4_finish_0 : decode cX4_finish 0 = .ok (.aload_n 0, 1) := by decide +kernel
theorem dX4_finish_1 : decode cX4_finish 1 = .ok (.iconst 3, 1) := by decide +kernel
theorem dX4_finish_2 : decode cX4_finish 2 = .ok (.putfield 9, 3) := by decide +kernel
theorem dX4_finish_5 : decode cX4_finish 5 = .ok (.aload_n 0, 1) := by decide +kernel
theorem dX4_finish_6 : decode cX4_finish 6 = .ok (.aconst_null, 1) := by decide +kernel
theorem dX4_finish_7 : decode cX4_finish 7 = .ok (.putfield 22, 3) := by decide +kernel
theorem dX4_finish_10 : decode cX4_finish 10 = .ok (.return_, 1) := by decide +kernel
theorem dX4_endWithList_0 : decode cX4_endWithList 0 = .ok (.aload_n 0, 1) := by decide +kernel
theorem dX4_endWithList_1 : decode cX4_endWithList 1 = .ok (.getfield 28, 3) := by decide +kernel
theorem dX4_endWithList_4 : decode cX4_endWithList 4 = .ok (.astore_n 1, 1) := by decide +kernel
theorem dX4_endWithList_5 : decode cX4_endWithList 5 = .ok (.aload_n 0, 1) := by decide +kernel
theorem dX4_endWithList_6 : decode cX4_endWithList 6 = .ok (.iconst 0, 1) := by decide +kernel
theorem dX4_endWithList_7 : decode cX4_endWithList 7 = .ok (.putfield 9, 3) := by decide +kernel
theorem dX4_endWithList_10 : decode cX4_endWithList 10 = .ok (.aload_n 0, 1) := by decide +kernel
theorem dX4_endWithList_11 : decode cX4_endWithList 11 = .ok (.aconst_null, 1) := by decide +kernel
theorem dX4_endWithList_12 : decode cX4_endWithList 12 = .ok (.putfield 28, 3) := by decide +kernel
theorem dX4_endWithList_15 : decode cX4_endWithList 15 = .ok (.aload_n 1, 1) := by decide +kernel
theorem dX4_endWithList_16 : decode cX4_endWithList 16 = .ok (.areturn, 1) := by decide +kernel
