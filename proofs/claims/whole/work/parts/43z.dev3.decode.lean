theorem dX7_readsPush_33 : decode cX7_readsPush 33 = .ok (.ifCond .ne 5, 3) := by decide +kernel
theorem dX7_readsPush_36 : decode cX7_readsPush 36 = .ok (.iconst 0, 1) := by decide +kernel
theorem dX7_readsPush_37 : decode cX7_readsPush 37 = .ok (.ireturn, 1) := by decide +kernel
theorem dX7_readsPush_38 : decode cX7_readsPush 38 = .ok (.aload_n 0, 1) := by decide +kernel
theorem dX7_readsPush_39 : decode cX7_readsPush 39 = .ok (.invokevirtual 65, 3) := by decide +kernel
theorem dX7_readsPush_42 : decode cX7_readsPush 42 = .ok (.bipush 64, 2) := by decide +kernel
theorem dX7_readsPush_44 : decode cX7_readsPush 44 = .ok (.if_icmp .ne 14, 3) := by decide +kernel
theorem dX7_readsPush_47 : decode cX7_readsPush 47 = .ok (.aload_n 0, 1) := by decide +kernel
theorem dX7_readsPush_48 : decode cX7_readsPush 48 = .ok (.bipush (-4), 2) := by decide +kernel
theorem dX7_readsPush_50 : decode cX7_readsPush 50 = .ok (.aload_n 0, 1) := by decide +kernel
theorem dX7_readsPush_51 : decode cX7_readsPush 51 = .ok (.getfield 173, 3) := by decide +kernel
theorem dX7_readsPush_54 : decode cX7_readsPush 54 = .ok (.invokevirtual 166, 3) := by decide +kernel
theorem dX7_readsPush_57 : decode cX7_readsPush 57 = .ok (.ireturn, 1) := by decide +kernel
theorem dX7_readsPush_58 : decode cX7_readsPush 58 = .ok (.aload_n 0, 1) := by decide +kernel
theorem dX7_readsPush_59 : decode cX7_readsPush 59 = .ok (.iload_n 1, 1) := by decide +kernel
theorem dX7_readsPush_60 : decode cX7_readsPush 60 = .ok (.aload_n 0, 1) := by decide +kernel
theorem dX7_readsPush_61 : decode cX7_readsPush 61 = .ok (.getfield 176, 3) := by decide +kernel
theorem dX7_readsPush_64 : decode cX7_readsPush 64 = .ok (.invokevirtual 187, 3) := by decide +kernel
theorem dX7_readsPush_67 : decode cX7_readsPush 67 = .ok (.istore_n 1, 1) := by decide +kernel
theorem dX7_readsPush_68 : decode cX7_readsPush 68 = .ok (.aload_n 0, 1) := by decide +kernel
theorem dX7_readsPush_69 : decode cX7_readsPush 69 = .ok (.invokevirtual 151, 3) := by decide +kernel
theorem dX7_readsPush_72 : decode cX7_readsPush 72 = .ok (.invokestatic 170, 3) := by decide +kernel
theorem dX7_readsPush_75 : decode cX7_readsPush 75 = .ok (.ifCond .ne (-49), 3) := by decide +kernel
theorem dX7_readsPush_78 : decode cX7_readsPush 78 = .ok (.iconst 1, 1) := by decide +kernel
theorem dX7_readsPush_79 : decode cX7_readsPush 79 = .ok (.ireturn, 1) := by decide +kernel
theorem dX7_readsPop_0 : decode cX7_readsPop 0 = .ok (.aload_n 0, 1) := by decide +kernel
theorem dX7_readsPop_1 : decode cX7_readsPop 1 = .ok (.iconst 0, 1) := by decide +kernel
theorem dX7_readsPop_2 : decode cX7_readsPop 2 = .ok (.putfield 180, 3) := by decide +kernel
theorem dX7_readsPop_5 : decode cX7_readsPop 5 = .ok (.aload_n 0, 1) := by decide +kernel
theorem dX7_readsPop_6 : decode cX7_readsPop 6 = .ok (.iconst 0, 1) := by decide +kernel
theorem dX7_readsPop_7 : decode cX7_readsPop 7 = .ok (.aload_n 0, 1) := by decide +kernel
theorem dX7_readsPop_8 : decode cX7_readsPop 8 = .ok (.invokevirtual 65, 3) := by decide +kernel
theorem dX7_readsPop_11 : decode cX7_readsPop 11 = .ok (.iconst 1, 1) := by decide +kernel
theorem dX7_readsPop_12 : decode cX7_readsPop 12 = .ok (.isub, 1) := by decide +kernel
theorem dX7_readsPop_13 : decode cX7_readsPop 13 = .ok (.invokevirtual 184, 3) := by decide +kernel
theorem dX7_readsPop_16 : decode cX7_readsPop 16 = .ok (.ifCond .ne 5, 3) := by decide +kernel
theorem dX7_readsPop_19 : decode cX7_readsPop 19 = .ok (.iconst 0, 1) := by decide +kernel
theorem dX7_readsPop_20 : decode cX7_readsPop 20 = .ok (.ireturn, 1) := by decide +kernel
theorem dX7_readsPop_21 : decode cX7_readsPop 21 = .ok (.aload_n 0, 1) := by decide +kernel
theorem dX7_readsPop_22 : decode cX7_readsPop 22 = .ok (.getfield 176, 3) := by decide +kernel
theorem dX7_readsPop_25 : decode cX7_readsPop 25 = .ok (.istore_n 1, 1) := by decide +kernel
theorem dX7_readsPop_26 : decode cX7_readsPop 26 = .ok (.aload_n 0, 1) := by decide +kernel
theorem dX7_readsPop_27 : decode cX7_readsPop 27 = .ok (.iconst 1, 1) := by decide +kernel
theorem dX7_readsPop_28 : decode cX7_readsPop 28 = .ok (.bipush 64, 2) := by decide +kernel
theorem dX7_readsPop_30 : decode cX7_readsPop 30 = .ok (.invokevirtual 184, 3) := by decide +kernel
theorem dX7_readsPop_33 : decode cX7_readsPop 33 = .ok (.ifCond .ne 5, 3) := by decide +kernel
theorem dX7_readsPop_36 : decode cX7_readsPop 36 = .ok (.iconst 0, 1) := by decide +kernel
theorem dX7_readsPop_37 : decode cX7_readsPop 37 = .ok (.ireturn, 1) := by decide +kernel
theorem dX7_readsPop_38 : decode cX7_readsPop 38 = .ok (.aload_n 0, 1) := by decide +kernel
theorem dX7_readsPop_39 : decode cX7_readsPop 39 = .ok (.invokevirtual 65, 3) := by decide +kernel
theorem dX7_readsPop_42 : decode cX7_readsPop 42 = .ok (.aload_n 0, 1) := by decide +kernel
theorem dX7_readsPop_43 : decode cX7_readsPop 43 = .ok (.getfield 176, 3) := by decide +kernel
theorem dX7_readsPop_46 : decode cX7_readsPop 46 = .ok (.iadd, 1) := by decide +kernel
theorem dX7_readsPop_47 : decode cX7_readsPop 47 = .ok (.bipush 64, 2) := by decide +kernel
theorem dX7_readsPop_49 : decode cX7_readsPop 49 = .ok (.if_icmp .le 14, 3) := by decide +kernel
theorem dX7_readsPop_52 : decode cX7_readsPop 52 = .ok (.aload_n 0, 1) := by decide +kernel
theorem dX7_readsPop_53 : decode cX7_readsPop 53 = .ok (.bipush (-4), 2) := by decide +kernel
theorem dX7_readsPop_55 : decode cX7_readsPop 55 = .ok (.aload_n 0, 1) := by decide +kernel
theorem dX7_readsPop_56 : decode cX7_readsPop 56 = .ok (.getfield 173, 3) := by decide +kernel
theorem dX7_readsPop_59 : decode cX7_readsPop 59 = .ok (.invokevirtual 166, 3) := by decide +kernel
theorem dX7_readsPop_62 : decode cX7_readsPop 62 = .ok (.ireturn, 1) := by decide +kernel
theorem dX7_readsPop_63 : decode cX7_readsPop 63 = .ok (.aload_n 0, 1) := by decide +kernel
theorem dX7_readsPop_64 : decode cX7_readsPop 64 = .ok (.getfield 176, 3) := by decide +kernel
theorem dX7_readsPop_67 : decode cX7_readsPop 67 = .ok (.aload_n 0, 1) := by decide +kernel
theorem dX7_readsPop_68 : decode cX7_readsPop 68 = .ok (.iload_n 1, 1) := by decide +kernel
theorem dX7_readsPop_69 : decode cX7_readsPop 69 = .ok (.invokevirtual 128, 3) := by decide +kernel
theorem dX7_readsPop_72 : decode cX7_readsPop 72 = .ok (.if_icmp .le 14, 3) := by decide +kernel
theorem dX7_readsPop_75 : decode cX7_readsPop 75 = .ok (.aload_n 0, 1) := by decide +kernel
theorem dX7_readsPop_76 : decode cX7_readsPop 76 = .ok (.bipush (-5), 2) := by decide +kernel
theorem dX7_readsPop_78 : decode cX7_readsPop 78 = .ok (.aload_n 0, 1) := by decide +kernel
theorem dX7_readsPop_79 : decode cX7_readsPop 79 = .ok (.getfield 173, 3) := by decide +kernel
theorem dX7_readsPop_82 : decode cX7_readsPop 82 = .ok (.invokevirtual 166, 3) := by decide +kernel
theorem dX7_readsPop_85 : decode cX7_readsPop 85 = .ok (.ireturn, 1) := by decide +kernel
theorem dX7_readsPop_86 : decode cX7_readsPop 86 = .ok (.aload_n 0, 1) := by decide +kernel
theorem dX7_readsPop_87 : decode cX7_readsPop 87 = .ok (.getfield 176, 3) := by decide +kernel
theorem dX7_readsPop_90 : decode cX7_readsPop 90 = .ok (.istore_n 2, 1) := by decide +kernel
theorem dX7_readsPop_91 : decode cX7_readsPop 91 = .ok (.iload_n 2, 1) := by decide +kernel
theorem dX7_readsPop_92 : decode cX7_readsPop 92 = .ok (.ifCond .le 16, 3) := by decide +kernel
theorem dX7_readsPop_95 : decode cX7_readsPop 95 = .ok (.aload_n 0, 1) := by decide +kernel
theorem dX7_readsPop_96 : decode cX7_readsPop 96 = .ok (.iload_n 1, 1) := by decide +kernel
theorem dX7_readsPop_97 : decode cX7_readsPop 97 = .ok (.iconst (-1), 1) := by decide +kernel
theorem dX7_readsPop_98 : decode cX7_readsPop 98 = .ok (.invokevirtual 187, 3) := by decide +kernel
theorem dX7_readsPop_101 : decode cX7_readsPop 101 = .ok (.istore_n 1, 1) := by decide +kernel
theorem dX7_readsPop_102 : decode cX7_readsPop 102 = .ok (.iinc 2 (-1), 3) := by decide +kernel
theorem dX7_readsPop_105 : decode cX7_readsPop 105 = .ok (.goto (-14), 3) := by decide +kernel
theorem dX7_readsPop_108 : decode cX7_readsPop 108 = .ok (.iconst 1, 1) := by decide +kernel
theorem dX7_readsPop_109 : decode cX7_readsPop 109 = .ok (.ireturn, 1) := by decide +kernel
theorem dX7_readsPace_0 : decode cX7_readsPace 0 = .ok (.aload_n 0, 1) := by decide +kernel
theorem dX7_readsPace_1 : decode cX7_readsPace 1 = .ok (.getfield 180, 3) := by decide +kernel
theorem dX7_readsPace_4 : decode cX7_readsPace 4 = .ok (.ifCond .ne 11, 3) := by decide +kernel
theorem dX7_readsPace_7 : decode cX7_readsPace 7 = .ok (.aload_n 0, 1) := by decide +kernel
theorem dX7_readsPace_8 : decode cX7_readsPace 8 = .ok (.bipush (-2), 2) := by decide +kernel
theorem dX7_readsPace_10 : decode cX7_readsPace 10 = .ok (.iload_n 1, 1) := by decide +kernel
theorem dX7_readsPace_11 : decode cX7_readsPace 11 = .ok (.invokevirtual 166, 3) := by decide +kernel
theorem dX7_readsPace_14 : decode cX7_readsPace 14 = .ok (.ireturn, 1) := by decide +kernel
theorem dX7_readsPace_15 : decode cX7_readsPace 15 = .ok (.aload_n 0, 1) := by decide +kernel
theorem dX7_readsPace_16 : decode cX7_readsPace 16 = .ok (.iconst 0, 1) := by decide +kernel
theorem dX7_readsPace_17 : decode cX7_readsPace 17 = .ok (.putfield 180, 3) := by decide +kernel
theorem dX7_readsPace_20 : decode cX7_readsPace 20 = .ok (.aload_n 0, 1) := by decide +kernel
theorem dX7_readsPace_21 : decode cX7_readsPace 21 = .ok (.iconst 2, 1) := by decide +kernel
theorem dX7_readsPace_22 : decode cX7_readsPace 22 = .ok (.iconst 4, 1) := by decide +kernel
theorem dX7_readsPace_23 : decode cX7_readsPace 23 = .ok (.invokevirtual 184, 3) := by decide +kernel
theorem dX7_readsPace_26 : decode cX7_readsPace 26 = .ok (.ifCond .ne 5, 3) := by decide +kernel
theorem dX7_readsPace_29 : decode cX7_readsPace 29 = .ok (.iconst 0, 1) := by decide +kernel
theorem dX7_readsPace_30 : decode cX7_readsPace 30 = .ok (.ireturn, 1) := by decide +kernel
theorem dX7_readsPace_31 : decode cX7_readsPace 31 = .ok (.aload_n 0, 1) := by decide +kernel
theorem dX7_readsPace_32 : decode cX7_readsPace 32 = .ok (.iconst 1, 1) := by decide +kernel
theorem dX7_readsPace_33 : decode cX7_readsPace 33 = .ok (.aload_n 0, 1) := by decide +kernel
theorem dX7_readsPace_34 : decode cX7_readsPace 34 = .ok (.getfield 176, 3) := by decide +kernel
theorem dX7_readsPace_37 : decode cX7_readsPace 37 = .ok (.invokevirtual 54, 3) := by decide +kernel
theorem dX7_readsPace_40 : decode cX7_readsPace 40 = .ok (.iconst 1, 1) := by decide +kernel
theorem dX7_readsPace_41 : decode cX7_readsPace 41 = .ok (.ireturn, 1) := by decide +kernel
theorem dX7_readsText_0 : decode cX7_readsText 0 = .ok (.aload_n 0, 1) := by decide +kernel
theorem dX7_readsText_1 : decode cX7_readsText 1 = .ok (.ldc 190, 2) := by decide +kernel
theorem dX7_readsText_3 : decode cX7_readsText 3 = .ok (.invokevirtual 192, 3) := by decide +kernel
theorem dX7_readsText_6 : decode cX7_readsText 6 = .ok (.ifCond .ne 14, 3) := by decide +kernel
theorem dX7_readsText_9 : decode cX7_readsText 9 = .ok (.aload_n 0, 1) := by decide +kernel
theorem dX7_readsText_10 : decode cX7_readsText 10 = .ok (.bipush (-2), 2) := by decide +kernel
theorem dX7_readsText_12 : decode cX7_readsText 12 = .ok (.aload_n 0, 1) := by decide +kernel
theorem dX7_readsText_13 : decode cX7_readsText 13 = .ok (.getfield 146, 3) := by decide +kernel
theorem dX7_readsText_16 : decode cX7_readsText 16 = .ok (.invokevirtual 166, 3) := by decide +kernel
theorem dX7_readsText_19 : decode cX7_readsText 19 = .ok (.ireturn, 1) := by decide +kernel
theorem dX7_readsText_20 : decode cX7_readsText 20 = .ok (.aload_n 0, 1) := by decide +kernel
theorem dX7_readsText_21 : decode cX7_readsText 21 = .ok (.invokevirtual 41, 3) := by decide +kernel
theorem dX7_readsText_24 : decode cX7_readsText 24 = .ok (.aload_n 0, 1) := by decide +kernel
theorem dX7_readsText_25 : decode cX7_readsText 25 = .ok (.iconst 1, 1) := by decide +kernel
theorem dX7_readsText_26 : decode cX7_readsText 26 = .ok (.putfield 180, 3) := by decide +kernel
theorem dX7_readsText_29 : decode cX7_readsText 29 = .ok (.aload_n 0, 1) := by decide +kernel
theorem dX7_readsText_30 : decode cX7_readsText 30 = .ok (.bipush 59, 2) := by decide +kernel
theorem dX7_readsText_32 : decode cX7_readsText 32 = .ok (.invokevirtual 196, 3) := by decide +kernel
theorem dX7_readsText_35 : decode cX7_readsText 35 = .ok (.ifCond .ne 5, 3) := by decide +kernel
theorem dX7_readsText_38 : decode cX7_readsText 38 = .ok (.iconst 0, 1) := by decide +kernel
theorem dX7_readsText_39 : decode cX7_readsText 39 = .ok (.ireturn, 1) := by decide +kernel
theorem dX7_readsText_40 : decode cX7_readsText 40 = .ok (.aload_n 0, 1) := by decide +kernel
theorem dX7_readsText_41 : decode cX7_readsText 41 = .ok (.invokevirtual 151, 3) := by decide +kernel
theorem dX7_readsText_44 : decode cX7_readsText 44 = .ok (.iconst (-1), 1) := by decide +kernel
theorem dX7_readsText_45 : decode cX7_readsText 45 = .ok (.if_icmp .eq 83, 3) := by decide +kernel
theorem dX7_readsText_48 : decode cX7_readsText 48 = .ok (.aload_n 0, 1) := by decide +kernel
theorem dX7_readsText_49 : decode cX7_readsText 49 = .ok (.getfield 146, 3) := by decide +kernel
theorem dX7_readsText_52 : decode cX7_readsText 52 = .ok (.istore_n 1, 1) := by decide +kernel
theorem dX7_readsText_53 : decode cX7_readsText 53 = .ok (.aload_n 0, 1) := by decide +kernel
theorem dX7_readsText_54 : decode cX7_readsText 54 = .ok (.ldc 199, 2) := by decide +kernel
theorem dX7_readsText_56 : decode cX7_readsText 56 = .ok (.invokevirtual 192, 3) := by decide +kernel
theorem dX7_readsText_59 : decode cX7_readsText 59 = .ok (.ifCond .eq 10, 3) := by decide +kernel
theorem dX7_readsText_62 : decode cX7_readsText 62 = .ok (.aload_n 0, 1) := by decide +kernel
theorem dX7_readsText_63 : decode cX7_readsText 63 = .ok (.invokevirtual 201, 3) := by decide +kernel
theorem dX7_readsText_66 : decode cX7_readsText 66 = .ok (.goto 43, 3) := by decide +kernel
theorem dX7_readsText_69 : decode cX7_readsText 69 = .ok (.aload_n 0, 1) := by decide +kernel
theorem dX7_readsText_70 : decode cX7_readsText 70 = .ok (.ldc 204, 2) := by decide +kernel
theorem dX7_readsText_72 : decode cX7_readsText 72 = .ok (.invokevirtual 192, 3) := by decide +kernel
theorem dX7_readsText_75 : decode cX7_readsText 75 = .ok (.ifCond .eq 10, 3) := by decide +kernel
theorem dX7_readsText_78 : decode cX7_readsText 78 = .ok (.aload_n 0, 1) := by decide +kernel
theorem dX7_readsText_79 : decode cX7_readsText 79 = .ok (.invokevirtual 206, 3) := by decide +kernel
theorem dX7_readsText_82 : decode cX7_readsText 82 = .ok (.goto 27, 3) := by decide +kernel
theorem dX7_readsText_85 : decode cX7_readsText 85 = .ok (.aload_n 0, 1) := by decide +kernel
theorem dX7_readsText_86 : decode cX7_readsText 86 = .ok (.ldc 209, 2) := by decide +kernel
theorem dX7_readsText_88 : decode cX7_readsText 88 = .ok (.invokevirtual 192, 3) := by decide +kernel
theorem dX7_readsText_91 : decode cX7_readsText 91 = .ok (.ifCond .eq 11, 3) := by decide +kernel
theorem dX7_readsText_94 : decode cX7_readsText 94 = .ok (.aload_n 0, 1) := by decide +kernel
theorem dX7_readsText_95 : decode cX7_readsText 95 = .ok (.iload_n 1, 1) := by decide +kernel
theorem dX7_readsText_96 : decode cX7_readsText 96 = .ok (.invokevirtual 211, 3) := by decide +kernel
theorem dX7_readsText_99 : decode cX7_readsText 99 = .ok (.goto 10, 3) := by decide +kernel
theorem dX7_readsText_102 : decode cX7_readsText 102 = .ok (.aload_n 0, 1) := by decide +kernel
theorem dX7_readsText_103 : decode cX7_readsText 103 = .ok (.bipush (-2), 2) := by decide +kernel
theorem dX7_readsText_105 : decode cX7_readsText 105 = .ok (.iload_n 1, 1) := by decide +kernel
theorem dX7_readsText_106 : decode cX7_readsText 106 = .ok (.invokevirtual 166, 3) := by decide +kernel
theorem dX7_readsText_109 : decode cX7_readsText 109 = .ok (.istore_n 2, 1) := by decide +kernel
theorem dX7_readsText_110 : decode cX7_readsText 110 = .ok (.iload_n 2, 1) := by decide +kernel
theorem dX7_readsText_111 : decode cX7_readsText 111 = .ok (.ifCond .eq 12, 3) := by decide +kernel
theorem dX7_readsText_114 : decode cX7_readsText 114 = .ok (.aload_n 0, 1) := by decide +kernel
theorem dX7_readsText_115 : decode cX7_readsText 115 = .ok (.bipush 59, 2) := by decide +kernel
theorem dX7_readsText_117 : decode cX7_readsText 117 = .ok (.invokevirtual 196, 3) := by decide +kernel
theorem dX7_readsText_120 : decode cX7_readsText 120 = .ok (.ifCond .ne 5, 3) := by decide +kernel
theorem dX7_readsText_123 : decode cX7_readsText 123 = .ok (.iconst 0, 1) := by decide +kernel
theorem dX7_readsText_124 : decode cX7_readsText 124 = .ok (.ireturn, 1) := by decide +kernel
theorem dX7_readsText_125 : decode cX7_readsText 125 = .ok (.goto (-85), 3) := by decide +kernel
theorem dX7_readsText_128 : decode cX7_readsText 128 = .ok (.iconst 1, 1) := by decide +kernel
theorem dX7_readsText_129 : decode cX7_readsText 129 = .ok (.ireturn, 1) := by decide +kernel
theorem dX7_load_0 : decode cX7_load 0 = .ok (.aload_n 0, 1) := by decide +kernel
theorem dX7_load_1 : decode cX7_load 1 = .ok (.iconst 0, 1) := by decide +kernel
theorem dX7_load_2 : decode cX7_load 2 = .ok (.putfield 44, 3) := by decide +kernel
theorem dX7_load_5 : decode cX7_load 5 = .ok (.aload_n 0, 1) := by decide +kernel
theorem dX7_load_6 : decode cX7_load 6 = .ok (.iload_n 1, 1) := by decide +kernel
theorem dX7_load_7 : decode cX7_load 7 = .ok (.iconst 0, 1) := by decide +kernel
theorem dX7_load_8 : decode cX7_load 8 = .ok (.aload_n 0, 1) := by decide +kernel
theorem dX7_load_9 : decode cX7_load 9 = .ok (.getfield 137, 3) := by decide +kernel
theorem dX7_load_12 : decode cX7_load 12 = .ok (.invokestatic 69, 3) := by decide +kernel
theorem dX7_load_15 : decode cX7_load 15 = .ok (.iconst 1, 1) := by decide +kernel
theorem dX7_load_16 : decode cX7_load 16 = .ok (.invokevirtual 214, 3) := by decide +kernel
theorem dX7_load_19 : decode cX7_load 19 = .ok (.ifCond .ne 5, 3) := by decide +kernel
theorem dX7_load_22 : decode cX7_load 22 = .ok (.iconst 0, 1) := by decide +kernel
theorem dX7_load_23 : decode cX7_load 23 = .ok (.ireturn, 1) := by decide +kernel
theorem dX7_load_24 : decode cX7_load 24 = .ok (.aload_n 0, 1) := by decide +kernel
theorem dX7_load_25 : decode cX7_load 25 = .ok (.iload_n 1, 1) := by decide +kernel
theorem dX7_load_26 : decode cX7_load 26 = .ok (.putfield 149, 3) := by decide +kernel
theorem dX7_load_29 : decode cX7_load 29 = .ok (.aload_n 0, 1) := by decide +kernel
theorem dX7_load_30 : decode cX7_load 30 = .ok (.iconst 0, 1) := by decide +kernel
theorem dX7_load_31 : decode cX7_load 31 = .ok (.putfield 146, 3) := by decide +kernel
theorem dX7_load_34 : decode cX7_load 34 = .ok (.aload_n 0, 1) := by decide +kernel
theorem dX7_load_35 : decode cX7_load 35 = .ok (.iconst 0, 1) := by decide +kernel
theorem dX7_load_36 : decode cX7_load 36 = .ok (.putfield 137, 3) := by decide +kernel
theorem dX7_load_39 : decode cX7_load 39 = .ok (.aload_n 0, 1) := by decide +kernel
theorem dX7_load_40 : decode cX7_load 40 = .ok (.iconst 0, 1) := by decide +kernel
theorem dX7_load_41 : decode cX7_load 41 = .ok (.putfield 143, 3) := by decide +kernel
theorem dX7_load_44 : decode cX7_load 44 = .ok (.aload_n 0, 1) := by decide +kernel
theorem dX7_load_45 : decode cX7_load 45 = .ok (.iconst (-1), 1) := by decide +kernel
theorem dX7_load_46 : decode cX7_load 46 = .ok (.putfield 37, 3) := by decide +kernel
theorem dX7_load_49 : decode cX7_load 49 = .ok (.iconst 0, 1) := by decide +kernel
theorem dX7_load_50 : decode cX7_load 50 = .ok (.istore_n 2, 1) := by decide +kernel
theorem dX7_load_51 : decode cX7_load 51 = .ok (.iload_n 2, 1) := by decide +kernel
theorem dX7_load_52 : decode cX7_load 52 = .ok (.sipush 330, 3) := by decide +kernel
theorem dX7_load_55 : decode cX7_load 55 = .ok (.if_icmp .ge 20, 3) := by decide +kernel
theorem dX7_load_58 : decode cX7_load 58 = .ok (.aload_n 0, 1) := by decide +kernel
theorem dX7_load_59 : decode cX7_load 59 = .ok (.getfield 13, 3) := by decide +kernel
theorem dX7_load_62 : decode cX7_load 62 = .ok (.iload_n 2, 1) := by decide +kernel
theorem dX7_load_63 : decode cX7_load 63 = .ok (.aload_n 0, 1) := by decide +kernel
theorem dX7_load_64 : decode cX7_load 64 = .ok (.iload_n 2, 1) := by decide +kernel
theorem dX7_load_65 : decode cX7_load 65 = .ok (.invokevirtual 50, 3) := by decide +kernel
theorem dX7_load_68 : decode cX7_load 68 = .ok (.iastore, 1) := by decide +kernel
theorem dX7_load_69 : decode cX7_load 69 = .ok (.iinc 2 1, 3) := by decide +kernel
theorem dX7_load_72 : decode cX7_load 72 = .ok (.goto (-21), 3) := by decide +kernel
theorem dX7_load_75 : decode cX7_load 75 = .ok (.aload_n 0, 1) := by decide +kernel
theorem dX7_load_76 : decode cX7_load 76 = .ok (.invokevirtual 218, 3) := by decide +kernel
theorem dX7_load_79 : decode cX7_load 79 = .ok (.istore_n 2, 1) := by decide +kernel
theorem dX7_load_80 : decode cX7_load 80 = .ok (.aload_n 0, 1) := by decide +kernel
theorem dX7_load_81 : decode cX7_load 81 = .ok (.getfield 47, 3) := by decide +kernel
theorem dX7_load_84 : decode cX7_load 84 = .ok (.iconst 1, 1) := by decide +kernel
theorem dX7_load_85 : decode cX7_load 85 = .ok (.iadd, 1) := by decide +kernel
theorem dX7_load_86 : decode cX7_load 86 = .ok (.bipush 9, 2) := by decide +kernel
theorem dX7_load_88 : decode cX7_load 88 = .ok (.irem, 1) := by decide +kernel
theorem dX7_load_89 : decode cX7_load 89 = .ok (.istore_n 3, 1) := by decide +kernel
theorem dX7_load_90 : decode cX7_load 90 = .ok (.iconst 0, 1) := by decide +kernel
theorem dX7_load_91 : decode cX7_load 91 = .ok (.istore 4, 2) := by decide +kernel
theorem dX7_load_93 : decode cX7_load 93 = .ok (.iload 4, 2) := by decide +kernel
theorem dX7_load_95 : decode cX7_load 95 = .ok (.sipush 330, 3) := by decide +kernel
theorem dX7_load_98 : decode cX7_load 98 = .ok (.if_icmp .ge 45, 3) := by decide +kernel
theorem dX7_load_101 : decode cX7_load 101 = .ok (.iload_n 2, 1) := by decide +kernel
theorem dX7_load_102 : decode cX7_load 102 = .ok (.ifCond .eq 22, 3) := by decide +kernel
theorem dX7_load_105 : decode cX7_load 105 = .ok (.aload_n 0, 1) := by decide +kernel
theorem dX7_load_106 : decode cX7_load 106 = .ok (.getfield 7, 3) := by decide +kernel
theorem dX7_load_109 : decode cX7_load 109 = .ok (.sipush 330, 3) := by decide +kernel
theorem dX7_load_112 : decode cX7_load 112 = .ok (.iload_n 3, 1) := by decide +kernel
theorem dX7_load_113 : decode cX7_load 113 = .ok (.imul, 1) := by decide +kernel
theorem dX7_load_114 : decode cX7_load 114 = .ok (.iload 4, 2) := by decide +kernel
theorem dX7_load_116 : decode cX7_load 116 = .ok (.iadd, 1) := by decide +kernel
theorem dX7_load_117 : decode cX7_load 117 = .ok (.aload_n 0, 1) := by decide +kernel
theorem dX7_load_118 : decode cX7_load 118 = .ok (.iload 4, 2) := by decide +kernel
theorem dX7_load_120 : decode cX7_load 120 = .ok (.invokevirtual 50, 3) := by decide +kernel
theorem dX7_load_123 : decode cX7_load 123 = .ok (.iastore, 1) := by decide +kernel
theorem dX7_load_124 : decode cX7_load 124 = .ok (.aload_n 0, 1) := by decide +kernel
theorem dX7_load_125 : decode cX7_load 125 = .ok (.iload 4, 2) := by decide +kernel
theorem dX7_load_127 : decode cX7_load 127 = .ok (.aload_n 0, 1) := by decide +kernel
theorem dX7_load_128 : decode cX7_load 128 = .ok (.getfield 13, 3) := by decide +kernel
theorem dX7_load_131 : decode cX7_load 131 = .ok (.iload 4, 2) := by decide +kernel
theorem dX7_load_133 : decode cX7_load 133 = .ok (.iaload, 1) := by decide +kernel
theorem dX7_load_134 : decode cX7_load 134 = .ok (.invokevirtual 54, 3) := by decide +kernel
theorem dX7_load_137 : decode cX7_load 137 = .ok (.iinc 4 1, 3) := by decide +kernel
theorem dX7_load_140 : decode cX7_load 140 = .ok (.goto (-47), 3) := by decide +kernel
theorem dX7_load_143 : decode cX7_load 143 = .ok (.iload_n 2, 1) := by decide +kernel
theorem dX7_load_144 : decode cX7_load 144 = .ok (.ifCond .ne 8, 3) := by decide +kernel
theorem dX7_load_147 : decode cX7_load 147 = .ok (.aload_n 0, 1) := by decide +kernel
theorem dX7_load_148 : decode cX7_load 148 = .ok (.getfield 143, 3) := by decide +kernel
theorem dX7_load_151 : decode cX7_load 151 = .ok (.ireturn, 1) := by decide +kernel
theorem dX7_load_152 : decode cX7_load 152 = .ok (.aload_n 0, 1) := by decide +kernel
theorem dX7_load_153 : decode cX7_load 153 = .ok (.iload_n 3, 1) := by decide +kernel
theorem dX7_load_154 : decode cX7_load 154 = .ok (.putfield 47, 3) := by decide +kernel
theorem dX7_load_157 : decode cX7_load 157 = .ok (.aload_n 0, 1) := by decide +kernel
theorem dX7_load_158 : decode cX7_load 158 = .ok (.aload_n 0, 1) := by decide +kernel
theorem dX7_load_159 : decode cX7_load 159 = .ok (.getfield 58, 3) := by decide +kernel
theorem dX7_load_162 : decode cX7_load 162 = .ok (.bipush 8, 2) := by decide +kernel
theorem dX7_load_164 : decode cX7_load 164 = .ok (.if_icmp .ge 12, 3) := by decide +kernel
theorem dX7_load_167 : decode cX7_load 167 = .ok (.aload_n 0, 1) := by decide +kernel
theorem dX7_load_168 : decode cX7_load 168 = .ok (.getfield 58, 3) := by decide +kernel
theorem dX7_load_171 : decode cX7_load 171 = .ok (.iconst 1, 1) := by decide +kernel
theorem dX7_load_172 : decode cX7_load 172 = .ok (.iadd, 1) := by decide +kernel
theorem dX7_load_173 : decode cX7_load 173 = .ok (.goto 7, 3) := by decide +kernel
theorem dX7_load_176 : decode cX7_load 176 = .ok (.aload_n 0, 1) := by decide +kernel
theorem dX7_load_177 : decode cX7_load 177 = .ok (.getfield 58, 3) := by decide +kernel
theorem dX7_load_180 : decode cX7_load 180 = .ok (.putfield 58, 3) := by decide +kernel
theorem dX7_load_183 : decode cX7_load 183 = .ok (.aload_n 0, 1) := by decide +kernel
theorem dX7_load_184 : decode cX7_load 184 = .ok (.invokevirtual 65, 3) := by decide +kernel
theorem dX7_load_187 : decode cX7_load 187 = .ok (.ireturn, 1) := by decide +kernel
theorem dX7_allOf_0 : decode cX7_allOf 0 = .ok (.iconst 0, 1) := by decide +kernel
theorem dX7_allOf_1 : decode cX7_allOf 1 = .ok (.istore_n 2, 1) := by decide +kernel
theorem dX7_allOf_2 : decode cX7_allOf 2 = .ok (.iconst 0, 1) := by decide +kernel
theorem dX7_allOf_3 : decode cX7_allOf 3 = .ok (.istore_n 3, 1) := by decide +kernel
theorem dX7_allOf_4 : decode cX7_allOf 4 = .ok (.iload_n 3, 1) := by decide +kernel
theorem dX7_allOf_5 : decode cX7_allOf 5 = .ok (.aload_n 0, 1) := by decide +kernel
theorem dX7_allOf_6 : decode cX7_allOf 6 = .ok (.invokevirtual 65, 3) := by decide +kernel
theorem dX7_allOf_9 : decode cX7_allOf 9 = .ok (.if_icmp .ge 123, 3) := by decide +kernel
theorem dX7_allOf_12 : decode cX7_allOf 12 = .ok (.iload_n 1, 1) := by decide +kernel
theorem dX7_allOf_13 : decode cX7_allOf 13 = .ok (.iconst 2, 1) := by decide +kernel
theorem dX7_allOf_14 : decode cX7_allOf 14 = .ok (.if_icmp .ne 19, 3) := by decide +kernel
theorem dX7_allOf_17 : decode cX7_allOf 17 = .ok (.aload_n 0, 1) := by decide +kernel
theorem dX7_allOf_18 : decode cX7_allOf 18 = .ok (.iload_n 3, 1) := by decide +kernel
theorem dX7_allOf_19 : decode cX7_allOf 19 = .ok (.invokevirtual 221, 3) := by decide +kernel
theorem dX7_allOf_22 : decode cX7_allOf 22 = .ok (.ifCond .ne 7, 3) := by decide +kernel
theorem dX7_allOf_25 : decode cX7_allOf 25 = .ok (.iconst 1, 1) := by decide +kernel
theorem dX7_allOf_26 : decode cX7_allOf 26 = .ok (.goto 49, 3) := by decide +kernel
theorem dX7_allOf_29 : decode cX7_allOf 29 = .ok (.iconst 0, 1) := by decide +kernel
theorem dX7_allOf_30 : decode cX7_allOf 30 = .ok (.goto 45, 3) := by decide +kernel
theorem dX7_allOf_33 : decode cX7_allOf 33 = .ok (.iload_n 1, 1) := by decide +kernel
theorem dX7_allOf_34 : decode cX7_allOf 34 = .ok (.iconst 4, 1) := by decide +kernel
theorem dX7_allOf_35 : decode cX7_allOf 35 = .ok (.if_icmp .ne 12, 3) := by decide +kernel
theorem dX7_allOf_38 : decode cX7_allOf 38 = .ok (.aload_n 0, 1) := by decide +kernel
theorem dX7_allOf_39 : decode cX7_allOf 39 = .ok (.iload_n 3, 1) := by decide +kernel
theorem dX7_allOf_40 : decode cX7_allOf 40 = .ok (.iconst 3, 1) := by decide +kernel
theorem dX7_allOf_41 : decode cX7_allOf 41 = .ok (.invokevirtual 105, 3) := by decide +kernel
theorem dX7_allOf_44 : decode cX7_allOf 44 = .ok (.goto 31, 3) := by decide +kernel
theorem dX7_allOf_47 : decode cX7_allOf 47 = .ok (.iload_n 1, 1) := by decide +kernel
theorem dX7_allOf_48 : decode cX7_allOf 48 = .ok (.bipush 7, 2) := by decide +kernel
theorem dX7_allOf_50 : decode cX7_allOf 50 = .ok (.if_icmp .ne 19, 3) := by decide +kernel
theorem dX7_allOf_53 : decode cX7_allOf 53 = .ok (.aload_n 0, 1) := by decide +kernel
theorem dX7_allOf_54 : decode cX7_allOf 54 = .ok (.iload_n 3, 1) := by decide +kernel
theorem dX7_allOf_55 : decode cX7_allOf 55 = .ok (.invokevirtual 128, 3) := by decide +kernel
theorem dX7_allOf_58 : decode cX7_allOf 58 = .ok (.ifCond .ne 7, 3) := by decide +kernel
theorem dX7_allOf_61 : decode cX7_allOf 61 = .ok (.iconst 1, 1) := by decide +kernel
theorem dX7_allOf_62 : decode cX7_allOf 62 = .ok (.goto 13, 3) := by decide +kernel
theorem dX7_allOf_65 : decode cX7_allOf 65 = .ok (.iconst 0, 1) := by decide +kernel
theorem dX7_allOf_66 : decode cX7_allOf 66 = .ok (.goto 9, 3) := by decide +kernel
theorem dX7_allOf_69 : decode cX7_allOf 69 = .ok (.aload_n 0, 1) := by decide +kernel
theorem dX7_allOf_70 : decode cX7_allOf 70 = .ok (.iload_n 3, 1) := by decide +kernel
theorem dX7_allOf_71 : decode cX7_allOf 71 = .ok (.iconst 4, 1) := by decide +kernel
theorem dX7_allOf_72 : decode cX7_allOf 72 = .ok (.invokevirtual 105, 3) := by decide +kernel
theorem dX7_allOf_75 : decode cX7_allOf 75 = .ok (.istore 4, 2) := by decide +kernel
theorem dX7_allOf_77 : decode cX7_allOf 77 = .ok (.iload_n 1, 1) := by decide +kernel
theorem dX7_allOf_78 : decode cX7_allOf 78 = .ok (.iconst 3, 1) := by decide +kernel
theorem dX7_allOf_79 : decode cX7_allOf 79 = .ok (.if_icmp .ne 22, 3) := by decide +kernel
theorem dX7_allOf_82 : decode cX7_allOf 82 = .ok (.aload_n 0, 1) := by decide +kernel
theorem dX7_allOf_83 : decode cX7_allOf 83 = .ok (.iload_n 3, 1) := by decide +kernel
theorem dX7_allOf_84 : decode cX7_allOf 84 = .ok (.invokevirtual 131, 3) := by decide +kernel
theorem dX7_allOf_87 : decode cX7_allOf 87 = .ok (.aload_n 0, 1) := by decide +kernel
theorem dX7_allOf_88 : decode cX7_allOf 88 = .ok (.getfield 79, 3) := by decide +kernel
theorem dX7_allOf_91 : decode cX7_allOf 91 = .ok (.ifCond .eq 7, 3) := by decide +kernel
theorem dX7_allOf_94 : decode cX7_allOf 94 = .ok (.iconst 1, 1) := by decide +kernel
theorem dX7_allOf_95 : decode cX7_allOf 95 = .ok (.goto 4, 3) := by decide +kernel
theorem dX7_allOf_98 : decode cX7_allOf 98 = .ok (.iconst 0, 1) := by decide +kernel
theorem dX7_allOf_99 : decode cX7_allOf 99 = .ok (.istore 4, 2) := by decide +kernel
theorem dX7_allOf_101 : decode cX7_allOf 101 = .ok (.iload_n 1, 1) := by decide +kernel
theorem dX7_allOf_102 : decode cX7_allOf 102 = .ok (.iconst 4, 1) := by decide +kernel
theorem dX7_allOf_103 : decode cX7_allOf 103 = .ok (.if_icmp .eq 9, 3) := by decide +kernel
theorem dX7_allOf_106 : decode cX7_allOf 106 = .ok (.iload_n 1, 1) := by decide +kernel
theorem dX7_allOf_107 : decode cX7_allOf 107 = .ok (.bipush 6, 2) := by decide +kernel
theorem dX7_allOf_109 : decode cX7_allOf 109 = .ok (.if_icmp .ne 12, 3) := by decide +kernel
theorem dX7_allOf_112 : decode cX7_allOf 112 = .ok (.iload_n 2, 1) := by decide +kernel
theorem dX7_allOf_113 : decode cX7_allOf 113 = .ok (.iload 4, 2) := by decide +kernel
theorem dX7_allOf_115 : decode cX7_allOf 115 = .ok (.invokestatic 224, 3) := by decide +kernel
theorem dX7_allOf_118 : decode cX7_allOf 118 = .ok (.goto 7, 3) := by decide +kernel
theorem dX7_allOf_121 : decode cX7_allOf 121 = .ok (.iload_n 2, 1) := by decide +kernel
theorem dX7_allOf_122 : decode cX7_allOf 122 = .ok (.iload 4, 2) := by decide +kernel
theorem dX7_allOf_124 : decode cX7_allOf 124 = .ok (.iadd, 1) := by decide +kernel
theorem dX7_allOf_125 : decode cX7_allOf 125 = .ok (.istore_n 2, 1) := by decide +kernel
theorem dX7_allOf_126 : decode cX7_allOf 126 = .ok (.iinc 3 1, 3) := by decide +kernel
theorem dX7_allOf_129 : decode cX7_allOf 129 = .ok (.goto (-125), 3) := by decide +kernel
theorem dX7_allOf_132 : decode cX7_allOf 132 = .ok (.iload_n 2, 1) := by decide +kernel
theorem dX7_allOf_133 : decode cX7_allOf 133 = .ok (.ireturn, 1) := by decide +kernel
theorem dX7_toldOf_0 : decode cX7_toldOf 0 = .ok (.iload_n 1, 1) := by decide +kernel
theorem dX7_toldOf_1 : decode cX7_toldOf 1 = .ok (.iconst 2, 1) := by decide +kernel
theorem dX7_toldOf_2 : decode cX7_toldOf 2 = .ok (.if_icmp .ge 9, 3) := by decide +kernel
theorem dX7_toldOf_5 : decode cX7_toldOf 5 = .ok (.aload_n 0, 1) := by decide +kernel
theorem dX7_toldOf_6 : decode cX7_toldOf 6 = .ok (.iload_n 1, 1) := by decide +kernel
theorem dX7_toldOf_7 : decode cX7_toldOf 7 = .ok (.invokevirtual 50, 3) := by decide +kernel
theorem dX7_toldOf_10 : decode cX7_toldOf 10 = .ok (.ireturn, 1) := by decide +kernel
theorem dX7_toldOf_11 : decode cX7_toldOf 11 = .ok (.iload_n 1, 1) := by decide +kernel
theorem dX7_toldOf_12 : decode cX7_toldOf 12 = .ok (.bipush 8, 2) := by decide +kernel
theorem dX7_toldOf_14 : decode cX7_toldOf 14 = .ok (.if_icmp .ne 10, 3) := by decide +kernel
theorem dX7_toldOf_17 : decode cX7_toldOf 17 = .ok (.aload_n 0, 1) := by decide +kernel
theorem dX7_toldOf_18 : decode cX7_toldOf 18 = .ok (.getfield 58, 3) := by decide +kernel
theorem dX7_toldOf_21 : decode cX7_toldOf 21 = .ok (.goto 22, 3) := by decide +kernel
theorem dX7_toldOf_24 : decode cX7_toldOf 24 = .ok (.iload_n 1, 1) := by decide +kernel
theorem dX7_toldOf_25 : decode cX7_toldOf 25 = .ok (.bipush 9, 2) := by decide +kernel
theorem dX7_toldOf_27 : decode cX7_toldOf 27 = .ok (.if_icmp .ne 11, 3) := by decide +kernel
theorem dX7_toldOf_30 : decode cX7_toldOf 30 = .ok (.aload_n 0, 1) := by decide +kernel
theorem dX7_toldOf_31 : decode cX7_toldOf 31 = .ok (.iconst 2, 1) := by decide +kernel
theorem dX7_toldOf_32 : decode cX7_toldOf 32 = .ok (.invokevirtual 50, 3) := by decide +kernel
theorem dX7_toldOf_35 : decode cX7_toldOf 35 = .ok (.goto 8, 3) := by decide +kernel
theorem dX7_toldOf_38 : decode cX7_toldOf 38 = .ok (.aload_n 0, 1) := by decide +kernel
theorem dX7_toldOf_39 : decode cX7_toldOf 39 = .ok (.iload_n 1, 1) := by decide +kernel
theorem dX7_toldOf_40 : decode cX7_toldOf 40 = .ok (.invokevirtual 229, 3) := by decide +kernel
theorem dX7_toldOf_43 : decode cX7_toldOf 43 = .ok (.ireturn, 1) := by decide +kernel
theorem dX7_toldOfVersion_0 : decode cX7_toldOfVersion 0 = .ok (.aload_n 0, 1) := by decide +kernel
theorem dX7_toldOfVersion_1 : decode cX7_toldOfVersion 1 = .ok (.iload_n 1, 1) := by decide +kernel
theorem dX7_toldOfVersion_2 : decode cX7_toldOfVersion 2 = .ok (.invokevirtual 131, 3) := by decide +kernel
theorem dX7_toldOfVersion_5 : decode cX7_toldOfVersion 5 = .ok (.iload_n 2, 1) := by decide +kernel
theorem dX7_toldOfVersion_6 : decode cX7_toldOfVersion 6 = .ok (.tableswitch 118 0 9 #[54, 61, 68, 75, 85, 90, 95, 100, 105, 112], 54) := by decide +kernel
theorem dX7_toldOfVersion_60 : decode cX7_toldOfVersion 60 = .ok (.aload_n 0, 1) := by decide +kernel
theorem dX7_toldOfVersion_61 : decode cX7_toldOfVersion 61 = .ok (.iload_n 1, 1) := by decide +kernel
theorem dX7_toldOfVersion_62 : decode cX7_toldOfVersion 62 = .ok (.iconst 0, 1) := by decide +kernel
theorem dX7_toldOfVersion_63 : decode cX7_toldOfVersion 63 = .ok (.invokevirtual 105, 3) := by decide +kernel
theorem dX7_toldOfVersion_66 : decode cX7_toldOfVersion 66 = .ok (.ireturn, 1) := by decide +kernel
theorem dX7_toldOfVersion_67 : decode cX7_toldOfVersion 67 = .ok (.aload_n 0, 1) := by decide +kernel
theorem dX7_toldOfVersion_68 : decode cX7_toldOfVersion 68 = .ok (.iload_n 1, 1) := by decide +kernel
theorem dX7_toldOfVersion_69 : decode cX7_toldOfVersion 69 = .ok (.iconst 1, 1) := by decide +kernel
theorem dX7_toldOfVersion_70 : decode cX7_toldOfVersion 70 = .ok (.invokevirtual 105, 3) := by decide +kernel
theorem dX7_toldOfVersion_73 : decode cX7_toldOfVersion 73 = .ok (.ireturn, 1) := by decide +kernel
theorem dX7_toldOfVersion_74 : decode cX7_toldOfVersion 74 = .ok (.aload_n 0, 1) := by decide +kernel
theorem dX7_toldOfVersion_75 : decode cX7_toldOfVersion 75 = .ok (.iload_n 1, 1) := by decide +kernel
theorem dX7_toldOfVersion_76 : decode cX7_toldOfVersion 76 = .ok (.iconst 3, 1) := by decide +kernel
theorem dX7_toldOfVersion_77 : decode cX7_toldOfVersion 77 = .ok (.invokevirtual 105, 3) := by decide +kernel
theorem dX7_toldOfVersion_80 : decode cX7_toldOfVersion 80 = .ok (.ireturn, 1) := by decide +kernel
theorem dX7_toldOfVersion_81 : decode cX7_toldOfVersion 81 = .ok (.aload_n 0, 1) := by decide +kernel
theorem dX7_toldOfVersion_82 : decode cX7_toldOfVersion 82 = .ok (.getfield 73, 3) := by decide +kernel
theorem dX7_toldOfVersion_85 : decode cX7_toldOfVersion 85 = .ok (.aload_n 0, 1) := by decide +kernel
theorem dX7_toldOfVersion_86 : decode cX7_toldOfVersion 86 = .ok (.getfield 76, 3) := by decide +kernel
theorem dX7_toldOfVersion_89 : decode cX7_toldOfVersion 89 = .ok (.iadd, 1) := by decide +kernel
theorem dX7_toldOfVersion_90 : decode cX7_toldOfVersion 90 = .ok (.ireturn, 1) := by decide +kernel
theorem dX7_toldOfVersion_91 : decode cX7_toldOfVersion 91 = .ok (.aload_n 0, 1) := by decide +kernel
theorem dX7_toldOfVersion_92 : decode cX7_toldOfVersion 92 = .ok (.getfield 73, 3) := by decide +kernel
theorem dX7_toldOfVersion_95 : decode cX7_toldOfVersion 95 = .ok (.ireturn, 1) := by decide +kernel
theorem dX7_toldOfVersion_96 : decode cX7_toldOfVersion 96 = .ok (.aload_n 0, 1) := by decide +kernel
theorem dX7_toldOfVersion_97 : decode cX7_toldOfVersion 97 = .ok (.getfield 76, 3) := by decide +kernel
theorem dX7_toldOfVersion_100 : decode cX7_toldOfVersion 100 = .ok (.ireturn, 1) := by decide +kernel
theorem dX7_toldOfVersion_101 : decode cX7_toldOfVersion 101 = .ok (.aload_n 0, 1) := by decide +kernel
theorem dX7_toldOfVersion_102 : decode cX7_toldOfVersion 102 = .ok (.getfield 79, 3) := by decide +kernel
theorem dX7_toldOfVersion_105 : decode cX7_toldOfVersion 105 = .ok (.ireturn, 1) := by decide +kernel
theorem dX7_toldOfVersion_106 : decode cX7_toldOfVersion 106 = .ok (.aload_n 0, 1) := by decide +kernel
theorem dX7_toldOfVersion_107 : decode cX7_toldOfVersion 107 = .ok (.getfield 82, 3) := by decide +kernel
theorem dX7_toldOfVersion_110 : decode cX7_toldOfVersion 110 = .ok (.ireturn, 1) := by decide +kernel
theorem dX7_toldOfVersion_111 : decode cX7_toldOfVersion 111 = .ok (.aload_n 0, 1) := by decide +kernel
theorem dX7_toldOfVersion_112 : decode cX7_toldOfVersion 112 = .ok (.iload_n 1, 1) := by decide +kernel
theorem dX7_toldOfVersion_113 : decode cX7_toldOfVersion 113 = .ok (.iconst 4, 1) := by decide +kernel
theorem dX7_toldOfVersion_114 : decode cX7_toldOfVersion 114 = .ok (.invokevirtual 105, 3) := by decide +kernel
theorem dX7_toldOfVersion_117 : decode cX7_toldOfVersion 117 = .ok (.ireturn, 1) := by decide +kernel
theorem dX7_toldOfVersion_118 : decode cX7_toldOfVersion 118 = .ok (.aload_n 0, 1) := by decide +kernel
theorem dX7_toldOfVersion_119 : decode cX7_toldOfVersion 119 = .ok (.iload_n 1, 1) := by decide +kernel
theorem dX7_toldOfVersion_120 : decode cX7_toldOfVersion 120 = .ok (.invokevirtual 221, 3) := by decide +kernel
theorem dX7_toldOfVersion_123 : decode cX7_toldOfVersion 123 = .ok (.ireturn, 1) := by decide +kernel
theorem dX7_toldOfVersion_124 : decode cX7_toldOfVersion 124 = .ok (.aload_n 0, 1) := by decide +kernel
theorem dX7_toldOfVersion_125 : decode cX7_toldOfVersion 125 = .ok (.getfield 19, 3) := by decide +kernel
theorem dX7_toldOfVersion_128 : decode cX7_toldOfVersion 128 = .ok (.iconst 0, 1) := by decide +kernel
theorem dX7_toldOfVersion_129 : decode cX7_toldOfVersion 129 = .ok (.iaload, 1) := by decide +kernel
theorem dX7_toldOfVersion_130 : decode cX7_toldOfVersion 130 = .ok (.ireturn, 1) := by decide +kernel
theorem dX7_manyIn_0 : decode cX7_manyIn 0 = .ok (.aload_n 0, 1) := by decide +kernel
theorem dX7_manyIn_1 : decode cX7_manyIn 1 = .ok (.getfield 79, 3) := by decide +kernel
theorem dX7_manyIn_4 : decode cX7_manyIn 4 = .ok (.iconst 2, 1) := by decide +kernel
theorem dX7_manyIn_5 : decode cX7_manyIn 5 = .ok (.if_icmp .ne 17, 3) := by decide +kernel
theorem dX7_manyIn_8 : decode cX7_manyIn 8 = .ok (.iload_n 1, 1) := by decide +kernel
theorem dX7_manyIn_9 : decode cX7_manyIn 9 = .ok (.iconst 2, 1) := by decide +kernel
theorem dX7_manyIn_10 : decode cX7_manyIn 10 = .ok (.if_icmp .eq 8, 3) := by decide +kernel
theorem dX7_manyIn_13 : decode cX7_manyIn 13 = .ok (.iload_n 1, 1) := by decide +kernel
theorem dX7_manyIn_14 : decode cX7_manyIn 14 = .ok (.iconst 4, 1) := by decide +kernel
theorem dX7_manyIn_15 : decode cX7_manyIn 15 = .ok (.if_icmp .ne 7, 3) := by decide +kernel
theorem dX7_manyIn_18 : decode cX7_manyIn 18 = .ok (.iconst 0, 1) := by decide +kernel
theorem dX7_manyIn_19 : decode cX7_manyIn 19 = .ok (.goto 9, 3) := by decide +kernel
theorem dX7_manyIn_22 : decode cX7_manyIn 22 = .ok (.aload_n 0, 1) := by decide +kernel
theorem dX7_manyIn_23 : decode cX7_manyIn 23 = .ok (.getfield 19, 3) := by decide +kernel
theorem dX7_manyIn_26 : decode cX7_manyIn 26 = .ok (.iload_n 1, 1) := by decide +kernel
theorem dX7_manyIn_27 : decode cX7_manyIn 27 = .ok (.iaload, 1) := by decide +kernel
theorem dX7_manyIn_28 : decode cX7_manyIn 28 = .ok (.ireturn, 1) := by decide +kernel
theorem dX7_valueOf_0 : decode cX7_valueOf 0 = .ok (.iload_n 2, 1) := by decide +kernel
theorem dX7_valueOf_1 : decode cX7_valueOf 1 = .ok (.ifCond .ne 27, 3) := by decide +kernel
theorem dX7_valueOf_4 : decode cX7_valueOf 4 = .ok (.iload_n 3, 1) := by decide +kernel
theorem dX7_valueOf_5 : decode cX7_valueOf 5 = .ok (.ifCond .lt 21, 3) := by decide +kernel
theorem dX7_valueOf_8 : decode cX7_valueOf 8 = .ok (.iload_n 3, 1) := by decide +kernel
theorem dX7_valueOf_9 : decode cX7_valueOf 9 = .ok (.aload_n 0, 1) := by decide +kernel
theorem dX7_valueOf_10 : decode cX7_valueOf 10 = .ok (.iload_n 1, 1) := by decide +kernel
theorem dX7_valueOf_11 : decode cX7_valueOf 11 = .ok (.invokevirtual 128, 3) := by decide +kernel
theorem dX7_valueOf_14 : decode cX7_valueOf 14 = .ok (.if_icmp .ge 12, 3) := by decide +kernel
theorem dX7_valueOf_17 : decode cX7_valueOf 17 = .ok (.aload_n 0, 1) := by decide +kernel
theorem dX7_valueOf_18 : decode cX7_valueOf 18 = .ok (.getfield 25, 3) := by decide +kernel
theorem dX7_valueOf_21 : decode cX7_valueOf 21 = .ok (.iload_n 3, 1) := by decide +kernel
theorem dX7_valueOf_22 : decode cX7_valueOf 22 = .ok (.iaload, 1) := by decide +kernel
theorem dX7_valueOf_23 : decode cX7_valueOf 23 = .ok (.goto 4, 3) := by decide +kernel
theorem dX7_valueOf_26 : decode cX7_valueOf 26 = .ok (.iconst (-1), 1) := by decide +kernel
theorem dX7_valueOf_27 : decode cX7_valueOf 27 = .ok (.ireturn, 1) := by decide +kernel
theorem dX7_valueOf_28 : decode cX7_valueOf 28 = .ok (.aload_n 0, 1) := by decide +kernel
theorem dX7_valueOf_29 : decode cX7_valueOf 29 = .ok (.iload_n 1, 1) := by decide +kernel
theorem dX7_valueOf_30 : decode cX7_valueOf 30 = .ok (.invokevirtual 131, 3) := by decide +kernel
theorem dX7_valueOf_33 : decode cX7_valueOf 33 = .ok (.iload_n 3, 1) := by decide +kernel
theorem dX7_valueOf_34 : decode cX7_valueOf 34 = .ok (.iconst 0, 1) := by decide +kernel
theorem dX7_valueOf_35 : decode cX7_valueOf 35 = .ok (.aload_n 0, 1) := by decide +kernel
theorem dX7_valueOf_36 : decode cX7_valueOf 36 = .ok (.iload_n 2, 1) := by decide +kernel
theorem dX7_valueOf_37 : decode cX7_valueOf 37 = .ok (.iconst 1, 1) := by decide +kernel
theorem dX7_valueOf_38 : decode cX7_valueOf 38 = .ok (.isub, 1) := by decide +kernel
theorem dX7_valueOf_39 : decode cX7_valueOf 39 = .ok (.invokevirtual 232, 3) := by decide +kernel
theorem dX7_valueOf_42 : decode cX7_valueOf 42 = .ok (.iconst 1, 1) := by decide +kernel
theorem dX7_valueOf_43 : decode cX7_valueOf 43 = .ok (.isub, 1) := by decide +kernel
theorem dX7_valueOf_44 : decode cX7_valueOf 44 = .ok (.invokestatic 69, 3) := by decide +kernel
theorem dX7_valueOf_47 : decode cX7_valueOf 47 = .ok (.ifCond .eq 30, 3) := by decide +kernel
theorem dX7_valueOf_50 : decode cX7_valueOf 50 = .ok (.aload_n 0, 1) := by decide +kernel
theorem dX7_valueOf_51 : decode cX7_valueOf 51 = .ok (.getfield 16, 3) := by decide +kernel
theorem dX7_valueOf_54 : decode cX7_valueOf 54 = .ok (.bipush 64, 2) := by decide +kernel
theorem dX7_valueOf_56 : decode cX7_valueOf 56 = .ok (.iload_n 2, 1) := by decide +kernel
theorem dX7_valueOf_57 : decode cX7_valueOf 57 = .ok (.iconst 1, 1) := by decide +kernel
theorem dX7_valueOf_58 : decode cX7_valueOf 58 = .ok (.isub, 1) := by decide +kernel
theorem dX7_valueOf_59 : decode cX7_valueOf 59 = .ok (.imul, 1) := by decide +kernel
theorem dX7_valueOf_60 : decode cX7_valueOf 60 = .ok (.aload_n 0, 1) := by decide +kernel
theorem dX7_valueOf_61 : decode cX7_valueOf 61 = .ok (.getfield 19, 3) := by decide +kernel
theorem dX7_valueOf_64 : decode cX7_valueOf 64 = .ok (.iload_n 2, 1) := by decide +kernel
theorem dX7_valueOf_65 : decode cX7_valueOf 65 = .ok (.iconst 1, 1) := by decide +kernel
theorem dX7_valueOf_66 : decode cX7_valueOf 66 = .ok (.isub, 1) := by decide +kernel
theorem dX7_valueOf_67 : decode cX7_valueOf 67 = .ok (.iaload, 1) := by decide +kernel
theorem dX7_valueOf_68 : decode cX7_valueOf 68 = .ok (.iadd, 1) := by decide +kernel
theorem dX7_valueOf_69 : decode cX7_valueOf 69 = .ok (.iconst 1, 1) := by decide +kernel
theorem dX7_valueOf_70 : decode cX7_valueOf 70 = .ok (.isub, 1) := by decide +kernel
theorem dX7_valueOf_71 : decode cX7_valueOf 71 = .ok (.iload_n 3, 1) := by decide +kernel
theorem dX7_valueOf_72 : decode cX7_valueOf 72 = .ok (.isub, 1) := by decide +kernel
theorem dX7_valueOf_73 : decode cX7_valueOf 73 = .ok (.iaload, 1) := by decide +kernel
theorem dX7_valueOf_74 : decode cX7_valueOf 74 = .ok (.goto 4, 3) := by decide +kernel
theorem dX7_valueOf_77 : decode cX7_valueOf 77 = .ok (.iconst (-1), 1) := by decide +kernel
theorem dX7_valueOf_78 : decode cX7_valueOf 78 = .ok (.ireturn, 1) := by decide +kernel
theorem dX7_state_0 : decode cX7_state 0 = .ok (.aload_n 0, 1) := by decide +kernel
theorem dX7_state_1 : decode cX7_state 1 = .ok (.iconst 0, 1) := by decide +kernel
theorem dX7_state_2 : decode cX7_state 2 = .ok (.putfield 44, 3) := by decide +kernel
theorem dX7_state_5 : decode cX7_state 5 = .ok (.aload_n 0, 1) := by decide +kernel
theorem dX7_state_6 : decode cX7_state 6 = .ok (.iload_n 1, 1) := by decide +kernel
theorem dX7_state_7 : decode cX7_state 7 = .ok (.iconst 0, 1) := by decide +kernel
theorem dX7_state_8 : decode cX7_state 8 = .ok (.bipush 9, 2) := by decide +kernel
theorem dX7_state_10 : decode cX7_state 10 = .ok (.invokestatic 69, 3) := by decide +kernel
theorem dX7_state_13 : decode cX7_state 13 = .ok (.iconst 1, 1) := by decide +kernel
theorem dX7_state_14 : decode cX7_state 14 = .ok (.invokevirtual 214, 3) := by decide +kernel
theorem dX7_state_17 : decode cX7_state 17 = .ok (.ifCond .eq 11, 3) := by decide +kernel
theorem dX7_state_20 : decode cX7_state 20 = .ok (.aload_n 0, 1) := by decide +kernel
theorem dX7_state_21 : decode cX7_state 21 = .ok (.iload_n 1, 1) := by decide +kernel
theorem dX7_state_22 : decode cX7_state 22 = .ok (.invokevirtual 235, 3) := by decide +kernel
theorem dX7_state_25 : decode cX7_state 25 = .ok (.goto 4, 3) := by decide +kernel
theorem dX7_state_28 : decode cX7_state 28 = .ok (.iconst 0, 1) := by decide +kernel
theorem dX7_state_29 : decode cX7_state 29 = .ok (.ireturn, 1) := by decide +kernel
theorem dX7_version_0 : decode cX7_version 0 = .ok (.aload_n 0, 1) := by decide +kernel
theorem dX7_version_1 : decode cX7_version 1 = .ok (.iconst 0, 1) := by decide +kernel
theorem dX7_version_2 : decode cX7_version 2 = .ok (.putfield 44, 3) := by decide +kernel
theorem dX7_version_5 : decode cX7_version 5 = .ok (.aload_n 0, 1) := by decide +kernel
theorem dX7_version_6 : decode cX7_version 6 = .ok (.aload_n 0, 1) := by decide +kernel
theorem dX7_version_7 : decode cX7_version 7 = .ok (.iload_n 1, 1) := by decide +kernel
theorem dX7_version_8 : decode cX7_version 8 = .ok (.invokevirtual 238, 3) := by decide +kernel
theorem dX7_version_11 : decode cX7_version 11 = .ok (.iconst 1, 1) := by decide +kernel
theorem dX7_version_12 : decode cX7_version 12 = .ok (.invokevirtual 214, 3) := by decide +kernel
theorem dX7_version_15 : decode cX7_version 15 = .ok (.ifCond .eq 27, 3) := by decide +kernel
theorem dX7_version_18 : decode cX7_version 18 = .ok (.aload_n 0, 1) := by decide +kernel
theorem dX7_version_19 : decode cX7_version 19 = .ok (.iload_n 2, 1) := by decide +kernel
theorem dX7_version_20 : decode cX7_version 20 = .ok (.iconst 0, 1) := by decide +kernel
theorem dX7_version_21 : decode cX7_version 21 = .ok (.bipush 10, 2) := by decide +kernel
theorem dX7_version_23 : decode cX7_version 23 = .ok (.invokestatic 69, 3) := by decide +kernel
theorem dX7_version_26 : decode cX7_version 26 = .ok (.iconst 2, 1) := by decide +kernel
theorem dX7_version_27 : decode cX7_version 27 = .ok (.invokevirtual 214, 3) := by decide +kernel
theorem dX7_version_30 : decode cX7_version 30 = .ok (.ifCond .eq 12, 3) := by decide +kernel
theorem dX7_version_33 : decode cX7_version 33 = .ok (.aload_n 0, 1) := by decide +kernel
theorem dX7_version_34 : decode cX7_version 34 = .ok (.iload_n 1, 1) := by decide +kernel
theorem dX7_version_35 : decode cX7_version 35 = .ok (.iload_n 2, 1) := by decide +kernel
theorem dX7_version_36 : decode cX7_version 36 = .ok (.invokevirtual 241, 3) := by decide +kernel
theorem dX7_version_39 : decode cX7_version 39 = .ok (.goto 4, 3) := by decide +kernel
theorem dX7_version_42 : decode cX7_version 42 = .ok (.iconst 0, 1) := by decide +kernel
theorem dX7_version_43 : decode cX7_version 43 = .ok (.ireturn, 1) := by decide +kernel
theorem dX7_value_0 : decode cX7_value 0 = .ok (.aload_n 0, 1) := by decide +kernel
theorem dX7_value_1 : decode cX7_value 1 = .ok (.iconst 0, 1) := by decide +kernel
theorem dX7_value_2 : decode cX7_value 2 = .ok (.putfield 44, 3) := by decide +kernel
theorem dX7_value_5 : decode cX7_value 5 = .ok (.aload_n 0, 1) := by decide +kernel
theorem dX7_value_6 : decode cX7_value 6 = .ok (.aload_n 0, 1) := by decide +kernel
theorem dX7_value_7 : decode cX7_value 7 = .ok (.iload_n 1, 1) := by decide +kernel
theorem dX7_value_8 : decode cX7_value 8 = .ok (.invokevirtual 238, 3) := by decide +kernel
theorem dX7_value_11 : decode cX7_value 11 = .ok (.iconst 1, 1) := by decide +kernel
theorem dX7_value_12 : decode cX7_value 12 = .ok (.invokevirtual 214, 3) := by decide +kernel
theorem dX7_value_15 : decode cX7_value 15 = .ok (.ifCond .eq 28, 3) := by decide +kernel
theorem dX7_value_18 : decode cX7_value 18 = .ok (.aload_n 0, 1) := by decide +kernel
theorem dX7_value_19 : decode cX7_value 19 = .ok (.iload_n 2, 1) := by decide +kernel
theorem dX7_value_20 : decode cX7_value 20 = .ok (.iconst 0, 1) := by decide +kernel
theorem dX7_value_21 : decode cX7_value 21 = .ok (.bipush 6, 2) := by decide +kernel
theorem dX7_value_23 : decode cX7_value 23 = .ok (.invokestatic 69, 3) := by decide +kernel
theorem dX7_value_26 : decode cX7_value 26 = .ok (.iconst 2, 1) := by decide +kernel
theorem dX7_value_27 : decode cX7_value 27 = .ok (.invokevirtual 214, 3) := by decide +kernel
theorem dX7_value_30 : decode cX7_value 30 = .ok (.ifCond .eq 13, 3) := by decide +kernel
theorem dX7_value_33 : decode cX7_value 33 = .ok (.aload_n 0, 1) := by decide +kernel
theorem dX7_value_34 : decode cX7_value 34 = .ok (.iload_n 1, 1) := by decide +kernel
theorem dX7_value_35 : decode cX7_value 35 = .ok (.iload_n 2, 1) := by decide +kernel
theorem dX7_value_36 : decode cX7_value 36 = .ok (.iload_n 3, 1) := by decide +kernel
theorem dX7_value_37 : decode cX7_value 37 = .ok (.invokevirtual 244, 3) := by decide +kernel
theorem dX7_value_40 : decode cX7_value 40 = .ok (.goto 4, 3) := by decide +kernel
theorem dX7_value_43 : decode cX7_value 43 = .ok (.iconst 0, 1) := by decide +kernel
theorem dX7_value_44 : decode cX7_value 44 = .ok (.ireturn, 1) := by decide +kernel
theorem dX7_first_0 : decode cX7_first 0 = .ok (.aload_n 0, 1) := by decide +kernel
theorem dX7_first_1 : decode cX7_first 1 = .ok (.iconst 0, 1) := by decide +kernel
theorem dX7_first_2 : decode cX7_first 2 = .ok (.putfield 44, 3) := by decide +kernel
theorem dX7_first_5 : decode cX7_first 5 = .ok (.aload_n 0, 1) := by decide +kernel
theorem dX7_first_6 : decode cX7_first 6 = .ok (.aload_n 0, 1) := by decide +kernel
theorem dX7_first_7 : decode cX7_first 7 = .ok (.iload_n 1, 1) := by decide +kernel
theorem dX7_first_8 : decode cX7_first 8 = .ok (.invokevirtual 238, 3) := by decide +kernel
theorem dX7_first_11 : decode cX7_first 11 = .ok (.iconst 1, 1) := by decide +kernel
theorem dX7_first_12 : decode cX7_first 12 = .ok (.invokevirtual 214, 3) := by decide +kernel
theorem dX7_first_15 : decode cX7_first 15 = .ok (.ifCond .eq 24, 3) := by decide +kernel
theorem dX7_first_18 : decode cX7_first 18 = .ok (.aload_n 0, 1) := by decide +kernel
theorem dX7_first_19 : decode cX7_first 19 = .ok (.aload_n 0, 1) := by decide +kernel
theorem dX7_first_20 : decode cX7_first 20 = .ok (.iload_n 1, 1) := by decide +kernel
theorem dX7_first_21 : decode cX7_first 21 = .ok (.invokevirtual 128, 3) := by decide +kernel
theorem dX7_first_24 : decode cX7_first 24 = .ok (.ifCond .le 7, 3) := by decide +kernel
theorem dX7_first_27 : decode cX7_first 27 = .ok (.iconst 1, 1) := by decide +kernel
theorem dX7_first_28 : decode cX7_first 28 = .ok (.goto 4, 3) := by decide +kernel
theorem dX7_first_31 : decode cX7_first 31 = .ok (.iconst 0, 1) := by decide +kernel
theorem dX7_first_32 : decode cX7_first 32 = .ok (.iconst 2, 1) := by decide +kernel
theorem dX7_first_33 : decode cX7_first 33 = .ok (.invokevirtual 214, 3) := by decide +kernel
theorem dX7_first_36 : decode cX7_first 36 = .ok (.ifCond .ne 5, 3) := by decide +kernel
theorem dX7_first_39 : decode cX7_first 39 = .ok (.iconst 0, 1) := by decide +kernel
theorem dX7_first_40 : decode cX7_first 40 = .ok (.ireturn, 1) := by decide +kernel
theorem dX7_first_41 : decode cX7_first 41 = .ok (.aload_n 0, 1) := by decide +kernel
theorem dX7_first_42 : decode cX7_first 42 = .ok (.getfield 25, 3) := by decide +kernel
theorem dX7_first_45 : decode cX7_first 45 = .ok (.iconst 0, 1) := by decide +kernel
theorem dX7_first_46 : decode cX7_first 46 = .ok (.iaload, 1) := by decide +kernel
theorem dX7_first_47 : decode cX7_first 47 = .ok (.ireturn, 1) := by decide +kernel
theorem dX7_find_0 : decode cX7_find 0 = .ok (.aload_n 0, 1) := by decide +kernel
theorem dX7_find_1 : decode cX7_find 1 = .ok (.iconst 0, 1) := by decide +kernel
theorem dX7_find_2 : decode cX7_find 2 = .ok (.putfield 44, 3) := by decide +kernel
