theorem d_MO_column_32 : decode b_MO_column 32 = .ok (.invokevirtual 54, 3) := by decide +kernel
theorem d_MO_column_35 : decode b_MO_column 35 = .ok (.ireturn, 1) := by decide +kernel
theorem d_MO_common_0 : decode b_MO_common 0 = .ok (.iload_n 1, 1) := by decide +kernel
theorem d_MO_common_1 : decode b_MO_common 1 = .ok (.ifCond .lt 32, 3) := by decide +kernel
theorem d_MO_common_4 : decode b_MO_common 4 = .ok (.iload_n 1, 1) := by decide +kernel
theorem d_MO_common_5 : decode b_MO_common 5 = .ok (.aload_n 0, 1) := by decide +kernel
theorem d_MO_common_6 : decode b_MO_common 6 = .ok (.getfield 37, 3) := by decide +kernel
theorem d_MO_common_9 : decode b_MO_common 9 = .ok (.if_icmp .ge 24, 3) := by decide +kernel
theorem d_MO_common_12 : decode b_MO_common 12 = .ok (.aload_n 0, 1) := by decide +kernel
theorem d_MO_common_13 : decode b_MO_common 13 = .ok (.aload_n 0, 1) := by decide +kernel
theorem d_MO_common_14 : decode b_MO_common 14 = .ok (.getfield 16, 3) := by decide +kernel
theorem d_MO_common_17 : decode b_MO_common 17 = .ok (.iload_n 1, 1) := by decide +kernel
theorem d_MO_common_18 : decode b_MO_common 18 = .ok (.iaload, 1) := by decide +kernel
theorem d_MO_common_19 : decode b_MO_common 19 = .ok (.aload_n 0, 1) := by decide +kernel
theorem d_MO_common_20 : decode b_MO_common 20 = .ok (.getfield 16, 3) := by decide +kernel
theorem d_MO_common_23 : decode b_MO_common 23 = .ok (.iload_n 1, 1) := by decide +kernel
theorem d_MO_common_24 : decode b_MO_common 24 = .ok (.iconst 1, 1) := by decide +kernel
theorem d_MO_common_25 : decode b_MO_common 25 = .ok (.iadd, 1) := by decide +kernel
theorem d_MO_common_26 : decode b_MO_common 26 = .ok (.iaload, 1) := by decide +kernel
theorem d_MO_common_27 : decode b_MO_common 27 = .ok (.invokevirtual 40, 3) := by decide +kernel
theorem d_MO_common_30 : decode b_MO_common 30 = .ok (.goto 4, 3) := by decide +kernel
theorem d_MO_common_33 : decode b_MO_common 33 = .ok (.iconst (-1), 1) := by decide +kernel
theorem d_MO_common_34 : decode b_MO_common 34 = .ok (.ireturn, 1) := by decide +kernel
theorem d_MO_moved_0 : decode b_MO_moved 0 = .ok (.iload_n 1, 1) := by decide +kernel
theorem d_MO_moved_1 : decode b_MO_moved 1 = .ok (.ifCond .lt 11, 3) := by decide +kernel
theorem d_MO_moved_4 : decode b_MO_moved 4 = .ok (.iload_n 1, 1) := by decide +kernel
theorem d_MO_moved_5 : decode b_MO_moved 5 = .ok (.aload_n 0, 1) := by decide +kernel
theorem d_MO_moved_6 : decode b_MO_moved 6 = .ok (.getfield 37, 3) := by decide +kernel
theorem d_MO_moved_9 : decode b_MO_moved 9 = .ok (.if_icmp .le 5, 3) := by decide +kernel
theorem d_MO_moved_12 : decode b_MO_moved 12 = .ok (.iconst (-1), 1) := by decide +kernel
theorem d_MO_moved_13 : decode b_MO_moved 13 = .ok (.ireturn, 1) := by decide +kernel
theorem d_MO_moved_14 : decode b_MO_moved 14 = .ok (.aload_n 0, 1) := by decide +kernel
theorem d_MO_moved_15 : decode b_MO_moved 15 = .ok (.getfield 22, 3) := by decide +kernel
theorem d_MO_moved_18 : decode b_MO_moved 18 = .ok (.iconst 0, 1) := by decide +kernel
theorem d_MO_moved_19 : decode b_MO_moved 19 = .ok (.sipush 256, 3) := by decide +kernel
theorem d_MO_moved_22 : decode b_MO_moved 22 = .ok (.iastore, 1) := by decide +kernel
theorem d_MO_moved_23 : decode b_MO_moved 23 = .ok (.iconst 0, 1) := by decide +kernel
theorem d_MO_moved_24 : decode b_MO_moved 24 = .ok (.istore_n 2, 1) := by decide +kernel
theorem d_MO_moved_25 : decode b_MO_moved 25 = .ok (.iload_n 2, 1) := by decide +kernel
theorem d_MO_moved_26 : decode b_MO_moved 26 = .ok (.sipush 256, 3) := by decide +kernel
theorem d_MO_moved_29 : decode b_MO_moved 29 = .ok (.if_icmp .ge 18, 3) := by decide +kernel
theorem d_MO_moved_32 : decode b_MO_moved 32 = .ok (.aload_n 0, 1) := by decide +kernel
theorem d_MO_moved_33 : decode b_MO_moved 33 = .ok (.getfield 22, 3) := by decide +kernel
theorem d_MO_moved_36 : decode b_MO_moved 36 = .ok (.iload_n 2, 1) := by decide +kernel
theorem d_MO_moved_37 : decode b_MO_moved 37 = .ok (.iconst 1, 1) := by decide +kernel
theorem d_MO_moved_38 : decode b_MO_moved 38 = .ok (.iadd, 1) := by decide +kernel
theorem d_MO_moved_39 : decode b_MO_moved 39 = .ok (.iload_n 2, 1) := by decide +kernel
theorem d_MO_moved_40 : decode b_MO_moved 40 = .ok (.iastore, 1) := by decide +kernel
theorem d_MO_moved_41 : decode b_MO_moved 41 = .ok (.iinc 2 1, 3) := by decide +kernel
theorem d_MO_moved_44 : decode b_MO_moved 44 = .ok (.goto (-19), 3) := by decide +kernel
theorem d_MO_moved_47 : decode b_MO_moved 47 = .ok (.iconst 0, 1) := by decide +kernel
theorem d_MO_moved_48 : decode b_MO_moved 48 = .ok (.istore_n 2, 1) := by decide +kernel
theorem d_MO_moved_49 : decode b_MO_moved 49 = .ok (.iconst 0, 1) := by decide +kernel
theorem d_MO_moved_50 : decode b_MO_moved 50 = .ok (.istore_n 3, 1) := by decide +kernel
theorem d_MO_moved_51 : decode b_MO_moved 51 = .ok (.iload_n 3, 1) := by decide +kernel
theorem d_MO_moved_52 : decode b_MO_moved 52 = .ok (.iload_n 1, 1) := by decide +kernel
theorem d_MO_moved_53 : decode b_MO_moved 53 = .ok (.if_icmp .gt 73, 3) := by decide +kernel
theorem d_MO_moved_56 : decode b_MO_moved 56 = .ok (.aload_n 0, 1) := by decide +kernel
theorem d_MO_moved_57 : decode b_MO_moved 57 = .ok (.iload_n 3, 1) := by decide +kernel
theorem d_MO_moved_58 : decode b_MO_moved 58 = .ok (.invokevirtual 54, 3) := by decide +kernel
theorem d_MO_moved_61 : decode b_MO_moved 61 = .ok (.istore 4, 2) := by decide +kernel
theorem d_MO_moved_63 : decode b_MO_moved 63 = .ok (.iconst 0, 1) := by decide +kernel
theorem d_MO_moved_64 : decode b_MO_moved 64 = .ok (.istore_n 2, 1) := by decide +kernel
theorem d_MO_moved_65 : decode b_MO_moved 65 = .ok (.aload_n 0, 1) := by decide +kernel
theorem d_MO_moved_66 : decode b_MO_moved 66 = .ok (.getfield 22, 3) := by decide +kernel
theorem d_MO_moved_69 : decode b_MO_moved 69 = .ok (.iload_n 2, 1) := by decide +kernel
theorem d_MO_moved_70 : decode b_MO_moved 70 = .ok (.iaload, 1) := by decide +kernel
theorem d_MO_moved_71 : decode b_MO_moved 71 = .ok (.iload 4, 2) := by decide +kernel
theorem d_MO_moved_73 : decode b_MO_moved 73 = .ok (.if_icmp .eq 9, 3) := by decide +kernel
theorem d_MO_moved_76 : decode b_MO_moved 76 = .ok (.iinc 2 1, 3) := by decide +kernel
theorem d_MO_moved_79 : decode b_MO_moved 79 = .ok (.goto (-14), 3) := by decide +kernel
theorem d_MO_moved_82 : decode b_MO_moved 82 = .ok (.iload_n 2, 1) := by decide +kernel
theorem d_MO_moved_83 : decode b_MO_moved 83 = .ok (.istore 5, 2) := by decide +kernel
theorem d_MO_moved_85 : decode b_MO_moved 85 = .ok (.iload 5, 2) := by decide +kernel
theorem d_MO_moved_87 : decode b_MO_moved 87 = .ok (.ifCond .le 25, 3) := by decide +kernel
theorem d_MO_moved_90 : decode b_MO_moved 90 = .ok (.aload_n 0, 1) := by decide +kernel
theorem d_MO_moved_91 : decode b_MO_moved 91 = .ok (.getfield 22, 3) := by decide +kernel
theorem d_MO_moved_94 : decode b_MO_moved 94 = .ok (.iload 5, 2) := by decide +kernel
theorem d_MO_moved_96 : decode b_MO_moved 96 = .ok (.aload_n 0, 1) := by decide +kernel
theorem d_MO_moved_97 : decode b_MO_moved 97 = .ok (.getfield 22, 3) := by decide +kernel
theorem d_MO_moved_100 : decode b_MO_moved 100 = .ok (.iload 5, 2) := by decide +kernel
theorem d_MO_moved_102 : decode b_MO_moved 102 = .ok (.iconst 1, 1) := by decide +kernel
theorem d_MO_moved_103 : decode b_MO_moved 103 = .ok (.isub, 1) := by decide +kernel
theorem d_MO_moved_104 : decode b_MO_moved 104 = .ok (.iaload, 1) := by decide +kernel
theorem d_MO_moved_105 : decode b_MO_moved 105 = .ok (.iastore, 1) := by decide +kernel
theorem d_MO_moved_106 : decode b_MO_moved 106 = .ok (.iinc 5 (-1), 3) := by decide +kernel
theorem d_MO_moved_109 : decode b_MO_moved 109 = .ok (.goto (-24), 3) := by decide +kernel
theorem d_MO_moved_112 : decode b_MO_moved 112 = .ok (.aload_n 0, 1) := by decide +kernel
theorem d_MO_moved_113 : decode b_MO_moved 113 = .ok (.getfield 22, 3) := by decide +kernel
theorem d_MO_moved_116 : decode b_MO_moved 116 = .ok (.iconst 0, 1) := by decide +kernel
theorem d_MO_moved_117 : decode b_MO_moved 117 = .ok (.iload 4, 2) := by decide +kernel
theorem d_MO_moved_119 : decode b_MO_moved 119 = .ok (.iastore, 1) := by decide +kernel
theorem d_MO_moved_120 : decode b_MO_moved 120 = .ok (.iinc 3 1, 3) := by decide +kernel
theorem d_MO_moved_123 : decode b_MO_moved 123 = .ok (.goto (-72), 3) := by decide +kernel
theorem d_MO_moved_126 : decode b_MO_moved 126 = .ok (.iload_n 2, 1) := by decide +kernel
theorem d_MO_moved_127 : decode b_MO_moved 127 = .ok (.ireturn, 1) := by decide +kernel
theorem d_MO_distinct_0 : decode b_MO_distinct 0 = .ok (.iconst 0, 1) := by decide +kernel
theorem d_MO_distinct_1 : decode b_MO_distinct 1 = .ok (.istore_n 1, 1) := by decide +kernel
theorem d_MO_distinct_2 : decode b_MO_distinct 2 = .ok (.iconst 0, 1) := by decide +kernel
theorem d_MO_distinct_3 : decode b_MO_distinct 3 = .ok (.istore_n 2, 1) := by decide +kernel
theorem d_MO_distinct_4 : decode b_MO_distinct 4 = .ok (.iload_n 2, 1) := by decide +kernel
theorem d_MO_distinct_5 : decode b_MO_distinct 5 = .ok (.aload_n 0, 1) := by decide +kernel
theorem d_MO_distinct_6 : decode b_MO_distinct 6 = .ok (.getfield 37, 3) := by decide +kernel
theorem d_MO_distinct_9 : decode b_MO_distinct 9 = .ok (.if_icmp .gt 50, 3) := by decide +kernel
theorem d_MO_distinct_12 : decode b_MO_distinct 12 = .ok (.iload_n 1, 1) := by decide +kernel
theorem d_MO_distinct_13 : decode b_MO_distinct 13 = .ok (.aload_n 0, 1) := by decide +kernel
theorem d_MO_distinct_14 : decode b_MO_distinct 14 = .ok (.getfield 37, 3) := by decide +kernel
theorem d_MO_distinct_17 : decode b_MO_distinct 17 = .ok (.aload_n 0, 1) := by decide +kernel
theorem d_MO_distinct_18 : decode b_MO_distinct 18 = .ok (.getfield 16, 3) := by decide +kernel
theorem d_MO_distinct_21 : decode b_MO_distinct 21 = .ok (.iload_n 2, 1) := by decide +kernel
theorem d_MO_distinct_22 : decode b_MO_distinct 22 = .ok (.iaload, 1) := by decide +kernel
theorem d_MO_distinct_23 : decode b_MO_distinct 23 = .ok (.isub, 1) := by decide +kernel
theorem d_MO_distinct_24 : decode b_MO_distinct 24 = .ok (.iload_n 2, 1) := by decide +kernel
theorem d_MO_distinct_25 : decode b_MO_distinct 25 = .ok (.ifCond .le 24, 3) := by decide +kernel
theorem d_MO_distinct_28 : decode b_MO_distinct 28 = .ok (.aload_n 0, 1) := by decide +kernel
theorem d_MO_distinct_29 : decode b_MO_distinct 29 = .ok (.aload_n 0, 1) := by decide +kernel
theorem d_MO_distinct_30 : decode b_MO_distinct 30 = .ok (.getfield 16, 3) := by decide +kernel
theorem d_MO_distinct_33 : decode b_MO_distinct 33 = .ok (.iload_n 2, 1) := by decide +kernel
theorem d_MO_distinct_34 : decode b_MO_distinct 34 = .ok (.iconst 1, 1) := by decide +kernel
theorem d_MO_distinct_35 : decode b_MO_distinct 35 = .ok (.isub, 1) := by decide +kernel
theorem d_MO_distinct_36 : decode b_MO_distinct 36 = .ok (.iaload, 1) := by decide +kernel
theorem d_MO_distinct_37 : decode b_MO_distinct 37 = .ok (.aload_n 0, 1) := by decide +kernel
theorem d_MO_distinct_38 : decode b_MO_distinct 38 = .ok (.getfield 16, 3) := by decide +kernel
theorem d_MO_distinct_41 : decode b_MO_distinct 41 = .ok (.iload_n 2, 1) := by decide +kernel
theorem d_MO_distinct_42 : decode b_MO_distinct 42 = .ok (.iaload, 1) := by decide +kernel
theorem d_MO_distinct_43 : decode b_MO_distinct 43 = .ok (.invokevirtual 40, 3) := by decide +kernel
theorem d_MO_distinct_46 : decode b_MO_distinct 46 = .ok (.goto 4, 3) := by decide +kernel
theorem d_MO_distinct_49 : decode b_MO_distinct 49 = .ok (.iconst 0, 1) := by decide +kernel
theorem d_MO_distinct_50 : decode b_MO_distinct 50 = .ok (.isub, 1) := by decide +kernel
theorem d_MO_distinct_51 : decode b_MO_distinct 51 = .ok (.iadd, 1) := by decide +kernel
theorem d_MO_distinct_52 : decode b_MO_distinct 52 = .ok (.istore_n 1, 1) := by decide +kernel
theorem d_MO_distinct_53 : decode b_MO_distinct 53 = .ok (.iinc 2 1, 3) := by decide +kernel
theorem d_MO_distinct_56 : decode b_MO_distinct 56 = .ok (.goto (-52), 3) := by decide +kernel
theorem d_MO_distinct_59 : decode b_MO_distinct 59 = .ok (.iload_n 1, 1) := by decide +kernel
theorem d_MO_distinct_60 : decode b_MO_distinct 60 = .ok (.ireturn, 1) := by decide +kernel
theorem d_MO_repeat_0 : decode b_MO_repeat 0 = .ok (.iconst 0, 1) := by decide +kernel
theorem d_MO_repeat_1 : decode b_MO_repeat 1 = .ok (.istore_n 1, 1) := by decide +kernel
theorem d_MO_repeat_2 : decode b_MO_repeat 2 = .ok (.iconst 0, 1) := by decide +kernel
theorem d_MO_repeat_3 : decode b_MO_repeat 3 = .ok (.istore_n 2, 1) := by decide +kernel
theorem d_MO_repeat_4 : decode b_MO_repeat 4 = .ok (.iconst 0, 1) := by decide +kernel
theorem d_MO_repeat_5 : decode b_MO_repeat 5 = .ok (.istore_n 3, 1) := by decide +kernel
theorem d_MO_repeat_6 : decode b_MO_repeat 6 = .ok (.iload_n 3, 1) := by decide +kernel
theorem d_MO_repeat_7 : decode b_MO_repeat 7 = .ok (.aload_n 0, 1) := by decide +kernel
theorem d_MO_repeat_8 : decode b_MO_repeat 8 = .ok (.getfield 37, 3) := by decide +kernel
theorem d_MO_repeat_11 : decode b_MO_repeat 11 = .ok (.if_icmp .ge 89, 3) := by decide +kernel
theorem d_MO_repeat_14 : decode b_MO_repeat 14 = .ok (.aload_n 0, 1) := by decide +kernel
theorem d_MO_repeat_15 : decode b_MO_repeat 15 = .ok (.aload_n 0, 1) := by decide +kernel
theorem d_MO_repeat_16 : decode b_MO_repeat 16 = .ok (.getfield 16, 3) := by decide +kernel
theorem d_MO_repeat_19 : decode b_MO_repeat 19 = .ok (.iload_n 3, 1) := by decide +kernel
theorem d_MO_repeat_20 : decode b_MO_repeat 20 = .ok (.iaload, 1) := by decide +kernel
theorem d_MO_repeat_21 : decode b_MO_repeat 21 = .ok (.aload_n 0, 1) := by decide +kernel
theorem d_MO_repeat_22 : decode b_MO_repeat 22 = .ok (.getfield 16, 3) := by decide +kernel
theorem d_MO_repeat_25 : decode b_MO_repeat 25 = .ok (.iload_n 3, 1) := by decide +kernel
theorem d_MO_repeat_26 : decode b_MO_repeat 26 = .ok (.iconst 1, 1) := by decide +kernel
theorem d_MO_repeat_27 : decode b_MO_repeat 27 = .ok (.iadd, 1) := by decide +kernel
theorem d_MO_repeat_28 : decode b_MO_repeat 28 = .ok (.iaload, 1) := by decide +kernel
theorem d_MO_repeat_29 : decode b_MO_repeat 29 = .ok (.invokevirtual 40, 3) := by decide +kernel
theorem d_MO_repeat_32 : decode b_MO_repeat 32 = .ok (.istore 4, 2) := by decide +kernel
theorem d_MO_repeat_34 : decode b_MO_repeat 34 = .ok (.aload_n 0, 1) := by decide +kernel
theorem d_MO_repeat_35 : decode b_MO_repeat 35 = .ok (.getfield 16, 3) := by decide +kernel
theorem d_MO_repeat_38 : decode b_MO_repeat 38 = .ok (.iload_n 3, 1) := by decide +kernel
theorem d_MO_repeat_39 : decode b_MO_repeat 39 = .ok (.iaload, 1) := by decide +kernel
theorem d_MO_repeat_40 : decode b_MO_repeat 40 = .ok (.aload_n 0, 1) := by decide +kernel
theorem d_MO_repeat_41 : decode b_MO_repeat 41 = .ok (.getfield 16, 3) := by decide +kernel
theorem d_MO_repeat_44 : decode b_MO_repeat 44 = .ok (.iload_n 3, 1) := by decide +kernel
theorem d_MO_repeat_45 : decode b_MO_repeat 45 = .ok (.iconst 1, 1) := by decide +kernel
theorem d_MO_repeat_46 : decode b_MO_repeat 46 = .ok (.iadd, 1) := by decide +kernel
theorem d_MO_repeat_47 : decode b_MO_repeat 47 = .ok (.iaload, 1) := by decide +kernel
theorem d_MO_repeat_48 : decode b_MO_repeat 48 = .ok (.if_icmp .ge 12, 3) := by decide +kernel
theorem d_MO_repeat_51 : decode b_MO_repeat 51 = .ok (.aload_n 0, 1) := by decide +kernel
theorem d_MO_repeat_52 : decode b_MO_repeat 52 = .ok (.getfield 16, 3) := by decide +kernel
theorem d_MO_repeat_55 : decode b_MO_repeat 55 = .ok (.iload_n 3, 1) := by decide +kernel
theorem d_MO_repeat_56 : decode b_MO_repeat 56 = .ok (.iaload, 1) := by decide +kernel
theorem d_MO_repeat_57 : decode b_MO_repeat 57 = .ok (.goto 11, 3) := by decide +kernel
theorem d_MO_repeat_60 : decode b_MO_repeat 60 = .ok (.aload_n 0, 1) := by decide +kernel
theorem d_MO_repeat_61 : decode b_MO_repeat 61 = .ok (.getfield 16, 3) := by decide +kernel
theorem d_MO_repeat_64 : decode b_MO_repeat 64 = .ok (.iload_n 3, 1) := by decide +kernel
theorem d_MO_repeat_65 : decode b_MO_repeat 65 = .ok (.iconst 1, 1) := by decide +kernel
theorem d_MO_repeat_66 : decode b_MO_repeat 66 = .ok (.iadd, 1) := by decide +kernel
theorem d_MO_repeat_67 : decode b_MO_repeat 67 = .ok (.iaload, 1) := by decide +kernel
theorem d_MO_repeat_68 : decode b_MO_repeat 68 = .ok (.istore 5, 2) := by decide +kernel
theorem d_MO_repeat_70 : decode b_MO_repeat 70 = .ok (.iload 4, 2) := by decide +kernel
theorem d_MO_repeat_72 : decode b_MO_repeat 72 = .ok (.iload_n 1, 1) := by decide +kernel
theorem d_MO_repeat_73 : decode b_MO_repeat 73 = .ok (.if_icmp .gt 15, 3) := by decide +kernel
theorem d_MO_repeat_76 : decode b_MO_repeat 76 = .ok (.iload 4, 2) := by decide +kernel
theorem d_MO_repeat_78 : decode b_MO_repeat 78 = .ok (.iload_n 1, 1) := by decide +kernel
theorem d_MO_repeat_79 : decode b_MO_repeat 79 = .ok (.if_icmp .ne 15, 3) := by decide +kernel
theorem d_MO_repeat_82 : decode b_MO_repeat 82 = .ok (.iload 5, 2) := by decide +kernel
theorem d_MO_repeat_84 : decode b_MO_repeat 84 = .ok (.iload_n 2, 1) := by decide +kernel
theorem d_MO_repeat_85 : decode b_MO_repeat 85 = .ok (.if_icmp .ge 9, 3) := by decide +kernel
theorem d_MO_repeat_88 : decode b_MO_repeat 88 = .ok (.iload 4, 2) := by decide +kernel
theorem d_MO_repeat_90 : decode b_MO_repeat 90 = .ok (.istore_n 1, 1) := by decide +kernel
theorem d_MO_repeat_91 : decode b_MO_repeat 91 = .ok (.iload 5, 2) := by decide +kernel
theorem d_MO_repeat_93 : decode b_MO_repeat 93 = .ok (.istore_n 2, 1) := by decide +kernel
theorem d_MO_repeat_94 : decode b_MO_repeat 94 = .ok (.iinc 3 1, 3) := by decide +kernel
theorem d_MO_repeat_97 : decode b_MO_repeat 97 = .ok (.goto (-91), 3) := by decide +kernel
theorem d_MO_repeat_100 : decode b_MO_repeat 100 = .ok (.iload_n 1, 1) := by decide +kernel
theorem d_MO_repeat_101 : decode b_MO_repeat 101 = .ok (.ifCond .ne 7, 3) := by decide +kernel
theorem d_MO_repeat_104 : decode b_MO_repeat 104 = .ok (.iconst 0, 1) := by decide +kernel
theorem d_MO_repeat_105 : decode b_MO_repeat 105 = .ok (.goto 10, 3) := by decide +kernel
theorem d_MO_repeat_108 : decode b_MO_repeat 108 = .ok (.sipush 128, 3) := by decide +kernel
theorem d_MO_repeat_111 : decode b_MO_repeat 111 = .ok (.iload_n 1, 1) := by decide +kernel
theorem d_MO_repeat_112 : decode b_MO_repeat 112 = .ok (.imul, 1) := by decide +kernel
theorem d_MO_repeat_113 : decode b_MO_repeat 113 = .ok (.iload_n 2, 1) := by decide +kernel
theorem d_MO_repeat_114 : decode b_MO_repeat 114 = .ok (.iadd, 1) := by decide +kernel
theorem d_MO_repeat_115 : decode b_MO_repeat 115 = .ok (.ireturn, 1) := by decide +kernel
theorem d_MO_fits_0 : decode b_MO_fits 0 = .ok (.iconst 0, 1) := by decide +kernel
theorem d_MO_fits_1 : decode b_MO_fits 1 = .ok (.istore_n 3, 1) := by decide +kernel
theorem d_MO_fits_2 : decode b_MO_fits 2 = .ok (.iload_n 1, 1) := by decide +kernel
theorem d_MO_fits_3 : decode b_MO_fits 3 = .ok (.iload_n 3, 1) := by decide +kernel
theorem d_MO_fits_4 : decode b_MO_fits 4 = .ok (.iadd, 1) := by decide +kernel
theorem d_MO_fits_5 : decode b_MO_fits 5 = .ok (.aload_n 0, 1) := by decide +kernel
theorem d_MO_fits_6 : decode b_MO_fits 6 = .ok (.getfield 37, 3) := by decide +kernel
theorem d_MO_fits_9 : decode b_MO_fits 9 = .ok (.if_icmp .ge 38, 3) := by decide +kernel
theorem d_MO_fits_12 : decode b_MO_fits 12 = .ok (.iload_n 2, 1) := by decide +kernel
theorem d_MO_fits_13 : decode b_MO_fits 13 = .ok (.iload_n 3, 1) := by decide +kernel
theorem d_MO_fits_14 : decode b_MO_fits 14 = .ok (.iadd, 1) := by decide +kernel
theorem d_MO_fits_15 : decode b_MO_fits 15 = .ok (.aload_n 0, 1) := by decide +kernel
theorem d_MO_fits_16 : decode b_MO_fits 16 = .ok (.getfield 58, 3) := by decide +kernel
theorem d_MO_fits_19 : decode b_MO_fits 19 = .ok (.if_icmp .ge 28, 3) := by decide +kernel
theorem d_MO_fits_22 : decode b_MO_fits 22 = .ok (.aload_n 0, 1) := by decide +kernel
theorem d_MO_fits_23 : decode b_MO_fits 23 = .ok (.getfield 13, 3) := by decide +kernel
theorem d_MO_fits_26 : decode b_MO_fits 26 = .ok (.iload_n 1, 1) := by decide +kernel
theorem d_MO_fits_27 : decode b_MO_fits 27 = .ok (.iload_n 3, 1) := by decide +kernel
theorem d_MO_fits_28 : decode b_MO_fits 28 = .ok (.iadd, 1) := by decide +kernel
theorem d_MO_fits_29 : decode b_MO_fits 29 = .ok (.iaload, 1) := by decide +kernel
theorem d_MO_fits_30 : decode b_MO_fits 30 = .ok (.aload_n 0, 1) := by decide +kernel
theorem d_MO_fits_31 : decode b_MO_fits 31 = .ok (.getfield 19, 3) := by decide +kernel
theorem d_MO_fits_34 : decode b_MO_fits 34 = .ok (.iload_n 2, 1) := by decide +kernel
theorem d_MO_fits_35 : decode b_MO_fits 35 = .ok (.iload_n 3, 1) := by decide +kernel
theorem d_MO_fits_36 : decode b_MO_fits 36 = .ok (.iadd, 1) := by decide +kernel
theorem d_MO_fits_37 : decode b_MO_fits 37 = .ok (.iaload, 1) := by decide +kernel
theorem d_MO_fits_38 : decode b_MO_fits 38 = .ok (.if_icmp .ne 9, 3) := by decide +kernel
theorem d_MO_fits_41 : decode b_MO_fits 41 = .ok (.iinc 3 1, 3) := by decide +kernel
theorem d_MO_fits_44 : decode b_MO_fits 44 = .ok (.goto (-42), 3) := by decide +kernel
theorem d_MO_fits_47 : decode b_MO_fits 47 = .ok (.iload_n 3, 1) := by decide +kernel
theorem d_MO_fits_48 : decode b_MO_fits 48 = .ok (.ireturn, 1) := by decide +kernel
theorem d_MO_hits_0 : decode b_MO_hits 0 = .ok (.iconst 0, 1) := by decide +kernel
theorem d_MO_hits_1 : decode b_MO_hits 1 = .ok (.istore_n 1, 1) := by decide +kernel
theorem d_MO_hits_2 : decode b_MO_hits 2 = .ok (.iconst 0, 1) := by decide +kernel
theorem d_MO_hits_3 : decode b_MO_hits 3 = .ok (.istore_n 2, 1) := by decide +kernel
theorem d_MO_hits_4 : decode b_MO_hits 4 = .ok (.iload_n 2, 1) := by decide +kernel
theorem d_MO_hits_5 : decode b_MO_hits 5 = .ok (.aload_n 0, 1) := by decide +kernel
theorem d_MO_hits_6 : decode b_MO_hits 6 = .ok (.getfield 37, 3) := by decide +kernel
theorem d_MO_hits_9 : decode b_MO_hits 9 = .ok (.if_icmp .gt 30, 3) := by decide +kernel
theorem d_MO_hits_12 : decode b_MO_hits 12 = .ok (.iload_n 1, 1) := by decide +kernel
theorem d_MO_hits_13 : decode b_MO_hits 13 = .ok (.aload_n 0, 1) := by decide +kernel
theorem d_MO_hits_14 : decode b_MO_hits 14 = .ok (.iload_n 2, 1) := by decide +kernel
theorem d_MO_hits_15 : decode b_MO_hits 15 = .ok (.iconst 0, 1) := by decide +kernel
theorem d_MO_hits_16 : decode b_MO_hits 16 = .ok (.invokevirtual 61, 3) := by decide +kernel
theorem d_MO_hits_19 : decode b_MO_hits 19 = .ok (.aload_n 0, 1) := by decide +kernel
theorem d_MO_hits_20 : decode b_MO_hits 20 = .ok (.getfield 58, 3) := by decide +kernel
theorem d_MO_hits_23 : decode b_MO_hits 23 = .ok (.if_icmp .ne 7, 3) := by decide +kernel
theorem d_MO_hits_26 : decode b_MO_hits 26 = .ok (.iconst 1, 1) := by decide +kernel
theorem d_MO_hits_27 : decode b_MO_hits 27 = .ok (.goto 4, 3) := by decide +kernel
theorem d_MO_hits_30 : decode b_MO_hits 30 = .ok (.iconst 0, 1) := by decide +kernel
theorem d_MO_hits_31 : decode b_MO_hits 31 = .ok (.iadd, 1) := by decide +kernel
theorem d_MO_hits_32 : decode b_MO_hits 32 = .ok (.istore_n 1, 1) := by decide +kernel
theorem d_MO_hits_33 : decode b_MO_hits 33 = .ok (.iinc 2 1, 3) := by decide +kernel
theorem d_MO_hits_36 : decode b_MO_hits 36 = .ok (.goto (-32), 3) := by decide +kernel
theorem d_MO_hits_39 : decode b_MO_hits 39 = .ok (.iload_n 1, 1) := by decide +kernel
theorem d_MO_hits_40 : decode b_MO_hits 40 = .ok (.ireturn, 1) := by decide +kernel
theorem d_MO_seek_0 : decode b_MO_seek 0 = .ok (.iconst 0, 1) := by decide +kernel
theorem d_MO_seek_1 : decode b_MO_seek 1 = .ok (.istore_n 1, 1) := by decide +kernel
theorem d_MO_seek_2 : decode b_MO_seek 2 = .ok (.iload_n 1, 1) := by decide +kernel
theorem d_MO_seek_3 : decode b_MO_seek 3 = .ok (.aload_n 0, 1) := by decide +kernel
theorem d_MO_seek_4 : decode b_MO_seek 4 = .ok (.getfield 31, 3) := by decide +kernel
theorem d_MO_seek_7 : decode b_MO_seek 7 = .ok (.if_icmp .ge 21, 3) := by decide +kernel
theorem d_MO_seek_10 : decode b_MO_seek 10 = .ok (.aload_n 0, 1) := by decide +kernel
theorem d_MO_seek_11 : decode b_MO_seek 11 = .ok (.getfield 19, 3) := by decide +kernel
theorem d_MO_seek_14 : decode b_MO_seek 14 = .ok (.iload_n 1, 1) := by decide +kernel
theorem d_MO_seek_15 : decode b_MO_seek 15 = .ok (.aload_n 0, 1) := by decide +kernel
theorem d_MO_seek_16 : decode b_MO_seek 16 = .ok (.getfield 7, 3) := by decide +kernel
theorem d_MO_seek_19 : decode b_MO_seek 19 = .ok (.iload_n 1, 1) := by decide +kernel
theorem d_MO_seek_20 : decode b_MO_seek 20 = .ok (.iaload, 1) := by decide +kernel
theorem d_MO_seek_21 : decode b_MO_seek 21 = .ok (.iastore, 1) := by decide +kernel
theorem d_MO_seek_22 : decode b_MO_seek 22 = .ok (.iinc 1 1, 3) := by decide +kernel
theorem d_MO_seek_25 : decode b_MO_seek 25 = .ok (.goto (-23), 3) := by decide +kernel
theorem d_MO_seek_28 : decode b_MO_seek 28 = .ok (.aload_n 0, 1) := by decide +kernel
theorem d_MO_seek_29 : decode b_MO_seek 29 = .ok (.aload_n 0, 1) := by decide +kernel
theorem d_MO_seek_30 : decode b_MO_seek 30 = .ok (.getfield 31, 3) := by decide +kernel
theorem d_MO_seek_33 : decode b_MO_seek 33 = .ok (.putfield 58, 3) := by decide +kernel
theorem d_MO_seek_36 : decode b_MO_seek 36 = .ok (.aload_n 0, 1) := by decide +kernel
theorem d_MO_seek_37 : decode b_MO_seek 37 = .ok (.iconst 0, 1) := by decide +kernel
theorem d_MO_seek_38 : decode b_MO_seek 38 = .ok (.putfield 31, 3) := by decide +kernel
theorem d_MO_seek_41 : decode b_MO_seek 41 = .ok (.aload_n 0, 1) := by decide +kernel
theorem d_MO_seek_42 : decode b_MO_seek 42 = .ok (.invokevirtual 64, 3) := by decide +kernel
theorem d_MO_seek_45 : decode b_MO_seek 45 = .ok (.ireturn, 1) := by decide +kernel
theorem d_MO_extend_0 : decode b_MO_extend 0 = .ok (.iload_n 1, 1) := by decide +kernel
theorem d_MO_extend_1 : decode b_MO_extend 1 = .ok (.ifCond .lt 10, 3) := by decide +kernel
theorem d_MO_extend_4 : decode b_MO_extend 4 = .ok (.iload_n 1, 1) := by decide +kernel
theorem d_MO_extend_5 : decode b_MO_extend 5 = .ok (.sipush 255, 3) := by decide +kernel
theorem d_MO_extend_8 : decode b_MO_extend 8 = .ok (.if_icmp .le 5, 3) := by decide +kernel
theorem d_MO_extend_11 : decode b_MO_extend 11 = .ok (.iconst (-1), 1) := by decide +kernel
theorem d_MO_extend_12 : decode b_MO_extend 12 = .ok (.ireturn, 1) := by decide +kernel
theorem d_MO_extend_13 : decode b_MO_extend 13 = .ok (.aload_n 0, 1) := by decide +kernel
theorem d_MO_extend_14 : decode b_MO_extend 14 = .ok (.getfield 58, 3) := by decide +kernel
theorem d_MO_extend_17 : decode b_MO_extend 17 = .ok (.bipush 96, 2) := by decide +kernel
theorem d_MO_extend_19 : decode b_MO_extend 19 = .ok (.if_icmp .ne 6, 3) := by decide +kernel
theorem d_MO_extend_22 : decode b_MO_extend 22 = .ok (.bipush (-3), 2) := by decide +kernel
theorem d_MO_extend_24 : decode b_MO_extend 24 = .ok (.ireturn, 1) := by decide +kernel
theorem d_MO_extend_25 : decode b_MO_extend 25 = .ok (.aload_n 0, 1) := by decide +kernel
theorem d_MO_extend_26 : decode b_MO_extend 26 = .ok (.getfield 58, 3) := by decide +kernel
theorem d_MO_extend_29 : decode b_MO_extend 29 = .ok (.istore_n 2, 1) := by decide +kernel
theorem d_MO_extend_30 : decode b_MO_extend 30 = .ok (.iload_n 2, 1) := by decide +kernel
theorem d_MO_extend_31 : decode b_MO_extend 31 = .ok (.ifCond .le 23, 3) := by decide +kernel
theorem d_MO_extend_34 : decode b_MO_extend 34 = .ok (.aload_n 0, 1) := by decide +kernel
theorem d_MO_extend_35 : decode b_MO_extend 35 = .ok (.getfield 19, 3) := by decide +kernel
theorem d_MO_extend_38 : decode b_MO_extend 38 = .ok (.iload_n 2, 1) := by decide +kernel
theorem d_MO_extend_39 : decode b_MO_extend 39 = .ok (.aload_n 0, 1) := by decide +kernel
theorem d_MO_extend_40 : decode b_MO_extend 40 = .ok (.getfield 19, 3) := by decide +kernel
theorem d_MO_extend_43 : decode b_MO_extend 43 = .ok (.iload_n 2, 1) := by decide +kernel
theorem d_MO_extend_44 : decode b_MO_extend 44 = .ok (.iconst 1, 1) := by decide +kernel
theorem d_MO_extend_45 : decode b_MO_extend 45 = .ok (.isub, 1) := by decide +kernel
theorem d_MO_extend_46 : decode b_MO_extend 46 = .ok (.iaload, 1) := by decide +kernel
theorem d_MO_extend_47 : decode b_MO_extend 47 = .ok (.iastore, 1) := by decide +kernel
theorem d_MO_extend_48 : decode b_MO_extend 48 = .ok (.iinc 2 (-1), 3) := by decide +kernel
theorem d_MO_extend_51 : decode b_MO_extend 51 = .ok (.goto (-21), 3) := by decide +kernel
theorem d_MO_extend_54 : decode b_MO_extend 54 = .ok (.aload_n 0, 1) := by decide +kernel
theorem d_MO_extend_55 : decode b_MO_extend 55 = .ok (.getfield 19, 3) := by decide +kernel
theorem d_MO_extend_58 : decode b_MO_extend 58 = .ok (.iconst 0, 1) := by decide +kernel
theorem d_MO_extend_59 : decode b_MO_extend 59 = .ok (.iload_n 1, 1) := by decide +kernel
theorem d_MO_extend_60 : decode b_MO_extend 60 = .ok (.iastore, 1) := by decide +kernel
theorem d_MO_extend_61 : decode b_MO_extend 61 = .ok (.aload_n 0, 1) := by decide +kernel
theorem d_MO_extend_62 : decode b_MO_extend 62 = .ok (.dup, 1) := by decide +kernel
theorem d_MO_extend_63 : decode b_MO_extend 63 = .ok (.getfield 58, 3) := by decide +kernel
theorem d_MO_extend_66 : decode b_MO_extend 66 = .ok (.iconst 1, 1) := by decide +kernel
theorem d_MO_extend_67 : decode b_MO_extend 67 = .ok (.iadd, 1) := by decide +kernel
theorem d_MO_extend_68 : decode b_MO_extend 68 = .ok (.putfield 58, 3) := by decide +kernel
theorem d_MO_extend_71 : decode b_MO_extend 71 = .ok (.aload_n 0, 1) := by decide +kernel
theorem d_MO_extend_72 : decode b_MO_extend 72 = .ok (.invokevirtual 64, 3) := by decide +kernel
theorem d_MO_extend_75 : decode b_MO_extend 75 = .ok (.ireturn, 1) := by decide +kernel
theorem d_MO_before_0 : decode b_MO_before 0 = .ok (.iconst 0, 1) := by decide +kernel
theorem d_MO_before_1 : decode b_MO_before 1 = .ok (.istore_n 1, 1) := by decide +kernel
theorem d_MO_before_2 : decode b_MO_before 2 = .ok (.iconst 0, 1) := by decide +kernel
theorem d_MO_before_3 : decode b_MO_before 3 = .ok (.istore_n 2, 1) := by decide +kernel
theorem d_MO_before_4 : decode b_MO_before 4 = .ok (.iload_n 2, 1) := by decide +kernel
theorem d_MO_before_5 : decode b_MO_before 5 = .ok (.aload_n 0, 1) := by decide +kernel
theorem d_MO_before_6 : decode b_MO_before 6 = .ok (.getfield 37, 3) := by decide +kernel
theorem d_MO_before_9 : decode b_MO_before 9 = .ok (.if_icmp .gt 59, 3) := by decide +kernel
theorem d_MO_before_12 : decode b_MO_before 12 = .ok (.aload_n 0, 1) := by decide +kernel
theorem d_MO_before_13 : decode b_MO_before 13 = .ok (.iload_n 2, 1) := by decide +kernel
theorem d_MO_before_14 : decode b_MO_before 14 = .ok (.iconst 0, 1) := by decide +kernel
theorem d_MO_before_15 : decode b_MO_before 15 = .ok (.invokevirtual 61, 3) := by decide +kernel
theorem d_MO_before_18 : decode b_MO_before 18 = .ok (.istore_n 3, 1) := by decide +kernel
theorem d_MO_before_19 : decode b_MO_before 19 = .ok (.iload_n 1, 1) := by decide +kernel
theorem d_MO_before_20 : decode b_MO_before 20 = .ok (.iload_n 3, 1) := by decide +kernel
theorem d_MO_before_21 : decode b_MO_before 21 = .ok (.aload_n 0, 1) := by decide +kernel
theorem d_MO_before_22 : decode b_MO_before 22 = .ok (.getfield 58, 3) := by decide +kernel
theorem d_MO_before_25 : decode b_MO_before 25 = .ok (.if_icmp .ge 34, 3) := by decide +kernel
theorem d_MO_before_28 : decode b_MO_before 28 = .ok (.iload_n 2, 1) := by decide +kernel
theorem d_MO_before_29 : decode b_MO_before 29 = .ok (.iload_n 3, 1) := by decide +kernel
theorem d_MO_before_30 : decode b_MO_before 30 = .ok (.iadd, 1) := by decide +kernel
theorem d_MO_before_31 : decode b_MO_before 31 = .ok (.aload_n 0, 1) := by decide +kernel
theorem d_MO_before_32 : decode b_MO_before 32 = .ok (.getfield 37, 3) := by decide +kernel
theorem d_MO_before_35 : decode b_MO_before 35 = .ok (.if_icmp .eq 20, 3) := by decide +kernel
theorem d_MO_before_38 : decode b_MO_before 38 = .ok (.aload_n 0, 1) := by decide +kernel
theorem d_MO_before_39 : decode b_MO_before 39 = .ok (.getfield 13, 3) := by decide +kernel
theorem d_MO_before_42 : decode b_MO_before 42 = .ok (.iload_n 2, 1) := by decide +kernel
theorem d_MO_before_43 : decode b_MO_before 43 = .ok (.iload_n 3, 1) := by decide +kernel
theorem d_MO_before_44 : decode b_MO_before 44 = .ok (.iadd, 1) := by decide +kernel
theorem d_MO_before_45 : decode b_MO_before 45 = .ok (.iaload, 1) := by decide +kernel
theorem d_MO_before_46 : decode b_MO_before 46 = .ok (.aload_n 0, 1) := by decide +kernel
theorem d_MO_before_47 : decode b_MO_before 47 = .ok (.getfield 19, 3) := by decide +kernel
theorem d_MO_before_50 : decode b_MO_before 50 = .ok (.iload_n 3, 1) := by decide +kernel
theorem d_MO_before_51 : decode b_MO_before 51 = .ok (.iaload, 1) := by decide +kernel
theorem d_MO_before_52 : decode b_MO_before 52 = .ok (.if_icmp .ge 7, 3) := by decide +kernel
theorem d_MO_before_55 : decode b_MO_before 55 = .ok (.iconst 1, 1) := by decide +kernel
theorem d_MO_before_56 : decode b_MO_before 56 = .ok (.goto 4, 3) := by decide +kernel
theorem d_MO_before_59 : decode b_MO_before 59 = .ok (.iconst 0, 1) := by decide +kernel
theorem d_MO_before_60 : decode b_MO_before 60 = .ok (.iadd, 1) := by decide +kernel
theorem d_MO_before_61 : decode b_MO_before 61 = .ok (.istore_n 1, 1) := by decide +kernel
theorem d_MO_before_62 : decode b_MO_before 62 = .ok (.iinc 2 1, 3) := by decide +kernel
theorem d_MO_before_65 : decode b_MO_before 65 = .ok (.goto (-61), 3) := by decide +kernel
theorem d_MO_before_68 : decode b_MO_before 68 = .ok (.iload_n 1, 1) := by decide +kernel
theorem d_MO_before_69 : decode b_MO_before 69 = .ok (.ireturn, 1) := by decide +kernel
theorem d_MO_hit_0 : decode b_MO_hit 0 = .ok (.iload_n 1, 1) := by decide +kernel
theorem d_MO_hit_1 : decode b_MO_hit 1 = .ok (.istore_n 2, 1) := by decide +kernel
theorem d_MO_hit_2 : decode b_MO_hit 2 = .ok (.iconst 0, 1) := by decide +kernel
theorem d_MO_hit_3 : decode b_MO_hit 3 = .ok (.istore_n 3, 1) := by decide +kernel
theorem d_MO_hit_4 : decode b_MO_hit 4 = .ok (.iload_n 3, 1) := by decide +kernel
theorem d_MO_hit_5 : decode b_MO_hit 5 = .ok (.aload_n 0, 1) := by decide +kernel
theorem d_MO_hit_6 : decode b_MO_hit 6 = .ok (.getfield 37, 3) := by decide +kernel
theorem d_MO_hit_9 : decode b_MO_hit 9 = .ok (.if_icmp .gt 35, 3) := by decide +kernel
theorem d_MO_hit_12 : decode b_MO_hit 12 = .ok (.iload_n 1, 1) := by decide +kernel
theorem d_MO_hit_13 : decode b_MO_hit 13 = .ok (.ifCond .lt 31, 3) := by decide +kernel
theorem d_MO_hit_16 : decode b_MO_hit 16 = .ok (.aload_n 0, 1) := by decide +kernel
theorem d_MO_hit_17 : decode b_MO_hit 17 = .ok (.iload_n 3, 1) := by decide +kernel
theorem d_MO_hit_18 : decode b_MO_hit 18 = .ok (.iconst 0, 1) := by decide +kernel
theorem d_MO_hit_19 : decode b_MO_hit 19 = .ok (.invokevirtual 61, 3) := by decide +kernel
theorem d_MO_hit_22 : decode b_MO_hit 22 = .ok (.aload_n 0, 1) := by decide +kernel
theorem d_MO_hit_23 : decode b_MO_hit 23 = .ok (.getfield 58, 3) := by decide +kernel
theorem d_MO_hit_26 : decode b_MO_hit 26 = .ok (.if_icmp .ne 12, 3) := by decide +kernel
theorem d_MO_hit_29 : decode b_MO_hit 29 = .ok (.iload_n 2, 1) := by decide +kernel
theorem d_MO_hit_30 : decode b_MO_hit 30 = .ok (.ifCond .ne 5, 3) := by decide +kernel
theorem d_MO_hit_33 : decode b_MO_hit 33 = .ok (.iload_n 3, 1) := by decide +kernel
theorem d_MO_hit_34 : decode b_MO_hit 34 = .ok (.ireturn, 1) := by decide +kernel
theorem d_MO_hit_35 : decode b_MO_hit 35 = .ok (.iinc 2 (-1), 3) := by decide +kernel
theorem d_MO_hit_38 : decode b_MO_hit 38 = .ok (.iinc 3 1, 3) := by decide +kernel
theorem d_MO_hit_41 : decode b_MO_hit 41 = .ok (.goto (-37), 3) := by decide +kernel
