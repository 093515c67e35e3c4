theorem d_CX_init_0 : decode b_CX_init 0 = .ok (.aload_n 0, 1) := by decide +kernel
theorem d_CX_init_1 : decode b_CX_init 1 = .ok (.invokespecial 3, 3) := by decide +kernel
theorem d_CX_init_4 : decode b_CX_init 4 = .ok (.aload_n 0, 1) := by decide +kernel
theorem d_CX_init_5 : decode b_CX_init 5 = .ok (.new 9, 3) := by decide +kernel
theorem d_CX_init_8 : decode b_CX_init 8 = .ok (.dup, 1) := by decide +kernel
theorem d_CX_init_9 : decode b_CX_init 9 = .ok (.invokespecial 11, 3) := by decide +kernel
theorem d_CX_init_12 : decode b_CX_init 12 = .ok (.putfield 12, 3) := by decide +kernel
theorem d_CX_init_15 : decode b_CX_init 15 = .ok (.aload_n 0, 1) := by decide +kernel
theorem d_CX_init_16 : decode b_CX_init 16 = .ok (.new 9, 3) := by decide +kernel
theorem d_CX_init_19 : decode b_CX_init 19 = .ok (.dup, 1) := by decide +kernel
theorem d_CX_init_20 : decode b_CX_init 20 = .ok (.invokespecial 11, 3) := by decide +kernel
theorem d_CX_init_23 : decode b_CX_init 23 = .ok (.putfield 16, 3) := by decide +kernel
theorem d_CX_init_26 : decode b_CX_init 26 = .ok (.aload_n 0, 1) := by decide +kernel
theorem d_CX_init_27 : decode b_CX_init 27 = .ok (.new 9, 3) := by decide +kernel
theorem d_CX_init_30 : decode b_CX_init 30 = .ok (.dup, 1) := by decide +kernel
theorem d_CX_init_31 : decode b_CX_init 31 = .ok (.invokespecial 11, 3) := by decide +kernel
theorem d_CX_init_34 : decode b_CX_init 34 = .ok (.putfield 19, 3) := by decide +kernel
theorem d_CX_init_37 : decode b_CX_init 37 = .ok (.aload_n 0, 1) := by decide +kernel
theorem d_CX_init_38 : decode b_CX_init 38 = .ok (.new 22, 3) := by decide +kernel
theorem d_CX_init_41 : decode b_CX_init 41 = .ok (.dup, 1) := by decide +kernel
theorem d_CX_init_42 : decode b_CX_init 42 = .ok (.invokespecial 24, 3) := by decide +kernel
theorem d_CX_init_45 : decode b_CX_init 45 = .ok (.putfield 25, 3) := by decide +kernel
theorem d_CX_init_48 : decode b_CX_init 48 = .ok (.aload_n 0, 1) := by decide +kernel
theorem d_CX_init_49 : decode b_CX_init 49 = .ok (.new 29, 3) := by decide +kernel
theorem d_CX_init_52 : decode b_CX_init 52 = .ok (.dup, 1) := by decide +kernel
theorem d_CX_init_53 : decode b_CX_init 53 = .ok (.invokespecial 31, 3) := by decide +kernel
theorem d_CX_init_56 : decode b_CX_init 56 = .ok (.putfield 32, 3) := by decide +kernel
theorem d_CX_init_59 : decode b_CX_init 59 = .ok (.aload_n 0, 1) := by decide +kernel
theorem d_CX_init_60 : decode b_CX_init 60 = .ok (.new 36, 3) := by decide +kernel
theorem d_CX_init_63 : decode b_CX_init 63 = .ok (.dup, 1) := by decide +kernel
theorem d_CX_init_64 : decode b_CX_init 64 = .ok (.invokespecial 38, 3) := by decide +kernel
theorem d_CX_init_67 : decode b_CX_init 67 = .ok (.putfield 39, 3) := by decide +kernel
theorem d_CX_init_70 : decode b_CX_init 70 = .ok (.return_, 1) := by decide +kernel
theorem d_CX_type_0 : decode b_CX_type 0 = .ok (.iload_n 3, 1) := by decide +kernel
theorem d_CX_type_1 : decode b_CX_type 1 = .ok (.iconst 1, 1) := by decide +kernel
theorem d_CX_type_2 : decode b_CX_type 2 = .ok (.if_icmp .lt 9, 3) := by decide +kernel
theorem d_CX_type_5 : decode b_CX_type 5 = .ok (.iload_n 3, 1) := by decide +kernel
theorem d_CX_type_6 : decode b_CX_type 6 = .ok (.bipush 8, 2) := by decide +kernel
theorem d_CX_type_8 : decode b_CX_type 8 = .ok (.if_icmp .le 5, 3) := by decide +kernel
theorem d_CX_type_11 : decode b_CX_type 11 = .ok (.iconst (-1), 1) := by decide +kernel
theorem d_CX_type_12 : decode b_CX_type 12 = .ok (.ireturn, 1) := by decide +kernel
theorem d_CX_type_13 : decode b_CX_type 13 = .ok (.iload_n 3, 1) := by decide +kernel
theorem d_CX_type_14 : decode b_CX_type 14 = .ok (.bipush 96, 2) := by decide +kernel
theorem d_CX_type_16 : decode b_CX_type 16 = .ok (.aload_n 0, 1) := by decide +kernel
theorem d_CX_type_17 : decode b_CX_type 17 = .ok (.getfield 12, 3) := by decide +kernel
theorem d_CX_type_20 : decode b_CX_type 20 = .ok (.getfield 43, 3) := by decide +kernel
theorem d_CX_type_23 : decode b_CX_type 23 = .ok (.isub, 1) := by decide +kernel
theorem d_CX_type_24 : decode b_CX_type 24 = .ok (.if_icmp .le 6, 3) := by decide +kernel
theorem d_CX_type_27 : decode b_CX_type 27 = .ok (.bipush (-3), 2) := by decide +kernel
theorem d_CX_type_29 : decode b_CX_type 29 = .ok (.ireturn, 1) := by decide +kernel
theorem d_CX_type_30 : decode b_CX_type 30 = .ok (.iload_n 3, 1) := by decide +kernel
theorem d_CX_type_31 : decode b_CX_type 31 = .ok (.iconst 1, 1) := by decide +kernel
theorem d_CX_type_32 : decode b_CX_type 32 = .ok (.isub, 1) := by decide +kernel
theorem d_CX_type_33 : decode b_CX_type 33 = .ok (.istore 4, 2) := by decide +kernel
theorem d_CX_type_35 : decode b_CX_type 35 = .ok (.iload 4, 2) := by decide +kernel
theorem d_CX_type_37 : decode b_CX_type 37 = .ok (.ifCond .lt 28, 3) := by decide +kernel
theorem d_CX_type_40 : decode b_CX_type 40 = .ok (.aload_n 0, 1) := by decide +kernel
theorem d_CX_type_41 : decode b_CX_type 41 = .ok (.getfield 12, 3) := by decide +kernel
theorem d_CX_type_44 : decode b_CX_type 44 = .ok (.lload_n 1, 1) := by decide +kernel
theorem d_CX_type_45 : decode b_CX_type 45 = .ok (.bipush 8, 2) := by decide +kernel
theorem d_CX_type_47 : decode b_CX_type 47 = .ok (.iload 4, 2) := by decide +kernel
theorem d_CX_type_49 : decode b_CX_type 49 = .ok (.imul, 1) := by decide +kernel
theorem d_CX_type_50 : decode b_CX_type 50 = .ok (.lushr, 1) := by decide +kernel
theorem d_CX_type_51 : decode b_CX_type 51 = .ok (.l2i, 1) := by decide +kernel
theorem d_CX_type_52 : decode b_CX_type 52 = .ok (.sipush 255, 3) := by decide +kernel
theorem d_CX_type_55 : decode b_CX_type 55 = .ok (.iand, 1) := by decide +kernel
theorem d_CX_type_56 : decode b_CX_type 56 = .ok (.invokevirtual 47, 3) := by decide +kernel
theorem d_CX_type_59 : decode b_CX_type 59 = .ok (.iinc 4 (-1), 3) := by decide +kernel
theorem d_CX_type_62 : decode b_CX_type 62 = .ok (.goto (-27), 3) := by decide +kernel
theorem d_CX_type_65 : decode b_CX_type 65 = .ok (.aload_n 0, 1) := by decide +kernel
theorem d_CX_type_66 : decode b_CX_type 66 = .ok (.getfield 12, 3) := by decide +kernel
theorem d_CX_type_69 : decode b_CX_type 69 = .ok (.getfield 43, 3) := by decide +kernel
theorem d_CX_type_72 : decode b_CX_type 72 = .ok (.ireturn, 1) := by decide +kernel
theorem d_CX_build_0 : decode b_CX_build 0 = .ok (.aload_n 0, 1) := by decide +kernel
theorem d_CX_build_1 : decode b_CX_build 1 = .ok (.getfield 16, 3) := by decide +kernel
theorem d_CX_build_4 : decode b_CX_build 4 = .ok (.aload_n 0, 1) := by decide +kernel
theorem d_CX_build_5 : decode b_CX_build 5 = .ok (.getfield 12, 3) := by decide +kernel
theorem d_CX_build_8 : decode b_CX_build 8 = .ok (.invokevirtual 51, 3) := by decide +kernel
theorem d_CX_build_11 : decode b_CX_build 11 = .ok (.aload_n 0, 1) := by decide +kernel
theorem d_CX_build_12 : decode b_CX_build 12 = .ok (.getfield 12, 3) := by decide +kernel
theorem d_CX_build_15 : decode b_CX_build 15 = .ok (.invokevirtual 55, 3) := by decide +kernel
theorem d_CX_build_18 : decode b_CX_build 18 = .ok (.aload_n 0, 1) := by decide +kernel
theorem d_CX_build_19 : decode b_CX_build 19 = .ok (.invokevirtual 58, 3) := by decide +kernel
theorem d_CX_build_22 : decode b_CX_build 22 = .ok (.aload_n 0, 1) := by decide +kernel
theorem d_CX_build_23 : decode b_CX_build 23 = .ok (.getfield 16, 3) := by decide +kernel
theorem d_CX_build_26 : decode b_CX_build 26 = .ok (.getfield 43, 3) := by decide +kernel
theorem d_CX_build_29 : decode b_CX_build 29 = .ok (.ireturn, 1) := by decide +kernel
theorem d_CX_size_0 : decode b_CX_size 0 = .ok (.aload_n 0, 1) := by decide +kernel
theorem d_CX_size_1 : decode b_CX_size 1 = .ok (.getfield 16, 3) := by decide +kernel
theorem d_CX_size_4 : decode b_CX_size 4 = .ok (.getfield 43, 3) := by decide +kernel
theorem d_CX_size_7 : decode b_CX_size 7 = .ok (.ireturn, 1) := by decide +kernel
theorem d_CX_at_0 : decode b_CX_at 0 = .ok (.iload_n 1, 1) := by decide +kernel
theorem d_CX_at_1 : decode b_CX_at 1 = .ok (.ifCond .lt 26, 3) := by decide +kernel
theorem d_CX_at_4 : decode b_CX_at 4 = .ok (.iload_n 1, 1) := by decide +kernel
theorem d_CX_at_5 : decode b_CX_at 5 = .ok (.aload_n 0, 1) := by decide +kernel
theorem d_CX_at_6 : decode b_CX_at 6 = .ok (.getfield 16, 3) := by decide +kernel
theorem d_CX_at_9 : decode b_CX_at 9 = .ok (.getfield 43, 3) := by decide +kernel
theorem d_CX_at_12 : decode b_CX_at 12 = .ok (.if_icmp .ge 15, 3) := by decide +kernel
theorem d_CX_at_15 : decode b_CX_at 15 = .ok (.aload_n 0, 1) := by decide +kernel
theorem d_CX_at_16 : decode b_CX_at 16 = .ok (.getfield 16, 3) := by decide +kernel
theorem d_CX_at_19 : decode b_CX_at 19 = .ok (.getfield 61, 3) := by decide +kernel
theorem d_CX_at_22 : decode b_CX_at 22 = .ok (.iload_n 1, 1) := by decide +kernel
theorem d_CX_at_23 : decode b_CX_at 23 = .ok (.iaload, 1) := by decide +kernel
theorem d_CX_at_24 : decode b_CX_at 24 = .ok (.goto 4, 3) := by decide +kernel
theorem d_CX_at_27 : decode b_CX_at 27 = .ok (.iconst (-1), 1) := by decide +kernel
theorem d_CX_at_28 : decode b_CX_at 28 = .ok (.ireturn, 1) := by decide +kernel
theorem d_CX_suffix_0 : decode b_CX_suffix 0 = .ok (.aload_n 0, 1) := by decide +kernel
theorem d_CX_suffix_1 : decode b_CX_suffix 1 = .ok (.iload_n 1, 1) := by decide +kernel
theorem d_CX_suffix_2 : decode b_CX_suffix 2 = .ok (.invokevirtual 65, 3) := by decide +kernel
theorem d_CX_suffix_5 : decode b_CX_suffix 5 = .ok (.ifCond .eq 15, 3) := by decide +kernel
theorem d_CX_suffix_8 : decode b_CX_suffix 8 = .ok (.aload_n 0, 1) := by decide +kernel
theorem d_CX_suffix_9 : decode b_CX_suffix 9 = .ok (.getfield 25, 3) := by decide +kernel
theorem d_CX_suffix_12 : decode b_CX_suffix 12 = .ok (.getfield 69, 3) := by decide +kernel
theorem d_CX_suffix_15 : decode b_CX_suffix 15 = .ok (.iload_n 1, 1) := by decide +kernel
theorem d_CX_suffix_16 : decode b_CX_suffix 16 = .ok (.iaload, 1) := by decide +kernel
theorem d_CX_suffix_17 : decode b_CX_suffix 17 = .ok (.goto 4, 3) := by decide +kernel
theorem d_CX_suffix_20 : decode b_CX_suffix 20 = .ok (.iconst (-1), 1) := by decide +kernel
theorem d_CX_suffix_21 : decode b_CX_suffix 21 = .ok (.ireturn, 1) := by decide +kernel
theorem d_CX_rank_0 : decode b_CX_rank 0 = .ok (.aload_n 0, 1) := by decide +kernel
theorem d_CX_rank_1 : decode b_CX_rank 1 = .ok (.iload_n 1, 1) := by decide +kernel
theorem d_CX_rank_2 : decode b_CX_rank 2 = .ok (.invokevirtual 65, 3) := by decide +kernel
theorem d_CX_rank_5 : decode b_CX_rank 5 = .ok (.ifCond .eq 15, 3) := by decide +kernel
theorem d_CX_rank_8 : decode b_CX_rank 8 = .ok (.aload_n 0, 1) := by decide +kernel
theorem d_CX_rank_9 : decode b_CX_rank 9 = .ok (.getfield 25, 3) := by decide +kernel
theorem d_CX_rank_12 : decode b_CX_rank 12 = .ok (.getfield 72, 3) := by decide +kernel
theorem d_CX_rank_15 : decode b_CX_rank 15 = .ok (.iload_n 1, 1) := by decide +kernel
theorem d_CX_rank_16 : decode b_CX_rank 16 = .ok (.iaload, 1) := by decide +kernel
theorem d_CX_rank_17 : decode b_CX_rank 17 = .ok (.goto 4, 3) := by decide +kernel
theorem d_CX_rank_20 : decode b_CX_rank 20 = .ok (.iconst (-1), 1) := by decide +kernel
theorem d_CX_rank_21 : decode b_CX_rank 21 = .ok (.ireturn, 1) := by decide +kernel
theorem d_CX_column_0 : decode b_CX_column 0 = .ok (.aload_n 0, 1) := by decide +kernel
theorem d_CX_column_1 : decode b_CX_column 1 = .ok (.iload_n 1, 1) := by decide +kernel
theorem d_CX_column_2 : decode b_CX_column 2 = .ok (.invokevirtual 65, 3) := by decide +kernel
theorem d_CX_column_5 : decode b_CX_column 5 = .ok (.ifCond .eq 15, 3) := by decide +kernel
theorem d_CX_column_8 : decode b_CX_column 8 = .ok (.aload_n 0, 1) := by decide +kernel
theorem d_CX_column_9 : decode b_CX_column 9 = .ok (.getfield 25, 3) := by decide +kernel
theorem d_CX_column_12 : decode b_CX_column 12 = .ok (.getfield 75, 3) := by decide +kernel
theorem d_CX_column_15 : decode b_CX_column 15 = .ok (.iload_n 1, 1) := by decide +kernel
theorem d_CX_column_16 : decode b_CX_column 16 = .ok (.iaload, 1) := by decide +kernel
theorem d_CX_column_17 : decode b_CX_column 17 = .ok (.goto 4, 3) := by decide +kernel
theorem d_CX_column_20 : decode b_CX_column 20 = .ok (.iconst (-1), 1) := by decide +kernel
theorem d_CX_column_21 : decode b_CX_column 21 = .ok (.ireturn, 1) := by decide +kernel
theorem d_CX_common_0 : decode b_CX_common 0 = .ok (.iload_n 1, 1) := by decide +kernel
theorem d_CX_common_1 : decode b_CX_common 1 = .ok (.ifCond .lt 26, 3) := by decide +kernel
theorem d_CX_common_4 : decode b_CX_common 4 = .ok (.iload_n 1, 1) := by decide +kernel
theorem d_CX_common_5 : decode b_CX_common 5 = .ok (.aload_n 0, 1) := by decide +kernel
theorem d_CX_common_6 : decode b_CX_common 6 = .ok (.getfield 16, 3) := by decide +kernel
theorem d_CX_common_9 : decode b_CX_common 9 = .ok (.getfield 43, 3) := by decide +kernel
theorem d_CX_common_12 : decode b_CX_common 12 = .ok (.if_icmp .ge 15, 3) := by decide +kernel
theorem d_CX_common_15 : decode b_CX_common 15 = .ok (.aload_n 0, 1) := by decide +kernel
theorem d_CX_common_16 : decode b_CX_common 16 = .ok (.getfield 25, 3) := by decide +kernel
theorem d_CX_common_19 : decode b_CX_common 19 = .ok (.getfield 78, 3) := by decide +kernel
theorem d_CX_common_22 : decode b_CX_common 22 = .ok (.iload_n 1, 1) := by decide +kernel
theorem d_CX_common_23 : decode b_CX_common 23 = .ok (.iaload, 1) := by decide +kernel
theorem d_CX_common_24 : decode b_CX_common 24 = .ok (.goto 4, 3) := by decide +kernel
theorem d_CX_common_27 : decode b_CX_common 27 = .ok (.iconst (-1), 1) := by decide +kernel
theorem d_CX_common_28 : decode b_CX_common 28 = .ok (.ireturn, 1) := by decide +kernel
theorem d_CX_moved_0 : decode b_CX_moved 0 = .ok (.aload_n 0, 1) := by decide +kernel
theorem d_CX_moved_1 : decode b_CX_moved 1 = .ok (.iload_n 1, 1) := by decide +kernel
theorem d_CX_moved_2 : decode b_CX_moved 2 = .ok (.invokevirtual 65, 3) := by decide +kernel
theorem d_CX_moved_5 : decode b_CX_moved 5 = .ok (.ifCond .eq 15, 3) := by decide +kernel
theorem d_CX_moved_8 : decode b_CX_moved 8 = .ok (.aload_n 0, 1) := by decide +kernel
theorem d_CX_moved_9 : decode b_CX_moved 9 = .ok (.getfield 32, 3) := by decide +kernel
theorem d_CX_moved_12 : decode b_CX_moved 12 = .ok (.getfield 81, 3) := by decide +kernel
theorem d_CX_moved_15 : decode b_CX_moved 15 = .ok (.iload_n 1, 1) := by decide +kernel
theorem d_CX_moved_16 : decode b_CX_moved 16 = .ok (.iaload, 1) := by decide +kernel
theorem d_CX_moved_17 : decode b_CX_moved 17 = .ok (.goto 4, 3) := by decide +kernel
theorem d_CX_moved_20 : decode b_CX_moved 20 = .ok (.iconst (-1), 1) := by decide +kernel
theorem d_CX_moved_21 : decode b_CX_moved 21 = .ok (.ireturn, 1) := by decide +kernel
theorem d_CX_distinct_0 : decode b_CX_distinct 0 = .ok (.iconst 0, 1) := by decide +kernel
theorem d_CX_distinct_1 : decode b_CX_distinct 1 = .ok (.istore_n 1, 1) := by decide +kernel
theorem d_CX_distinct_2 : decode b_CX_distinct 2 = .ok (.iconst 0, 1) := by decide +kernel
theorem d_CX_distinct_3 : decode b_CX_distinct 3 = .ok (.istore_n 2, 1) := by decide +kernel
theorem d_CX_distinct_4 : decode b_CX_distinct 4 = .ok (.iload_n 2, 1) := by decide +kernel
theorem d_CX_distinct_5 : decode b_CX_distinct 5 = .ok (.aload_n 0, 1) := by decide +kernel
theorem d_CX_distinct_6 : decode b_CX_distinct 6 = .ok (.getfield 16, 3) := by decide +kernel
theorem d_CX_distinct_9 : decode b_CX_distinct 9 = .ok (.getfield 43, 3) := by decide +kernel
theorem d_CX_distinct_12 : decode b_CX_distinct 12 = .ok (.if_icmp .ge 43, 3) := by decide +kernel
theorem d_CX_distinct_15 : decode b_CX_distinct 15 = .ok (.aload_n 0, 1) := by decide +kernel
theorem d_CX_distinct_16 : decode b_CX_distinct 16 = .ok (.getfield 25, 3) := by decide +kernel
theorem d_CX_distinct_19 : decode b_CX_distinct 19 = .ok (.getfield 69, 3) := by decide +kernel
theorem d_CX_distinct_22 : decode b_CX_distinct 22 = .ok (.iload_n 2, 1) := by decide +kernel
theorem d_CX_distinct_23 : decode b_CX_distinct 23 = .ok (.iconst 1, 1) := by decide +kernel
theorem d_CX_distinct_24 : decode b_CX_distinct 24 = .ok (.iadd, 1) := by decide +kernel
theorem d_CX_distinct_25 : decode b_CX_distinct 25 = .ok (.iaload, 1) := by decide +kernel
theorem d_CX_distinct_26 : decode b_CX_distinct 26 = .ok (.istore_n 3, 1) := by decide +kernel
theorem d_CX_distinct_27 : decode b_CX_distinct 27 = .ok (.iload_n 1, 1) := by decide +kernel
theorem d_CX_distinct_28 : decode b_CX_distinct 28 = .ok (.aload_n 0, 1) := by decide +kernel
theorem d_CX_distinct_29 : decode b_CX_distinct 29 = .ok (.getfield 16, 3) := by decide +kernel
theorem d_CX_distinct_32 : decode b_CX_distinct 32 = .ok (.getfield 43, 3) := by decide +kernel
theorem d_CX_distinct_35 : decode b_CX_distinct 35 = .ok (.iload_n 3, 1) := by decide +kernel
theorem d_CX_distinct_36 : decode b_CX_distinct 36 = .ok (.isub, 1) := by decide +kernel
theorem d_CX_distinct_37 : decode b_CX_distinct 37 = .ok (.aload_n 0, 1) := by decide +kernel
theorem d_CX_distinct_38 : decode b_CX_distinct 38 = .ok (.getfield 25, 3) := by decide +kernel
theorem d_CX_distinct_41 : decode b_CX_distinct 41 = .ok (.getfield 78, 3) := by decide +kernel
theorem d_CX_distinct_44 : decode b_CX_distinct 44 = .ok (.iload_n 2, 1) := by decide +kernel
theorem d_CX_distinct_45 : decode b_CX_distinct 45 = .ok (.iaload, 1) := by decide +kernel
theorem d_CX_distinct_46 : decode b_CX_distinct 46 = .ok (.isub, 1) := by decide +kernel
theorem d_CX_distinct_47 : decode b_CX_distinct 47 = .ok (.iadd, 1) := by decide +kernel
theorem d_CX_distinct_48 : decode b_CX_distinct 48 = .ok (.istore_n 1, 1) := by decide +kernel
theorem d_CX_distinct_49 : decode b_CX_distinct 49 = .ok (.iinc 2 1, 3) := by decide +kernel
theorem d_CX_distinct_52 : decode b_CX_distinct 52 = .ok (.goto (-48), 3) := by decide +kernel
theorem d_CX_distinct_55 : decode b_CX_distinct 55 = .ok (.iload_n 1, 1) := by decide +kernel
theorem d_CX_distinct_56 : decode b_CX_distinct 56 = .ok (.ireturn, 1) := by decide +kernel
theorem d_CX_repeat_0 : decode b_CX_repeat 0 = .ok (.iconst 0, 1) := by decide +kernel
theorem d_CX_repeat_1 : decode b_CX_repeat 1 = .ok (.istore_n 1, 1) := by decide +kernel
theorem d_CX_repeat_2 : decode b_CX_repeat 2 = .ok (.iconst 0, 1) := by decide +kernel
theorem d_CX_repeat_3 : decode b_CX_repeat 3 = .ok (.istore_n 2, 1) := by decide +kernel
theorem d_CX_repeat_4 : decode b_CX_repeat 4 = .ok (.iconst 0, 1) := by decide +kernel
theorem d_CX_repeat_5 : decode b_CX_repeat 5 = .ok (.istore_n 3, 1) := by decide +kernel
theorem d_CX_repeat_6 : decode b_CX_repeat 6 = .ok (.iload_n 3, 1) := by decide +kernel
theorem d_CX_repeat_7 : decode b_CX_repeat 7 = .ok (.aload_n 0, 1) := by decide +kernel
theorem d_CX_repeat_8 : decode b_CX_repeat 8 = .ok (.getfield 16, 3) := by decide +kernel
theorem d_CX_repeat_11 : decode b_CX_repeat 11 = .ok (.getfield 43, 3) := by decide +kernel
theorem d_CX_repeat_14 : decode b_CX_repeat 14 = .ok (.if_icmp .ge 69, 3) := by decide +kernel
theorem d_CX_repeat_17 : decode b_CX_repeat 17 = .ok (.aload_n 0, 1) := by decide +kernel
theorem d_CX_repeat_18 : decode b_CX_repeat 18 = .ok (.getfield 25, 3) := by decide +kernel
theorem d_CX_repeat_21 : decode b_CX_repeat 21 = .ok (.getfield 78, 3) := by decide +kernel
theorem d_CX_repeat_24 : decode b_CX_repeat 24 = .ok (.iload_n 3, 1) := by decide +kernel
theorem d_CX_repeat_25 : decode b_CX_repeat 25 = .ok (.iaload, 1) := by decide +kernel
theorem d_CX_repeat_26 : decode b_CX_repeat 26 = .ok (.istore 4, 2) := by decide +kernel
theorem d_CX_repeat_28 : decode b_CX_repeat 28 = .ok (.aload_n 0, 1) := by decide +kernel
theorem d_CX_repeat_29 : decode b_CX_repeat 29 = .ok (.getfield 25, 3) := by decide +kernel
theorem d_CX_repeat_32 : decode b_CX_repeat 32 = .ok (.getfield 69, 3) := by decide +kernel
theorem d_CX_repeat_35 : decode b_CX_repeat 35 = .ok (.iload_n 3, 1) := by decide +kernel
theorem d_CX_repeat_36 : decode b_CX_repeat 36 = .ok (.iaload, 1) := by decide +kernel
theorem d_CX_repeat_37 : decode b_CX_repeat 37 = .ok (.aload_n 0, 1) := by decide +kernel
theorem d_CX_repeat_38 : decode b_CX_repeat 38 = .ok (.getfield 25, 3) := by decide +kernel
theorem d_CX_repeat_41 : decode b_CX_repeat 41 = .ok (.getfield 69, 3) := by decide +kernel
theorem d_CX_repeat_44 : decode b_CX_repeat 44 = .ok (.iload_n 3, 1) := by decide +kernel
theorem d_CX_repeat_45 : decode b_CX_repeat 45 = .ok (.iconst 1, 1) := by decide +kernel
theorem d_CX_repeat_46 : decode b_CX_repeat 46 = .ok (.iadd, 1) := by decide +kernel
theorem d_CX_repeat_47 : decode b_CX_repeat 47 = .ok (.iaload, 1) := by decide +kernel
theorem d_CX_repeat_48 : decode b_CX_repeat 48 = .ok (.invokestatic 84, 3) := by decide +kernel
theorem d_CX_repeat_51 : decode b_CX_repeat 51 = .ok (.istore 5, 2) := by decide +kernel
theorem d_CX_repeat_53 : decode b_CX_repeat 53 = .ok (.iload 4, 2) := by decide +kernel
theorem d_CX_repeat_55 : decode b_CX_repeat 55 = .ok (.iload_n 1, 1) := by decide +kernel
theorem d_CX_repeat_56 : decode b_CX_repeat 56 = .ok (.if_icmp .gt 15, 3) := by decide +kernel
theorem d_CX_repeat_59 : decode b_CX_repeat 59 = .ok (.iload 4, 2) := by decide +kernel
theorem d_CX_repeat_61 : decode b_CX_repeat 61 = .ok (.iload_n 1, 1) := by decide +kernel
theorem d_CX_repeat_62 : decode b_CX_repeat 62 = .ok (.if_icmp .ne 15, 3) := by decide +kernel
theorem d_CX_repeat_65 : decode b_CX_repeat 65 = .ok (.iload 5, 2) := by decide +kernel
theorem d_CX_repeat_67 : decode b_CX_repeat 67 = .ok (.iload_n 2, 1) := by decide +kernel
theorem d_CX_repeat_68 : decode b_CX_repeat 68 = .ok (.if_icmp .ge 9, 3) := by decide +kernel
theorem d_CX_repeat_71 : decode b_CX_repeat 71 = .ok (.iload 4, 2) := by decide +kernel
theorem d_CX_repeat_73 : decode b_CX_repeat 73 = .ok (.istore_n 1, 1) := by decide +kernel
theorem d_CX_repeat_74 : decode b_CX_repeat 74 = .ok (.iload 5, 2) := by decide +kernel
theorem d_CX_repeat_76 : decode b_CX_repeat 76 = .ok (.istore_n 2, 1) := by decide +kernel
theorem d_CX_repeat_77 : decode b_CX_repeat 77 = .ok (.iinc 3 1, 3) := by decide +kernel
theorem d_CX_repeat_80 : decode b_CX_repeat 80 = .ok (.goto (-74), 3) := by decide +kernel
theorem d_CX_repeat_83 : decode b_CX_repeat 83 = .ok (.iload_n 1, 1) := by decide +kernel
theorem d_CX_repeat_84 : decode b_CX_repeat 84 = .ok (.ifCond .ne 7, 3) := by decide +kernel
theorem d_CX_repeat_87 : decode b_CX_repeat 87 = .ok (.iconst 0, 1) := by decide +kernel
theorem d_CX_repeat_88 : decode b_CX_repeat 88 = .ok (.goto 10, 3) := by decide +kernel
theorem d_CX_repeat_91 : decode b_CX_repeat 91 = .ok (.sipush 128, 3) := by decide +kernel
theorem d_CX_repeat_94 : decode b_CX_repeat 94 = .ok (.iload_n 1, 1) := by decide +kernel
theorem d_CX_repeat_95 : decode b_CX_repeat 95 = .ok (.imul, 1) := by decide +kernel
theorem d_CX_repeat_96 : decode b_CX_repeat 96 = .ok (.iload_n 2, 1) := by decide +kernel
theorem d_CX_repeat_97 : decode b_CX_repeat 97 = .ok (.iadd, 1) := by decide +kernel
theorem d_CX_repeat_98 : decode b_CX_repeat 98 = .ok (.ireturn, 1) := by decide +kernel
theorem d_CX_seek_0 : decode b_CX_seek 0 = .ok (.aload_n 0, 1) := by decide +kernel
theorem d_CX_seek_1 : decode b_CX_seek 1 = .ok (.getfield 19, 3) := by decide +kernel
theorem d_CX_seek_4 : decode b_CX_seek 4 = .ok (.aload_n 0, 1) := by decide +kernel
theorem d_CX_seek_5 : decode b_CX_seek 5 = .ok (.getfield 12, 3) := by decide +kernel
theorem d_CX_seek_8 : decode b_CX_seek 8 = .ok (.invokevirtual 51, 3) := by decide +kernel
theorem d_CX_seek_11 : decode b_CX_seek 11 = .ok (.aload_n 0, 1) := by decide +kernel
theorem d_CX_seek_12 : decode b_CX_seek 12 = .ok (.getfield 12, 3) := by decide +kernel
theorem d_CX_seek_15 : decode b_CX_seek 15 = .ok (.invokevirtual 55, 3) := by decide +kernel
theorem d_CX_seek_18 : decode b_CX_seek 18 = .ok (.aload_n 0, 1) := by decide +kernel
theorem d_CX_seek_19 : decode b_CX_seek 19 = .ok (.invokevirtual 90, 3) := by decide +kernel
theorem d_CX_seek_22 : decode b_CX_seek 22 = .ok (.ireturn, 1) := by decide +kernel
theorem d_CX_extend_0 : decode b_CX_extend 0 = .ok (.iload_n 1, 1) := by decide +kernel
theorem d_CX_extend_1 : decode b_CX_extend 1 = .ok (.ifCond .lt 10, 3) := by decide +kernel
theorem d_CX_extend_4 : decode b_CX_extend 4 = .ok (.iload_n 1, 1) := by decide +kernel
theorem d_CX_extend_5 : decode b_CX_extend 5 = .ok (.sipush 256, 3) := by decide +kernel
theorem d_CX_extend_8 : decode b_CX_extend 8 = .ok (.if_icmp .lt 5, 3) := by decide +kernel
theorem d_CX_extend_11 : decode b_CX_extend 11 = .ok (.iconst (-1), 1) := by decide +kernel
theorem d_CX_extend_12 : decode b_CX_extend 12 = .ok (.ireturn, 1) := by decide +kernel
theorem d_CX_extend_13 : decode b_CX_extend 13 = .ok (.aload_n 0, 1) := by decide +kernel
theorem d_CX_extend_14 : decode b_CX_extend 14 = .ok (.getfield 19, 3) := by decide +kernel
theorem d_CX_extend_17 : decode b_CX_extend 17 = .ok (.getfield 43, 3) := by decide +kernel
theorem d_CX_extend_20 : decode b_CX_extend 20 = .ok (.bipush 96, 2) := by decide +kernel
theorem d_CX_extend_22 : decode b_CX_extend 22 = .ok (.if_icmp .lt 6, 3) := by decide +kernel
theorem d_CX_extend_25 : decode b_CX_extend 25 = .ok (.bipush (-3), 2) := by decide +kernel
theorem d_CX_extend_27 : decode b_CX_extend 27 = .ok (.ireturn, 1) := by decide +kernel
theorem d_CX_extend_28 : decode b_CX_extend 28 = .ok (.aload_n 0, 1) := by decide +kernel
theorem d_CX_extend_29 : decode b_CX_extend 29 = .ok (.getfield 19, 3) := by decide +kernel
theorem d_CX_extend_32 : decode b_CX_extend 32 = .ok (.iload_n 1, 1) := by decide +kernel
theorem d_CX_extend_33 : decode b_CX_extend 33 = .ok (.invokevirtual 94, 3) := by decide +kernel
theorem d_CX_extend_36 : decode b_CX_extend 36 = .ok (.aload_n 0, 1) := by decide +kernel
theorem d_CX_extend_37 : decode b_CX_extend 37 = .ok (.invokevirtual 90, 3) := by decide +kernel
theorem d_CX_extend_40 : decode b_CX_extend 40 = .ok (.ireturn, 1) := by decide +kernel
theorem d_CX_before_0 : decode b_CX_before 0 = .ok (.iconst 0, 1) := by decide +kernel
theorem d_CX_before_1 : decode b_CX_before 1 = .ok (.istore_n 1, 1) := by decide +kernel
theorem d_CX_before_2 : decode b_CX_before 2 = .ok (.iconst 0, 1) := by decide +kernel
theorem d_CX_before_3 : decode b_CX_before 3 = .ok (.istore_n 2, 1) := by decide +kernel
theorem d_CX_before_4 : decode b_CX_before 4 = .ok (.iload_n 2, 1) := by decide +kernel
theorem d_CX_before_5 : decode b_CX_before 5 = .ok (.aload_n 0, 1) := by decide +kernel
theorem d_CX_before_6 : decode b_CX_before 6 = .ok (.getfield 16, 3) := by decide +kernel
theorem d_CX_before_9 : decode b_CX_before 9 = .ok (.getfield 43, 3) := by decide +kernel
theorem d_CX_before_12 : decode b_CX_before 12 = .ok (.if_icmp .gt 20, 3) := by decide +kernel
theorem d_CX_before_15 : decode b_CX_before 15 = .ok (.aload_n 0, 1) := by decide +kernel
theorem d_CX_before_16 : decode b_CX_before 16 = .ok (.iload_n 2, 1) := by decide +kernel
theorem d_CX_before_17 : decode b_CX_before 17 = .ok (.invokevirtual 97, 3) := by decide +kernel
theorem d_CX_before_20 : decode b_CX_before 20 = .ok (.ifCond .eq 6, 3) := by decide +kernel
theorem d_CX_before_23 : decode b_CX_before 23 = .ok (.iinc 1 1, 3) := by decide +kernel
theorem d_CX_before_26 : decode b_CX_before 26 = .ok (.iinc 2 1, 3) := by decide +kernel
theorem d_CX_before_29 : decode b_CX_before 29 = .ok (.goto (-25), 3) := by decide +kernel
theorem d_CX_before_32 : decode b_CX_before 32 = .ok (.iload_n 1, 1) := by decide +kernel
theorem d_CX_before_33 : decode b_CX_before 33 = .ok (.ireturn, 1) := by decide +kernel
theorem d_CX_hit_0 : decode b_CX_hit 0 = .ok (.iconst 0, 1) := by decide +kernel
theorem d_CX_hit_1 : decode b_CX_hit 1 = .ok (.istore_n 2, 1) := by decide +kernel
theorem d_CX_hit_2 : decode b_CX_hit 2 = .ok (.iconst 0, 1) := by decide +kernel
theorem d_CX_hit_3 : decode b_CX_hit 3 = .ok (.istore_n 3, 1) := by decide +kernel
theorem d_CX_hit_4 : decode b_CX_hit 4 = .ok (.iload_n 3, 1) := by decide +kernel
theorem d_CX_hit_5 : decode b_CX_hit 5 = .ok (.aload_n 0, 1) := by decide +kernel
theorem d_CX_hit_6 : decode b_CX_hit 6 = .ok (.getfield 16, 3) := by decide +kernel
theorem d_CX_hit_9 : decode b_CX_hit 9 = .ok (.getfield 43, 3) := by decide +kernel
theorem d_CX_hit_12 : decode b_CX_hit 12 = .ok (.if_icmp .gt 27, 3) := by decide +kernel
theorem d_CX_hit_15 : decode b_CX_hit 15 = .ok (.aload_n 0, 1) := by decide +kernel
theorem d_CX_hit_16 : decode b_CX_hit 16 = .ok (.iload_n 3, 1) := by decide +kernel
theorem d_CX_hit_17 : decode b_CX_hit 17 = .ok (.invokevirtual 100, 3) := by decide +kernel
theorem d_CX_hit_20 : decode b_CX_hit 20 = .ok (.ifCond .eq 13, 3) := by decide +kernel
theorem d_CX_hit_23 : decode b_CX_hit 23 = .ok (.iload_n 2, 1) := by decide +kernel
theorem d_CX_hit_24 : decode b_CX_hit 24 = .ok (.iload_n 1, 1) := by decide +kernel
theorem d_CX_hit_25 : decode b_CX_hit 25 = .ok (.if_icmp .ne 5, 3) := by decide +kernel
theorem d_CX_hit_28 : decode b_CX_hit 28 = .ok (.iload_n 3, 1) := by decide +kernel
theorem d_CX_hit_29 : decode b_CX_hit 29 = .ok (.ireturn, 1) := by decide +kernel
theorem d_CX_hit_30 : decode b_CX_hit 30 = .ok (.iinc 2 1, 3) := by decide +kernel
theorem d_CX_hit_33 : decode b_CX_hit 33 = .ok (.iinc 3 1, 3) := by decide +kernel
theorem d_CX_hit_36 : decode b_CX_hit 36 = .ok (.goto (-32), 3) := by decide +kernel
theorem d_CX_hit_39 : decode b_CX_hit 39 = .ok (.iconst (-1), 1) := by decide +kernel
theorem d_CX_hit_40 : decode b_CX_hit 40 = .ok (.ireturn, 1) := by decide +kernel
theorem d_CX_match_0 : decode b_CX_match 0 = .ok (.iload_n 1, 1) := by decide +kernel
theorem d_CX_match_1 : decode b_CX_match 1 = .ok (.ifCond .lt 14, 3) := by decide +kernel
theorem d_CX_match_4 : decode b_CX_match 4 = .ok (.iload_n 1, 1) := by decide +kernel
theorem d_CX_match_5 : decode b_CX_match 5 = .ok (.aload_n 0, 1) := by decide +kernel
theorem d_CX_match_6 : decode b_CX_match 6 = .ok (.getfield 19, 3) := by decide +kernel
theorem d_CX_match_9 : decode b_CX_match 9 = .ok (.getfield 43, 3) := by decide +kernel
theorem d_CX_match_12 : decode b_CX_match 12 = .ok (.if_icmp .le 5, 3) := by decide +kernel
theorem d_CX_match_15 : decode b_CX_match 15 = .ok (.iconst (-1), 1) := by decide +kernel
theorem d_CX_match_16 : decode b_CX_match 16 = .ok (.ireturn, 1) := by decide +kernel
theorem d_CX_match_17 : decode b_CX_match 17 = .ok (.iconst 0, 1) := by decide +kernel
theorem d_CX_match_18 : decode b_CX_match 18 = .ok (.istore_n 2, 1) := by decide +kernel
theorem d_CX_match_19 : decode b_CX_match 19 = .ok (.iconst 0, 1) := by decide +kernel
theorem d_CX_match_20 : decode b_CX_match 20 = .ok (.istore_n 3, 1) := by decide +kernel
theorem d_CX_match_21 : decode b_CX_match 21 = .ok (.iload_n 3, 1) := by decide +kernel
theorem d_CX_match_22 : decode b_CX_match 22 = .ok (.aload_n 0, 1) := by decide +kernel
theorem d_CX_match_23 : decode b_CX_match 23 = .ok (.getfield 16, 3) := by decide +kernel
theorem d_CX_match_26 : decode b_CX_match 26 = .ok (.getfield 43, 3) := by decide +kernel
theorem d_CX_match_29 : decode b_CX_match 29 = .ok (.if_icmp .gt 27, 3) := by decide +kernel
theorem d_CX_match_32 : decode b_CX_match 32 = .ok (.iload_n 2, 1) := by decide +kernel
theorem d_CX_match_33 : decode b_CX_match 33 = .ok (.aload_n 0, 1) := by decide +kernel
theorem d_CX_match_34 : decode b_CX_match 34 = .ok (.getfield 19, 3) := by decide +kernel
theorem d_CX_match_37 : decode b_CX_match 37 = .ok (.iload_n 1, 1) := by decide +kernel
theorem d_CX_match_38 : decode b_CX_match 38 = .ok (.aload_n 0, 1) := by decide +kernel
theorem d_CX_match_39 : decode b_CX_match 39 = .ok (.getfield 16, 3) := by decide +kernel
theorem d_CX_match_42 : decode b_CX_match 42 = .ok (.iload_n 3, 1) := by decide +kernel
theorem d_CX_match_43 : decode b_CX_match 43 = .ok (.invokevirtual 103, 3) := by decide +kernel
theorem d_CX_match_46 : decode b_CX_match 46 = .ok (.invokestatic 107, 3) := by decide +kernel
theorem d_CX_match_49 : decode b_CX_match 49 = .ok (.istore_n 2, 1) := by decide +kernel
theorem d_CX_match_50 : decode b_CX_match 50 = .ok (.iinc 3 1, 3) := by decide +kernel
theorem d_CX_match_53 : decode b_CX_match 53 = .ok (.goto (-32), 3) := by decide +kernel
theorem d_CX_match_56 : decode b_CX_match 56 = .ok (.iload_n 2, 1) := by decide +kernel
theorem d_CX_match_57 : decode b_CX_match 57 = .ok (.ireturn, 1) := by decide +kernel
theorem d_CX_revert_0 : decode b_CX_revert 0 = .ok (.iload_n 1, 1) := by decide +kernel
theorem d_CX_revert_1 : decode b_CX_revert 1 = .ok (.ifCond .lt 14, 3) := by decide +kernel
theorem d_CX_revert_4 : decode b_CX_revert 4 = .ok (.iload_n 1, 1) := by decide +kernel
theorem d_CX_revert_5 : decode b_CX_revert 5 = .ok (.aload_n 0, 1) := by decide +kernel
theorem d_CX_revert_6 : decode b_CX_revert 6 = .ok (.getfield 12, 3) := by decide +kernel
theorem d_CX_revert_9 : decode b_CX_revert 9 = .ok (.getfield 43, 3) := by decide +kernel
theorem d_CX_revert_12 : decode b_CX_revert 12 = .ok (.if_icmp .le 5, 3) := by decide +kernel
theorem d_CX_revert_15 : decode b_CX_revert 15 = .ok (.iconst (-1), 1) := by decide +kernel
theorem d_CX_revert_16 : decode b_CX_revert 16 = .ok (.ireturn, 1) := by decide +kernel
theorem d_CX_revert_17 : decode b_CX_revert 17 = .ok (.aload_n 0, 1) := by decide +kernel
theorem d_CX_revert_18 : decode b_CX_revert 18 = .ok (.getfield 39, 3) := by decide +kernel
theorem d_CX_revert_21 : decode b_CX_revert 21 = .ok (.aload_n 0, 1) := by decide +kernel
theorem d_CX_revert_22 : decode b_CX_revert 22 = .ok (.getfield 12, 3) := by decide +kernel
theorem d_CX_revert_25 : decode b_CX_revert 25 = .ok (.iload_n 1, 1) := by decide +kernel
theorem d_CX_revert_26 : decode b_CX_revert 26 = .ok (.invokevirtual 110, 3) := by decide +kernel
theorem d_CX_revert_29 : decode b_CX_revert 29 = .ok (.aload_n 0, 1) := by decide +kernel
theorem d_CX_revert_30 : decode b_CX_revert 30 = .ok (.getfield 39, 3) := by decide +kernel
theorem d_CX_revert_33 : decode b_CX_revert 33 = .ok (.aload_n 0, 1) := by decide +kernel
theorem d_CX_revert_34 : decode b_CX_revert 34 = .ok (.getfield 12, 3) := by decide +kernel
theorem d_CX_revert_37 : decode b_CX_revert 37 = .ok (.invokevirtual 114, 3) := by decide +kernel
theorem d_CX_revert_40 : decode b_CX_revert 40 = .ok (.ifCond .ne 13, 3) := by decide +kernel
theorem d_CX_revert_43 : decode b_CX_revert 43 = .ok (.aload_n 0, 1) := by decide +kernel
theorem d_CX_revert_44 : decode b_CX_revert 44 = .ok (.getfield 12, 3) := by decide +kernel
theorem d_CX_revert_47 : decode b_CX_revert 47 = .ok (.invokevirtual 55, 3) := by decide +kernel
theorem d_CX_revert_50 : decode b_CX_revert 50 = .ok (.bipush (-4), 2) := by decide +kernel
theorem d_CX_revert_52 : decode b_CX_revert 52 = .ok (.ireturn, 1) := by decide +kernel
theorem d_CX_revert_53 : decode b_CX_revert 53 = .ok (.aload_n 0, 1) := by decide +kernel
theorem d_CX_revert_54 : decode b_CX_revert 54 = .ok (.invokevirtual 118, 3) := by decide +kernel
theorem d_CX_revert_57 : decode b_CX_revert 57 = .ok (.ireturn, 1) := by decide +kernel
theorem d_CX_arrangeText_0 : decode b_CX_arrangeText 0 = .ok (.aload_n 0, 1) := by decide +kernel
theorem d_CX_arrangeText_1 : decode b_CX_arrangeText 1 = .ok (.getfield 25, 3) := by decide +kernel
theorem d_CX_arrangeText_4 : decode b_CX_arrangeText 4 = .ok (.aload_n 0, 1) := by decide +kernel
theorem d_CX_arrangeText_5 : decode b_CX_arrangeText 5 = .ok (.getfield 16, 3) := by decide +kernel
theorem d_CX_arrangeText_8 : decode b_CX_arrangeText 8 = .ok (.invokevirtual 121, 3) := by decide +kernel
theorem d_CX_arrangeText_11 : decode b_CX_arrangeText 11 = .ok (.aload_n 0, 1) := by decide +kernel
