theorem d_CX_arrangeText_12 : decode b_CX_arrangeText 12 = .ok (.getfield 32, 3) := by decide +kernel
theorem d_CX_arrangeText_15 : decode b_CX_arrangeText 15 = .ok (.aload_n 0, 1) := by decide +kernel
theorem d_CX_arrangeText_16 : decode b_CX_arrangeText 16 = .ok (.getfield 25, 3) := by decide +kernel
theorem d_CX_arrangeText_19 : decode b_CX_arrangeText 19 = .ok (.getfield 75, 3) := by decide +kernel
theorem d_CX_arrangeText_22 : decode b_CX_arrangeText 22 = .ok (.aload_n 0, 1) := by decide +kernel
theorem d_CX_arrangeText_23 : decode b_CX_arrangeText 23 = .ok (.getfield 16, 3) := by decide +kernel
theorem d_CX_arrangeText_26 : decode b_CX_arrangeText 26 = .ok (.getfield 43, 3) := by decide +kernel
theorem d_CX_arrangeText_29 : decode b_CX_arrangeText 29 = .ok (.invokevirtual 124, 3) := by decide +kernel
theorem d_CX_arrangeText_32 : decode b_CX_arrangeText 32 = .ok (.return_, 1) := by decide +kernel
theorem d_CX_isSuffix_0 : decode b_CX_isSuffix 0 = .ok (.iload_n 1, 1) := by decide +kernel
theorem d_CX_isSuffix_1 : decode b_CX_isSuffix 1 = .ok (.ifCond .lt 18, 3) := by decide +kernel
theorem d_CX_isSuffix_4 : decode b_CX_isSuffix 4 = .ok (.iload_n 1, 1) := by decide +kernel
theorem d_CX_isSuffix_5 : decode b_CX_isSuffix 5 = .ok (.aload_n 0, 1) := by decide +kernel
theorem d_CX_isSuffix_6 : decode b_CX_isSuffix 6 = .ok (.getfield 16, 3) := by decide +kernel
theorem d_CX_isSuffix_9 : decode b_CX_isSuffix 9 = .ok (.getfield 43, 3) := by decide +kernel
theorem d_CX_isSuffix_12 : decode b_CX_isSuffix 12 = .ok (.if_icmp .gt 7, 3) := by decide +kernel
theorem d_CX_isSuffix_15 : decode b_CX_isSuffix 15 = .ok (.iconst 1, 1) := by decide +kernel
theorem d_CX_isSuffix_16 : decode b_CX_isSuffix 16 = .ok (.goto 4, 3) := by decide +kernel
theorem d_CX_isSuffix_19 : decode b_CX_isSuffix 19 = .ok (.iconst 0, 1) := by decide +kernel
theorem d_CX_isSuffix_20 : decode b_CX_isSuffix 20 = .ok (.ireturn, 1) := by decide +kernel
theorem d_CX_countHits_0 : decode b_CX_countHits 0 = .ok (.iconst 0, 1) := by decide +kernel
theorem d_CX_countHits_1 : decode b_CX_countHits 1 = .ok (.istore_n 1, 1) := by decide +kernel
theorem d_CX_countHits_2 : decode b_CX_countHits 2 = .ok (.iconst 0, 1) := by decide +kernel
theorem d_CX_countHits_3 : decode b_CX_countHits 3 = .ok (.istore_n 2, 1) := by decide +kernel
theorem d_CX_countHits_4 : decode b_CX_countHits 4 = .ok (.iload_n 2, 1) := by decide +kernel
theorem d_CX_countHits_5 : decode b_CX_countHits 5 = .ok (.aload_n 0, 1) := by decide +kernel
theorem d_CX_countHits_6 : decode b_CX_countHits 6 = .ok (.getfield 16, 3) := by decide +kernel
theorem d_CX_countHits_9 : decode b_CX_countHits 9 = .ok (.getfield 43, 3) := by decide +kernel
theorem d_CX_countHits_12 : decode b_CX_countHits 12 = .ok (.if_icmp .gt 20, 3) := by decide +kernel
theorem d_CX_countHits_15 : decode b_CX_countHits 15 = .ok (.aload_n 0, 1) := by decide +kernel
theorem d_CX_countHits_16 : decode b_CX_countHits 16 = .ok (.iload_n 2, 1) := by decide +kernel
theorem d_CX_countHits_17 : decode b_CX_countHits 17 = .ok (.invokevirtual 100, 3) := by decide +kernel
theorem d_CX_countHits_20 : decode b_CX_countHits 20 = .ok (.ifCond .eq 6, 3) := by decide +kernel
theorem d_CX_countHits_23 : decode b_CX_countHits 23 = .ok (.iinc 1 1, 3) := by decide +kernel
theorem d_CX_countHits_26 : decode b_CX_countHits 26 = .ok (.iinc 2 1, 3) := by decide +kernel
theorem d_CX_countHits_29 : decode b_CX_countHits 29 = .ok (.goto (-25), 3) := by decide +kernel
theorem d_CX_countHits_32 : decode b_CX_countHits 32 = .ok (.iload_n 1, 1) := by decide +kernel
theorem d_CX_countHits_33 : decode b_CX_countHits 33 = .ok (.ireturn, 1) := by decide +kernel
theorem d_CX_patternStandsAt_0 : decode b_CX_patternStandsAt 0 = .ok (.aload_n 0, 1) := by decide +kernel
theorem d_CX_patternStandsAt_1 : decode b_CX_patternStandsAt 1 = .ok (.getfield 19, 3) := by decide +kernel
theorem d_CX_patternStandsAt_4 : decode b_CX_patternStandsAt 4 = .ok (.iconst 0, 1) := by decide +kernel
theorem d_CX_patternStandsAt_5 : decode b_CX_patternStandsAt 5 = .ok (.aload_n 0, 1) := by decide +kernel
theorem d_CX_patternStandsAt_6 : decode b_CX_patternStandsAt 6 = .ok (.getfield 16, 3) := by decide +kernel
theorem d_CX_patternStandsAt_9 : decode b_CX_patternStandsAt 9 = .ok (.iload_n 1, 1) := by decide +kernel
theorem d_CX_patternStandsAt_10 : decode b_CX_patternStandsAt 10 = .ok (.invokevirtual 103, 3) := by decide +kernel
theorem d_CX_patternStandsAt_13 : decode b_CX_patternStandsAt 13 = .ok (.aload_n 0, 1) := by decide +kernel
theorem d_CX_patternStandsAt_14 : decode b_CX_patternStandsAt 14 = .ok (.getfield 19, 3) := by decide +kernel
theorem d_CX_patternStandsAt_17 : decode b_CX_patternStandsAt 17 = .ok (.getfield 43, 3) := by decide +kernel
theorem d_CX_patternStandsAt_20 : decode b_CX_patternStandsAt 20 = .ok (.if_icmp .ne 7, 3) := by decide +kernel
theorem d_CX_patternStandsAt_23 : decode b_CX_patternStandsAt 23 = .ok (.iconst 1, 1) := by decide +kernel
theorem d_CX_patternStandsAt_24 : decode b_CX_patternStandsAt 24 = .ok (.goto 4, 3) := by decide +kernel
theorem d_CX_patternStandsAt_27 : decode b_CX_patternStandsAt 27 = .ok (.iconst 0, 1) := by decide +kernel
theorem d_CX_patternStandsAt_28 : decode b_CX_patternStandsAt 28 = .ok (.ireturn, 1) := by decide +kernel
theorem d_CX_comesBeforePattern_0 : decode b_CX_comesBeforePattern 0 = .ok (.aload_n 0, 1) := by decide +kernel
theorem d_CX_comesBeforePattern_1 : decode b_CX_comesBeforePattern 1 = .ok (.getfield 19, 3) := by decide +kernel
theorem d_CX_comesBeforePattern_4 : decode b_CX_comesBeforePattern 4 = .ok (.iconst 0, 1) := by decide +kernel
theorem d_CX_comesBeforePattern_5 : decode b_CX_comesBeforePattern 5 = .ok (.aload_n 0, 1) := by decide +kernel
theorem d_CX_comesBeforePattern_6 : decode b_CX_comesBeforePattern 6 = .ok (.getfield 16, 3) := by decide +kernel
theorem d_CX_comesBeforePattern_9 : decode b_CX_comesBeforePattern 9 = .ok (.iload_n 1, 1) := by decide +kernel
theorem d_CX_comesBeforePattern_10 : decode b_CX_comesBeforePattern 10 = .ok (.invokevirtual 103, 3) := by decide +kernel
theorem d_CX_comesBeforePattern_13 : decode b_CX_comesBeforePattern 13 = .ok (.istore_n 2, 1) := by decide +kernel
theorem d_CX_comesBeforePattern_14 : decode b_CX_comesBeforePattern 14 = .ok (.iload_n 2, 1) := by decide +kernel
theorem d_CX_comesBeforePattern_15 : decode b_CX_comesBeforePattern 15 = .ok (.aload_n 0, 1) := by decide +kernel
theorem d_CX_comesBeforePattern_16 : decode b_CX_comesBeforePattern 16 = .ok (.getfield 19, 3) := by decide +kernel
theorem d_CX_comesBeforePattern_19 : decode b_CX_comesBeforePattern 19 = .ok (.getfield 43, 3) := by decide +kernel
theorem d_CX_comesBeforePattern_22 : decode b_CX_comesBeforePattern 22 = .ok (.if_icmp .ne 5, 3) := by decide +kernel
theorem d_CX_comesBeforePattern_25 : decode b_CX_comesBeforePattern 25 = .ok (.iconst 0, 1) := by decide +kernel
theorem d_CX_comesBeforePattern_26 : decode b_CX_comesBeforePattern 26 = .ok (.ireturn, 1) := by decide +kernel
theorem d_CX_comesBeforePattern_27 : decode b_CX_comesBeforePattern 27 = .ok (.iload_n 1, 1) := by decide +kernel
theorem d_CX_comesBeforePattern_28 : decode b_CX_comesBeforePattern 28 = .ok (.iload_n 2, 1) := by decide +kernel
theorem d_CX_comesBeforePattern_29 : decode b_CX_comesBeforePattern 29 = .ok (.iadd, 1) := by decide +kernel
theorem d_CX_comesBeforePattern_30 : decode b_CX_comesBeforePattern 30 = .ok (.istore_n 3, 1) := by decide +kernel
theorem d_CX_comesBeforePattern_31 : decode b_CX_comesBeforePattern 31 = .ok (.iload_n 3, 1) := by decide +kernel
theorem d_CX_comesBeforePattern_32 : decode b_CX_comesBeforePattern 32 = .ok (.aload_n 0, 1) := by decide +kernel
theorem d_CX_comesBeforePattern_33 : decode b_CX_comesBeforePattern 33 = .ok (.getfield 16, 3) := by decide +kernel
theorem d_CX_comesBeforePattern_36 : decode b_CX_comesBeforePattern 36 = .ok (.getfield 43, 3) := by decide +kernel
theorem d_CX_comesBeforePattern_39 : decode b_CX_comesBeforePattern 39 = .ok (.if_icmp .eq 24, 3) := by decide +kernel
theorem d_CX_comesBeforePattern_42 : decode b_CX_comesBeforePattern 42 = .ok (.aload_n 0, 1) := by decide +kernel
theorem d_CX_comesBeforePattern_43 : decode b_CX_comesBeforePattern 43 = .ok (.getfield 16, 3) := by decide +kernel
theorem d_CX_comesBeforePattern_46 : decode b_CX_comesBeforePattern 46 = .ok (.getfield 61, 3) := by decide +kernel
theorem d_CX_comesBeforePattern_49 : decode b_CX_comesBeforePattern 49 = .ok (.iload_n 3, 1) := by decide +kernel
theorem d_CX_comesBeforePattern_50 : decode b_CX_comesBeforePattern 50 = .ok (.iaload, 1) := by decide +kernel
theorem d_CX_comesBeforePattern_51 : decode b_CX_comesBeforePattern 51 = .ok (.aload_n 0, 1) := by decide +kernel
theorem d_CX_comesBeforePattern_52 : decode b_CX_comesBeforePattern 52 = .ok (.getfield 19, 3) := by decide +kernel
theorem d_CX_comesBeforePattern_55 : decode b_CX_comesBeforePattern 55 = .ok (.getfield 61, 3) := by decide +kernel
theorem d_CX_comesBeforePattern_58 : decode b_CX_comesBeforePattern 58 = .ok (.iload_n 2, 1) := by decide +kernel
theorem d_CX_comesBeforePattern_59 : decode b_CX_comesBeforePattern 59 = .ok (.iaload, 1) := by decide +kernel
theorem d_CX_comesBeforePattern_60 : decode b_CX_comesBeforePattern 60 = .ok (.if_icmp .ge 7, 3) := by decide +kernel
theorem d_CX_comesBeforePattern_63 : decode b_CX_comesBeforePattern 63 = .ok (.iconst 1, 1) := by decide +kernel
theorem d_CX_comesBeforePattern_64 : decode b_CX_comesBeforePattern 64 = .ok (.goto 4, 3) := by decide +kernel
theorem d_CX_comesBeforePattern_67 : decode b_CX_comesBeforePattern 67 = .ok (.iconst 0, 1) := by decide +kernel
theorem d_CX_comesBeforePattern_68 : decode b_CX_comesBeforePattern 68 = .ok (.ireturn, 1) := by decide +kernel
theorem d_MO_init_0 : decode b_MO_init 0 = .ok (.aload_n 0, 1) := by decide +kernel
theorem d_MO_init_1 : decode b_MO_init 1 = .ok (.invokespecial 1, 3) := by decide +kernel
theorem d_MO_init_4 : decode b_MO_init 4 = .ok (.aload_n 0, 1) := by decide +kernel
theorem d_MO_init_5 : decode b_MO_init 5 = .ok (.bipush 96, 2) := by decide +kernel
theorem d_MO_init_7 : decode b_MO_init 7 = .ok (.newarray .int, 2) := by decide +kernel
theorem d_MO_init_9 : decode b_MO_init 9 = .ok (.putfield 7, 3) := by decide +kernel
theorem d_MO_init_12 : decode b_MO_init 12 = .ok (.aload_n 0, 1) := by decide +kernel
theorem d_MO_init_13 : decode b_MO_init 13 = .ok (.bipush 96, 2) := by decide +kernel
theorem d_MO_init_15 : decode b_MO_init 15 = .ok (.newarray .int, 2) := by decide +kernel
theorem d_MO_init_17 : decode b_MO_init 17 = .ok (.putfield 13, 3) := by decide +kernel
theorem d_MO_init_20 : decode b_MO_init 20 = .ok (.aload_n 0, 1) := by decide +kernel
theorem d_MO_init_21 : decode b_MO_init 21 = .ok (.bipush 97, 2) := by decide +kernel
theorem d_MO_init_23 : decode b_MO_init 23 = .ok (.newarray .int, 2) := by decide +kernel
theorem d_MO_init_25 : decode b_MO_init 25 = .ok (.putfield 16, 3) := by decide +kernel
theorem d_MO_init_28 : decode b_MO_init 28 = .ok (.aload_n 0, 1) := by decide +kernel
theorem d_MO_init_29 : decode b_MO_init 29 = .ok (.bipush 96, 2) := by decide +kernel
theorem d_MO_init_31 : decode b_MO_init 31 = .ok (.newarray .int, 2) := by decide +kernel
theorem d_MO_init_33 : decode b_MO_init 33 = .ok (.putfield 19, 3) := by decide +kernel
theorem d_MO_init_36 : decode b_MO_init 36 = .ok (.aload_n 0, 1) := by decide +kernel
theorem d_MO_init_37 : decode b_MO_init 37 = .ok (.sipush 257, 3) := by decide +kernel
theorem d_MO_init_40 : decode b_MO_init 40 = .ok (.newarray .int, 2) := by decide +kernel
theorem d_MO_init_42 : decode b_MO_init 42 = .ok (.putfield 22, 3) := by decide +kernel
theorem d_MO_init_45 : decode b_MO_init 45 = .ok (.aload_n 0, 1) := by decide +kernel
theorem d_MO_init_46 : decode b_MO_init 46 = .ok (.bipush 97, 2) := by decide +kernel
theorem d_MO_init_48 : decode b_MO_init 48 = .ok (.newarray .int, 2) := by decide +kernel
theorem d_MO_init_50 : decode b_MO_init 50 = .ok (.putfield 25, 3) := by decide +kernel
theorem d_MO_init_53 : decode b_MO_init 53 = .ok (.aload_n 0, 1) := by decide +kernel
theorem d_MO_init_54 : decode b_MO_init 54 = .ok (.bipush 96, 2) := by decide +kernel
theorem d_MO_init_56 : decode b_MO_init 56 = .ok (.newarray .int, 2) := by decide +kernel
theorem d_MO_init_58 : decode b_MO_init 58 = .ok (.putfield 28, 3) := by decide +kernel
theorem d_MO_init_61 : decode b_MO_init 61 = .ok (.return_, 1) := by decide +kernel
theorem d_MO_type_0 : decode b_MO_type 0 = .ok (.iload_n 3, 1) := by decide +kernel
theorem d_MO_type_1 : decode b_MO_type 1 = .ok (.iconst 1, 1) := by decide +kernel
theorem d_MO_type_2 : decode b_MO_type 2 = .ok (.if_icmp .lt 9, 3) := by decide +kernel
theorem d_MO_type_5 : decode b_MO_type 5 = .ok (.iload_n 3, 1) := by decide +kernel
theorem d_MO_type_6 : decode b_MO_type 6 = .ok (.bipush 8, 2) := by decide +kernel
theorem d_MO_type_8 : decode b_MO_type 8 = .ok (.if_icmp .le 5, 3) := by decide +kernel
theorem d_MO_type_11 : decode b_MO_type 11 = .ok (.iconst (-1), 1) := by decide +kernel
theorem d_MO_type_12 : decode b_MO_type 12 = .ok (.ireturn, 1) := by decide +kernel
theorem d_MO_type_13 : decode b_MO_type 13 = .ok (.aload_n 0, 1) := by decide +kernel
theorem d_MO_type_14 : decode b_MO_type 14 = .ok (.getfield 31, 3) := by decide +kernel
theorem d_MO_type_17 : decode b_MO_type 17 = .ok (.iload_n 3, 1) := by decide +kernel
theorem d_MO_type_18 : decode b_MO_type 18 = .ok (.iadd, 1) := by decide +kernel
theorem d_MO_type_19 : decode b_MO_type 19 = .ok (.bipush 96, 2) := by decide +kernel
theorem d_MO_type_21 : decode b_MO_type 21 = .ok (.if_icmp .le 6, 3) := by decide +kernel
theorem d_MO_type_24 : decode b_MO_type 24 = .ok (.bipush (-3), 2) := by decide +kernel
theorem d_MO_type_26 : decode b_MO_type 26 = .ok (.ireturn, 1) := by decide +kernel
theorem d_MO_type_27 : decode b_MO_type 27 = .ok (.iload_n 3, 1) := by decide +kernel
theorem d_MO_type_28 : decode b_MO_type 28 = .ok (.iconst 1, 1) := by decide +kernel
theorem d_MO_type_29 : decode b_MO_type 29 = .ok (.isub, 1) := by decide +kernel
theorem d_MO_type_30 : decode b_MO_type 30 = .ok (.istore 4, 2) := by decide +kernel
theorem d_MO_type_32 : decode b_MO_type 32 = .ok (.iload 4, 2) := by decide +kernel
theorem d_MO_type_34 : decode b_MO_type 34 = .ok (.ifCond .lt 40, 3) := by decide +kernel
theorem d_MO_type_37 : decode b_MO_type 37 = .ok (.aload_n 0, 1) := by decide +kernel
theorem d_MO_type_38 : decode b_MO_type 38 = .ok (.getfield 7, 3) := by decide +kernel
theorem d_MO_type_41 : decode b_MO_type 41 = .ok (.aload_n 0, 1) := by decide +kernel
theorem d_MO_type_42 : decode b_MO_type 42 = .ok (.getfield 31, 3) := by decide +kernel
theorem d_MO_type_45 : decode b_MO_type 45 = .ok (.lload_n 1, 1) := by decide +kernel
theorem d_MO_type_46 : decode b_MO_type 46 = .ok (.bipush 8, 2) := by decide +kernel
theorem d_MO_type_48 : decode b_MO_type 48 = .ok (.iload 4, 2) := by decide +kernel
theorem d_MO_type_50 : decode b_MO_type 50 = .ok (.imul, 1) := by decide +kernel
theorem d_MO_type_51 : decode b_MO_type 51 = .ok (.lshr, 1) := by decide +kernel
theorem d_MO_type_52 : decode b_MO_type 52 = .ok (.ldc2_w 35, 3) := by decide +kernel
theorem d_MO_type_55 : decode b_MO_type 55 = .ok (.land, 1) := by decide +kernel
theorem d_MO_type_56 : decode b_MO_type 56 = .ok (.l2i, 1) := by decide +kernel
theorem d_MO_type_57 : decode b_MO_type 57 = .ok (.iastore, 1) := by decide +kernel
theorem d_MO_type_58 : decode b_MO_type 58 = .ok (.aload_n 0, 1) := by decide +kernel
theorem d_MO_type_59 : decode b_MO_type 59 = .ok (.dup, 1) := by decide +kernel
theorem d_MO_type_60 : decode b_MO_type 60 = .ok (.getfield 31, 3) := by decide +kernel
theorem d_MO_type_63 : decode b_MO_type 63 = .ok (.iconst 1, 1) := by decide +kernel
theorem d_MO_type_64 : decode b_MO_type 64 = .ok (.iadd, 1) := by decide +kernel
theorem d_MO_type_65 : decode b_MO_type 65 = .ok (.putfield 31, 3) := by decide +kernel
theorem d_MO_type_68 : decode b_MO_type 68 = .ok (.iinc 4 (-1), 3) := by decide +kernel
theorem d_MO_type_71 : decode b_MO_type 71 = .ok (.goto (-39), 3) := by decide +kernel
theorem d_MO_type_74 : decode b_MO_type 74 = .ok (.aload_n 0, 1) := by decide +kernel
theorem d_MO_type_75 : decode b_MO_type 75 = .ok (.getfield 31, 3) := by decide +kernel
theorem d_MO_type_78 : decode b_MO_type 78 = .ok (.ireturn, 1) := by decide +kernel
theorem d_MO_alike_0 : decode b_MO_alike 0 = .ok (.iconst 0, 1) := by decide +kernel
theorem d_MO_alike_1 : decode b_MO_alike 1 = .ok (.istore_n 3, 1) := by decide +kernel
theorem d_MO_alike_2 : decode b_MO_alike 2 = .ok (.iload_n 1, 1) := by decide +kernel
theorem d_MO_alike_3 : decode b_MO_alike 3 = .ok (.iload_n 3, 1) := by decide +kernel
theorem d_MO_alike_4 : decode b_MO_alike 4 = .ok (.iadd, 1) := by decide +kernel
theorem d_MO_alike_5 : decode b_MO_alike 5 = .ok (.aload_n 0, 1) := by decide +kernel
theorem d_MO_alike_6 : decode b_MO_alike 6 = .ok (.getfield 37, 3) := by decide +kernel
theorem d_MO_alike_9 : decode b_MO_alike 9 = .ok (.if_icmp .ge 38, 3) := by decide +kernel
theorem d_MO_alike_12 : decode b_MO_alike 12 = .ok (.iload_n 2, 1) := by decide +kernel
theorem d_MO_alike_13 : decode b_MO_alike 13 = .ok (.iload_n 3, 1) := by decide +kernel
theorem d_MO_alike_14 : decode b_MO_alike 14 = .ok (.iadd, 1) := by decide +kernel
theorem d_MO_alike_15 : decode b_MO_alike 15 = .ok (.aload_n 0, 1) := by decide +kernel
theorem d_MO_alike_16 : decode b_MO_alike 16 = .ok (.getfield 37, 3) := by decide +kernel
theorem d_MO_alike_19 : decode b_MO_alike 19 = .ok (.if_icmp .ge 28, 3) := by decide +kernel
theorem d_MO_alike_22 : decode b_MO_alike 22 = .ok (.aload_n 0, 1) := by decide +kernel
theorem d_MO_alike_23 : decode b_MO_alike 23 = .ok (.getfield 13, 3) := by decide +kernel
theorem d_MO_alike_26 : decode b_MO_alike 26 = .ok (.iload_n 1, 1) := by decide +kernel
theorem d_MO_alike_27 : decode b_MO_alike 27 = .ok (.iload_n 3, 1) := by decide +kernel
theorem d_MO_alike_28 : decode b_MO_alike 28 = .ok (.iadd, 1) := by decide +kernel
theorem d_MO_alike_29 : decode b_MO_alike 29 = .ok (.iaload, 1) := by decide +kernel
theorem d_MO_alike_30 : decode b_MO_alike 30 = .ok (.aload_n 0, 1) := by decide +kernel
theorem d_MO_alike_31 : decode b_MO_alike 31 = .ok (.getfield 13, 3) := by decide +kernel
theorem d_MO_alike_34 : decode b_MO_alike 34 = .ok (.iload_n 2, 1) := by decide +kernel
theorem d_MO_alike_35 : decode b_MO_alike 35 = .ok (.iload_n 3, 1) := by decide +kernel
theorem d_MO_alike_36 : decode b_MO_alike 36 = .ok (.iadd, 1) := by decide +kernel
theorem d_MO_alike_37 : decode b_MO_alike 37 = .ok (.iaload, 1) := by decide +kernel
theorem d_MO_alike_38 : decode b_MO_alike 38 = .ok (.if_icmp .ne 9, 3) := by decide +kernel
theorem d_MO_alike_41 : decode b_MO_alike 41 = .ok (.iinc 3 1, 3) := by decide +kernel
theorem d_MO_alike_44 : decode b_MO_alike 44 = .ok (.goto (-42), 3) := by decide +kernel
theorem d_MO_alike_47 : decode b_MO_alike 47 = .ok (.iload_n 3, 1) := by decide +kernel
theorem d_MO_alike_48 : decode b_MO_alike 48 = .ok (.ireturn, 1) := by decide +kernel
theorem d_MO_isBefore_0 : decode b_MO_isBefore 0 = .ok (.aload_n 0, 1) := by decide +kernel
theorem d_MO_isBefore_1 : decode b_MO_isBefore 1 = .ok (.iload_n 1, 1) := by decide +kernel
theorem d_MO_isBefore_2 : decode b_MO_isBefore 2 = .ok (.iload_n 2, 1) := by decide +kernel
theorem d_MO_isBefore_3 : decode b_MO_isBefore 3 = .ok (.invokevirtual 40, 3) := by decide +kernel
theorem d_MO_isBefore_6 : decode b_MO_isBefore 6 = .ok (.istore_n 3, 1) := by decide +kernel
theorem d_MO_isBefore_7 : decode b_MO_isBefore 7 = .ok (.iload_n 1, 1) := by decide +kernel
theorem d_MO_isBefore_8 : decode b_MO_isBefore 8 = .ok (.iload_n 3, 1) := by decide +kernel
theorem d_MO_isBefore_9 : decode b_MO_isBefore 9 = .ok (.iadd, 1) := by decide +kernel
theorem d_MO_isBefore_10 : decode b_MO_isBefore 10 = .ok (.aload_n 0, 1) := by decide +kernel
theorem d_MO_isBefore_11 : decode b_MO_isBefore 11 = .ok (.getfield 37, 3) := by decide +kernel
theorem d_MO_isBefore_14 : decode b_MO_isBefore 14 = .ok (.if_icmp .ne 21, 3) := by decide +kernel
theorem d_MO_isBefore_17 : decode b_MO_isBefore 17 = .ok (.iload_n 2, 1) := by decide +kernel
theorem d_MO_isBefore_18 : decode b_MO_isBefore 18 = .ok (.iload_n 3, 1) := by decide +kernel
theorem d_MO_isBefore_19 : decode b_MO_isBefore 19 = .ok (.iadd, 1) := by decide +kernel
theorem d_MO_isBefore_20 : decode b_MO_isBefore 20 = .ok (.aload_n 0, 1) := by decide +kernel
theorem d_MO_isBefore_21 : decode b_MO_isBefore 21 = .ok (.getfield 37, 3) := by decide +kernel
theorem d_MO_isBefore_24 : decode b_MO_isBefore 24 = .ok (.if_icmp .ge 7, 3) := by decide +kernel
theorem d_MO_isBefore_27 : decode b_MO_isBefore 27 = .ok (.iconst 1, 1) := by decide +kernel
theorem d_MO_isBefore_28 : decode b_MO_isBefore 28 = .ok (.goto 41, 3) := by decide +kernel
theorem d_MO_isBefore_31 : decode b_MO_isBefore 31 = .ok (.iconst 0, 1) := by decide +kernel
theorem d_MO_isBefore_32 : decode b_MO_isBefore 32 = .ok (.goto 37, 3) := by decide +kernel
theorem d_MO_isBefore_35 : decode b_MO_isBefore 35 = .ok (.iload_n 2, 1) := by decide +kernel
theorem d_MO_isBefore_36 : decode b_MO_isBefore 36 = .ok (.iload_n 3, 1) := by decide +kernel
theorem d_MO_isBefore_37 : decode b_MO_isBefore 37 = .ok (.iadd, 1) := by decide +kernel
theorem d_MO_isBefore_38 : decode b_MO_isBefore 38 = .ok (.aload_n 0, 1) := by decide +kernel
theorem d_MO_isBefore_39 : decode b_MO_isBefore 39 = .ok (.getfield 37, 3) := by decide +kernel
theorem d_MO_isBefore_42 : decode b_MO_isBefore 42 = .ok (.if_icmp .ge 26, 3) := by decide +kernel
theorem d_MO_isBefore_45 : decode b_MO_isBefore 45 = .ok (.aload_n 0, 1) := by decide +kernel
theorem d_MO_isBefore_46 : decode b_MO_isBefore 46 = .ok (.getfield 13, 3) := by decide +kernel
theorem d_MO_isBefore_49 : decode b_MO_isBefore 49 = .ok (.iload_n 1, 1) := by decide +kernel
theorem d_MO_isBefore_50 : decode b_MO_isBefore 50 = .ok (.iload_n 3, 1) := by decide +kernel
theorem d_MO_isBefore_51 : decode b_MO_isBefore 51 = .ok (.iadd, 1) := by decide +kernel
theorem d_MO_isBefore_52 : decode b_MO_isBefore 52 = .ok (.iaload, 1) := by decide +kernel
theorem d_MO_isBefore_53 : decode b_MO_isBefore 53 = .ok (.aload_n 0, 1) := by decide +kernel
theorem d_MO_isBefore_54 : decode b_MO_isBefore 54 = .ok (.getfield 13, 3) := by decide +kernel
theorem d_MO_isBefore_57 : decode b_MO_isBefore 57 = .ok (.iload_n 2, 1) := by decide +kernel
theorem d_MO_isBefore_58 : decode b_MO_isBefore 58 = .ok (.iload_n 3, 1) := by decide +kernel
theorem d_MO_isBefore_59 : decode b_MO_isBefore 59 = .ok (.iadd, 1) := by decide +kernel
theorem d_MO_isBefore_60 : decode b_MO_isBefore 60 = .ok (.iaload, 1) := by decide +kernel
theorem d_MO_isBefore_61 : decode b_MO_isBefore 61 = .ok (.if_icmp .ge 7, 3) := by decide +kernel
theorem d_MO_isBefore_64 : decode b_MO_isBefore 64 = .ok (.iconst 1, 1) := by decide +kernel
theorem d_MO_isBefore_65 : decode b_MO_isBefore 65 = .ok (.goto 4, 3) := by decide +kernel
theorem d_MO_isBefore_68 : decode b_MO_isBefore 68 = .ok (.iconst 0, 1) := by decide +kernel
theorem d_MO_isBefore_69 : decode b_MO_isBefore 69 = .ok (.ireturn, 1) := by decide +kernel
theorem d_MO_sort_0 : decode b_MO_sort 0 = .ok (.iconst 0, 1) := by decide +kernel
theorem d_MO_sort_1 : decode b_MO_sort 1 = .ok (.istore_n 1, 1) := by decide +kernel
theorem d_MO_sort_2 : decode b_MO_sort 2 = .ok (.iload_n 1, 1) := by decide +kernel
theorem d_MO_sort_3 : decode b_MO_sort 3 = .ok (.aload_n 0, 1) := by decide +kernel
theorem d_MO_sort_4 : decode b_MO_sort 4 = .ok (.getfield 37, 3) := by decide +kernel
theorem d_MO_sort_7 : decode b_MO_sort 7 = .ok (.if_icmp .gt 58, 3) := by decide +kernel
theorem d_MO_sort_10 : decode b_MO_sort 10 = .ok (.iload_n 1, 1) := by decide +kernel
theorem d_MO_sort_11 : decode b_MO_sort 11 = .ok (.istore_n 2, 1) := by decide +kernel
theorem d_MO_sort_12 : decode b_MO_sort 12 = .ok (.iload_n 2, 1) := by decide +kernel
theorem d_MO_sort_13 : decode b_MO_sort 13 = .ok (.ifCond .le 39, 3) := by decide +kernel
theorem d_MO_sort_16 : decode b_MO_sort 16 = .ok (.aload_n 0, 1) := by decide +kernel
theorem d_MO_sort_17 : decode b_MO_sort 17 = .ok (.iload_n 1, 1) := by decide +kernel
theorem d_MO_sort_18 : decode b_MO_sort 18 = .ok (.aload_n 0, 1) := by decide +kernel
theorem d_MO_sort_19 : decode b_MO_sort 19 = .ok (.getfield 16, 3) := by decide +kernel
theorem d_MO_sort_22 : decode b_MO_sort 22 = .ok (.iload_n 2, 1) := by decide +kernel
theorem d_MO_sort_23 : decode b_MO_sort 23 = .ok (.iconst 1, 1) := by decide +kernel
theorem d_MO_sort_24 : decode b_MO_sort 24 = .ok (.isub, 1) := by decide +kernel
theorem d_MO_sort_25 : decode b_MO_sort 25 = .ok (.iaload, 1) := by decide +kernel
theorem d_MO_sort_26 : decode b_MO_sort 26 = .ok (.invokevirtual 44, 3) := by decide +kernel
theorem d_MO_sort_29 : decode b_MO_sort 29 = .ok (.ifCond .eq 23, 3) := by decide +kernel
theorem d_MO_sort_32 : decode b_MO_sort 32 = .ok (.aload_n 0, 1) := by decide +kernel
theorem d_MO_sort_33 : decode b_MO_sort 33 = .ok (.getfield 16, 3) := by decide +kernel
theorem d_MO_sort_36 : decode b_MO_sort 36 = .ok (.iload_n 2, 1) := by decide +kernel
theorem d_MO_sort_37 : decode b_MO_sort 37 = .ok (.aload_n 0, 1) := by decide +kernel
theorem d_MO_sort_38 : decode b_MO_sort 38 = .ok (.getfield 16, 3) := by decide +kernel
theorem d_MO_sort_41 : decode b_MO_sort 41 = .ok (.iload_n 2, 1) := by decide +kernel
theorem d_MO_sort_42 : decode b_MO_sort 42 = .ok (.iconst 1, 1) := by decide +kernel
theorem d_MO_sort_43 : decode b_MO_sort 43 = .ok (.isub, 1) := by decide +kernel
theorem d_MO_sort_44 : decode b_MO_sort 44 = .ok (.iaload, 1) := by decide +kernel
theorem d_MO_sort_45 : decode b_MO_sort 45 = .ok (.iastore, 1) := by decide +kernel
theorem d_MO_sort_46 : decode b_MO_sort 46 = .ok (.iinc 2 (-1), 3) := by decide +kernel
theorem d_MO_sort_49 : decode b_MO_sort 49 = .ok (.goto (-37), 3) := by decide +kernel
theorem d_MO_sort_52 : decode b_MO_sort 52 = .ok (.aload_n 0, 1) := by decide +kernel
theorem d_MO_sort_53 : decode b_MO_sort 53 = .ok (.getfield 16, 3) := by decide +kernel
theorem d_MO_sort_56 : decode b_MO_sort 56 = .ok (.iload_n 2, 1) := by decide +kernel
theorem d_MO_sort_57 : decode b_MO_sort 57 = .ok (.iload_n 1, 1) := by decide +kernel
theorem d_MO_sort_58 : decode b_MO_sort 58 = .ok (.iastore, 1) := by decide +kernel
theorem d_MO_sort_59 : decode b_MO_sort 59 = .ok (.iinc 1 1, 3) := by decide +kernel
theorem d_MO_sort_62 : decode b_MO_sort 62 = .ok (.goto (-60), 3) := by decide +kernel
theorem d_MO_sort_65 : decode b_MO_sort 65 = .ok (.return_, 1) := by decide +kernel
theorem d_MO_take_0 : decode b_MO_take 0 = .ok (.iconst 0, 1) := by decide +kernel
theorem d_MO_take_1 : decode b_MO_take 1 = .ok (.istore_n 1, 1) := by decide +kernel
theorem d_MO_take_2 : decode b_MO_take 2 = .ok (.iload_n 1, 1) := by decide +kernel
theorem d_MO_take_3 : decode b_MO_take 3 = .ok (.aload_n 0, 1) := by decide +kernel
theorem d_MO_take_4 : decode b_MO_take 4 = .ok (.getfield 31, 3) := by decide +kernel
theorem d_MO_take_7 : decode b_MO_take 7 = .ok (.if_icmp .ge 21, 3) := by decide +kernel
theorem d_MO_take_10 : decode b_MO_take 10 = .ok (.aload_n 0, 1) := by decide +kernel
theorem d_MO_take_11 : decode b_MO_take 11 = .ok (.getfield 13, 3) := by decide +kernel
theorem d_MO_take_14 : decode b_MO_take 14 = .ok (.iload_n 1, 1) := by decide +kernel
theorem d_MO_take_15 : decode b_MO_take 15 = .ok (.aload_n 0, 1) := by decide +kernel
theorem d_MO_take_16 : decode b_MO_take 16 = .ok (.getfield 7, 3) := by decide +kernel
theorem d_MO_take_19 : decode b_MO_take 19 = .ok (.iload_n 1, 1) := by decide +kernel
theorem d_MO_take_20 : decode b_MO_take 20 = .ok (.iaload, 1) := by decide +kernel
theorem d_MO_take_21 : decode b_MO_take 21 = .ok (.iastore, 1) := by decide +kernel
theorem d_MO_take_22 : decode b_MO_take 22 = .ok (.iinc 1 1, 3) := by decide +kernel
theorem d_MO_take_25 : decode b_MO_take 25 = .ok (.goto (-23), 3) := by decide +kernel
theorem d_MO_take_28 : decode b_MO_take 28 = .ok (.aload_n 0, 1) := by decide +kernel
theorem d_MO_take_29 : decode b_MO_take 29 = .ok (.aload_n 0, 1) := by decide +kernel
theorem d_MO_take_30 : decode b_MO_take 30 = .ok (.getfield 31, 3) := by decide +kernel
theorem d_MO_take_33 : decode b_MO_take 33 = .ok (.putfield 37, 3) := by decide +kernel
theorem d_MO_take_36 : decode b_MO_take 36 = .ok (.aload_n 0, 1) := by decide +kernel
theorem d_MO_take_37 : decode b_MO_take 37 = .ok (.iconst 0, 1) := by decide +kernel
theorem d_MO_take_38 : decode b_MO_take 38 = .ok (.putfield 31, 3) := by decide +kernel
theorem d_MO_take_41 : decode b_MO_take 41 = .ok (.aload_n 0, 1) := by decide +kernel
theorem d_MO_take_42 : decode b_MO_take 42 = .ok (.invokevirtual 48, 3) := by decide +kernel
theorem d_MO_take_45 : decode b_MO_take 45 = .ok (.return_, 1) := by decide +kernel
theorem d_MO_build_0 : decode b_MO_build 0 = .ok (.aload_n 0, 1) := by decide +kernel
theorem d_MO_build_1 : decode b_MO_build 1 = .ok (.invokevirtual 51, 3) := by decide +kernel
theorem d_MO_build_4 : decode b_MO_build 4 = .ok (.aload_n 0, 1) := by decide +kernel
theorem d_MO_build_5 : decode b_MO_build 5 = .ok (.getfield 37, 3) := by decide +kernel
theorem d_MO_build_8 : decode b_MO_build 8 = .ok (.ireturn, 1) := by decide +kernel
theorem d_MO_size_0 : decode b_MO_size 0 = .ok (.aload_n 0, 1) := by decide +kernel
theorem d_MO_size_1 : decode b_MO_size 1 = .ok (.getfield 37, 3) := by decide +kernel
theorem d_MO_size_4 : decode b_MO_size 4 = .ok (.ireturn, 1) := by decide +kernel
theorem d_MO_at_0 : decode b_MO_at 0 = .ok (.iload_n 1, 1) := by decide +kernel
theorem d_MO_at_1 : decode b_MO_at 1 = .ok (.ifCond .lt 20, 3) := by decide +kernel
theorem d_MO_at_4 : decode b_MO_at 4 = .ok (.iload_n 1, 1) := by decide +kernel
theorem d_MO_at_5 : decode b_MO_at 5 = .ok (.aload_n 0, 1) := by decide +kernel
theorem d_MO_at_6 : decode b_MO_at 6 = .ok (.getfield 37, 3) := by decide +kernel
theorem d_MO_at_9 : decode b_MO_at 9 = .ok (.if_icmp .ge 12, 3) := by decide +kernel
theorem d_MO_at_12 : decode b_MO_at 12 = .ok (.aload_n 0, 1) := by decide +kernel
theorem d_MO_at_13 : decode b_MO_at 13 = .ok (.getfield 13, 3) := by decide +kernel
theorem d_MO_at_16 : decode b_MO_at 16 = .ok (.iload_n 1, 1) := by decide +kernel
theorem d_MO_at_17 : decode b_MO_at 17 = .ok (.iaload, 1) := by decide +kernel
theorem d_MO_at_18 : decode b_MO_at 18 = .ok (.goto 4, 3) := by decide +kernel
theorem d_MO_at_21 : decode b_MO_at 21 = .ok (.iconst (-1), 1) := by decide +kernel
theorem d_MO_at_22 : decode b_MO_at 22 = .ok (.ireturn, 1) := by decide +kernel
theorem d_MO_suffix_0 : decode b_MO_suffix 0 = .ok (.iload_n 1, 1) := by decide +kernel
theorem d_MO_suffix_1 : decode b_MO_suffix 1 = .ok (.ifCond .lt 20, 3) := by decide +kernel
theorem d_MO_suffix_4 : decode b_MO_suffix 4 = .ok (.iload_n 1, 1) := by decide +kernel
theorem d_MO_suffix_5 : decode b_MO_suffix 5 = .ok (.aload_n 0, 1) := by decide +kernel
theorem d_MO_suffix_6 : decode b_MO_suffix 6 = .ok (.getfield 37, 3) := by decide +kernel
theorem d_MO_suffix_9 : decode b_MO_suffix 9 = .ok (.if_icmp .gt 12, 3) := by decide +kernel
theorem d_MO_suffix_12 : decode b_MO_suffix 12 = .ok (.aload_n 0, 1) := by decide +kernel
theorem d_MO_suffix_13 : decode b_MO_suffix 13 = .ok (.getfield 16, 3) := by decide +kernel
theorem d_MO_suffix_16 : decode b_MO_suffix 16 = .ok (.iload_n 1, 1) := by decide +kernel
theorem d_MO_suffix_17 : decode b_MO_suffix 17 = .ok (.iaload, 1) := by decide +kernel
theorem d_MO_suffix_18 : decode b_MO_suffix 18 = .ok (.goto 4, 3) := by decide +kernel
theorem d_MO_suffix_21 : decode b_MO_suffix 21 = .ok (.iconst (-1), 1) := by decide +kernel
theorem d_MO_suffix_22 : decode b_MO_suffix 22 = .ok (.ireturn, 1) := by decide +kernel
theorem d_MO_rank_0 : decode b_MO_rank 0 = .ok (.iconst (-1), 1) := by decide +kernel
theorem d_MO_rank_1 : decode b_MO_rank 1 = .ok (.istore_n 2, 1) := by decide +kernel
theorem d_MO_rank_2 : decode b_MO_rank 2 = .ok (.iconst 0, 1) := by decide +kernel
theorem d_MO_rank_3 : decode b_MO_rank 3 = .ok (.istore_n 3, 1) := by decide +kernel
theorem d_MO_rank_4 : decode b_MO_rank 4 = .ok (.iload_n 3, 1) := by decide +kernel
theorem d_MO_rank_5 : decode b_MO_rank 5 = .ok (.aload_n 0, 1) := by decide +kernel
theorem d_MO_rank_6 : decode b_MO_rank 6 = .ok (.getfield 37, 3) := by decide +kernel
theorem d_MO_rank_9 : decode b_MO_rank 9 = .ok (.if_icmp .gt 25, 3) := by decide +kernel
theorem d_MO_rank_12 : decode b_MO_rank 12 = .ok (.aload_n 0, 1) := by decide +kernel
theorem d_MO_rank_13 : decode b_MO_rank 13 = .ok (.getfield 16, 3) := by decide +kernel
theorem d_MO_rank_16 : decode b_MO_rank 16 = .ok (.iload_n 3, 1) := by decide +kernel
theorem d_MO_rank_17 : decode b_MO_rank 17 = .ok (.iaload, 1) := by decide +kernel
theorem d_MO_rank_18 : decode b_MO_rank 18 = .ok (.iload_n 1, 1) := by decide +kernel
theorem d_MO_rank_19 : decode b_MO_rank 19 = .ok (.if_icmp .ne 7, 3) := by decide +kernel
theorem d_MO_rank_22 : decode b_MO_rank 22 = .ok (.iload_n 3, 1) := by decide +kernel
theorem d_MO_rank_23 : decode b_MO_rank 23 = .ok (.goto 4, 3) := by decide +kernel
theorem d_MO_rank_26 : decode b_MO_rank 26 = .ok (.iload_n 2, 1) := by decide +kernel
theorem d_MO_rank_27 : decode b_MO_rank 27 = .ok (.istore_n 2, 1) := by decide +kernel
theorem d_MO_rank_28 : decode b_MO_rank 28 = .ok (.iinc 3 1, 3) := by decide +kernel
theorem d_MO_rank_31 : decode b_MO_rank 31 = .ok (.goto (-27), 3) := by decide +kernel
theorem d_MO_rank_34 : decode b_MO_rank 34 = .ok (.iload_n 2, 1) := by decide +kernel
theorem d_MO_rank_35 : decode b_MO_rank 35 = .ok (.ireturn, 1) := by decide +kernel
theorem d_MO_before1_0 : decode b_MO_before1 0 = .ok (.aload_n 0, 1) := by decide +kernel
theorem d_MO_before1_1 : decode b_MO_before1 1 = .ok (.getfield 16, 3) := by decide +kernel
theorem d_MO_before1_4 : decode b_MO_before1 4 = .ok (.iload_n 1, 1) := by decide +kernel
theorem d_MO_before1_5 : decode b_MO_before1 5 = .ok (.iaload, 1) := by decide +kernel
theorem d_MO_before1_6 : decode b_MO_before1 6 = .ok (.ifCond .ne 9, 3) := by decide +kernel
theorem d_MO_before1_9 : decode b_MO_before1 9 = .ok (.sipush 256, 3) := by decide +kernel
theorem d_MO_before1_12 : decode b_MO_before1 12 = .ok (.goto 16, 3) := by decide +kernel
theorem d_MO_before1_15 : decode b_MO_before1 15 = .ok (.aload_n 0, 1) := by decide +kernel
theorem d_MO_before1_16 : decode b_MO_before1 16 = .ok (.getfield 13, 3) := by decide +kernel
theorem d_MO_before1_19 : decode b_MO_before1 19 = .ok (.aload_n 0, 1) := by decide +kernel
theorem d_MO_before1_20 : decode b_MO_before1 20 = .ok (.getfield 16, 3) := by decide +kernel
theorem d_MO_before1_23 : decode b_MO_before1 23 = .ok (.iload_n 1, 1) := by decide +kernel
theorem d_MO_before1_24 : decode b_MO_before1 24 = .ok (.iaload, 1) := by decide +kernel
theorem d_MO_before1_25 : decode b_MO_before1 25 = .ok (.iconst 1, 1) := by decide +kernel
theorem d_MO_before1_26 : decode b_MO_before1 26 = .ok (.isub, 1) := by decide +kernel
theorem d_MO_before1_27 : decode b_MO_before1 27 = .ok (.iaload, 1) := by decide +kernel
theorem d_MO_before1_28 : decode b_MO_before1 28 = .ok (.ireturn, 1) := by decide +kernel
theorem d_MO_column_0 : decode b_MO_column 0 = .ok (.iload_n 1, 1) := by decide +kernel
theorem d_MO_column_1 : decode b_MO_column 1 = .ok (.ifCond .lt 11, 3) := by decide +kernel
theorem d_MO_column_4 : decode b_MO_column 4 = .ok (.iload_n 1, 1) := by decide +kernel
theorem d_MO_column_5 : decode b_MO_column 5 = .ok (.aload_n 0, 1) := by decide +kernel
theorem d_MO_column_6 : decode b_MO_column 6 = .ok (.getfield 37, 3) := by decide +kernel
theorem d_MO_column_9 : decode b_MO_column 9 = .ok (.if_icmp .le 5, 3) := by decide +kernel
theorem d_MO_column_12 : decode b_MO_column 12 = .ok (.iconst (-1), 1) := by decide +kernel
theorem d_MO_column_13 : decode b_MO_column 13 = .ok (.ireturn, 1) := by decide +kernel
theorem d_MO_column_14 : decode b_MO_column 14 = .ok (.aload_n 0, 1) := by decide +kernel
theorem d_MO_column_15 : decode b_MO_column 15 = .ok (.iload_n 1, 1) := by decide +kernel
theorem d_MO_column_16 : decode b_MO_column 16 = .ok (.invokevirtual 54, 3) := by decide +kernel
theorem d_MO_column_19 : decode b_MO_column 19 = .ok (.sipush 256, 3) := by decide +kernel
theorem d_MO_column_22 : decode b_MO_column 22 = .ok (.if_icmp .ne 8, 3) := by decide +kernel
theorem d_MO_column_25 : decode b_MO_column 25 = .ok (.bipush (-2), 2) := by decide +kernel
theorem d_MO_column_27 : decode b_MO_column 27 = .ok (.goto 8, 3) := by decide +kernel
theorem d_MO_column_30 : decode b_MO_column 30 = .ok (.aload_n 0, 1) := by decide +kernel
theorem d_MO_column_31 : decode b_MO_column 31 = .ok (.iload_n 1, 1) := by decide +kernel
