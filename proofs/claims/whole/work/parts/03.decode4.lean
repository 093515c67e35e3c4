theorem d_MO_hit_44 : decode b_MO_hit 44 = .ok (.iconst (-1), 1) := by decide +kernel
theorem d_MO_hit_45 : decode b_MO_hit 45 = .ok (.ireturn, 1) := by decide +kernel
theorem d_MO_match_0 : decode b_MO_match 0 = .ok (.iload_n 1, 1) := by decide +kernel
theorem d_MO_match_1 : decode b_MO_match 1 = .ok (.ifCond .lt 11, 3) := by decide +kernel
theorem d_MO_match_4 : decode b_MO_match 4 = .ok (.iload_n 1, 1) := by decide +kernel
theorem d_MO_match_5 : decode b_MO_match 5 = .ok (.aload_n 0, 1) := by decide +kernel
theorem d_MO_match_6 : decode b_MO_match 6 = .ok (.getfield 58, 3) := by decide +kernel
theorem d_MO_match_9 : decode b_MO_match 9 = .ok (.if_icmp .le 5, 3) := by decide +kernel
theorem d_MO_match_12 : decode b_MO_match 12 = .ok (.iconst (-1), 1) := by decide +kernel
theorem d_MO_match_13 : decode b_MO_match 13 = .ok (.ireturn, 1) := by decide +kernel
theorem d_MO_match_14 : decode b_MO_match 14 = .ok (.iconst 0, 1) := by decide +kernel
theorem d_MO_match_15 : decode b_MO_match 15 = .ok (.istore_n 2, 1) := by decide +kernel
theorem d_MO_match_16 : decode b_MO_match 16 = .ok (.iconst 0, 1) := by decide +kernel
theorem d_MO_match_17 : decode b_MO_match 17 = .ok (.istore_n 3, 1) := by decide +kernel
theorem d_MO_match_18 : decode b_MO_match 18 = .ok (.iload_n 3, 1) := by decide +kernel
theorem d_MO_match_19 : decode b_MO_match 19 = .ok (.aload_n 0, 1) := by decide +kernel
theorem d_MO_match_20 : decode b_MO_match 20 = .ok (.getfield 37, 3) := by decide +kernel
theorem d_MO_match_23 : decode b_MO_match 23 = .ok (.if_icmp .gt 30, 3) := by decide +kernel
theorem d_MO_match_26 : decode b_MO_match 26 = .ok (.aload_n 0, 1) := by decide +kernel
theorem d_MO_match_27 : decode b_MO_match 27 = .ok (.iload_n 3, 1) := by decide +kernel
theorem d_MO_match_28 : decode b_MO_match 28 = .ok (.iload_n 1, 1) := by decide +kernel
theorem d_MO_match_29 : decode b_MO_match 29 = .ok (.invokevirtual 61, 3) := by decide +kernel
theorem d_MO_match_32 : decode b_MO_match 32 = .ok (.istore 4, 2) := by decide +kernel
theorem d_MO_match_34 : decode b_MO_match 34 = .ok (.iload 4, 2) := by decide +kernel
theorem d_MO_match_36 : decode b_MO_match 36 = .ok (.iload_n 2, 1) := by decide +kernel
theorem d_MO_match_37 : decode b_MO_match 37 = .ok (.if_icmp .le 8, 3) := by decide +kernel
theorem d_MO_match_40 : decode b_MO_match 40 = .ok (.iload 4, 2) := by decide +kernel
theorem d_MO_match_42 : decode b_MO_match 42 = .ok (.goto 4, 3) := by decide +kernel
theorem d_MO_match_45 : decode b_MO_match 45 = .ok (.iload_n 2, 1) := by decide +kernel
theorem d_MO_match_46 : decode b_MO_match 46 = .ok (.istore_n 2, 1) := by decide +kernel
theorem d_MO_match_47 : decode b_MO_match 47 = .ok (.iinc 3 1, 3) := by decide +kernel
theorem d_MO_match_50 : decode b_MO_match 50 = .ok (.goto (-32), 3) := by decide +kernel
theorem d_MO_match_53 : decode b_MO_match 53 = .ok (.iload_n 2, 1) := by decide +kernel
theorem d_MO_match_54 : decode b_MO_match 54 = .ok (.ireturn, 1) := by decide +kernel
theorem d_MO_longer_0 : decode b_MO_longer 0 = .ok (.iconst 1, 1) := by decide +kernel
theorem d_MO_longer_1 : decode b_MO_longer 1 = .ok (.istore_n 3, 1) := by decide +kernel
theorem d_MO_longer_2 : decode b_MO_longer 2 = .ok (.iconst 0, 1) := by decide +kernel
theorem d_MO_longer_3 : decode b_MO_longer 3 = .ok (.istore 4, 2) := by decide +kernel
theorem d_MO_longer_5 : decode b_MO_longer 5 = .ok (.iload 4, 2) := by decide +kernel
theorem d_MO_longer_7 : decode b_MO_longer 7 = .ok (.iload_n 2, 1) := by decide +kernel
theorem d_MO_longer_8 : decode b_MO_longer 8 = .ok (.if_icmp .ge 65, 3) := by decide +kernel
theorem d_MO_longer_11 : decode b_MO_longer 11 = .ok (.iload_n 3, 1) := by decide +kernel
theorem d_MO_longer_12 : decode b_MO_longer 12 = .ok (.aload_n 0, 1) := by decide +kernel
theorem d_MO_longer_13 : decode b_MO_longer 13 = .ok (.getfield 25, 3) := by decide +kernel
theorem d_MO_longer_16 : decode b_MO_longer 16 = .ok (.iload 4, 2) := by decide +kernel
theorem d_MO_longer_18 : decode b_MO_longer 18 = .ok (.iaload, 1) := by decide +kernel
theorem d_MO_longer_19 : decode b_MO_longer 19 = .ok (.ifCond .lt 45, 3) := by decide +kernel
theorem d_MO_longer_22 : decode b_MO_longer 22 = .ok (.aload_n 0, 1) := by decide +kernel
theorem d_MO_longer_23 : decode b_MO_longer 23 = .ok (.getfield 25, 3) := by decide +kernel
theorem d_MO_longer_26 : decode b_MO_longer 26 = .ok (.iload 4, 2) := by decide +kernel
theorem d_MO_longer_28 : decode b_MO_longer 28 = .ok (.iaload, 1) := by decide +kernel
theorem d_MO_longer_29 : decode b_MO_longer 29 = .ok (.aload_n 0, 1) := by decide +kernel
theorem d_MO_longer_30 : decode b_MO_longer 30 = .ok (.getfield 25, 3) := by decide +kernel
theorem d_MO_longer_33 : decode b_MO_longer 33 = .ok (.iload_n 1, 1) := by decide +kernel
theorem d_MO_longer_34 : decode b_MO_longer 34 = .ok (.iaload, 1) := by decide +kernel
theorem d_MO_longer_35 : decode b_MO_longer 35 = .ok (.if_icmp .lt 25, 3) := by decide +kernel
theorem d_MO_longer_38 : decode b_MO_longer 38 = .ok (.aload_n 0, 1) := by decide +kernel
theorem d_MO_longer_39 : decode b_MO_longer 39 = .ok (.getfield 25, 3) := by decide +kernel
theorem d_MO_longer_42 : decode b_MO_longer 42 = .ok (.iload 4, 2) := by decide +kernel
theorem d_MO_longer_44 : decode b_MO_longer 44 = .ok (.iaload, 1) := by decide +kernel
theorem d_MO_longer_45 : decode b_MO_longer 45 = .ok (.aload_n 0, 1) := by decide +kernel
theorem d_MO_longer_46 : decode b_MO_longer 46 = .ok (.getfield 25, 3) := by decide +kernel
theorem d_MO_longer_49 : decode b_MO_longer 49 = .ok (.iload_n 1, 1) := by decide +kernel
theorem d_MO_longer_50 : decode b_MO_longer 50 = .ok (.iaload, 1) := by decide +kernel
theorem d_MO_longer_51 : decode b_MO_longer 51 = .ok (.if_icmp .ne 13, 3) := by decide +kernel
theorem d_MO_longer_54 : decode b_MO_longer 54 = .ok (.iload 4, 2) := by decide +kernel
theorem d_MO_longer_56 : decode b_MO_longer 56 = .ok (.iload_n 1, 1) := by decide +kernel
theorem d_MO_longer_57 : decode b_MO_longer 57 = .ok (.if_icmp .ge 7, 3) := by decide +kernel
theorem d_MO_longer_60 : decode b_MO_longer 60 = .ok (.iconst 1, 1) := by decide +kernel
theorem d_MO_longer_61 : decode b_MO_longer 61 = .ok (.goto 4, 3) := by decide +kernel
theorem d_MO_longer_64 : decode b_MO_longer 64 = .ok (.iconst 0, 1) := by decide +kernel
theorem d_MO_longer_65 : decode b_MO_longer 65 = .ok (.iadd, 1) := by decide +kernel
theorem d_MO_longer_66 : decode b_MO_longer 66 = .ok (.istore_n 3, 1) := by decide +kernel
theorem d_MO_longer_67 : decode b_MO_longer 67 = .ok (.iinc 4 1, 3) := by decide +kernel
theorem d_MO_longer_70 : decode b_MO_longer 70 = .ok (.goto (-65), 3) := by decide +kernel
theorem d_MO_longer_73 : decode b_MO_longer 73 = .ok (.iload_n 3, 1) := by decide +kernel
theorem d_MO_longer_74 : decode b_MO_longer 74 = .ok (.ireturn, 1) := by decide +kernel
theorem d_MO_turnBack_0 : decode b_MO_turnBack 0 = .ok (.iconst 0, 1) := by decide +kernel
theorem d_MO_turnBack_1 : decode b_MO_turnBack 1 = .ok (.istore_n 2, 1) := by decide +kernel
theorem d_MO_turnBack_2 : decode b_MO_turnBack 2 = .ok (.iload_n 1, 1) := by decide +kernel
theorem d_MO_turnBack_3 : decode b_MO_turnBack 3 = .ok (.iconst 1, 1) := by decide +kernel
theorem d_MO_turnBack_4 : decode b_MO_turnBack 4 = .ok (.isub, 1) := by decide +kernel
theorem d_MO_turnBack_5 : decode b_MO_turnBack 5 = .ok (.istore_n 3, 1) := by decide +kernel
theorem d_MO_turnBack_6 : decode b_MO_turnBack 6 = .ok (.iload_n 3, 1) := by decide +kernel
theorem d_MO_turnBack_7 : decode b_MO_turnBack 7 = .ok (.ifCond .lt 41, 3) := by decide +kernel
theorem d_MO_turnBack_10 : decode b_MO_turnBack 10 = .ok (.aload_n 0, 1) := by decide +kernel
theorem d_MO_turnBack_11 : decode b_MO_turnBack 11 = .ok (.getfield 25, 3) := by decide +kernel
theorem d_MO_turnBack_14 : decode b_MO_turnBack 14 = .ok (.iload_n 2, 1) := by decide +kernel
theorem d_MO_turnBack_15 : decode b_MO_turnBack 15 = .ok (.iaload, 1) := by decide +kernel
theorem d_MO_turnBack_16 : decode b_MO_turnBack 16 = .ok (.ifCond .ge 5, 3) := by decide +kernel
theorem d_MO_turnBack_19 : decode b_MO_turnBack 19 = .ok (.iconst 0, 1) := by decide +kernel
theorem d_MO_turnBack_20 : decode b_MO_turnBack 20 = .ok (.ireturn, 1) := by decide +kernel
theorem d_MO_turnBack_21 : decode b_MO_turnBack 21 = .ok (.aload_n 0, 1) := by decide +kernel
theorem d_MO_turnBack_22 : decode b_MO_turnBack 22 = .ok (.getfield 13, 3) := by decide +kernel
theorem d_MO_turnBack_25 : decode b_MO_turnBack 25 = .ok (.iload_n 3, 1) := by decide +kernel
theorem d_MO_turnBack_26 : decode b_MO_turnBack 26 = .ok (.aload_n 0, 1) := by decide +kernel
theorem d_MO_turnBack_27 : decode b_MO_turnBack 27 = .ok (.getfield 25, 3) := by decide +kernel
theorem d_MO_turnBack_30 : decode b_MO_turnBack 30 = .ok (.iload_n 2, 1) := by decide +kernel
theorem d_MO_turnBack_31 : decode b_MO_turnBack 31 = .ok (.iaload, 1) := by decide +kernel
theorem d_MO_turnBack_32 : decode b_MO_turnBack 32 = .ok (.iastore, 1) := by decide +kernel
theorem d_MO_turnBack_33 : decode b_MO_turnBack 33 = .ok (.aload_n 0, 1) := by decide +kernel
theorem d_MO_turnBack_34 : decode b_MO_turnBack 34 = .ok (.iload_n 2, 1) := by decide +kernel
theorem d_MO_turnBack_35 : decode b_MO_turnBack 35 = .ok (.iload_n 1, 1) := by decide +kernel
theorem d_MO_turnBack_36 : decode b_MO_turnBack 36 = .ok (.iconst 1, 1) := by decide +kernel
theorem d_MO_turnBack_37 : decode b_MO_turnBack 37 = .ok (.iadd, 1) := by decide +kernel
theorem d_MO_turnBack_38 : decode b_MO_turnBack 38 = .ok (.invokevirtual 68, 3) := by decide +kernel
theorem d_MO_turnBack_41 : decode b_MO_turnBack 41 = .ok (.istore_n 2, 1) := by decide +kernel
theorem d_MO_turnBack_42 : decode b_MO_turnBack 42 = .ok (.iinc 3 (-1), 3) := by decide +kernel
theorem d_MO_turnBack_45 : decode b_MO_turnBack 45 = .ok (.goto (-39), 3) := by decide +kernel
theorem d_MO_turnBack_48 : decode b_MO_turnBack 48 = .ok (.aload_n 0, 1) := by decide +kernel
theorem d_MO_turnBack_49 : decode b_MO_turnBack 49 = .ok (.getfield 25, 3) := by decide +kernel
theorem d_MO_turnBack_52 : decode b_MO_turnBack 52 = .ok (.iload_n 2, 1) := by decide +kernel
theorem d_MO_turnBack_53 : decode b_MO_turnBack 53 = .ok (.iaload, 1) := by decide +kernel
theorem d_MO_turnBack_54 : decode b_MO_turnBack 54 = .ok (.ifCond .ge 7, 3) := by decide +kernel
theorem d_MO_turnBack_57 : decode b_MO_turnBack 57 = .ok (.iconst 1, 1) := by decide +kernel
theorem d_MO_turnBack_58 : decode b_MO_turnBack 58 = .ok (.goto 4, 3) := by decide +kernel
theorem d_MO_turnBack_61 : decode b_MO_turnBack 61 = .ok (.iconst 0, 1) := by decide +kernel
theorem d_MO_turnBack_62 : decode b_MO_turnBack 62 = .ok (.ireturn, 1) := by decide +kernel
theorem d_MO_revert_0 : decode b_MO_revert 0 = .ok (.iload_n 1, 1) := by decide +kernel
theorem d_MO_revert_1 : decode b_MO_revert 1 = .ok (.ifCond .lt 11, 3) := by decide +kernel
theorem d_MO_revert_4 : decode b_MO_revert 4 = .ok (.iload_n 1, 1) := by decide +kernel
theorem d_MO_revert_5 : decode b_MO_revert 5 = .ok (.aload_n 0, 1) := by decide +kernel
theorem d_MO_revert_6 : decode b_MO_revert 6 = .ok (.getfield 31, 3) := by decide +kernel
theorem d_MO_revert_9 : decode b_MO_revert 9 = .ok (.if_icmp .le 5, 3) := by decide +kernel
theorem d_MO_revert_12 : decode b_MO_revert 12 = .ok (.iconst (-1), 1) := by decide +kernel
theorem d_MO_revert_13 : decode b_MO_revert 13 = .ok (.ireturn, 1) := by decide +kernel
theorem d_MO_revert_14 : decode b_MO_revert 14 = .ok (.aload_n 0, 1) := by decide +kernel
theorem d_MO_revert_15 : decode b_MO_revert 15 = .ok (.getfield 31, 3) := by decide +kernel
theorem d_MO_revert_18 : decode b_MO_revert 18 = .ok (.istore_n 2, 1) := by decide +kernel
theorem d_MO_revert_19 : decode b_MO_revert 19 = .ok (.iconst 0, 1) := by decide +kernel
theorem d_MO_revert_20 : decode b_MO_revert 20 = .ok (.istore_n 3, 1) := by decide +kernel
theorem d_MO_revert_21 : decode b_MO_revert 21 = .ok (.iload_n 3, 1) := by decide +kernel
theorem d_MO_revert_22 : decode b_MO_revert 22 = .ok (.iload_n 2, 1) := by decide +kernel
theorem d_MO_revert_23 : decode b_MO_revert 23 = .ok (.if_icmp .gt 46, 3) := by decide +kernel
theorem d_MO_revert_26 : decode b_MO_revert 26 = .ok (.aload_n 0, 1) := by decide +kernel
theorem d_MO_revert_27 : decode b_MO_revert 27 = .ok (.getfield 25, 3) := by decide +kernel
theorem d_MO_revert_30 : decode b_MO_revert 30 = .ok (.iload_n 3, 1) := by decide +kernel
theorem d_MO_revert_31 : decode b_MO_revert 31 = .ok (.iload_n 3, 1) := by decide +kernel
theorem d_MO_revert_32 : decode b_MO_revert 32 = .ok (.iload_n 1, 1) := by decide +kernel
theorem d_MO_revert_33 : decode b_MO_revert 33 = .ok (.if_icmp .ge 12, 3) := by decide +kernel
theorem d_MO_revert_36 : decode b_MO_revert 36 = .ok (.aload_n 0, 1) := by decide +kernel
theorem d_MO_revert_37 : decode b_MO_revert 37 = .ok (.getfield 7, 3) := by decide +kernel
theorem d_MO_revert_40 : decode b_MO_revert 40 = .ok (.iload_n 3, 1) := by decide +kernel
theorem d_MO_revert_41 : decode b_MO_revert 41 = .ok (.iaload, 1) := by decide +kernel
theorem d_MO_revert_42 : decode b_MO_revert 42 = .ok (.goto 20, 3) := by decide +kernel
theorem d_MO_revert_45 : decode b_MO_revert 45 = .ok (.iload_n 3, 1) := by decide +kernel
theorem d_MO_revert_46 : decode b_MO_revert 46 = .ok (.iload_n 1, 1) := by decide +kernel
theorem d_MO_revert_47 : decode b_MO_revert 47 = .ok (.if_icmp .ne 7, 3) := by decide +kernel
theorem d_MO_revert_50 : decode b_MO_revert 50 = .ok (.iconst (-1), 1) := by decide +kernel
theorem d_MO_revert_51 : decode b_MO_revert 51 = .ok (.goto 11, 3) := by decide +kernel
theorem d_MO_revert_54 : decode b_MO_revert 54 = .ok (.aload_n 0, 1) := by decide +kernel
theorem d_MO_revert_55 : decode b_MO_revert 55 = .ok (.getfield 7, 3) := by decide +kernel
theorem d_MO_revert_58 : decode b_MO_revert 58 = .ok (.iload_n 3, 1) := by decide +kernel
theorem d_MO_revert_59 : decode b_MO_revert 59 = .ok (.iconst 1, 1) := by decide +kernel
theorem d_MO_revert_60 : decode b_MO_revert 60 = .ok (.isub, 1) := by decide +kernel
theorem d_MO_revert_61 : decode b_MO_revert 61 = .ok (.iaload, 1) := by decide +kernel
theorem d_MO_revert_62 : decode b_MO_revert 62 = .ok (.iastore, 1) := by decide +kernel
theorem d_MO_revert_63 : decode b_MO_revert 63 = .ok (.iinc 3 1, 3) := by decide +kernel
theorem d_MO_revert_66 : decode b_MO_revert 66 = .ok (.goto (-45), 3) := by decide +kernel
theorem d_MO_revert_69 : decode b_MO_revert 69 = .ok (.aload_n 0, 1) := by decide +kernel
theorem d_MO_revert_70 : decode b_MO_revert 70 = .ok (.iconst 0, 1) := by decide +kernel
theorem d_MO_revert_71 : decode b_MO_revert 71 = .ok (.putfield 31, 3) := by decide +kernel
theorem d_MO_revert_74 : decode b_MO_revert 74 = .ok (.aload_n 0, 1) := by decide +kernel
theorem d_MO_revert_75 : decode b_MO_revert 75 = .ok (.getfield 37, 3) := by decide +kernel
theorem d_MO_revert_78 : decode b_MO_revert 78 = .ok (.istore_n 3, 1) := by decide +kernel
theorem d_MO_revert_79 : decode b_MO_revert 79 = .ok (.iconst 0, 1) := by decide +kernel
theorem d_MO_revert_80 : decode b_MO_revert 80 = .ok (.istore 4, 2) := by decide +kernel
theorem d_MO_revert_82 : decode b_MO_revert 82 = .ok (.iload 4, 2) := by decide +kernel
theorem d_MO_revert_84 : decode b_MO_revert 84 = .ok (.iload_n 3, 1) := by decide +kernel
theorem d_MO_revert_85 : decode b_MO_revert 85 = .ok (.if_icmp .ge 23, 3) := by decide +kernel
theorem d_MO_revert_88 : decode b_MO_revert 88 = .ok (.aload_n 0, 1) := by decide +kernel
theorem d_MO_revert_89 : decode b_MO_revert 89 = .ok (.getfield 28, 3) := by decide +kernel
theorem d_MO_revert_92 : decode b_MO_revert 92 = .ok (.iload 4, 2) := by decide +kernel
theorem d_MO_revert_94 : decode b_MO_revert 94 = .ok (.aload_n 0, 1) := by decide +kernel
theorem d_MO_revert_95 : decode b_MO_revert 95 = .ok (.getfield 13, 3) := by decide +kernel
theorem d_MO_revert_98 : decode b_MO_revert 98 = .ok (.iload 4, 2) := by decide +kernel
theorem d_MO_revert_100 : decode b_MO_revert 100 = .ok (.iaload, 1) := by decide +kernel
theorem d_MO_revert_101 : decode b_MO_revert 101 = .ok (.iastore, 1) := by decide +kernel
theorem d_MO_revert_102 : decode b_MO_revert 102 = .ok (.iinc 4 1, 3) := by decide +kernel
theorem d_MO_revert_105 : decode b_MO_revert 105 = .ok (.goto (-23), 3) := by decide +kernel
theorem d_MO_revert_108 : decode b_MO_revert 108 = .ok (.aload_n 0, 1) := by decide +kernel
theorem d_MO_revert_109 : decode b_MO_revert 109 = .ok (.iload_n 2, 1) := by decide +kernel
theorem d_MO_revert_110 : decode b_MO_revert 110 = .ok (.putfield 37, 3) := by decide +kernel
theorem d_MO_revert_113 : decode b_MO_revert 113 = .ok (.aload_n 0, 1) := by decide +kernel
theorem d_MO_revert_114 : decode b_MO_revert 114 = .ok (.iload_n 2, 1) := by decide +kernel
theorem d_MO_revert_115 : decode b_MO_revert 115 = .ok (.invokevirtual 71, 3) := by decide +kernel
theorem d_MO_revert_118 : decode b_MO_revert 118 = .ok (.istore 4, 2) := by decide +kernel
theorem d_MO_revert_120 : decode b_MO_revert 120 = .ok (.iload 4, 2) := by decide +kernel
theorem d_MO_revert_122 : decode b_MO_revert 122 = .ok (.ifCond .eq 7, 3) := by decide +kernel
theorem d_MO_revert_125 : decode b_MO_revert 125 = .ok (.aload_n 0, 1) := by decide +kernel
theorem d_MO_revert_126 : decode b_MO_revert 126 = .ok (.invokevirtual 48, 3) := by decide +kernel
theorem d_MO_revert_129 : decode b_MO_revert 129 = .ok (.iconst 0, 1) := by decide +kernel
theorem d_MO_revert_130 : decode b_MO_revert 130 = .ok (.istore 5, 2) := by decide +kernel
theorem d_MO_revert_132 : decode b_MO_revert 132 = .ok (.iload 5, 2) := by decide +kernel
theorem d_MO_revert_134 : decode b_MO_revert 134 = .ok (.iload_n 2, 1) := by decide +kernel
theorem d_MO_revert_135 : decode b_MO_revert 135 = .ok (.if_icmp .gt 53, 3) := by decide +kernel
theorem d_MO_revert_138 : decode b_MO_revert 138 = .ok (.iload 4, 2) := by decide +kernel
theorem d_MO_revert_140 : decode b_MO_revert 140 = .ok (.ifCond .eq 48, 3) := by decide +kernel
theorem d_MO_revert_143 : decode b_MO_revert 143 = .ok (.aload_n 0, 1) := by decide +kernel
theorem d_MO_revert_144 : decode b_MO_revert 144 = .ok (.iload 5, 2) := by decide +kernel
theorem d_MO_revert_146 : decode b_MO_revert 146 = .ok (.invokevirtual 54, 3) := by decide +kernel
theorem d_MO_revert_149 : decode b_MO_revert 149 = .ok (.aload_n 0, 1) := by decide +kernel
theorem d_MO_revert_150 : decode b_MO_revert 150 = .ok (.getfield 25, 3) := by decide +kernel
theorem d_MO_revert_153 : decode b_MO_revert 153 = .ok (.iload 5, 2) := by decide +kernel
theorem d_MO_revert_155 : decode b_MO_revert 155 = .ok (.iaload, 1) := by decide +kernel
theorem d_MO_revert_156 : decode b_MO_revert 156 = .ok (.ifCond .ge 9, 3) := by decide +kernel
theorem d_MO_revert_159 : decode b_MO_revert 159 = .ok (.sipush 256, 3) := by decide +kernel
theorem d_MO_revert_162 : decode b_MO_revert 162 = .ok (.goto 10, 3) := by decide +kernel
theorem d_MO_revert_165 : decode b_MO_revert 165 = .ok (.aload_n 0, 1) := by decide +kernel
theorem d_MO_revert_166 : decode b_MO_revert 166 = .ok (.getfield 25, 3) := by decide +kernel
theorem d_MO_revert_169 : decode b_MO_revert 169 = .ok (.iload 5, 2) := by decide +kernel
theorem d_MO_revert_171 : decode b_MO_revert 171 = .ok (.iaload, 1) := by decide +kernel
theorem d_MO_revert_172 : decode b_MO_revert 172 = .ok (.if_icmp .ne 7, 3) := by decide +kernel
theorem d_MO_revert_175 : decode b_MO_revert 175 = .ok (.iconst 1, 1) := by decide +kernel
theorem d_MO_revert_176 : decode b_MO_revert 176 = .ok (.goto 4, 3) := by decide +kernel
theorem d_MO_revert_179 : decode b_MO_revert 179 = .ok (.iconst 0, 1) := by decide +kernel
theorem d_MO_revert_180 : decode b_MO_revert 180 = .ok (.istore 4, 2) := by decide +kernel
theorem d_MO_revert_182 : decode b_MO_revert 182 = .ok (.iinc 5 1, 3) := by decide +kernel
theorem d_MO_revert_185 : decode b_MO_revert 185 = .ok (.goto (-53), 3) := by decide +kernel
theorem d_MO_revert_188 : decode b_MO_revert 188 = .ok (.iload 4, 2) := by decide +kernel
theorem d_MO_revert_190 : decode b_MO_revert 190 = .ok (.ifCond .eq 8, 3) := by decide +kernel
theorem d_MO_revert_193 : decode b_MO_revert 193 = .ok (.aload_n 0, 1) := by decide +kernel
theorem d_MO_revert_194 : decode b_MO_revert 194 = .ok (.getfield 37, 3) := by decide +kernel
theorem d_MO_revert_197 : decode b_MO_revert 197 = .ok (.ireturn, 1) := by decide +kernel
theorem d_MO_revert_198 : decode b_MO_revert 198 = .ok (.iconst 0, 1) := by decide +kernel
theorem d_MO_revert_199 : decode b_MO_revert 199 = .ok (.istore 5, 2) := by decide +kernel
theorem d_MO_revert_201 : decode b_MO_revert 201 = .ok (.iload 5, 2) := by decide +kernel
theorem d_MO_revert_203 : decode b_MO_revert 203 = .ok (.iload_n 3, 1) := by decide +kernel
theorem d_MO_revert_204 : decode b_MO_revert 204 = .ok (.if_icmp .ge 23, 3) := by decide +kernel
theorem d_MO_revert_207 : decode b_MO_revert 207 = .ok (.aload_n 0, 1) := by decide +kernel
theorem d_MO_revert_208 : decode b_MO_revert 208 = .ok (.getfield 13, 3) := by decide +kernel
theorem d_MO_revert_211 : decode b_MO_revert 211 = .ok (.iload 5, 2) := by decide +kernel
theorem d_MO_revert_213 : decode b_MO_revert 213 = .ok (.aload_n 0, 1) := by decide +kernel
theorem d_MO_revert_214 : decode b_MO_revert 214 = .ok (.getfield 28, 3) := by decide +kernel
theorem d_MO_revert_217 : decode b_MO_revert 217 = .ok (.iload 5, 2) := by decide +kernel
theorem d_MO_revert_219 : decode b_MO_revert 219 = .ok (.iaload, 1) := by decide +kernel
theorem d_MO_revert_220 : decode b_MO_revert 220 = .ok (.iastore, 1) := by decide +kernel
theorem d_MO_revert_221 : decode b_MO_revert 221 = .ok (.iinc 5 1, 3) := by decide +kernel
theorem d_MO_revert_224 : decode b_MO_revert 224 = .ok (.goto (-23), 3) := by decide +kernel
theorem d_MO_revert_227 : decode b_MO_revert 227 = .ok (.aload_n 0, 1) := by decide +kernel
theorem d_MO_revert_228 : decode b_MO_revert 228 = .ok (.iload_n 3, 1) := by decide +kernel
theorem d_MO_revert_229 : decode b_MO_revert 229 = .ok (.putfield 37, 3) := by decide +kernel
theorem d_MO_revert_232 : decode b_MO_revert 232 = .ok (.aload_n 0, 1) := by decide +kernel
theorem d_MO_revert_233 : decode b_MO_revert 233 = .ok (.invokevirtual 48, 3) := by decide +kernel
theorem d_MO_revert_236 : decode b_MO_revert 236 = .ok (.bipush (-4), 2) := by decide +kernel
theorem d_MO_revert_238 : decode b_MO_revert 238 = .ok (.ireturn, 1) := by decide +kernel
theorem d_BR_init_0 : decode b_BR_init 0 = .ok (.aload_n 0, 1) := by decide +kernel
theorem d_BR_init_1 : decode b_BR_init 1 = .ok (.invokespecial 3, 3) := by decide +kernel
theorem d_BR_init_4 : decode b_BR_init 4 = .ok (.aload_n 0, 1) := by decide +kernel
theorem d_BR_init_5 : decode b_BR_init 5 = .ok (.bipush 96, 2) := by decide +kernel
theorem d_BR_init_7 : decode b_BR_init 7 = .ok (.newarray .int, 2) := by decide +kernel
theorem d_BR_init_9 : decode b_BR_init 9 = .ok (.putfield 9, 3) := by decide +kernel
theorem d_BR_init_12 : decode b_BR_init 12 = .ok (.aload_n 0, 1) := by decide +kernel
theorem d_BR_init_13 : decode b_BR_init 13 = .ok (.iconst 0, 1) := by decide +kernel
theorem d_BR_init_14 : decode b_BR_init 14 = .ok (.putfield 15, 3) := by decide +kernel
theorem d_BR_init_17 : decode b_BR_init 17 = .ok (.return_, 1) := by decide +kernel
theorem d_BR_clear_0 : decode b_BR_clear 0 = .ok (.aload_n 0, 1) := by decide +kernel
theorem d_BR_clear_1 : decode b_BR_clear 1 = .ok (.iconst 0, 1) := by decide +kernel
theorem d_BR_clear_2 : decode b_BR_clear 2 = .ok (.putfield 15, 3) := by decide +kernel
theorem d_BR_clear_5 : decode b_BR_clear 5 = .ok (.return_, 1) := by decide +kernel
theorem d_BR_append_0 : decode b_BR_append 0 = .ok (.aload_n 0, 1) := by decide +kernel
theorem d_BR_append_1 : decode b_BR_append 1 = .ok (.getfield 15, 3) := by decide +kernel
theorem d_BR_append_4 : decode b_BR_append 4 = .ok (.bipush 96, 2) := by decide +kernel
theorem d_BR_append_6 : decode b_BR_append 6 = .ok (.if_icmp .ge 23, 3) := by decide +kernel
theorem d_BR_append_9 : decode b_BR_append 9 = .ok (.aload_n 0, 1) := by decide +kernel
theorem d_BR_append_10 : decode b_BR_append 10 = .ok (.getfield 9, 3) := by decide +kernel
theorem d_BR_append_13 : decode b_BR_append 13 = .ok (.aload_n 0, 1) := by decide +kernel
theorem d_BR_append_14 : decode b_BR_append 14 = .ok (.getfield 15, 3) := by decide +kernel
theorem d_BR_append_17 : decode b_BR_append 17 = .ok (.iload_n 1, 1) := by decide +kernel
theorem d_BR_append_18 : decode b_BR_append 18 = .ok (.iastore, 1) := by decide +kernel
theorem d_BR_append_19 : decode b_BR_append 19 = .ok (.aload_n 0, 1) := by decide +kernel
theorem d_BR_append_20 : decode b_BR_append 20 = .ok (.dup, 1) := by decide +kernel
theorem d_BR_append_21 : decode b_BR_append 21 = .ok (.getfield 15, 3) := by decide +kernel
theorem d_BR_append_24 : decode b_BR_append 24 = .ok (.iconst 1, 1) := by decide +kernel
theorem d_BR_append_25 : decode b_BR_append 25 = .ok (.iadd, 1) := by decide +kernel
theorem d_BR_append_26 : decode b_BR_append 26 = .ok (.putfield 15, 3) := by decide +kernel
theorem d_BR_append_29 : decode b_BR_append 29 = .ok (.return_, 1) := by decide +kernel
theorem d_BR_putInFront_0 : decode b_BR_putInFront 0 = .ok (.aload_n 0, 1) := by decide +kernel
theorem d_BR_putInFront_1 : decode b_BR_putInFront 1 = .ok (.getfield 15, 3) := by decide +kernel
theorem d_BR_putInFront_4 : decode b_BR_putInFront 4 = .ok (.bipush 96, 2) := by decide +kernel
theorem d_BR_putInFront_6 : decode b_BR_putInFront 6 = .ok (.if_icmp .ge 37, 3) := by decide +kernel
theorem d_BR_putInFront_9 : decode b_BR_putInFront 9 = .ok (.aload_n 0, 1) := by decide +kernel
theorem d_BR_putInFront_10 : decode b_BR_putInFront 10 = .ok (.getfield 9, 3) := by decide +kernel
theorem d_BR_putInFront_13 : decode b_BR_putInFront 13 = .ok (.iconst 0, 1) := by decide +kernel
theorem d_BR_putInFront_14 : decode b_BR_putInFront 14 = .ok (.aload_n 0, 1) := by decide +kernel
theorem d_BR_putInFront_15 : decode b_BR_putInFront 15 = .ok (.getfield 9, 3) := by decide +kernel
theorem d_BR_putInFront_18 : decode b_BR_putInFront 18 = .ok (.iconst 1, 1) := by decide +kernel
theorem d_BR_putInFront_19 : decode b_BR_putInFront 19 = .ok (.aload_n 0, 1) := by decide +kernel
theorem d_BR_putInFront_20 : decode b_BR_putInFront 20 = .ok (.getfield 15, 3) := by decide +kernel
theorem d_BR_putInFront_23 : decode b_BR_putInFront 23 = .ok (.invokestatic 19, 3) := by decide +kernel
theorem d_BR_putInFront_26 : decode b_BR_putInFront 26 = .ok (.aload_n 0, 1) := by decide +kernel
theorem d_BR_putInFront_27 : decode b_BR_putInFront 27 = .ok (.getfield 9, 3) := by decide +kernel
theorem d_BR_putInFront_30 : decode b_BR_putInFront 30 = .ok (.iconst 0, 1) := by decide +kernel
theorem d_BR_putInFront_31 : decode b_BR_putInFront 31 = .ok (.iload_n 1, 1) := by decide +kernel
theorem d_BR_putInFront_32 : decode b_BR_putInFront 32 = .ok (.iastore, 1) := by decide +kernel
theorem d_BR_putInFront_33 : decode b_BR_putInFront 33 = .ok (.aload_n 0, 1) := by decide +kernel
theorem d_BR_putInFront_34 : decode b_BR_putInFront 34 = .ok (.dup, 1) := by decide +kernel
theorem d_BR_putInFront_35 : decode b_BR_putInFront 35 = .ok (.getfield 15, 3) := by decide +kernel
theorem d_BR_putInFront_38 : decode b_BR_putInFront 38 = .ok (.iconst 1, 1) := by decide +kernel
theorem d_BR_putInFront_39 : decode b_BR_putInFront 39 = .ok (.iadd, 1) := by decide +kernel
theorem d_BR_putInFront_40 : decode b_BR_putInFront 40 = .ok (.putfield 15, 3) := by decide +kernel
theorem d_BR_putInFront_43 : decode b_BR_putInFront 43 = .ok (.return_, 1) := by decide +kernel
theorem d_BR_copyFrom_0 : decode b_BR_copyFrom 0 = .ok (.aload_n 1, 1) := by decide +kernel
theorem d_BR_copyFrom_1 : decode b_BR_copyFrom 1 = .ok (.getfield 9, 3) := by decide +kernel
theorem d_BR_copyFrom_4 : decode b_BR_copyFrom 4 = .ok (.iconst 0, 1) := by decide +kernel
theorem d_BR_copyFrom_5 : decode b_BR_copyFrom 5 = .ok (.aload_n 0, 1) := by decide +kernel
theorem d_BR_copyFrom_6 : decode b_BR_copyFrom 6 = .ok (.getfield 9, 3) := by decide +kernel
theorem d_BR_copyFrom_9 : decode b_BR_copyFrom 9 = .ok (.iconst 0, 1) := by decide +kernel
theorem d_BR_copyFrom_10 : decode b_BR_copyFrom 10 = .ok (.aload_n 1, 1) := by decide +kernel
theorem d_BR_copyFrom_11 : decode b_BR_copyFrom 11 = .ok (.getfield 15, 3) := by decide +kernel
theorem d_BR_copyFrom_14 : decode b_BR_copyFrom 14 = .ok (.invokestatic 19, 3) := by decide +kernel
theorem d_BR_copyFrom_17 : decode b_BR_copyFrom 17 = .ok (.aload_n 0, 1) := by decide +kernel
theorem d_BR_copyFrom_18 : decode b_BR_copyFrom 18 = .ok (.aload_n 1, 1) := by decide +kernel
theorem d_BR_copyFrom_19 : decode b_BR_copyFrom 19 = .ok (.getfield 15, 3) := by decide +kernel
theorem d_BR_copyFrom_22 : decode b_BR_copyFrom 22 = .ok (.putfield 15, 3) := by decide +kernel
theorem d_BR_copyFrom_25 : decode b_BR_copyFrom 25 = .ok (.return_, 1) := by decide +kernel
theorem d_BR_alike_0 : decode b_BR_alike 0 = .ok (.aload_n 0, 1) := by decide +kernel
theorem d_BR_alike_1 : decode b_BR_alike 1 = .ok (.getfield 15, 3) := by decide +kernel
theorem d_BR_alike_4 : decode b_BR_alike 4 = .ok (.iload_n 1, 1) := by decide +kernel
theorem d_BR_alike_5 : decode b_BR_alike 5 = .ok (.isub, 1) := by decide +kernel
theorem d_BR_alike_6 : decode b_BR_alike 6 = .ok (.aload_n 2, 1) := by decide +kernel
theorem d_BR_alike_7 : decode b_BR_alike 7 = .ok (.getfield 15, 3) := by decide +kernel
theorem d_BR_alike_10 : decode b_BR_alike 10 = .ok (.iload_n 3, 1) := by decide +kernel
theorem d_BR_alike_11 : decode b_BR_alike 11 = .ok (.isub, 1) := by decide +kernel
theorem d_BR_alike_12 : decode b_BR_alike 12 = .ok (.invokestatic 25, 3) := by decide +kernel
theorem d_BR_alike_15 : decode b_BR_alike 15 = .ok (.istore 4, 2) := by decide +kernel
theorem d_BR_alike_17 : decode b_BR_alike 17 = .ok (.iconst 0, 1) := by decide +kernel
theorem d_BR_alike_18 : decode b_BR_alike 18 = .ok (.istore 5, 2) := by decide +kernel
theorem d_BR_alike_20 : decode b_BR_alike 20 = .ok (.iload 5, 2) := by decide +kernel
theorem d_BR_alike_22 : decode b_BR_alike 22 = .ok (.iload 4, 2) := by decide +kernel
theorem d_BR_alike_24 : decode b_BR_alike 24 = .ok (.if_icmp .ge 30, 3) := by decide +kernel
theorem d_BR_alike_27 : decode b_BR_alike 27 = .ok (.aload_n 0, 1) := by decide +kernel
theorem d_BR_alike_28 : decode b_BR_alike 28 = .ok (.getfield 9, 3) := by decide +kernel
theorem d_BR_alike_31 : decode b_BR_alike 31 = .ok (.iload_n 1, 1) := by decide +kernel
theorem d_BR_alike_32 : decode b_BR_alike 32 = .ok (.iload 5, 2) := by decide +kernel
theorem d_BR_alike_34 : decode b_BR_alike 34 = .ok (.iadd, 1) := by decide +kernel
theorem d_BR_alike_35 : decode b_BR_alike 35 = .ok (.iaload, 1) := by decide +kernel
theorem d_BR_alike_36 : decode b_BR_alike 36 = .ok (.aload_n 2, 1) := by decide +kernel
theorem d_BR_alike_37 : decode b_BR_alike 37 = .ok (.getfield 9, 3) := by decide +kernel
theorem d_BR_alike_40 : decode b_BR_alike 40 = .ok (.iload_n 3, 1) := by decide +kernel
theorem d_BR_alike_41 : decode b_BR_alike 41 = .ok (.iload 5, 2) := by decide +kernel
theorem d_BR_alike_43 : decode b_BR_alike 43 = .ok (.iadd, 1) := by decide +kernel
theorem d_BR_alike_44 : decode b_BR_alike 44 = .ok (.iaload, 1) := by decide +kernel
theorem d_BR_alike_45 : decode b_BR_alike 45 = .ok (.if_icmp .ne 9, 3) := by decide +kernel
theorem d_BR_alike_48 : decode b_BR_alike 48 = .ok (.iinc 5 1, 3) := by decide +kernel
theorem d_BR_alike_51 : decode b_BR_alike 51 = .ok (.goto (-31), 3) := by decide +kernel
theorem d_BR_alike_54 : decode b_BR_alike 54 = .ok (.iload 5, 2) := by decide +kernel
theorem d_BR_alike_56 : decode b_BR_alike 56 = .ok (.ireturn, 1) := by decide +kernel
theorem d_CR_init_0 : decode b_CR_init 0 = .ok (.aload_n 0, 1) := by decide +kernel
theorem d_CR_init_1 : decode b_CR_init 1 = .ok (.invokespecial 3, 3) := by decide +kernel
theorem d_CR_init_4 : decode b_CR_init 4 = .ok (.aload_n 0, 1) := by decide +kernel
theorem d_CR_init_5 : decode b_CR_init 5 = .ok (.bipush 97, 2) := by decide +kernel
theorem d_CR_init_7 : decode b_CR_init 7 = .ok (.newarray .int, 2) := by decide +kernel
theorem d_CR_init_9 : decode b_CR_init 9 = .ok (.putfield 9, 3) := by decide +kernel
theorem d_CR_init_12 : decode b_CR_init 12 = .ok (.aload_n 0, 1) := by decide +kernel
theorem d_CR_init_13 : decode b_CR_init 13 = .ok (.getfield 9, 3) := by decide +kernel
theorem d_CR_init_16 : decode b_CR_init 16 = .ok (.iconst 0, 1) := by decide +kernel
theorem d_CR_init_17 : decode b_CR_init 17 = .ok (.bipush (-2), 2) := by decide +kernel
theorem d_CR_init_19 : decode b_CR_init 19 = .ok (.iastore, 1) := by decide +kernel
theorem d_CR_init_20 : decode b_CR_init 20 = .ok (.aload_n 0, 1) := by decide +kernel
theorem d_CR_init_21 : decode b_CR_init 21 = .ok (.iconst 0, 1) := by decide +kernel
theorem d_CR_init_22 : decode b_CR_init 22 = .ok (.putfield 15, 3) := by decide +kernel
theorem d_CR_init_25 : decode b_CR_init 25 = .ok (.return_, 1) := by decide +kernel
theorem d_CR_take_0 : decode b_CR_take 0 = .ok (.iconst 0, 1) := by decide +kernel
theorem d_CR_take_1 : decode b_CR_take 1 = .ok (.istore_n 3, 1) := by decide +kernel
theorem d_CR_take_2 : decode b_CR_take 2 = .ok (.iload_n 3, 1) := by decide +kernel
theorem d_CR_take_3 : decode b_CR_take 3 = .ok (.aload_n 1, 1) := by decide +kernel
theorem d_CR_take_4 : decode b_CR_take 4 = .ok (.getfield 19, 3) := by decide +kernel
theorem d_CR_take_7 : decode b_CR_take 7 = .ok (.if_icmp .ge 32, 3) := by decide +kernel
theorem d_CR_take_10 : decode b_CR_take 10 = .ok (.aload_n 0, 1) := by decide +kernel
theorem d_CR_take_11 : decode b_CR_take 11 = .ok (.getfield 9, 3) := by decide +kernel
theorem d_CR_take_14 : decode b_CR_take 14 = .ok (.iload_n 3, 1) := by decide +kernel
theorem d_CR_take_15 : decode b_CR_take 15 = .ok (.iload_n 2, 1) := by decide +kernel
theorem d_CR_take_16 : decode b_CR_take 16 = .ok (.if_icmp .ge 7, 3) := by decide +kernel
theorem d_CR_take_19 : decode b_CR_take 19 = .ok (.iload_n 3, 1) := by decide +kernel
theorem d_CR_take_20 : decode b_CR_take 20 = .ok (.goto 6, 3) := by decide +kernel
theorem d_CR_take_23 : decode b_CR_take 23 = .ok (.iload_n 3, 1) := by decide +kernel
theorem d_CR_take_24 : decode b_CR_take 24 = .ok (.iconst 1, 1) := by decide +kernel
theorem d_CR_take_25 : decode b_CR_take 25 = .ok (.iadd, 1) := by decide +kernel
theorem d_CR_take_26 : decode b_CR_take 26 = .ok (.aload_n 1, 1) := by decide +kernel
theorem d_CR_take_27 : decode b_CR_take 27 = .ok (.getfield 24, 3) := by decide +kernel
theorem d_CR_take_30 : decode b_CR_take 30 = .ok (.iload_n 3, 1) := by decide +kernel
theorem d_CR_take_31 : decode b_CR_take 31 = .ok (.iaload, 1) := by decide +kernel
theorem d_CR_take_32 : decode b_CR_take 32 = .ok (.iastore, 1) := by decide +kernel
theorem d_CR_take_33 : decode b_CR_take 33 = .ok (.iinc 3 1, 3) := by decide +kernel
theorem d_CR_take_36 : decode b_CR_take 36 = .ok (.goto (-34), 3) := by decide +kernel
theorem d_CR_take_39 : decode b_CR_take 39 = .ok (.aload_n 0, 1) := by decide +kernel
theorem d_CR_take_40 : decode b_CR_take 40 = .ok (.getfield 9, 3) := by decide +kernel
theorem d_CR_take_43 : decode b_CR_take 43 = .ok (.iload_n 2, 1) := by decide +kernel
theorem d_CR_take_44 : decode b_CR_take 44 = .ok (.bipush (-2), 2) := by decide +kernel
theorem d_CR_take_46 : decode b_CR_take 46 = .ok (.iastore, 1) := by decide +kernel
theorem d_CR_take_47 : decode b_CR_take 47 = .ok (.aload_n 0, 1) := by decide +kernel
theorem d_CR_take_48 : decode b_CR_take 48 = .ok (.aload_n 1, 1) := by decide +kernel
theorem d_CR_take_49 : decode b_CR_take 49 = .ok (.getfield 19, 3) := by decide +kernel
theorem d_CR_take_52 : decode b_CR_take 52 = .ok (.putfield 15, 3) := by decide +kernel
theorem d_CR_take_55 : decode b_CR_take 55 = .ok (.return_, 1) := by decide +kernel
theorem d_CR_writeText_0 : decode b_CR_writeText 0 = .ok (.iconst 0, 1) := by decide +kernel
theorem d_CR_writeText_1 : decode b_CR_writeText 1 = .ok (.istore_n 2, 1) := by decide +kernel
theorem d_CR_writeText_2 : decode b_CR_writeText 2 = .ok (.aload_n 0, 1) := by decide +kernel
theorem d_CR_writeText_3 : decode b_CR_writeText 3 = .ok (.getfield 15, 3) := by decide +kernel
