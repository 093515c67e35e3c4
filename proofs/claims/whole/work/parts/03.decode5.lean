theorem d_CR_writeText_6 : decode b_CR_writeText 6 = .ok (.iconst 1, 1) := by decide +kernel
theorem d_CR_writeText_7 : decode b_CR_writeText 7 = .ok (.isub, 1) := by decide +kernel
theorem d_CR_writeText_8 : decode b_CR_writeText 8 = .ok (.istore_n 3, 1) := by decide +kernel
theorem d_CR_writeText_9 : decode b_CR_writeText 9 = .ok (.iload_n 3, 1) := by decide +kernel
theorem d_CR_writeText_10 : decode b_CR_writeText 10 = .ok (.ifCond .lt 40, 3) := by decide +kernel
theorem d_CR_writeText_13 : decode b_CR_writeText 13 = .ok (.aload_n 0, 1) := by decide +kernel
theorem d_CR_writeText_14 : decode b_CR_writeText 14 = .ok (.getfield 9, 3) := by decide +kernel
theorem d_CR_writeText_17 : decode b_CR_writeText 17 = .ok (.iload_n 2, 1) := by decide +kernel
theorem d_CR_writeText_18 : decode b_CR_writeText 18 = .ok (.iaload, 1) := by decide +kernel
theorem d_CR_writeText_19 : decode b_CR_writeText 19 = .ok (.bipush (-2), 2) := by decide +kernel
theorem d_CR_writeText_21 : decode b_CR_writeText 21 = .ok (.if_icmp .ne 5, 3) := by decide +kernel
theorem d_CR_writeText_24 : decode b_CR_writeText 24 = .ok (.iconst 0, 1) := by decide +kernel
theorem d_CR_writeText_25 : decode b_CR_writeText 25 = .ok (.ireturn, 1) := by decide +kernel
theorem d_CR_writeText_26 : decode b_CR_writeText 26 = .ok (.aload_n 1, 1) := by decide +kernel
theorem d_CR_writeText_27 : decode b_CR_writeText 27 = .ok (.getfield 24, 3) := by decide +kernel
theorem d_CR_writeText_30 : decode b_CR_writeText 30 = .ok (.iload_n 3, 1) := by decide +kernel
theorem d_CR_writeText_31 : decode b_CR_writeText 31 = .ok (.aload_n 0, 1) := by decide +kernel
theorem d_CR_writeText_32 : decode b_CR_writeText 32 = .ok (.getfield 9, 3) := by decide +kernel
theorem d_CR_writeText_35 : decode b_CR_writeText 35 = .ok (.iload_n 2, 1) := by decide +kernel
theorem d_CR_writeText_36 : decode b_CR_writeText 36 = .ok (.iaload, 1) := by decide +kernel
theorem d_CR_writeText_37 : decode b_CR_writeText 37 = .ok (.iastore, 1) := by decide +kernel
theorem d_CR_writeText_38 : decode b_CR_writeText 38 = .ok (.aload_n 0, 1) := by decide +kernel
theorem d_CR_writeText_39 : decode b_CR_writeText 39 = .ok (.iload_n 2, 1) := by decide +kernel
theorem d_CR_writeText_40 : decode b_CR_writeText 40 = .ok (.invokevirtual 27, 3) := by decide +kernel
theorem d_CR_writeText_43 : decode b_CR_writeText 43 = .ok (.istore_n 2, 1) := by decide +kernel
theorem d_CR_writeText_44 : decode b_CR_writeText 44 = .ok (.iinc 3 (-1), 3) := by decide +kernel
theorem d_CR_writeText_47 : decode b_CR_writeText 47 = .ok (.goto (-38), 3) := by decide +kernel
theorem d_CR_writeText_50 : decode b_CR_writeText 50 = .ok (.aload_n 1, 1) := by decide +kernel
theorem d_CR_writeText_51 : decode b_CR_writeText 51 = .ok (.aload_n 0, 1) := by decide +kernel
theorem d_CR_writeText_52 : decode b_CR_writeText 52 = .ok (.getfield 15, 3) := by decide +kernel
theorem d_CR_writeText_55 : decode b_CR_writeText 55 = .ok (.putfield 19, 3) := by decide +kernel
theorem d_CR_writeText_58 : decode b_CR_writeText 58 = .ok (.iconst 1, 1) := by decide +kernel
theorem d_CR_writeText_59 : decode b_CR_writeText 59 = .ok (.ireturn, 1) := by decide +kernel
theorem d_CR_rankOfLonger_0 : decode b_CR_rankOfLonger 0 = .ok (.iconst 0, 1) := by decide +kernel
theorem d_CR_rankOfLonger_1 : decode b_CR_rankOfLonger 1 = .ok (.istore_n 2, 1) := by decide +kernel
theorem d_CR_rankOfLonger_2 : decode b_CR_rankOfLonger 2 = .ok (.iconst 0, 1) := by decide +kernel
theorem d_CR_rankOfLonger_3 : decode b_CR_rankOfLonger 3 = .ok (.istore_n 3, 1) := by decide +kernel
theorem d_CR_rankOfLonger_4 : decode b_CR_rankOfLonger 4 = .ok (.iload_n 3, 1) := by decide +kernel
theorem d_CR_rankOfLonger_5 : decode b_CR_rankOfLonger 5 = .ok (.aload_n 0, 1) := by decide +kernel
theorem d_CR_rankOfLonger_6 : decode b_CR_rankOfLonger 6 = .ok (.getfield 15, 3) := by decide +kernel
theorem d_CR_rankOfLonger_9 : decode b_CR_rankOfLonger 9 = .ok (.if_icmp .gt 47, 3) := by decide +kernel
theorem d_CR_rankOfLonger_12 : decode b_CR_rankOfLonger 12 = .ok (.aload_n 0, 1) := by decide +kernel
theorem d_CR_rankOfLonger_13 : decode b_CR_rankOfLonger 13 = .ok (.getfield 9, 3) := by decide +kernel
theorem d_CR_rankOfLonger_16 : decode b_CR_rankOfLonger 16 = .ok (.iload_n 3, 1) := by decide +kernel
theorem d_CR_rankOfLonger_17 : decode b_CR_rankOfLonger 17 = .ok (.iaload, 1) := by decide +kernel
theorem d_CR_rankOfLonger_18 : decode b_CR_rankOfLonger 18 = .ok (.aload_n 0, 1) := by decide +kernel
theorem d_CR_rankOfLonger_19 : decode b_CR_rankOfLonger 19 = .ok (.getfield 9, 3) := by decide +kernel
theorem d_CR_rankOfLonger_22 : decode b_CR_rankOfLonger 22 = .ok (.iload_n 1, 1) := by decide +kernel
theorem d_CR_rankOfLonger_23 : decode b_CR_rankOfLonger 23 = .ok (.iaload, 1) := by decide +kernel
theorem d_CR_rankOfLonger_24 : decode b_CR_rankOfLonger 24 = .ok (.if_icmp .lt 23, 3) := by decide +kernel
theorem d_CR_rankOfLonger_27 : decode b_CR_rankOfLonger 27 = .ok (.aload_n 0, 1) := by decide +kernel
theorem d_CR_rankOfLonger_28 : decode b_CR_rankOfLonger 28 = .ok (.getfield 9, 3) := by decide +kernel
theorem d_CR_rankOfLonger_31 : decode b_CR_rankOfLonger 31 = .ok (.iload_n 3, 1) := by decide +kernel
theorem d_CR_rankOfLonger_32 : decode b_CR_rankOfLonger 32 = .ok (.iaload, 1) := by decide +kernel
theorem d_CR_rankOfLonger_33 : decode b_CR_rankOfLonger 33 = .ok (.aload_n 0, 1) := by decide +kernel
theorem d_CR_rankOfLonger_34 : decode b_CR_rankOfLonger 34 = .ok (.getfield 9, 3) := by decide +kernel
theorem d_CR_rankOfLonger_37 : decode b_CR_rankOfLonger 37 = .ok (.iload_n 1, 1) := by decide +kernel
theorem d_CR_rankOfLonger_38 : decode b_CR_rankOfLonger 38 = .ok (.iaload, 1) := by decide +kernel
theorem d_CR_rankOfLonger_39 : decode b_CR_rankOfLonger 39 = .ok (.if_icmp .ne 11, 3) := by decide +kernel
theorem d_CR_rankOfLonger_42 : decode b_CR_rankOfLonger 42 = .ok (.iload_n 3, 1) := by decide +kernel
theorem d_CR_rankOfLonger_43 : decode b_CR_rankOfLonger 43 = .ok (.iload_n 1, 1) := by decide +kernel
theorem d_CR_rankOfLonger_44 : decode b_CR_rankOfLonger 44 = .ok (.if_icmp .ge 6, 3) := by decide +kernel
theorem d_CR_rankOfLonger_47 : decode b_CR_rankOfLonger 47 = .ok (.iinc 2 1, 3) := by decide +kernel
theorem d_CR_rankOfLonger_50 : decode b_CR_rankOfLonger 50 = .ok (.iinc 3 1, 3) := by decide +kernel
theorem d_CR_rankOfLonger_53 : decode b_CR_rankOfLonger 53 = .ok (.goto (-49), 3) := by decide +kernel
theorem d_CR_rankOfLonger_56 : decode b_CR_rankOfLonger 56 = .ok (.iload_n 2, 1) := by decide +kernel
theorem d_CR_rankOfLonger_57 : decode b_CR_rankOfLonger 57 = .ok (.ireturn, 1) := by decide +kernel
theorem d_FL_init_0 : decode b_FL_init 0 = .ok (.aload_n 0, 1) := by decide +kernel
theorem d_FL_init_1 : decode b_FL_init 1 = .ok (.invokespecial 3, 3) := by decide +kernel
theorem d_FL_init_4 : decode b_FL_init 4 = .ok (.aload_n 0, 1) := by decide +kernel
theorem d_FL_init_5 : decode b_FL_init 5 = .ok (.bipush 97, 2) := by decide +kernel
theorem d_FL_init_7 : decode b_FL_init 7 = .ok (.newarray .int, 2) := by decide +kernel
theorem d_FL_init_9 : decode b_FL_init 9 = .ok (.putfield 9, 3) := by decide +kernel
theorem d_FL_init_12 : decode b_FL_init 12 = .ok (.aload_n 0, 1) := by decide +kernel
theorem d_FL_init_13 : decode b_FL_init 13 = .ok (.sipush 257, 3) := by decide +kernel
theorem d_FL_init_16 : decode b_FL_init 16 = .ok (.newarray .int, 2) := by decide +kernel
theorem d_FL_init_18 : decode b_FL_init 18 = .ok (.putfield 15, 3) := by decide +kernel
theorem d_FL_init_21 : decode b_FL_init 21 = .ok (.return_, 1) := by decide +kernel
theorem d_FL_numberColumn_0 : decode b_FL_numberColumn 0 = .ok (.aload_n 0, 1) := by decide +kernel
theorem d_FL_numberColumn_1 : decode b_FL_numberColumn 1 = .ok (.invokevirtual 18, 3) := by decide +kernel
theorem d_FL_numberColumn_4 : decode b_FL_numberColumn 4 = .ok (.iconst 0, 1) := by decide +kernel
theorem d_FL_numberColumn_5 : decode b_FL_numberColumn 5 = .ok (.istore_n 3, 1) := by decide +kernel
theorem d_FL_numberColumn_6 : decode b_FL_numberColumn 6 = .ok (.iload_n 3, 1) := by decide +kernel
theorem d_FL_numberColumn_7 : decode b_FL_numberColumn 7 = .ok (.iload_n 2, 1) := by decide +kernel
theorem d_FL_numberColumn_8 : decode b_FL_numberColumn 8 = .ok (.if_icmp .gt 22, 3) := by decide +kernel
theorem d_FL_numberColumn_11 : decode b_FL_numberColumn 11 = .ok (.aload_n 0, 1) := by decide +kernel
theorem d_FL_numberColumn_12 : decode b_FL_numberColumn 12 = .ok (.getfield 9, 3) := by decide +kernel
theorem d_FL_numberColumn_15 : decode b_FL_numberColumn 15 = .ok (.iload_n 3, 1) := by decide +kernel
theorem d_FL_numberColumn_16 : decode b_FL_numberColumn 16 = .ok (.aload_n 0, 1) := by decide +kernel
theorem d_FL_numberColumn_17 : decode b_FL_numberColumn 17 = .ok (.aload_n 1, 1) := by decide +kernel
theorem d_FL_numberColumn_18 : decode b_FL_numberColumn 18 = .ok (.iload_n 3, 1) := by decide +kernel
theorem d_FL_numberColumn_19 : decode b_FL_numberColumn 19 = .ok (.iaload, 1) := by decide +kernel
theorem d_FL_numberColumn_20 : decode b_FL_numberColumn 20 = .ok (.invokevirtual 21, 3) := by decide +kernel
theorem d_FL_numberColumn_23 : decode b_FL_numberColumn 23 = .ok (.iastore, 1) := by decide +kernel
theorem d_FL_numberColumn_24 : decode b_FL_numberColumn 24 = .ok (.iinc 3 1, 3) := by decide +kernel
theorem d_FL_numberColumn_27 : decode b_FL_numberColumn 27 = .ok (.goto (-21), 3) := by decide +kernel
theorem d_FL_numberColumn_30 : decode b_FL_numberColumn 30 = .ok (.return_, 1) := by decide +kernel
theorem d_FL_startAgain_0 : decode b_FL_startAgain 0 = .ok (.aload_n 0, 1) := by decide +kernel
theorem d_FL_startAgain_1 : decode b_FL_startAgain 1 = .ok (.getfield 15, 3) := by decide +kernel
theorem d_FL_startAgain_4 : decode b_FL_startAgain 4 = .ok (.iconst 0, 1) := by decide +kernel
theorem d_FL_startAgain_5 : decode b_FL_startAgain 5 = .ok (.bipush (-2), 2) := by decide +kernel
theorem d_FL_startAgain_7 : decode b_FL_startAgain 7 = .ok (.iastore, 1) := by decide +kernel
theorem d_FL_startAgain_8 : decode b_FL_startAgain 8 = .ok (.iconst 0, 1) := by decide +kernel
theorem d_FL_startAgain_9 : decode b_FL_startAgain 9 = .ok (.istore_n 1, 1) := by decide +kernel
theorem d_FL_startAgain_10 : decode b_FL_startAgain 10 = .ok (.iload_n 1, 1) := by decide +kernel
theorem d_FL_startAgain_11 : decode b_FL_startAgain 11 = .ok (.sipush 256, 3) := by decide +kernel
theorem d_FL_startAgain_14 : decode b_FL_startAgain 14 = .ok (.if_icmp .ge 18, 3) := by decide +kernel
theorem d_FL_startAgain_17 : decode b_FL_startAgain 17 = .ok (.aload_n 0, 1) := by decide +kernel
theorem d_FL_startAgain_18 : decode b_FL_startAgain 18 = .ok (.getfield 15, 3) := by decide +kernel
theorem d_FL_startAgain_21 : decode b_FL_startAgain 21 = .ok (.iload_n 1, 1) := by decide +kernel
theorem d_FL_startAgain_22 : decode b_FL_startAgain 22 = .ok (.iconst 1, 1) := by decide +kernel
theorem d_FL_startAgain_23 : decode b_FL_startAgain 23 = .ok (.iadd, 1) := by decide +kernel
theorem d_FL_startAgain_24 : decode b_FL_startAgain 24 = .ok (.iload_n 1, 1) := by decide +kernel
theorem d_FL_startAgain_25 : decode b_FL_startAgain 25 = .ok (.iastore, 1) := by decide +kernel
theorem d_FL_startAgain_26 : decode b_FL_startAgain 26 = .ok (.iinc 1 1, 3) := by decide +kernel
theorem d_FL_startAgain_29 : decode b_FL_startAgain 29 = .ok (.goto (-19), 3) := by decide +kernel
theorem d_FL_startAgain_32 : decode b_FL_startAgain 32 = .ok (.return_, 1) := by decide +kernel
theorem d_FL_moveToFront_0 : decode b_FL_moveToFront 0 = .ok (.iconst 0, 1) := by decide +kernel
theorem d_FL_moveToFront_1 : decode b_FL_moveToFront 1 = .ok (.istore_n 2, 1) := by decide +kernel
theorem d_FL_moveToFront_2 : decode b_FL_moveToFront 2 = .ok (.iload_n 2, 1) := by decide +kernel
theorem d_FL_moveToFront_3 : decode b_FL_moveToFront 3 = .ok (.sipush 256, 3) := by decide +kernel
theorem d_FL_moveToFront_6 : decode b_FL_moveToFront 6 = .ok (.if_icmp .ge 19, 3) := by decide +kernel
theorem d_FL_moveToFront_9 : decode b_FL_moveToFront 9 = .ok (.aload_n 0, 1) := by decide +kernel
theorem d_FL_moveToFront_10 : decode b_FL_moveToFront 10 = .ok (.getfield 15, 3) := by decide +kernel
theorem d_FL_moveToFront_13 : decode b_FL_moveToFront 13 = .ok (.iload_n 2, 1) := by decide +kernel
theorem d_FL_moveToFront_14 : decode b_FL_moveToFront 14 = .ok (.iaload, 1) := by decide +kernel
theorem d_FL_moveToFront_15 : decode b_FL_moveToFront 15 = .ok (.iload_n 1, 1) := by decide +kernel
theorem d_FL_moveToFront_16 : decode b_FL_moveToFront 16 = .ok (.if_icmp .eq 9, 3) := by decide +kernel
theorem d_FL_moveToFront_19 : decode b_FL_moveToFront 19 = .ok (.iinc 2 1, 3) := by decide +kernel
theorem d_FL_moveToFront_22 : decode b_FL_moveToFront 22 = .ok (.goto (-20), 3) := by decide +kernel
theorem d_FL_moveToFront_25 : decode b_FL_moveToFront 25 = .ok (.aload_n 0, 1) := by decide +kernel
theorem d_FL_moveToFront_26 : decode b_FL_moveToFront 26 = .ok (.getfield 15, 3) := by decide +kernel
theorem d_FL_moveToFront_29 : decode b_FL_moveToFront 29 = .ok (.iconst 0, 1) := by decide +kernel
theorem d_FL_moveToFront_30 : decode b_FL_moveToFront 30 = .ok (.aload_n 0, 1) := by decide +kernel
theorem d_FL_moveToFront_31 : decode b_FL_moveToFront 31 = .ok (.getfield 15, 3) := by decide +kernel
theorem d_FL_moveToFront_34 : decode b_FL_moveToFront 34 = .ok (.iconst 1, 1) := by decide +kernel
theorem d_FL_moveToFront_35 : decode b_FL_moveToFront 35 = .ok (.iload_n 2, 1) := by decide +kernel
theorem d_FL_moveToFront_36 : decode b_FL_moveToFront 36 = .ok (.invokestatic 25, 3) := by decide +kernel
theorem d_FL_moveToFront_39 : decode b_FL_moveToFront 39 = .ok (.aload_n 0, 1) := by decide +kernel
theorem d_FL_moveToFront_40 : decode b_FL_moveToFront 40 = .ok (.getfield 15, 3) := by decide +kernel
theorem d_FL_moveToFront_43 : decode b_FL_moveToFront 43 = .ok (.iconst 0, 1) := by decide +kernel
theorem d_FL_moveToFront_44 : decode b_FL_moveToFront 44 = .ok (.iload_n 1, 1) := by decide +kernel
theorem d_FL_moveToFront_45 : decode b_FL_moveToFront 45 = .ok (.iastore, 1) := by decide +kernel
theorem d_FL_moveToFront_46 : decode b_FL_moveToFront 46 = .ok (.iload_n 2, 1) := by decide +kernel
theorem d_FL_moveToFront_47 : decode b_FL_moveToFront 47 = .ok (.ireturn, 1) := by decide +kernel
theorem d_SO_init_0 : decode b_SO_init 0 = .ok (.aload_n 0, 1) := by decide +kernel
theorem d_SO_init_1 : decode b_SO_init 1 = .ok (.invokespecial 3, 3) := by decide +kernel
theorem d_SO_init_4 : decode b_SO_init 4 = .ok (.aload_n 0, 1) := by decide +kernel
theorem d_SO_init_5 : decode b_SO_init 5 = .ok (.bipush 97, 2) := by decide +kernel
theorem d_SO_init_7 : decode b_SO_init 7 = .ok (.newarray .int, 2) := by decide +kernel
theorem d_SO_init_9 : decode b_SO_init 9 = .ok (.putfield 9, 3) := by decide +kernel
theorem d_SO_init_12 : decode b_SO_init 12 = .ok (.aload_n 0, 1) := by decide +kernel
theorem d_SO_init_13 : decode b_SO_init 13 = .ok (.bipush 97, 2) := by decide +kernel
theorem d_SO_init_15 : decode b_SO_init 15 = .ok (.newarray .int, 2) := by decide +kernel
theorem d_SO_init_17 : decode b_SO_init 17 = .ok (.putfield 15, 3) := by decide +kernel
theorem d_SO_init_20 : decode b_SO_init 20 = .ok (.aload_n 0, 1) := by decide +kernel
theorem d_SO_init_21 : decode b_SO_init 21 = .ok (.bipush 96, 2) := by decide +kernel
theorem d_SO_init_23 : decode b_SO_init 23 = .ok (.newarray .int, 2) := by decide +kernel
theorem d_SO_init_25 : decode b_SO_init 25 = .ok (.putfield 18, 3) := by decide +kernel
theorem d_SO_init_28 : decode b_SO_init 28 = .ok (.aload_n 0, 1) := by decide +kernel
theorem d_SO_init_29 : decode b_SO_init 29 = .ok (.bipush 97, 2) := by decide +kernel
theorem d_SO_init_31 : decode b_SO_init 31 = .ok (.newarray .int, 2) := by decide +kernel
theorem d_SO_init_33 : decode b_SO_init 33 = .ok (.putfield 21, 3) := by decide +kernel
theorem d_SO_init_36 : decode b_SO_init 36 = .ok (.aload_n 0, 1) := by decide +kernel
theorem d_SO_init_37 : decode b_SO_init 37 = .ok (.getfield 21, 3) := by decide +kernel
theorem d_SO_init_40 : decode b_SO_init 40 = .ok (.iconst 0, 1) := by decide +kernel
theorem d_SO_init_41 : decode b_SO_init 41 = .ok (.bipush (-2), 2) := by decide +kernel
theorem d_SO_init_43 : decode b_SO_init 43 = .ok (.iastore, 1) := by decide +kernel
theorem d_SO_init_44 : decode b_SO_init 44 = .ok (.return_, 1) := by decide +kernel
theorem d_SO_arrange_0 : decode b_SO_arrange 0 = .ok (.aload_n 1, 1) := by decide +kernel
theorem d_SO_arrange_1 : decode b_SO_arrange 1 = .ok (.getfield 24, 3) := by decide +kernel
theorem d_SO_arrange_4 : decode b_SO_arrange 4 = .ok (.istore_n 2, 1) := by decide +kernel
theorem d_SO_arrange_5 : decode b_SO_arrange 5 = .ok (.iload_n 2, 1) := by decide +kernel
theorem d_SO_arrange_6 : decode b_SO_arrange 6 = .ok (.ifCond .lt 15, 3) := by decide +kernel
theorem d_SO_arrange_9 : decode b_SO_arrange 9 = .ok (.aload_n 0, 1) := by decide +kernel
theorem d_SO_arrange_10 : decode b_SO_arrange 10 = .ok (.aload_n 1, 1) := by decide +kernel
theorem d_SO_arrange_11 : decode b_SO_arrange 11 = .ok (.iload_n 2, 1) := by decide +kernel
theorem d_SO_arrange_12 : decode b_SO_arrange 12 = .ok (.invokevirtual 30, 3) := by decide +kernel
theorem d_SO_arrange_15 : decode b_SO_arrange 15 = .ok (.iinc 2 (-1), 3) := by decide +kernel
theorem d_SO_arrange_18 : decode b_SO_arrange 18 = .ok (.goto (-13), 3) := by decide +kernel
theorem d_SO_arrange_21 : decode b_SO_arrange 21 = .ok (.iconst 0, 1) := by decide +kernel
theorem d_SO_arrange_22 : decode b_SO_arrange 22 = .ok (.istore_n 2, 1) := by decide +kernel
theorem d_SO_arrange_23 : decode b_SO_arrange 23 = .ok (.iload_n 2, 1) := by decide +kernel
theorem d_SO_arrange_24 : decode b_SO_arrange 24 = .ok (.aload_n 1, 1) := by decide +kernel
theorem d_SO_arrange_25 : decode b_SO_arrange 25 = .ok (.getfield 24, 3) := by decide +kernel
theorem d_SO_arrange_28 : decode b_SO_arrange 28 = .ok (.if_icmp .gt 46, 3) := by decide +kernel
theorem d_SO_arrange_31 : decode b_SO_arrange 31 = .ok (.aload_n 0, 1) := by decide +kernel
theorem d_SO_arrange_32 : decode b_SO_arrange 32 = .ok (.getfield 15, 3) := by decide +kernel
theorem d_SO_arrange_35 : decode b_SO_arrange 35 = .ok (.iload_n 2, 1) := by decide +kernel
theorem d_SO_arrange_36 : decode b_SO_arrange 36 = .ok (.iaload, 1) := by decide +kernel
theorem d_SO_arrange_37 : decode b_SO_arrange 37 = .ok (.istore_n 3, 1) := by decide +kernel
theorem d_SO_arrange_38 : decode b_SO_arrange 38 = .ok (.aload_n 0, 1) := by decide +kernel
theorem d_SO_arrange_39 : decode b_SO_arrange 39 = .ok (.getfield 9, 3) := by decide +kernel
theorem d_SO_arrange_42 : decode b_SO_arrange 42 = .ok (.iload_n 3, 1) := by decide +kernel
theorem d_SO_arrange_43 : decode b_SO_arrange 43 = .ok (.iload_n 2, 1) := by decide +kernel
theorem d_SO_arrange_44 : decode b_SO_arrange 44 = .ok (.iastore, 1) := by decide +kernel
theorem d_SO_arrange_45 : decode b_SO_arrange 45 = .ok (.aload_n 0, 1) := by decide +kernel
theorem d_SO_arrange_46 : decode b_SO_arrange 46 = .ok (.getfield 21, 3) := by decide +kernel
theorem d_SO_arrange_49 : decode b_SO_arrange 49 = .ok (.iload_n 3, 1) := by decide +kernel
theorem d_SO_arrange_50 : decode b_SO_arrange 50 = .ok (.iload_n 2, 1) := by decide +kernel
theorem d_SO_arrange_51 : decode b_SO_arrange 51 = .ok (.ifCond .ne 8, 3) := by decide +kernel
theorem d_SO_arrange_54 : decode b_SO_arrange 54 = .ok (.bipush (-2), 2) := by decide +kernel
theorem d_SO_arrange_56 : decode b_SO_arrange 56 = .ok (.goto 11, 3) := by decide +kernel
theorem d_SO_arrange_59 : decode b_SO_arrange 59 = .ok (.aload_n 1, 1) := by decide +kernel
theorem d_SO_arrange_60 : decode b_SO_arrange 60 = .ok (.getfield 34, 3) := by decide +kernel
theorem d_SO_arrange_63 : decode b_SO_arrange 63 = .ok (.iload_n 2, 1) := by decide +kernel
theorem d_SO_arrange_64 : decode b_SO_arrange 64 = .ok (.iconst 1, 1) := by decide +kernel
theorem d_SO_arrange_65 : decode b_SO_arrange 65 = .ok (.isub, 1) := by decide +kernel
theorem d_SO_arrange_66 : decode b_SO_arrange 66 = .ok (.iaload, 1) := by decide +kernel
theorem d_SO_arrange_67 : decode b_SO_arrange 67 = .ok (.iastore, 1) := by decide +kernel
theorem d_SO_arrange_68 : decode b_SO_arrange 68 = .ok (.iinc 2 1, 3) := by decide +kernel
theorem d_SO_arrange_71 : decode b_SO_arrange 71 = .ok (.goto (-48), 3) := by decide +kernel
theorem d_SO_arrange_74 : decode b_SO_arrange 74 = .ok (.iconst 0, 1) := by decide +kernel
theorem d_SO_arrange_75 : decode b_SO_arrange 75 = .ok (.istore_n 2, 1) := by decide +kernel
theorem d_SO_arrange_76 : decode b_SO_arrange 76 = .ok (.iload_n 2, 1) := by decide +kernel
theorem d_SO_arrange_77 : decode b_SO_arrange 77 = .ok (.aload_n 1, 1) := by decide +kernel
theorem d_SO_arrange_78 : decode b_SO_arrange 78 = .ok (.getfield 24, 3) := by decide +kernel
theorem d_SO_arrange_81 : decode b_SO_arrange 81 = .ok (.if_icmp .ge 34, 3) := by decide +kernel
theorem d_SO_arrange_84 : decode b_SO_arrange 84 = .ok (.aload_n 0, 1) := by decide +kernel
theorem d_SO_arrange_85 : decode b_SO_arrange 85 = .ok (.getfield 18, 3) := by decide +kernel
theorem d_SO_arrange_88 : decode b_SO_arrange 88 = .ok (.iload_n 2, 1) := by decide +kernel
theorem d_SO_arrange_89 : decode b_SO_arrange 89 = .ok (.aload_n 1, 1) := by decide +kernel
theorem d_SO_arrange_90 : decode b_SO_arrange 90 = .ok (.aload_n 0, 1) := by decide +kernel
theorem d_SO_arrange_91 : decode b_SO_arrange 91 = .ok (.getfield 9, 3) := by decide +kernel
theorem d_SO_arrange_94 : decode b_SO_arrange 94 = .ok (.iload_n 2, 1) := by decide +kernel
theorem d_SO_arrange_95 : decode b_SO_arrange 95 = .ok (.iaload, 1) := by decide +kernel
theorem d_SO_arrange_96 : decode b_SO_arrange 96 = .ok (.aload_n 1, 1) := by decide +kernel
theorem d_SO_arrange_97 : decode b_SO_arrange 97 = .ok (.aload_n 0, 1) := by decide +kernel
theorem d_SO_arrange_98 : decode b_SO_arrange 98 = .ok (.getfield 9, 3) := by decide +kernel
theorem d_SO_arrange_101 : decode b_SO_arrange 101 = .ok (.iload_n 2, 1) := by decide +kernel
theorem d_SO_arrange_102 : decode b_SO_arrange 102 = .ok (.iconst 1, 1) := by decide +kernel
theorem d_SO_arrange_103 : decode b_SO_arrange 103 = .ok (.iadd, 1) := by decide +kernel
theorem d_SO_arrange_104 : decode b_SO_arrange 104 = .ok (.iaload, 1) := by decide +kernel
theorem d_SO_arrange_105 : decode b_SO_arrange 105 = .ok (.invokevirtual 37, 3) := by decide +kernel
theorem d_SO_arrange_108 : decode b_SO_arrange 108 = .ok (.iastore, 1) := by decide +kernel
theorem d_SO_arrange_109 : decode b_SO_arrange 109 = .ok (.iinc 2 1, 3) := by decide +kernel
theorem d_SO_arrange_112 : decode b_SO_arrange 112 = .ok (.goto (-36), 3) := by decide +kernel
theorem d_SO_arrange_115 : decode b_SO_arrange 115 = .ok (.return_, 1) := by decide +kernel
theorem d_SO_rankAmongShorter_0 : decode b_SO_rankAmongShorter 0 = .ok (.iconst 0, 1) := by decide +kernel
theorem d_SO_rankAmongShorter_1 : decode b_SO_rankAmongShorter 1 = .ok (.istore_n 3, 1) := by decide +kernel
theorem d_SO_rankAmongShorter_2 : decode b_SO_rankAmongShorter 2 = .ok (.iload_n 2, 1) := by decide +kernel
theorem d_SO_rankAmongShorter_3 : decode b_SO_rankAmongShorter 3 = .ok (.iconst 1, 1) := by decide +kernel
theorem d_SO_rankAmongShorter_4 : decode b_SO_rankAmongShorter 4 = .ok (.iadd, 1) := by decide +kernel
theorem d_SO_rankAmongShorter_5 : decode b_SO_rankAmongShorter 5 = .ok (.istore 4, 2) := by decide +kernel
theorem d_SO_rankAmongShorter_7 : decode b_SO_rankAmongShorter 7 = .ok (.iload 4, 2) := by decide +kernel
theorem d_SO_rankAmongShorter_9 : decode b_SO_rankAmongShorter 9 = .ok (.aload_n 1, 1) := by decide +kernel
theorem d_SO_rankAmongShorter_10 : decode b_SO_rankAmongShorter 10 = .ok (.getfield 24, 3) := by decide +kernel
theorem d_SO_rankAmongShorter_13 : decode b_SO_rankAmongShorter 13 = .ok (.if_icmp .gt 23, 3) := by decide +kernel
theorem d_SO_rankAmongShorter_16 : decode b_SO_rankAmongShorter 16 = .ok (.aload_n 0, 1) := by decide +kernel
theorem d_SO_rankAmongShorter_17 : decode b_SO_rankAmongShorter 17 = .ok (.aload_n 1, 1) := by decide +kernel
theorem d_SO_rankAmongShorter_18 : decode b_SO_rankAmongShorter 18 = .ok (.iload 4, 2) := by decide +kernel
theorem d_SO_rankAmongShorter_20 : decode b_SO_rankAmongShorter 20 = .ok (.iload_n 2, 1) := by decide +kernel
theorem d_SO_rankAmongShorter_21 : decode b_SO_rankAmongShorter 21 = .ok (.invokevirtual 41, 3) := by decide +kernel
theorem d_SO_rankAmongShorter_24 : decode b_SO_rankAmongShorter 24 = .ok (.ifCond .eq 6, 3) := by decide +kernel
theorem d_SO_rankAmongShorter_27 : decode b_SO_rankAmongShorter 27 = .ok (.iinc 3 1, 3) := by decide +kernel
theorem d_SO_rankAmongShorter_30 : decode b_SO_rankAmongShorter 30 = .ok (.iinc 4 1, 3) := by decide +kernel
theorem d_SO_rankAmongShorter_33 : decode b_SO_rankAmongShorter 33 = .ok (.goto (-26), 3) := by decide +kernel
theorem d_SO_rankAmongShorter_36 : decode b_SO_rankAmongShorter 36 = .ok (.iload_n 2, 1) := by decide +kernel
theorem d_SO_rankAmongShorter_37 : decode b_SO_rankAmongShorter 37 = .ok (.iconst 1, 1) := by decide +kernel
theorem d_SO_rankAmongShorter_38 : decode b_SO_rankAmongShorter 38 = .ok (.iadd, 1) := by decide +kernel
theorem d_SO_rankAmongShorter_39 : decode b_SO_rankAmongShorter 39 = .ok (.istore 4, 2) := by decide +kernel
theorem d_SO_rankAmongShorter_41 : decode b_SO_rankAmongShorter 41 = .ok (.iload 4, 2) := by decide +kernel
theorem d_SO_rankAmongShorter_43 : decode b_SO_rankAmongShorter 43 = .ok (.aload_n 1, 1) := by decide +kernel
theorem d_SO_rankAmongShorter_44 : decode b_SO_rankAmongShorter 44 = .ok (.getfield 24, 3) := by decide +kernel
theorem d_SO_rankAmongShorter_47 : decode b_SO_rankAmongShorter 47 = .ok (.if_icmp .gt 31, 3) := by decide +kernel
theorem d_SO_rankAmongShorter_50 : decode b_SO_rankAmongShorter 50 = .ok (.aload_n 0, 1) := by decide +kernel
theorem d_SO_rankAmongShorter_51 : decode b_SO_rankAmongShorter 51 = .ok (.getfield 15, 3) := by decide +kernel
theorem d_SO_rankAmongShorter_54 : decode b_SO_rankAmongShorter 54 = .ok (.iload 4, 2) := by decide +kernel
theorem d_SO_rankAmongShorter_56 : decode b_SO_rankAmongShorter 56 = .ok (.iaload, 1) := by decide +kernel
theorem d_SO_rankAmongShorter_57 : decode b_SO_rankAmongShorter 57 = .ok (.iload_n 3, 1) := by decide +kernel
theorem d_SO_rankAmongShorter_58 : decode b_SO_rankAmongShorter 58 = .ok (.if_icmp .lt 14, 3) := by decide +kernel
theorem d_SO_rankAmongShorter_61 : decode b_SO_rankAmongShorter 61 = .ok (.aload_n 0, 1) := by decide +kernel
theorem d_SO_rankAmongShorter_62 : decode b_SO_rankAmongShorter 62 = .ok (.getfield 15, 3) := by decide +kernel
theorem d_SO_rankAmongShorter_65 : decode b_SO_rankAmongShorter 65 = .ok (.iload 4, 2) := by decide +kernel
theorem d_SO_rankAmongShorter_67 : decode b_SO_rankAmongShorter 67 = .ok (.dup2, 1) := by decide +kernel
theorem d_SO_rankAmongShorter_68 : decode b_SO_rankAmongShorter 68 = .ok (.iaload, 1) := by decide +kernel
theorem d_SO_rankAmongShorter_69 : decode b_SO_rankAmongShorter 69 = .ok (.iconst 1, 1) := by decide +kernel
theorem d_SO_rankAmongShorter_70 : decode b_SO_rankAmongShorter 70 = .ok (.iadd, 1) := by decide +kernel
theorem d_SO_rankAmongShorter_71 : decode b_SO_rankAmongShorter 71 = .ok (.iastore, 1) := by decide +kernel
theorem d_SO_rankAmongShorter_72 : decode b_SO_rankAmongShorter 72 = .ok (.iinc 4 1, 3) := by decide +kernel
theorem d_SO_rankAmongShorter_75 : decode b_SO_rankAmongShorter 75 = .ok (.goto (-34), 3) := by decide +kernel
theorem d_SO_rankAmongShorter_78 : decode b_SO_rankAmongShorter 78 = .ok (.aload_n 0, 1) := by decide +kernel
theorem d_SO_rankAmongShorter_79 : decode b_SO_rankAmongShorter 79 = .ok (.getfield 15, 3) := by decide +kernel
theorem d_SO_rankAmongShorter_82 : decode b_SO_rankAmongShorter 82 = .ok (.iload_n 2, 1) := by decide +kernel
theorem d_SO_rankAmongShorter_83 : decode b_SO_rankAmongShorter 83 = .ok (.iload_n 3, 1) := by decide +kernel
theorem d_SO_rankAmongShorter_84 : decode b_SO_rankAmongShorter 84 = .ok (.iastore, 1) := by decide +kernel
theorem d_SO_rankAmongShorter_85 : decode b_SO_rankAmongShorter 85 = .ok (.return_, 1) := by decide +kernel
theorem d_SO_shorterIsBefore_0 : decode b_SO_shorterIsBefore 0 = .ok (.iload_n 2, 1) := by decide +kernel
theorem d_SO_shorterIsBefore_1 : decode b_SO_shorterIsBefore 1 = .ok (.aload_n 1, 1) := by decide +kernel
theorem d_SO_shorterIsBefore_2 : decode b_SO_shorterIsBefore 2 = .ok (.getfield 24, 3) := by decide +kernel
theorem d_SO_shorterIsBefore_5 : decode b_SO_shorterIsBefore 5 = .ok (.if_icmp .ne 5, 3) := by decide +kernel
theorem d_SO_shorterIsBefore_8 : decode b_SO_shorterIsBefore 8 = .ok (.iconst 1, 1) := by decide +kernel
theorem d_SO_shorterIsBefore_9 : decode b_SO_shorterIsBefore 9 = .ok (.ireturn, 1) := by decide +kernel
theorem d_SO_shorterIsBefore_10 : decode b_SO_shorterIsBefore 10 = .ok (.aload_n 1, 1) := by decide +kernel
theorem d_SO_shorterIsBefore_11 : decode b_SO_shorterIsBefore 11 = .ok (.getfield 34, 3) := by decide +kernel
theorem d_SO_shorterIsBefore_14 : decode b_SO_shorterIsBefore 14 = .ok (.iload_n 2, 1) := by decide +kernel
theorem d_SO_shorterIsBefore_15 : decode b_SO_shorterIsBefore 15 = .ok (.iaload, 1) := by decide +kernel
theorem d_SO_shorterIsBefore_16 : decode b_SO_shorterIsBefore 16 = .ok (.aload_n 1, 1) := by decide +kernel
theorem d_SO_shorterIsBefore_17 : decode b_SO_shorterIsBefore 17 = .ok (.getfield 34, 3) := by decide +kernel
theorem d_SO_shorterIsBefore_20 : decode b_SO_shorterIsBefore 20 = .ok (.iload_n 3, 1) := by decide +kernel
theorem d_SO_shorterIsBefore_21 : decode b_SO_shorterIsBefore 21 = .ok (.iaload, 1) := by decide +kernel
theorem d_SO_shorterIsBefore_22 : decode b_SO_shorterIsBefore 22 = .ok (.isub, 1) := by decide +kernel
theorem d_SO_shorterIsBefore_23 : decode b_SO_shorterIsBefore 23 = .ok (.istore 4, 2) := by decide +kernel
theorem d_SO_shorterIsBefore_25 : decode b_SO_shorterIsBefore 25 = .ok (.iload 4, 2) := by decide +kernel
theorem d_SO_shorterIsBefore_27 : decode b_SO_shorterIsBefore 27 = .ok (.ifCond .eq 16, 3) := by decide +kernel
theorem d_SO_shorterIsBefore_30 : decode b_SO_shorterIsBefore 30 = .ok (.iload 4, 2) := by decide +kernel
theorem d_SO_shorterIsBefore_32 : decode b_SO_shorterIsBefore 32 = .ok (.ifCond .ge 7, 3) := by decide +kernel
theorem d_SO_shorterIsBefore_35 : decode b_SO_shorterIsBefore 35 = .ok (.iconst 1, 1) := by decide +kernel
theorem d_SO_shorterIsBefore_36 : decode b_SO_shorterIsBefore 36 = .ok (.goto 31, 3) := by decide +kernel
theorem d_SO_shorterIsBefore_39 : decode b_SO_shorterIsBefore 39 = .ok (.iconst 0, 1) := by decide +kernel
theorem d_SO_shorterIsBefore_40 : decode b_SO_shorterIsBefore 40 = .ok (.goto 27, 3) := by decide +kernel
theorem d_SO_shorterIsBefore_43 : decode b_SO_shorterIsBefore 43 = .ok (.aload_n 0, 1) := by decide +kernel
theorem d_SO_shorterIsBefore_44 : decode b_SO_shorterIsBefore 44 = .ok (.getfield 15, 3) := by decide +kernel
theorem d_SO_shorterIsBefore_47 : decode b_SO_shorterIsBefore 47 = .ok (.iload_n 2, 1) := by decide +kernel
theorem d_SO_shorterIsBefore_48 : decode b_SO_shorterIsBefore 48 = .ok (.iconst 1, 1) := by decide +kernel
theorem d_SO_shorterIsBefore_49 : decode b_SO_shorterIsBefore 49 = .ok (.iadd, 1) := by decide +kernel
theorem d_SO_shorterIsBefore_50 : decode b_SO_shorterIsBefore 50 = .ok (.iaload, 1) := by decide +kernel
theorem d_SO_shorterIsBefore_51 : decode b_SO_shorterIsBefore 51 = .ok (.aload_n 0, 1) := by decide +kernel
theorem d_SO_shorterIsBefore_52 : decode b_SO_shorterIsBefore 52 = .ok (.getfield 15, 3) := by decide +kernel
theorem d_SO_shorterIsBefore_55 : decode b_SO_shorterIsBefore 55 = .ok (.iload_n 3, 1) := by decide +kernel
theorem d_SO_shorterIsBefore_56 : decode b_SO_shorterIsBefore 56 = .ok (.iconst 1, 1) := by decide +kernel
theorem d_SO_shorterIsBefore_57 : decode b_SO_shorterIsBefore 57 = .ok (.iadd, 1) := by decide +kernel
theorem d_SO_shorterIsBefore_58 : decode b_SO_shorterIsBefore 58 = .ok (.iaload, 1) := by decide +kernel
theorem d_SO_shorterIsBefore_59 : decode b_SO_shorterIsBefore 59 = .ok (.if_icmp .ge 7, 3) := by decide +kernel
theorem d_SO_shorterIsBefore_62 : decode b_SO_shorterIsBefore 62 = .ok (.iconst 1, 1) := by decide +kernel
theorem d_SO_shorterIsBefore_63 : decode b_SO_shorterIsBefore 63 = .ok (.goto 4, 3) := by decide +kernel
theorem d_SO_shorterIsBefore_66 : decode b_SO_shorterIsBefore 66 = .ok (.iconst 0, 1) := by decide +kernel
theorem d_SO_shorterIsBefore_67 : decode b_SO_shorterIsBefore 67 = .ok (.ireturn, 1) := by decide +kernel
theorem d_LW_0 : decode code 0 = .ok (.new 7, 3) := by decide +kernel
theorem d_LW_3 : decode code 3 = .ok (.dup, 1) := by decide +kernel
theorem d_LW_4 : decode code 4 = .ok (.invokespecial 9, 3) := by decide +kernel
theorem d_LW_7 : decode code 7 = .ok (.astore_n 1, 1) := by decide +kernel
theorem d_LW_8 : decode code 8 = .ok (.new 10, 3) := by decide +kernel
theorem d_LW_11 : decode code 11 = .ok (.dup, 1) := by decide +kernel
theorem d_LW_12 : decode code 12 = .ok (.invokespecial 12, 3) := by decide +kernel
theorem d_LW_15 : decode code 15 = .ok (.astore_n 2, 1) := by decide +kernel
theorem d_LW_16 : decode code 16 = .ok (.iconst 0, 1) := by decide +kernel
theorem d_LW_17 : decode code 17 = .ok (.istore_n 3, 1) := by decide +kernel
theorem d_LW_18 : decode code 18 = .ok (.iload_n 3, 1) := by decide +kernel
theorem d_LW_19 : decode code 19 = .ok (.aload_n 0, 1) := by decide +kernel
theorem d_LW_20 : decode code 20 = .ok (.arraylength, 1) := by decide +kernel
theorem d_LW_21 : decode code 21 = .ok (.iconst 4, 1) := by decide +kernel
theorem d_LW_22 : decode code 22 = .ok (.isub, 1) := by decide +kernel
theorem d_LW_23 : decode code 23 = .ok (.if_icmp .gt 470, 3) := by decide +kernel
theorem d_LW_26 : decode code 26 = .ok (.aload_n 0, 1) := by decide +kernel
theorem d_LW_27 : decode code 27 = .ok (.iload_n 3, 1) := by decide +kernel
theorem d_LW_28 : decode code 28 = .ok (.iaload, 1) := by decide +kernel
theorem d_LW_29 : decode code 29 = .ok (.bipush 31, 2) := by decide +kernel
theorem d_LW_31 : decode code 31 = .ok (.iand, 1) := by decide +kernel
theorem d_LW_32 : decode code 32 = .ok (.tableswitch 455 0 16 #[84, 147, 160, 173, 196, 219, 242, 265, 288, 311, 324, 337, 350, 373, 386, 409, 432], 84) := by decide +kernel
theorem d_LW_116 : decode code 116 = .ok (.aload_n 1, 1) := by decide +kernel
theorem d_LW_117 : decode code 117 = .ok (.aload_n 0, 1) := by decide +kernel
theorem d_LW_118 : decode code 118 = .ok (.iload_n 3, 1) := by decide +kernel
theorem d_LW_119 : decode code 119 = .ok (.iconst 1, 1) := by decide +kernel
theorem d_LW_120 : decode code 120 = .ok (.iadd, 1) := by decide +kernel
theorem d_LW_121 : decode code 121 = .ok (.iaload, 1) := by decide +kernel
theorem d_LW_122 : decode code 122 = .ok (.i2l, 1) := by decide +kernel
theorem d_LW_123 : decode code 123 = .ok (.bipush 32, 2) := by decide +kernel
theorem d_LW_125 : decode code 125 = .ok (.lshl, 1) := by decide +kernel
theorem d_LW_126 : decode code 126 = .ok (.aload_n 0, 1) := by decide +kernel
theorem d_LW_127 : decode code 127 = .ok (.iload_n 3, 1) := by decide +kernel
theorem d_LW_128 : decode code 128 = .ok (.iconst 2, 1) := by decide +kernel
theorem d_LW_129 : decode code 129 = .ok (.iadd, 1) := by decide +kernel
theorem d_LW_130 : decode code 130 = .ok (.iaload, 1) := by decide +kernel
theorem d_LW_131 : decode code 131 = .ok (.i2l, 1) := by decide +kernel
theorem d_LW_132 : decode code 132 = .ok (.ldc2_w 13, 3) := by decide +kernel
theorem d_LW_135 : decode code 135 = .ok (.land, 1) := by decide +kernel
theorem d_LW_136 : decode code 136 = .ok (.lor, 1) := by decide +kernel
theorem d_LW_137 : decode code 137 = .ok (.aload_n 0, 1) := by decide +kernel
theorem d_LW_138 : decode code 138 = .ok (.iload_n 3, 1) := by decide +kernel
theorem d_LW_139 : decode code 139 = .ok (.iconst 3, 1) := by decide +kernel
theorem d_LW_140 : decode code 140 = .ok (.iadd, 1) := by decide +kernel
theorem d_LW_141 : decode code 141 = .ok (.iaload, 1) := by decide +kernel
theorem d_LW_142 : decode code 142 = .ok (.invokevirtual 15, 3) := by decide +kernel
theorem d_LW_145 : decode code 145 = .ok (.aload_n 2, 1) := by decide +kernel
theorem d_LW_146 : decode code 146 = .ok (.aload_n 0, 1) := by decide +kernel
theorem d_LW_147 : decode code 147 = .ok (.iload_n 3, 1) := by decide +kernel
theorem d_LW_148 : decode code 148 = .ok (.iconst 1, 1) := by decide +kernel
theorem d_LW_149 : decode code 149 = .ok (.iadd, 1) := by decide +kernel
theorem d_LW_150 : decode code 150 = .ok (.iaload, 1) := by decide +kernel
theorem d_LW_151 : decode code 151 = .ok (.i2l, 1) := by decide +kernel
theorem d_LW_152 : decode code 152 = .ok (.bipush 32, 2) := by decide +kernel
theorem d_LW_154 : decode code 154 = .ok (.lshl, 1) := by decide +kernel
theorem d_LW_155 : decode code 155 = .ok (.aload_n 0, 1) := by decide +kernel
theorem d_LW_156 : decode code 156 = .ok (.iload_n 3, 1) := by decide +kernel
theorem d_LW_157 : decode code 157 = .ok (.iconst 2, 1) := by decide +kernel
theorem d_LW_158 : decode code 158 = .ok (.iadd, 1) := by decide +kernel
theorem d_LW_159 : decode code 159 = .ok (.iaload, 1) := by decide +kernel
theorem d_LW_160 : decode code 160 = .ok (.i2l, 1) := by decide +kernel
theorem d_LW_161 : decode code 161 = .ok (.ldc2_w 13, 3) := by decide +kernel
theorem d_LW_164 : decode code 164 = .ok (.land, 1) := by decide +kernel
theorem d_LW_165 : decode code 165 = .ok (.lor, 1) := by decide +kernel
theorem d_LW_166 : decode code 166 = .ok (.aload_n 0, 1) := by decide +kernel
theorem d_LW_167 : decode code 167 = .ok (.iload_n 3, 1) := by decide +kernel
theorem d_LW_168 : decode code 168 = .ok (.iconst 3, 1) := by decide +kernel
theorem d_LW_169 : decode code 169 = .ok (.iadd, 1) := by decide +kernel
theorem d_LW_170 : decode code 170 = .ok (.iaload, 1) := by decide +kernel
theorem d_LW_171 : decode code 171 = .ok (.invokevirtual 19, 3) := by decide +kernel
theorem d_LW_174 : decode code 174 = .ok (.if_icmp .eq 313, 3) := by decide +kernel
theorem d_LW_177 : decode code 177 = .ok (.iconst 0, 1) := by decide +kernel
