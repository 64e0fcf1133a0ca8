theorem dX0_init_0 : decode cX0_init 0 = .ok (.aload_n 0, 1) := by decide +kernel
theorem dX0_init_1 : decode cX0_init 1 = .ok (.invokespecial 3, 3) := by decide +kernel
theorem dX0_init_4 : decode cX0_init 4 = .ok (.aload_n 0, 1) := by decide +kernel
theorem dX0_init_5 : decode cX0_init 5 = .ok (.iconst 0, 1) := by decide +kernel
theorem dX0_init_6 : decode cX0_init 6 = .ok (.putfield 9, 3) := by decide +kernel
theorem dX0_init_9 : decode cX0_init 9 = .ok (.aload_n 0, 1) := by decide +kernel
theorem dX0_init_10 : decode cX0_init 10 = .ok (.iconst 0, 1) := by decide +kernel
theorem dX0_init_11 : decode cX0_init 11 = .ok (.putfield 15, 3) := by decide +kernel
theorem dX0_init_14 : decode cX0_init 14 = .ok (.aload_n 0, 1) := by decide +kernel
theorem dX0_init_15 : decode cX0_init 15 = .ok (.iconst 0, 1) := by decide +kernel
theorem dX0_init_16 : decode cX0_init 16 = .ok (.putfield 18, 3) := by decide +kernel
theorem dX0_init_19 : decode cX0_init 19 = .ok (.aload_n 0, 1) := by decide +kernel
theorem dX0_init_20 : decode cX0_init 20 = .ok (.iconst 0, 1) := by decide +kernel
theorem dX0_init_21 : decode cX0_init 21 = .ok (.putfield 21, 3) := by decide +kernel
theorem dX0_init_24 : decode cX0_init 24 = .ok (.aload_n 0, 1) := by decide +kernel
theorem dX0_init_25 : decode cX0_init 25 = .ok (.iconst (-1), 1) := by decide +kernel
theorem dX0_init_26 : decode cX0_init 26 = .ok (.putfield 24, 3) := by decide +kernel
theorem dX0_init_29 : decode cX0_init 29 = .ok (.aload_n 0, 1) := by decide +kernel
theorem dX0_init_30 : decode cX0_init 30 = .ok (.iconst 0, 1) := by decide +kernel
theorem dX0_init_31 : decode cX0_init 31 = .ok (.putfield 27, 3) := by decide +kernel
theorem dX0_init_34 : decode cX0_init 34 = .ok (.return_, 1) := by decide +kernel
set_option maxRecDepth 20000 in
theorem ggX0_grow_X0_avRuns : GoodIn wsX0_grow wsX0_avRuns := goodIn_r _ [14, 9, 15, 16, 17, 18, 19, 20] (by decide +kernel) (by decide +kernel)
set_option maxRecDepth 20000 in
theorem gX0_grow_X0_avRuns : GoodIn wsX0_grow (wsV RX0 37 RX0 yX0_avRuns wsX0_avRuns) := goodIn_app (goodIn_of _ (by decide +kernel)) ggX0_grow_X0_avRuns
theorem dX0_grow_0 : decode cX0_grow 0 = .ok (.aload_n 0, 1) := by decide +kernel
theorem dX0_grow_1 : decode cX0_grow 1 = .ok (.dup, 1) := by decide +kernel
theorem dX0_grow_2 : decode cX0_grow 2 = .ok (.getfield 9, 3) := by decide +kernel
theorem dX0_grow_5 : decode cX0_grow 5 = .ok (.iconst 1, 1) := by decide +kernel
theorem dX0_grow_6 : decode cX0_grow 6 = .ok (.iadd, 1) := by decide +kernel
theorem dX0_grow_7 : decode cX0_grow 7 = .ok (.putfield 9, 3) := by decide +kernel
theorem dX0_grow_10 : decode cX0_grow 10 = .ok (.aload_n 0, 1) := by decide +kernel
theorem dX0_grow_11 : decode cX0_grow 11 = .ok (.aload_n 0, 1) := by decide +kernel
theorem dX0_grow_12 : decode cX0_grow 12 = .ok (.getfield 15, 3) := by decide +kernel
theorem dX0_grow_15 : decode cX0_grow 15 = .ok (.iconst 1, 1) := by decide +kernel
theorem dX0_grow_16 : decode cX0_grow 16 = .ok (.iadd, 1) := by decide +kernel
theorem dX0_grow_17 : decode cX0_grow 17 = .ok (.sipush 1000, 3) := by decide +kernel
theorem dX0_grow_20 : decode cX0_grow 20 = .ok (.invokestatic 31, 3) := by decide +kernel
theorem dX0_grow_23 : decode cX0_grow 23 = .ok (.putfield 15, 3) := by decide +kernel
theorem dX0_grow_26 : decode cX0_grow 26 = .ok (.aload_n 0, 1) := by decide +kernel
theorem dX0_grow_27 : decode cX0_grow 27 = .ok (.aload_n 0, 1) := by decide +kernel
theorem dX0_grow_28 : decode cX0_grow 28 = .ok (.getfield 18, 3) := by decide +kernel
theorem dX0_grow_31 : decode cX0_grow 31 = .ok (.iconst 1, 1) := by decide +kernel
theorem dX0_grow_32 : decode cX0_grow 32 = .ok (.iadd, 1) := by decide +kernel
theorem dX0_grow_33 : decode cX0_grow 33 = .ok (.sipush 1000, 3) := by decide +kernel
theorem dX0_grow_36 : decode cX0_grow 36 = .ok (.invokestatic 31, 3) := by decide +kernel
theorem dX0_grow_39 : decode cX0_grow 39 = .ok (.putfield 18, 3) := by decide +kernel
theorem dX0_grow_42 : decode cX0_grow 42 = .ok (.aload_n 0, 1) := by decide +kernel
theorem dX0_grow_43 : decode cX0_grow 43 = .ok (.aload_n 0, 1) := by decide +kernel
theorem dX0_grow_44 : decode cX0_grow 44 = .ok (.getfield 21, 3) := by decide +kernel
theorem dX0_grow_47 : decode cX0_grow 47 = .ok (.iconst 1, 1) := by decide +kernel
theorem dX0_grow_48 : decode cX0_grow 48 = .ok (.iadd, 1) := by decide +kernel
theorem dX0_grow_49 : decode cX0_grow 49 = .ok (.sipush 1000, 3) := by decide +kernel
theorem dX0_grow_52 : decode cX0_grow 52 = .ok (.invokestatic 31, 3) := by decide +kernel
theorem dX0_grow_55 : decode cX0_grow 55 = .ok (.putfield 21, 3) := by decide +kernel
theorem dX0_grow_58 : decode cX0_grow 58 = .ok (.aload_n 0, 1) := by decide +kernel
theorem dX0_grow_59 : decode cX0_grow 59 = .ok (.invokevirtual 37, 3) := by decide +kernel
theorem dX0_grow_62 : decode cX0_grow 62 = .ok (.ifCond .eq 13, 3) := by decide +kernel
theorem dX0_grow_65 : decode cX0_grow 65 = .ok (.aload_n 0, 1) := by decide +kernel
theorem dX0_grow_66 : decode cX0_grow 66 = .ok (.dup, 1) := by decide +kernel
theorem dX0_grow_67 : decode cX0_grow 67 = .ok (.getfield 24, 3) := by decide +kernel
theorem dX0_grow_70 : decode cX0_grow 70 = .ok (.iconst 1, 1) := by decide +kernel
theorem dX0_grow_71 : decode cX0_grow 71 = .ok (.iadd, 1) := by decide +kernel
theorem dX0_grow_72 : decode cX0_grow 72 = .ok (.putfield 24, 3) := by decide +kernel
theorem dX0_grow_75 : decode cX0_grow 75 = .ok (.return_, 1) := by decide +kernel
theorem dX0_avRuns_0 : decode cX0_avRuns 0 = .ok (.aload_n 0, 1) := by decide +kernel
theorem dX0_avRuns_1 : decode cX0_avRuns 1 = .ok (.getfield 24, 3) := by decide +kernel
theorem dX0_avRuns_4 : decode cX0_avRuns 4 = .ok (.iconst (-1), 1) := by decide +kernel
theorem dX0_avRuns_5 : decode cX0_avRuns 5 = .ok (.if_icmp .eq 7, 3) := by decide +kernel
theorem dX0_avRuns_8 : decode cX0_avRuns 8 = .ok (.iconst 1, 1) := by decide +kernel
theorem dX0_avRuns_9 : decode cX0_avRuns 9 = .ok (.goto 4, 3) := by decide +kernel
theorem dX0_avRuns_12 : decode cX0_avRuns 12 = .ok (.iconst 0, 1) := by decide +kernel
theorem dX0_avRuns_13 : decode cX0_avRuns 13 = .ok (.ireturn, 1) := by decide +kernel
theorem dX0_startAv_0 : decode cX0_startAv 0 = .ok (.aload_n 0, 1) := by decide +kernel
theorem dX0_startAv_1 : decode cX0_startAv 1 = .ok (.iconst 0, 1) := by decide +kernel
theorem dX0_startAv_2 : decode cX0_startAv 2 = .ok (.putfield 24, 3) := by decide +kernel
theorem dX0_startAv_5 : decode cX0_startAv 5 = .ok (.return_, 1) := by decide +kernel
theorem dX0_stopAv_0 : decode cX0_stopAv 0 = .ok (.aload_n 0, 1) := by decide +kernel
theorem dX0_stopAv_1 : decode cX0_stopAv 1 = .ok (.iconst (-1), 1) := by decide +kernel
theorem dX0_stopAv_2 : decode cX0_stopAv 2 = .ok (.putfield 24, 3) := by decide +kernel
theorem dX0_stopAv_5 : decode cX0_stopAv 5 = .ok (.return_, 1) := by decide +kernel
theorem dX0_restartA_0 : decode cX0_restartA 0 = .ok (.aload_n 0, 1) := by decide +kernel
theorem dX0_restartA_1 : decode cX0_restartA 1 = .ok (.iconst 0, 1) := by decide +kernel
theorem dX0_restartA_2 : decode cX0_restartA 2 = .ok (.putfield 15, 3) := by decide +kernel
theorem dX0_restartA_5 : decode cX0_restartA 5 = .ok (.iload_n 1, 1) := by decide +kernel
theorem dX0_restartA_6 : decode cX0_restartA 6 = .ok (.ifCond .eq 8, 3) := by decide +kernel
theorem dX0_restartA_9 : decode cX0_restartA 9 = .ok (.aload_n 0, 1) := by decide +kernel
theorem dX0_restartA_10 : decode cX0_restartA 10 = .ok (.iconst 0, 1) := by decide +kernel
theorem dX0_restartA_11 : decode cX0_restartA 11 = .ok (.putfield 21, 3) := by decide +kernel
theorem dX0_restartA_14 : decode cX0_restartA 14 = .ok (.aload_n 0, 1) := by decide +kernel
theorem dX0_restartA_15 : decode cX0_restartA 15 = .ok (.iconst 1, 1) := by decide +kernel
theorem dX0_restartA_16 : decode cX0_restartA 16 = .ok (.putfield 27, 3) := by decide +kernel
theorem dX0_restartA_19 : decode cX0_restartA 19 = .ok (.return_, 1) := by decide +kernel
set_option maxRecDepth 20000 in
theorem ggX0_restartV_X0_stopAv : GoodIn wsX0_restartV wsX0_stopAv := goodIn_r _ [7, 8, 9, 10, 11, 12, 13, 14] (by decide +kernel) (by decide +kernel)
set_option maxRecDepth 20000 in
theorem gX0_restartV_X0_stopAv : GoodIn wsX0_restartV (wsV RX0 41 RX0 yX0_stopAv wsX0_stopAv) := goodIn_app (goodIn_of _ (by decide +kernel)) ggX0_restartV_X0_stopAv
theorem dX0_restartV_0 : decode cX0_restartV 0 = .ok (.aload_n 0, 1) := by decide +kernel
theorem dX0_restartV_1 : decode cX0_restartV 1 = .ok (.iconst 0, 1) := by decide +kernel
theorem dX0_restartV_2 : decode cX0_restartV 2 = .ok (.putfield 18, 3) := by decide +kernel
theorem dX0_restartV_5 : decode cX0_restartV 5 = .ok (.aload_n 0, 1) := by decide +kernel
theorem dX0_restartV_6 : decode cX0_restartV 6 = .ok (.invokevirtual 41, 3) := by decide +kernel
theorem dX0_restartV_9 : decode cX0_restartV 9 = .ok (.aload_n 0, 1) := by decide +kernel
theorem dX0_restartV_10 : decode cX0_restartV 10 = .ok (.iconst 0, 1) := by decide +kernel
theorem dX0_restartV_11 : decode cX0_restartV 11 = .ok (.putfield 27, 3) := by decide +kernel
theorem dX0_restartV_14 : decode cX0_restartV 14 = .ok (.return_, 1) := by decide +kernel
theorem dX1_init_0 : decode cX1_init 0 = .ok (.aload_n 0, 1) := by decide +kernel
theorem dX1_init_1 : decode cX1_init 1 = .ok (.invokespecial 3, 3) := by decide +kernel
theorem dX1_init_4 : decode cX1_init 4 = .ok (.aload_n 0, 1) := by decide +kernel
theorem dX1_init_5 : decode cX1_init 5 = .ok (.bipush 8, 2) := by decide +kernel
theorem dX1_init_7 : decode cX1_init 7 = .ok (.newarray .int, 2) := by decide +kernel
theorem dX1_init_9 : decode cX1_init 9 = .ok (.putfield 11, 3) := by decide +kernel
theorem dX1_init_12 : decode cX1_init 12 = .ok (.aload_n 0, 1) := by decide +kernel
theorem dX1_init_13 : decode cX1_init 13 = .ok (.iconst 0, 1) := by decide +kernel
theorem dX1_init_14 : decode cX1_init 14 = .ok (.putfield 15, 3) := by decide +kernel
theorem dX1_init_17 : decode cX1_init 17 = .ok (.return_, 1) := by decide +kernel
set_option maxRecDepth 20000 in
theorem ggX1_end_X8_nearest : GoodIn wsX1_end wsX8_nearest := goodIn_r _ [5] (by decide +kernel) (by decide +kernel)
set_option maxRecDepth 20000 in
theorem gX1_end_X8_nearest_n19 : GoodIn wsX1_end (wsX8_nearest) := ggX1_end_X8_nearest
theorem dX1_end_0 : decode cX1_end 0 = .ok (.aload_n 0, 1) := by decide +kernel
theorem dX1_end_1 : decode cX1_end 1 = .ok (.getfield 11, 3) := by decide +kernel
theorem dX1_end_4 : decode cX1_end 4 = .ok (.iload_n 1, 1) := by decide +kernel
theorem dX1_end_5 : decode cX1_end 5 = .ok (.aload_n 0, 1) := by decide +kernel
theorem dX1_end_6 : decode cX1_end 6 = .ok (.getfield 15, 3) := by decide +kernel
theorem dX1_end_9 : decode cX1_end 9 = .ok (.isub, 1) := by decide +kernel
theorem dX1_end_10 : decode cX1_end 10 = .ok (.bipush 25, 2) := by decide +kernel
theorem dX1_end_12 : decode cX1_end 12 = .ok (.idiv, 1) := by decide +kernel
theorem dX1_end_13 : decode cX1_end 13 = .ok (.iconst 0, 1) := by decide +kernel
theorem dX1_end_14 : decode cX1_end 14 = .ok (.bipush 7, 2) := by decide +kernel
theorem dX1_end_16 : decode cX1_end 16 = .ok (.invokestatic 19, 3) := by decide +kernel
theorem dX1_end_19 : decode cX1_end 19 = .ok (.dup2, 1) := by decide +kernel
theorem dX1_end_20 : decode cX1_end 20 = .ok (.iaload, 1) := by decide +kernel
theorem dX1_end_21 : decode cX1_end 21 = .ok (.iconst 1, 1) := by decide +kernel
theorem dX1_end_22 : decode cX1_end 22 = .ok (.iadd, 1) := by decide +kernel
theorem dX1_end_23 : decode cX1_end 23 = .ok (.iastore, 1) := by decide +kernel
theorem dX1_end_24 : decode cX1_end 24 = .ok (.aload_n 0, 1) := by decide +kernel
theorem dX1_end_25 : decode cX1_end 25 = .ok (.iload_n 1, 1) := by decide +kernel
theorem dX1_end_26 : decode cX1_end 26 = .ok (.putfield 15, 3) := by decide +kernel
theorem dX1_end_29 : decode cX1_end 29 = .ok (.return_, 1) := by decide +kernel
theorem dX1_inBin_0 : decode cX1_inBin 0 = .ok (.iload_n 1, 1) := by decide +kernel
theorem dX1_inBin_1 : decode cX1_inBin 1 = .ok (.ifCond .lt 18, 3) := by decide +kernel
theorem dX1_inBin_4 : decode cX1_inBin 4 = .ok (.iload_n 1, 1) := by decide +kernel
theorem dX1_inBin_5 : decode cX1_inBin 5 = .ok (.bipush 8, 2) := by decide +kernel
theorem dX1_inBin_7 : decode cX1_inBin 7 = .ok (.if_icmp .ge 12, 3) := by decide +kernel
theorem dX1_inBin_10 : decode cX1_inBin 10 = .ok (.aload_n 0, 1) := by decide +kernel
theorem dX1_inBin_11 : decode cX1_inBin 11 = .ok (.getfield 11, 3) := by decide +kernel
theorem dX1_inBin_14 : decode cX1_inBin 14 = .ok (.iload_n 1, 1) := by decide +kernel
theorem dX1_inBin_15 : decode cX1_inBin 15 = .ok (.iaload, 1) := by decide +kernel
theorem dX1_inBin_16 : decode cX1_inBin 16 = .ok (.goto 4, 3) := by decide +kernel
theorem dX1_inBin_19 : decode cX1_inBin 19 = .ok (.iconst (-1), 1) := by decide +kernel
theorem dX1_inBin_20 : decode cX1_inBin 20 = .ok (.ireturn, 1) := by decide +kernel
theorem dX2_init_0 : decode cX2_init 0 = .ok (.aload_n 0, 1) := by decide +kernel
theorem dX2_init_1 : decode cX2_init 1 = .ok (.invokespecial 1, 3) := by decide +kernel
theorem dX2_init_4 : decode cX2_init 4 = .ok (.aload_n 0, 1) := by decide +kernel
theorem dX2_init_5 : decode cX2_init 5 = .ok (.iconst 0, 1) := by decide +kernel
theorem dX2_init_6 : decode cX2_init 6 = .ok (.putfield 7, 3) := by decide +kernel
theorem dX2_init_9 : decode cX2_init 9 = .ok (.aload_n 0, 1) := by decide +kernel
theorem dX2_init_10 : decode cX2_init 10 = .ok (.iconst 0, 1) := by decide +kernel
theorem dX2_init_11 : decode cX2_init 11 = .ok (.putfield 13, 3) := by decide +kernel
theorem dX2_init_14 : decode cX2_init 14 = .ok (.aload_n 0, 1) := by decide +kernel
theorem dX2_init_15 : decode cX2_init 15 = .ok (.iconst 0, 1) := by decide +kernel
theorem dX2_init_16 : decode cX2_init 16 = .ok (.putfield 16, 3) := by decide +kernel
theorem dX2_init_19 : decode cX2_init 19 = .ok (.return_, 1) := by decide +kernel
theorem dX2_count_0 : decode cX2_count 0 = .ok (.aload_n 0, 1) := by decide +kernel
theorem dX2_count_1 : decode cX2_count 1 = .ok (.iload_n 1, 1) := by decide +kernel
theorem dX2_count_2 : decode cX2_count 2 = .ok (.ifCond .eq 12, 3) := by decide +kernel
theorem dX2_count_5 : decode cX2_count 5 = .ok (.aload_n 0, 1) := by decide +kernel
theorem dX2_count_6 : decode cX2_count 6 = .ok (.getfield 7, 3) := by decide +kernel
theorem dX2_count_9 : decode cX2_count 9 = .ok (.iconst 1, 1) := by decide +kernel
theorem dX2_count_10 : decode cX2_count 10 = .ok (.iadd, 1) := by decide +kernel
theorem dX2_count_11 : decode cX2_count 11 = .ok (.goto 4, 3) := by decide +kernel
theorem dX2_count_14 : decode cX2_count 14 = .ok (.iconst 0, 1) := by decide +kernel
theorem dX2_count_15 : decode cX2_count 15 = .ok (.putfield 7, 3) := by decide +kernel
theorem dX2_count_18 : decode cX2_count 18 = .ok (.aload_n 0, 1) := by decide +kernel
theorem dX2_count_19 : decode cX2_count 19 = .ok (.iload_n 1, 1) := by decide +kernel
theorem dX2_count_20 : decode cX2_count 20 = .ok (.ifCond .eq 7, 3) := by decide +kernel
theorem dX2_count_23 : decode cX2_count 23 = .ok (.iconst 0, 1) := by decide +kernel
theorem dX2_count_24 : decode cX2_count 24 = .ok (.goto 9, 3) := by decide +kernel
theorem dX2_count_27 : decode cX2_count 27 = .ok (.aload_n 0, 1) := by decide +kernel
theorem dX2_count_28 : decode cX2_count 28 = .ok (.getfield 13, 3) := by decide +kernel
theorem dX2_count_31 : decode cX2_count 31 = .ok (.iconst 1, 1) := by decide +kernel
theorem dX2_count_32 : decode cX2_count 32 = .ok (.iadd, 1) := by decide +kernel
theorem dX2_count_33 : decode cX2_count 33 = .ok (.putfield 13, 3) := by decide +kernel
theorem dX2_count_36 : decode cX2_count 36 = .ok (.aload_n 0, 1) := by decide +kernel
theorem dX2_count_37 : decode cX2_count 37 = .ok (.getfield 7, 3) := by decide +kernel
theorem dX2_count_40 : decode cX2_count 40 = .ok (.iconst 5, 1) := by decide +kernel
theorem dX2_count_41 : decode cX2_count 41 = .ok (.if_icmp .lt 8, 3) := by decide +kernel
theorem dX2_count_44 : decode cX2_count 44 = .ok (.aload_n 0, 1) := by decide +kernel
theorem dX2_count_45 : decode cX2_count 45 = .ok (.iconst 1, 1) := by decide +kernel
theorem dX2_count_46 : decode cX2_count 46 = .ok (.putfield 16, 3) := by decide +kernel
theorem dX2_count_49 : decode cX2_count 49 = .ok (.aload_n 0, 1) := by decide +kernel
theorem dX2_count_50 : decode cX2_count 50 = .ok (.getfield 13, 3) := by decide +kernel
theorem dX2_count_53 : decode cX2_count 53 = .ok (.iconst 3, 1) := by decide +kernel
theorem dX2_count_54 : decode cX2_count 54 = .ok (.if_icmp .lt 8, 3) := by decide +kernel
theorem dX2_count_57 : decode cX2_count 57 = .ok (.aload_n 0, 1) := by decide +kernel
theorem dX2_count_58 : decode cX2_count 58 = .ok (.iconst 0, 1) := by decide +kernel
theorem dX2_count_59 : decode cX2_count 59 = .ok (.putfield 16, 3) := by decide +kernel
theorem dX2_count_62 : decode cX2_count 62 = .ok (.return_, 1) := by decide +kernel
theorem dX2_forget_0 : decode cX2_forget 0 = .ok (.aload_n 0, 1) := by decide +kernel
theorem dX2_forget_1 : decode cX2_forget 1 = .ok (.iconst 0, 1) := by decide +kernel
theorem dX2_forget_2 : decode cX2_forget 2 = .ok (.putfield 7, 3) := by decide +kernel
theorem dX2_forget_5 : decode cX2_forget 5 = .ok (.aload_n 0, 1) := by decide +kernel
theorem dX2_forget_6 : decode cX2_forget 6 = .ok (.iconst 0, 1) := by decide +kernel
theorem dX2_forget_7 : decode cX2_forget 7 = .ok (.putfield 13, 3) := by decide +kernel
theorem dX2_forget_10 : decode cX2_forget 10 = .ok (.aload_n 0, 1) := by decide +kernel
theorem dX2_forget_11 : decode cX2_forget 11 = .ok (.iconst 0, 1) := by decide +kernel
theorem dX2_forget_12 : decode cX2_forget 12 = .ok (.putfield 16, 3) := by decide +kernel
theorem dX2_forget_15 : decode cX2_forget 15 = .ok (.return_, 1) := by decide +kernel
theorem dX3_init_0 : decode cX3_init 0 = .ok (.aload_n 0, 1) := by decide +kernel
theorem dX3_init_1 : decode cX3_init 1 = .ok (.invokespecial 5, 3) := by decide +kernel
theorem dX3_init_4 : decode cX3_init 4 = .ok (.aload_n 0, 1) := by decide +kernel
theorem dX3_init_5 : decode cX3_init 5 = .ok (.iconst 5, 1) := by decide +kernel
theorem dX3_init_6 : decode cX3_init 6 = .ok (.newarray .int, 2) := by decide +kernel
theorem dX3_init_8 : decode cX3_init 8 = .ok (.putfield 11, 3) := by decide +kernel
theorem dX3_init_11 : decode cX3_init 11 = .ok (.aload_n 0, 1) := by decide +kernel
theorem dX3_init_12 : decode cX3_init 12 = .ok (.iconst (-1), 1) := by decide +kernel
theorem dX3_init_13 : decode cX3_init 13 = .ok (.putfield 15, 3) := by decide +kernel
theorem dX3_init_16 : decode cX3_init 16 = .ok (.return_, 1) := by decide +kernel
theorem dX3_endsWith_0 : decode cX3_endsWith 0 = .ok (.aload_n 0, 1) := by decide +kernel
theorem dX3_endsWith_1 : decode cX3_endsWith 1 = .ok (.getfield 15, 3) := by decide +kernel
theorem dX3_endsWith_4 : decode cX3_endsWith 4 = .ok (.ifCond .lt 11, 3) := by decide +kernel
theorem dX3_endsWith_7 : decode cX3_endsWith 7 = .ok (.aload_n 0, 1) := by decide +kernel
theorem dX3_endsWith_8 : decode cX3_endsWith 8 = .ok (.getfield 15, 3) := by decide +kernel
theorem dX3_endsWith_11 : decode cX3_endsWith 11 = .ok (.iconst 5, 1) := by decide +kernel
theorem dX3_endsWith_12 : decode cX3_endsWith 12 = .ok (.if_icmp .lt 20, 3) := by decide +kernel
theorem dX3_endsWith_15 : decode cX3_endsWith 15 = .ok (.aload_n 0, 1) := by decide +kernel
theorem dX3_endsWith_16 : decode cX3_endsWith 16 = .ok (.iload_n 1, 1) := by decide +kernel
theorem dX3_endsWith_17 : decode cX3_endsWith 17 = .ok (.bipush 126, 2) := by decide +kernel
theorem dX3_endsWith_19 : decode cX3_endsWith 19 = .ok (.if_icmp .ne 7, 3) := by decide +kernel
theorem dX3_endsWith_22 : decode cX3_endsWith 22 = .ok (.iconst 0, 1) := by decide +kernel
theorem dX3_endsWith_23 : decode cX3_endsWith 23 = .ok (.goto 4, 3) := by decide +kernel
theorem dX3_endsWith_26 : decode cX3_endsWith 26 = .ok (.iconst (-1), 1) := by decide +kernel
theorem dX3_endsWith_27 : decode cX3_endsWith 27 = .ok (.putfield 15, 3) := by decide +kernel
theorem dX3_endsWith_30 : decode cX3_endsWith 30 = .ok (.iconst 0, 1) := by decide +kernel
theorem dX3_endsWith_31 : decode cX3_endsWith 31 = .ok (.ireturn, 1) := by decide +kernel
theorem dX3_endsWith_32 : decode cX3_endsWith 32 = .ok (.aload_n 0, 1) := by decide +kernel
theorem dX3_endsWith_33 : decode cX3_endsWith 33 = .ok (.getfield 11, 3) := by decide +kernel
theorem dX3_endsWith_36 : decode cX3_endsWith 36 = .ok (.aload_n 0, 1) := by decide +kernel
theorem dX3_endsWith_37 : decode cX3_endsWith 37 = .ok (.getfield 15, 3) := by decide +kernel
theorem dX3_endsWith_40 : decode cX3_endsWith 40 = .ok (.iload_n 1, 1) := by decide +kernel
theorem dX3_endsWith_41 : decode cX3_endsWith 41 = .ok (.iastore, 1) := by decide +kernel
theorem dX3_endsWith_42 : decode cX3_endsWith 42 = .ok (.aload_n 0, 1) := by decide +kernel
theorem dX3_endsWith_43 : decode cX3_endsWith 43 = .ok (.dup, 1) := by decide +kernel
theorem dX3_endsWith_44 : decode cX3_endsWith 44 = .ok (.getfield 15, 3) := by decide +kernel
theorem dX3_endsWith_47 : decode cX3_endsWith 47 = .ok (.iconst 1, 1) := by decide +kernel
theorem dX3_endsWith_48 : decode cX3_endsWith 48 = .ok (.iadd, 1) := by decide +kernel
theorem dX3_endsWith_49 : decode cX3_endsWith 49 = .ok (.putfield 15, 3) := by decide +kernel
theorem dX3_endsWith_52 : decode cX3_endsWith 52 = .ok (.aload_n 0, 1) := by decide +kernel
theorem dX3_endsWith_53 : decode cX3_endsWith 53 = .ok (.getfield 15, 3) := by decide +kernel
theorem dX3_endsWith_56 : decode cX3_endsWith 56 = .ok (.iconst 5, 1) := by decide +kernel
theorem dX3_endsWith_57 : decode cX3_endsWith 57 = .ok (.if_icmp .ne 7, 3) := by decide +kernel
theorem dX3_endsWith_60 : decode cX3_endsWith 60 = .ok (.iconst 1, 1) := by decide +kernel
theorem dX3_endsWith_61 : decode cX3_endsWith 61 = .ok (.goto 4, 3) := by decide +kernel
theorem dX3_endsWith_64 : decode cX3_endsWith 64 = .ok (.iconst 0, 1) := by decide +kernel
theorem dX3_endsWith_65 : decode cX3_endsWith 65 = .ok (.ireturn, 1) := by decide +kernel
set_option maxRecDepth 20000 in
theorem ggX3_sumIsRight_X3_divide : GoodIn wsX3_sumIsRight wsX3_divide := goodIn_r _ [5] (by decide +kernel) (by decide +kernel)
set_option maxRecDepth 20000 in
theorem gX3_sumIsRight_X3_divide : GoodIn wsX3_sumIsRight (va_wsS RX3 19 yX3_divide wsX3_divide) := goodIn_app (goodIn_of _ (by decide +kernel)) ggX3_sumIsRight_X3_divide
theorem dX3_sumIsRight_0 : decode cX3_sumIsRight 0 = .ok (.iconst 0, 1) := by decide +kernel
theorem dX3_sumIsRight_1 : decode cX3_sumIsRight 1 = .ok (.istore_n 1, 1) := by decide +kernel
theorem dX3_sumIsRight_2 : decode cX3_sumIsRight 2 = .ok (.iconst 0, 1) := by decide +kernel
theorem dX3_sumIsRight_3 : decode cX3_sumIsRight 3 = .ok (.istore_n 2, 1) := by decide +kernel
theorem dX3_sumIsRight_4 : decode cX3_sumIsRight 4 = .ok (.iload_n 2, 1) := by decide +kernel
theorem dX3_sumIsRight_5 : decode cX3_sumIsRight 5 = .ok (.iconst 4, 1) := by decide +kernel
theorem dX3_sumIsRight_6 : decode cX3_sumIsRight 6 = .ok (.if_icmp .ge 21, 3) := by decide +kernel
theorem dX3_sumIsRight_9 : decode cX3_sumIsRight 9 = .ok (.iload_n 1, 1) := by decide +kernel
theorem dX3_sumIsRight_10 : decode cX3_sumIsRight 10 = .ok (.aload_n 0, 1) := by decide +kernel
theorem dX3_sumIsRight_11 : decode cX3_sumIsRight 11 = .ok (.getfield 11, 3) := by decide +kernel
theorem dX3_sumIsRight_14 : decode cX3_sumIsRight 14 = .ok (.iload_n 2, 1) := by decide +kernel
theorem dX3_sumIsRight_15 : decode cX3_sumIsRight 15 = .ok (.iaload, 1) := by decide +kernel
theorem dX3_sumIsRight_16 : decode cX3_sumIsRight 16 = .ok (.ixor, 1) := by decide +kernel
theorem dX3_sumIsRight_17 : decode cX3_sumIsRight 17 = .ok (.invokestatic 19, 3) := by decide +kernel
theorem dX3_sumIsRight_20 : decode cX3_sumIsRight 20 = .ok (.istore_n 1, 1) := by decide +kernel
theorem dX3_sumIsRight_21 : decode cX3_sumIsRight 21 = .ok (.iinc 2 1, 3) := by decide +kernel
theorem dX3_sumIsRight_24 : decode cX3_sumIsRight 24 = .ok (.goto (-20), 3) := by decide +kernel
theorem dX3_sumIsRight_27 : decode cX3_sumIsRight 27 = .ok (.iload_n 1, 1) := by decide +kernel
theorem dX3_sumIsRight_28 : decode cX3_sumIsRight 28 = .ok (.aload_n 0, 1) := by decide +kernel
theorem dX3_sumIsRight_29 : decode cX3_sumIsRight 29 = .ok (.getfield 11, 3) := by decide +kernel
theorem dX3_sumIsRight_32 : decode cX3_sumIsRight 32 = .ok (.iconst 4, 1) := by decide +kernel
theorem dX3_sumIsRight_33 : decode cX3_sumIsRight 33 = .ok (.iaload, 1) := by decide +kernel
theorem dX3_sumIsRight_34 : decode cX3_sumIsRight 34 = .ok (.if_icmp .ne 7, 3) := by decide +kernel
theorem dX3_sumIsRight_37 : decode cX3_sumIsRight 37 = .ok (.iconst 1, 1) := by decide +kernel
theorem dX3_sumIsRight_38 : decode cX3_sumIsRight 38 = .ok (.goto 4, 3) := by decide +kernel
theorem dX3_sumIsRight_41 : decode cX3_sumIsRight 41 = .ok (.iconst 0, 1) := by decide +kernel
theorem dX3_sumIsRight_42 : decode cX3_sumIsRight 42 = .ok (.ireturn, 1) := by decide +kernel
theorem dX3_command_0 : decode cX3_command 0 = .ok (.aload_n 0, 1) := by decide +kernel
theorem dX3_command_1 : decode cX3_command 1 = .ok (.getfield 11, 3) := by decide +kernel
theorem dX3_command_4 : decode cX3_command 4 = .ok (.iconst 0, 1) := by decide +kernel
theorem dX3_command_5 : decode cX3_command 5 = .ok (.iaload, 1) := by decide +kernel
theorem dX3_command_6 : decode cX3_command 6 = .ok (.ireturn, 1) := by decide +kernel
theorem dX3_number_0 : decode cX3_number 0 = .ok (.aload_n 0, 1) := by decide +kernel
theorem dX3_number_1 : decode cX3_number 1 = .ok (.getfield 11, 3) := by decide +kernel
theorem dX3_number_4 : decode cX3_number 4 = .ok (.iconst 1, 1) := by decide +kernel
theorem dX3_number_5 : decode cX3_number 5 = .ok (.iaload, 1) := by decide +kernel
theorem dX3_number_6 : decode cX3_number 6 = .ok (.ireturn, 1) := by decide +kernel
theorem dX3_amount_0 : decode cX3_amount 0 = .ok (.aload_n 0, 1) := by decide +kernel
theorem dX3_amount_1 : decode cX3_amount 1 = .ok (.getfield 11, 3) := by decide +kernel
theorem dX3_amount_4 : decode cX3_amount 4 = .ok (.iconst 2, 1) := by decide +kernel
theorem dX3_amount_5 : decode cX3_amount 5 = .ok (.iaload, 1) := by decide +kernel
theorem dX3_amount_6 : decode cX3_amount 6 = .ok (.sipush 256, 3) := by decide +kernel
theorem dX3_amount_9 : decode cX3_amount 9 = .ok (.imul, 1) := by decide +kernel
theorem dX3_amount_10 : decode cX3_amount 10 = .ok (.aload_n 0, 1) := by decide +kernel
theorem dX3_amount_11 : decode cX3_amount 11 = .ok (.getfield 11, 3) := by decide +kernel
theorem dX3_amount_14 : decode cX3_amount 14 = .ok (.iconst 3, 1) := by decide +kernel
theorem dX3_amount_15 : decode cX3_amount 15 = .ok (.iaload, 1) := by decide +kernel
theorem dX3_amount_16 : decode cX3_amount 16 = .ok (.iadd, 1) := by decide +kernel
theorem dX3_amount_17 : decode cX3_amount 17 = .ok (.ireturn, 1) := by decide +kernel
theorem dX3_divide_0 : decode cX3_divide 0 = .ok (.iload_n 0, 1) := by decide +kernel
theorem dX3_divide_1 : decode cX3_divide 1 = .ok (.istore_n 1, 1) := by decide +kernel
theorem dX3_divide_2 : decode cX3_divide 2 = .ok (.iconst 0, 1) := by decide +kernel
theorem dX3_divide_3 : decode cX3_divide 3 = .ok (.istore_n 2, 1) := by decide +kernel
theorem dX3_divide_4 : decode cX3_divide 4 = .ok (.iload_n 2, 1) := by decide +kernel
theorem dX3_divide_5 : decode cX3_divide 5 = .ok (.bipush 8, 2) := by decide +kernel
theorem dX3_divide_7 : decode cX3_divide 7 = .ok (.if_icmp .ge 26, 3) := by decide +kernel
theorem dX3_divide_10 : decode cX3_divide 10 = .ok (.iconst 2, 1) := by decide +kernel
theorem dX3_divide_11 : decode cX3_divide 11 = .ok (.iload_n 1, 1) := by decide +kernel
theorem dX3_divide_12 : decode cX3_divide 12 = .ok (.imul, 1) := by decide +kernel
theorem dX3_divide_13 : decode cX3_divide 13 = .ok (.istore_n 1, 1) := by decide +kernel
theorem dX3_divide_14 : decode cX3_divide 14 = .ok (.iload_n 1, 1) := by decide +kernel
theorem dX3_divide_15 : decode cX3_divide 15 = .ok (.sipush 256, 3) := by decide +kernel
theorem dX3_divide_18 : decode cX3_divide 18 = .ok (.if_icmp .lt 9, 3) := by decide +kernel
theorem dX3_divide_21 : decode cX3_divide 21 = .ok (.iload_n 1, 1) := by decide +kernel
theorem dX3_divide_22 : decode cX3_divide 22 = .ok (.sipush 263, 3) := by decide +kernel
theorem dX3_divide_25 : decode cX3_divide 25 = .ok (.ixor, 1) := by decide +kernel
theorem dX3_divide_26 : decode cX3_divide 26 = .ok (.istore_n 1, 1) := by decide +kernel
theorem dX3_divide_27 : decode cX3_divide 27 = .ok (.iinc 2 1, 3) := by decide +kernel
theorem dX3_divide_30 : decode cX3_divide 30 = .ok (.goto (-26), 3) := by decide +kernel
theorem dX3_divide_33 : decode cX3_divide 33 = .ok (.iload_n 1, 1) := by decide +kernel
theorem dX3_divide_34 : decode cX3_divide 34 = .ok (.ireturn, 1) := by decide +kernel
theorem dX4_init_0 : decode cX4_init 0 = .ok (.aload_n 0, 1) := by decide +kernel
theorem dX4_init_1 : decode cX4_init 1 = .ok (.invokespecial 3, 3) := by decide +kernel
theorem dX4_init_4 : decode cX4_init 4 = .ok (.aload_n 0, 1) := by decide +kernel
theorem dX4_init_5 : decode cX4_init 5 = .ok (.bipush 12, 2) := by decide +kernel
theorem dX4_init_7 : decode cX4_init 7 = .ok (.newarray .int, 2) := by decide +kernel
theorem dX4_init_9 : decode cX4_init 9 = .ok (.putfield 11, 3) := by decide +kernel
theorem dX4_init_12 : decode cX4_init 12 = .ok (.aload_n 0, 1) := by decide +kernel
theorem dX4_init_13 : decode cX4_init 13 = .ok (.bipush 12, 2) := by decide +kernel
theorem dX4_init_15 : decode cX4_init 15 = .ok (.newarray .int, 2) := by decide +kernel
theorem dX4_init_17 : decode cX4_init 17 = .ok (.putfield 15, 3) := by decide +kernel
theorem dX4_init_20 : decode cX4_init 20 = .ok (.aload_n 0, 1) := by decide +kernel
theorem dX4_init_21 : decode cX4_init 21 = .ok (.iconst 0, 1) := by decide +kernel
theorem dX4_init_22 : decode cX4_init 22 = .ok (.putfield 18, 3) := by decide +kernel
theorem dX4_init_25 : decode cX4_init 25 = .ok (.aload_n 0, 1) := by decide +kernel
theorem dX4_init_26 : decode cX4_init 26 = .ok (.iconst 0, 1) := by decide +kernel
theorem dX4_init_27 : decode cX4_init 27 = .ok (.putfield 22, 3) := by decide +kernel
theorem dX4_init_30 : decode cX4_init 30 = .ok (.return_, 1) := by decide +kernel
theorem dX4_keep_0 : decode cX4_keep 0 = .ok (.aload_n 0, 1) := by decide +kernel
theorem dX4_keep_1 : decode cX4_keep 1 = .ok (.getfield 11, 3) := by decide +kernel
theorem dX4_keep_4 : decode cX4_keep 4 = .ok (.aload_n 0, 1) := by decide +kernel
theorem dX4_keep_5 : decode cX4_keep 5 = .ok (.getfield 18, 3) := by decide +kernel
theorem dX4_keep_8 : decode cX4_keep 8 = .ok (.iload_n 1, 1) := by decide +kernel
theorem dX4_keep_9 : decode cX4_keep 9 = .ok (.iastore, 1) := by decide +kernel
theorem dX4_keep_10 : decode cX4_keep 10 = .ok (.aload_n 0, 1) := by decide +kernel
theorem dX4_keep_11 : decode cX4_keep 11 = .ok (.getfield 15, 3) := by decide +kernel
theorem dX4_keep_14 : decode cX4_keep 14 = .ok (.aload_n 0, 1) := by decide +kernel
theorem dX4_keep_15 : decode cX4_keep 15 = .ok (.getfield 18, 3) := by decide +kernel
theorem dX4_keep_18 : decode cX4_keep 18 = .ok (.iload_n 2, 1) := by decide +kernel
theorem dX4_keep_19 : decode cX4_keep 19 = .ok (.iastore, 1) := by decide +kernel
theorem dX4_keep_20 : decode cX4_keep 20 = .ok (.aload_n 0, 1) := by decide +kernel
theorem dX4_keep_21 : decode cX4_keep 21 = .ok (.aload_n 0, 1) := by decide +kernel
theorem dX4_keep_22 : decode cX4_keep 22 = .ok (.getfield 18, 3) := by decide +kernel
theorem dX4_keep_25 : decode cX4_keep 25 = .ok (.iconst 1, 1) := by decide +kernel
theorem dX4_keep_26 : decode cX4_keep 26 = .ok (.iadd, 1) := by decide +kernel
theorem dX4_keep_27 : decode cX4_keep 27 = .ok (.bipush 12, 2) := by decide +kernel
theorem dX4_keep_29 : decode cX4_keep 29 = .ok (.irem, 1) := by decide +kernel
theorem dX4_keep_30 : decode cX4_keep 30 = .ok (.putfield 18, 3) := by decide +kernel
theorem dX4_keep_33 : decode cX4_keep 33 = .ok (.aload_n 0, 1) := by decide +kernel
theorem dX4_keep_34 : decode cX4_keep 34 = .ok (.getfield 22, 3) := by decide +kernel
theorem dX4_keep_37 : decode cX4_keep 37 = .ok (.bipush 12, 2) := by decide +kernel
theorem dX4_keep_39 : decode cX4_keep 39 = .ok (.if_icmp .ge 13, 3) := by decide +kernel
theorem dX4_keep_42 : decode cX4_keep 42 = .ok (.aload_n 0, 1) := by decide +kernel
theorem dX4_keep_43 : decode cX4_keep 43 = .ok (.dup, 1) := by decide +kernel
theorem dX4_keep_44 : decode cX4_keep 44 = .ok (.getfield 22, 3) := by decide +kernel
theorem dX4_keep_47 : decode cX4_keep 47 = .ok (.iconst 1, 1) := by decide +kernel
theorem dX4_keep_48 : decode cX4_keep 48 = .ok (.iadd, 1) := by decide +kernel
theorem dX4_keep_49 : decode cX4_keep 49 = .ok (.putfield 22, 3) := by decide +kernel
theorem dX4_keep_52 : decode cX4_keep 52 = .ok (.return_, 1) := by decide +kernel
set_option maxRecDepth 20000 in
theorem ggX4_kind_X4_has : GoodIn wsX4_kind wsX4_has := goodIn_r _ [6, 7, 13, 14, 15, 16] (by decide +kernel) (by decide +kernel)
set_option maxRecDepth 20000 in
theorem gX4_kind_X4_has : GoodIn wsX4_kind (wsV RX4 25 RX4 yX4_has wsX4_has) := goodIn_app (goodIn_of _ (by decide +kernel)) ggX4_kind_X4_has
set_option maxRecDepth 20000 in
theorem ggX4_kind_X4_place : GoodIn wsX4_kind wsX4_place := goodIn_r _ [11, 12, 13, 14, 15, 16] (by decide +kernel) (by decide +kernel)
set_option maxRecDepth 20000 in
theorem gX4_kind_X4_place : GoodIn wsX4_kind (wsV RX4 29 RX4 yX4_place wsX4_place) := goodIn_app (goodIn_of _ (by decide +kernel)) ggX4_kind_X4_place
theorem dX4_kind_0 : decode cX4_kind 0 = .ok (.aload_n 0, 1) := by decide +kernel
theorem dX4_kind_1 : decode cX4_kind 1 = .ok (.iload_n 1, 1) := by decide +kernel
theorem dX4_kind_2 : decode cX4_kind 2 = .ok (.invokevirtual 25, 3) := by decide +kernel
theorem dX4_kind_5 : decode cX4_kind 5 = .ok (.ifCond .eq 16, 3) := by decide +kernel
theorem dX4_kind_8 : decode cX4_kind 8 = .ok (.aload_n 0, 1) := by decide +kernel
theorem dX4_kind_9 : decode cX4_kind 9 = .ok (.getfield 11, 3) := by decide +kernel
theorem dX4_kind_12 : decode cX4_kind 12 = .ok (.aload_n 0, 1) := by decide +kernel
theorem dX4_kind_13 : decode cX4_kind 13 = .ok (.iload_n 1, 1) := by decide +kernel
theorem dX4_kind_14 : decode cX4_kind 14 = .ok (.invokevirtual 29, 3) := by decide +kernel
theorem dX4_kind_17 : decode cX4_kind 17 = .ok (.iaload, 1) := by decide +kernel
theorem dX4_kind_18 : decode cX4_kind 18 = .ok (.goto 4, 3) := by decide +kernel
theorem dX4_kind_21 : decode cX4_kind 21 = .ok (.iconst (-1), 1) := by decide +kernel
theorem dX4_kind_22 : decode cX4_kind 22 = .ok (.ireturn, 1) := by decide +kernel
set_option maxRecDepth 20000 in
theorem ggX4_time_X4_has : GoodIn wsX4_time wsX4_has := goodIn_r _ [6, 7, 13, 14, 15, 16] (by decide +kernel) (by decide +kernel)
set_option maxRecDepth 20000 in
theorem gX4_time_X4_has : GoodIn wsX4_time (wsV RX4 25 RX4 yX4_has wsX4_has) := goodIn_app (goodIn_of _ (by decide +kernel)) ggX4_time_X4_has
set_option maxRecDepth 20000 in
theorem ggX4_time_X4_place : GoodIn wsX4_time wsX4_place := goodIn_r _ [11, 12, 13, 14, 15, 16] (by decide +kernel) (by decide +kernel)
set_option maxRecDepth 20000 in
theorem gX4_time_X4_place : GoodIn wsX4_time (wsV RX4 29 RX4 yX4_place wsX4_place) := goodIn_app (goodIn_of _ (by decide +kernel)) ggX4_time_X4_place
theorem dX4_time_0 : decode cX4_time 0 = .ok (.aload_n 0, 1) := by decide +kernel
theorem dX4_time_1 : decode cX4_time 1 = .ok (.iload_n 1, 1) := by decide +kernel
theorem dX4_time_2 : decode cX4_time 2 = .ok (.invokevirtual 25, 3) := by decide +kernel
theorem dX4_time_5 : decode cX4_time 5 = .ok (.ifCond .eq 16, 3) := by decide +kernel
theorem dX4_time_8 : decode cX4_time 8 = .ok (.aload_n 0, 1) := by decide +kernel
theorem dX4_time_9 : decode cX4_time 9 = .ok (.getfield 15, 3) := by decide +kernel
theorem dX4_time_12 : decode cX4_time 12 = .ok (.aload_n 0, 1) := by decide +kernel
theorem dX4_time_13 : decode cX4_time 13 = .ok (.iload_n 1, 1) := by decide +kernel
theorem dX4_time_14 : decode cX4_time 14 = .ok (.invokevirtual 29, 3) := by decide +kernel
theorem dX4_time_17 : decode cX4_time 17 = .ok (.iaload, 1) := by decide +kernel
theorem dX4_time_18 : decode cX4_time 18 = .ok (.goto 4, 3) := by decide +kernel
theorem dX4_time_21 : decode cX4_time 21 = .ok (.iconst (-1), 1) := by decide +kernel
theorem dX4_time_22 : decode cX4_time 22 = .ok (.ireturn, 1) := by decide +kernel
theorem dX4_has_0 : decode cX4_has 0 = .ok (.iload_n 1, 1) := by decide +kernel
theorem dX4_has_1 : decode cX4_has 1 = .ok (.ifCond .lt 15, 3) := by decide +kernel
theorem dX4_has_4 : decode cX4_has 4 = .ok (.iload_n 1, 1) := by decide +kernel
theorem dX4_has_5 : decode cX4_has 5 = .ok (.aload_n 0, 1) := by decide +kernel
theorem dX4_has_6 : decode cX4_has 6 = .ok (.getfield 22, 3) := by decide +kernel
theorem dX4_has_9 : decode cX4_has 9 = .ok (.if_icmp .ge 7, 3) := by decide +kernel
theorem dX4_has_12 : decode cX4_has 12 = .ok (.iconst 1, 1) := by decide +kernel
theorem dX4_has_13 : decode cX4_has 13 = .ok (.goto 4, 3) := by decide +kernel
theorem dX4_has_16 : decode cX4_has 16 = .ok (.iconst 0, 1) := by decide +kernel
theorem dX4_has_17 : decode cX4_has 17 = .ok (.ireturn, 1) := by decide +kernel
theorem dX4_place_0 : decode cX4_place 0 = .ok (.aload_n 0, 1) := by decide +kernel
theorem dX4_place_1 : decode cX4_place 1 = .ok (.getfield 18, 3) := by decide +kernel
theorem dX4_place_4 : decode cX4_place 4 = .ok (.bipush 12, 2) := by decide +kernel
theorem dX4_place_6 : decode cX4_place 6 = .ok (.iadd, 1) := by decide +kernel
theorem dX4_place_7 : decode cX4_place 7 = .ok (.iconst 1, 1) := by decide +kernel
theorem dX4_place_8 : decode cX4_place 8 = .ok (.isub, 1) := by decide +kernel
theorem dX4_place_9 : decode cX4_place 9 = .ok (.iload_n 1, 1) := by decide +kernel
theorem dX4_place_10 : decode cX4_place 10 = .ok (.isub, 1) := by decide +kernel
theorem dX4_place_11 : decode cX4_place 11 = .ok (.bipush 12, 2) := by decide +kernel
theorem dX4_place_13 : decode cX4_place 13 = .ok (.irem, 1) := by decide +kernel
theorem dX4_place_14 : decode cX4_place 14 = .ok (.ireturn, 1) := by decide +kernel
theorem dX5_init_0 : decode cX5_init 0 = .ok (.aload_n 0, 1) := by decide +kernel
theorem dX5_init_1 : decode cX5_init 1 = .ok (.invokespecial 5, 3) := by decide +kernel
theorem dX5_init_4 : decode cX5_init 4 = .ok (.aload_n 0, 1) := by decide +kernel
theorem dX5_init_5 : decode cX5_init 5 = .ok (.iconst 0, 1) := by decide +kernel
theorem dX5_init_6 : decode cX5_init 6 = .ok (.putfield 11, 3) := by decide +kernel
theorem dX5_init_9 : decode cX5_init 9 = .ok (.aload_n 0, 1) := by decide +kernel
theorem dX5_init_10 : decode cX5_init 10 = .ok (.bipush 100, 2) := by decide +kernel
theorem dX5_init_12 : decode cX5_init 12 = .ok (.putfield 15, 3) := by decide +kernel
