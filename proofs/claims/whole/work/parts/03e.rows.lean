theorem dX8_obey_37 : decode cX8_obey 37 = .ok (.aload_n 0, 1) := by decide +kernel
theorem dX8_obey_38 : decode cX8_obey 38 = .ok (.getfield 68, 3) := by decide +kernel
theorem dX8_obey_41 : decode cX8_obey 41 = .ok (.iconst 3, 1) := by decide +kernel
theorem dX8_obey_42 : decode cX8_obey 42 = .ok (.if_icmp .ne 6, 3) := by decide +kernel
theorem dX8_obey_45 : decode cX8_obey 45 = .ok (.bipush (-4), 2) := by decide +kernel
theorem dX8_obey_47 : decode cX8_obey 47 = .ok (.ireturn, 1) := by decide +kernel
theorem dX8_obey_48 : decode cX8_obey 48 = .ok (.aload_n 0, 1) := by decide +kernel
theorem dX8_obey_49 : decode cX8_obey 49 = .ok (.getfield 10, 3) := by decide +kernel
theorem dX8_obey_52 : decode cX8_obey 52 = .ok (.iload_n 2, 1) := by decide +kernel
theorem dX8_obey_53 : decode cX8_obey 53 = .ok (.iload_n 3, 1) := by decide +kernel
theorem dX8_obey_54 : decode cX8_obey 54 = .ok (.invokevirtual 119, 3) := by decide +kernel
theorem dX8_obey_57 : decode cX8_obey 57 = .ok (.iconst 0, 1) := by decide +kernel
theorem dX8_obey_58 : decode cX8_obey 58 = .ok (.ireturn, 1) := by decide +kernel
set_option maxRecDepth 20000 in
theorem ggX8_askForSafety_X6_dropPending : GoodIn wsX8_askForSafety wsX6_dropPending := goodIn_r _ [6, 7, 8, 9, 10, 11, 32, 33] (by decide +kernel) (by decide +kernel)
set_option maxRecDepth 20000 in
theorem gX8_askForSafety_X6_dropPending : GoodIn wsX8_askForSafety (wsV RX8 294 RX6 yX6_dropPending wsX6_dropPending) := goodIn_app (goodIn_of _ (by decide +kernel)) ggX8_askForSafety_X6_dropPending
set_option maxRecDepth 20000 in
theorem ggX8_askForSafety_X6_ask : GoodIn wsX8_askForSafety wsX6_ask := goodIn_r _ [15, 7, 16, 17, 5, 18, 19, 20, 21, 32, 33] (by decide +kernel) (by decide +kernel)
set_option maxRecDepth 20000 in
theorem gX8_askForSafety_X6_ask : GoodIn wsX8_askForSafety (wsV RX8 119 RX6 yX6_ask wsX6_ask) := goodIn_app (goodIn_of _ (by decide +kernel)) ggX8_askForSafety_X6_ask
theorem dX8_askForSafety_0 : decode cX8_askForSafety 0 = .ok (.aload_n 0, 1) := by decide +kernel
theorem dX8_askForSafety_1 : decode cX8_askForSafety 1 = .ok (.getfield 10, 3) := by decide +kernel
theorem dX8_askForSafety_4 : decode cX8_askForSafety 4 = .ok (.invokevirtual 294, 3) := by decide +kernel
theorem dX8_askForSafety_7 : decode cX8_askForSafety 7 = .ok (.aload_n 0, 1) := by decide +kernel
theorem dX8_askForSafety_8 : decode cX8_askForSafety 8 = .ok (.getfield 10, 3) := by decide +kernel
theorem dX8_askForSafety_11 : decode cX8_askForSafety 11 = .ok (.iconst 0, 1) := by decide +kernel
theorem dX8_askForSafety_12 : decode cX8_askForSafety 12 = .ok (.iconst 3, 1) := by decide +kernel
theorem dX8_askForSafety_13 : decode cX8_askForSafety 13 = .ok (.invokevirtual 119, 3) := by decide +kernel
theorem dX8_askForSafety_16 : decode cX8_askForSafety 16 = .ok (.aload_n 0, 1) := by decide +kernel
theorem dX8_askForSafety_17 : decode cX8_askForSafety 17 = .ok (.getfield 10, 3) := by decide +kernel
theorem dX8_askForSafety_20 : decode cX8_askForSafety 20 = .ok (.iconst 1, 1) := by decide +kernel
theorem dX8_askForSafety_21 : decode cX8_askForSafety 21 = .ok (.bipush 100, 2) := by decide +kernel
theorem dX8_askForSafety_23 : decode cX8_askForSafety 23 = .ok (.invokevirtual 119, 3) := by decide +kernel
theorem dX8_askForSafety_26 : decode cX8_askForSafety 26 = .ok (.aload_n 0, 1) := by decide +kernel
theorem dX8_askForSafety_27 : decode cX8_askForSafety 27 = .ok (.getfield 10, 3) := by decide +kernel
theorem dX8_askForSafety_30 : decode cX8_askForSafety 30 = .ok (.bipush 8, 2) := by decide +kernel
theorem dX8_askForSafety_32 : decode cX8_askForSafety 32 = .ok (.iconst 0, 1) := by decide +kernel
theorem dX8_askForSafety_33 : decode cX8_askForSafety 33 = .ok (.invokevirtual 119, 3) := by decide +kernel
theorem dX8_askForSafety_36 : decode cX8_askForSafety 36 = .ok (.aload_n 0, 1) := by decide +kernel
theorem dX8_askForSafety_37 : decode cX8_askForSafety 37 = .ok (.getfield 10, 3) := by decide +kernel
theorem dX8_askForSafety_40 : decode cX8_askForSafety 40 = .ok (.bipush 11, 2) := by decide +kernel
theorem dX8_askForSafety_42 : decode cX8_askForSafety 42 = .ok (.iconst 0, 1) := by decide +kernel
theorem dX8_askForSafety_43 : decode cX8_askForSafety 43 = .ok (.invokevirtual 119, 3) := by decide +kernel
theorem dX8_askForSafety_46 : decode cX8_askForSafety 46 = .ok (.return_, 1) := by decide +kernel
theorem dX8_isLedByA_0 : decode cX8_isLedByA 0 = .ok (.iload_n 0, 1) := by decide +kernel
theorem dX8_isLedByA_1 : decode cX8_isLedByA 1 = .ok (.iconst 1, 1) := by decide +kernel
theorem dX8_isLedByA_2 : decode cX8_isLedByA 2 = .ok (.if_icmp .eq 8, 3) := by decide +kernel
theorem dX8_isLedByA_5 : decode cX8_isLedByA 5 = .ok (.iload_n 0, 1) := by decide +kernel
theorem dX8_isLedByA_6 : decode cX8_isLedByA 6 = .ok (.iconst 4, 1) := by decide +kernel
theorem dX8_isLedByA_7 : decode cX8_isLedByA 7 = .ok (.if_icmp .ne 7, 3) := by decide +kernel
theorem dX8_isLedByA_10 : decode cX8_isLedByA 10 = .ok (.iconst 1, 1) := by decide +kernel
theorem dX8_isLedByA_11 : decode cX8_isLedByA 11 = .ok (.goto 4, 3) := by decide +kernel
theorem dX8_isLedByA_14 : decode cX8_isLedByA 14 = .ok (.iconst 0, 1) := by decide +kernel
theorem dX8_isLedByA_15 : decode cX8_isLedByA 15 = .ok (.ireturn, 1) := by decide +kernel
theorem dX8_pacesBoth_0 : decode cX8_pacesBoth 0 = .ok (.iload_n 0, 1) := by decide +kernel
theorem dX8_pacesBoth_1 : decode cX8_pacesBoth 1 = .ok (.iconst 2, 1) := by decide +kernel
theorem dX8_pacesBoth_2 : decode cX8_pacesBoth 2 = .ok (.if_icmp .eq 15, 3) := by decide +kernel
theorem dX8_pacesBoth_5 : decode cX8_pacesBoth 5 = .ok (.iload_n 0, 1) := by decide +kernel
theorem dX8_pacesBoth_6 : decode cX8_pacesBoth 6 = .ok (.bipush 6, 2) := by decide +kernel
theorem dX8_pacesBoth_8 : decode cX8_pacesBoth 8 = .ok (.if_icmp .eq 9, 3) := by decide +kernel
theorem dX8_pacesBoth_11 : decode cX8_pacesBoth 11 = .ok (.iload_n 0, 1) := by decide +kernel
theorem dX8_pacesBoth_12 : decode cX8_pacesBoth 12 = .ok (.bipush 7, 2) := by decide +kernel
theorem dX8_pacesBoth_14 : decode cX8_pacesBoth 14 = .ok (.if_icmp .ne 7, 3) := by decide +kernel
theorem dX8_pacesBoth_17 : decode cX8_pacesBoth 17 = .ok (.iconst 1, 1) := by decide +kernel
theorem dX8_pacesBoth_18 : decode cX8_pacesBoth 18 = .ok (.goto 4, 3) := by decide +kernel
theorem dX8_pacesBoth_21 : decode cX8_pacesBoth 21 = .ok (.iconst 0, 1) := by decide +kernel
theorem dX8_pacesBoth_22 : decode cX8_pacesBoth 22 = .ok (.ireturn, 1) := by decide +kernel
theorem dX8_sensesA_0 : decode cX8_sensesA 0 = .ok (.iload_n 0, 1) := by decide +kernel
theorem dX8_sensesA_1 : decode cX8_sensesA 1 = .ok (.iconst 4, 1) := by decide +kernel
theorem dX8_sensesA_2 : decode cX8_sensesA 2 = .ok (.if_icmp .lt 7, 3) := by decide +kernel
theorem dX8_sensesA_5 : decode cX8_sensesA 5 = .ok (.iconst 1, 1) := by decide +kernel
theorem dX8_sensesA_6 : decode cX8_sensesA 6 = .ok (.goto 4, 3) := by decide +kernel
theorem dX8_sensesA_9 : decode cX8_sensesA 9 = .ok (.iconst 0, 1) := by decide +kernel
theorem dX8_sensesA_10 : decode cX8_sensesA 10 = .ok (.ireturn, 1) := by decide +kernel
theorem dX8_sensesV_0 : decode cX8_sensesV 0 = .ok (.iload_n 0, 1) := by decide +kernel
theorem dX8_sensesV_1 : decode cX8_sensesV 1 = .ok (.iconst 3, 1) := by decide +kernel
theorem dX8_sensesV_2 : decode cX8_sensesV 2 = .ok (.if_icmp .eq 8, 3) := by decide +kernel
theorem dX8_sensesV_5 : decode cX8_sensesV 5 = .ok (.iload_n 0, 1) := by decide +kernel
theorem dX8_sensesV_6 : decode cX8_sensesV 6 = .ok (.iconst 5, 1) := by decide +kernel
theorem dX8_sensesV_7 : decode cX8_sensesV 7 = .ok (.if_icmp .lt 7, 3) := by decide +kernel
theorem dX8_sensesV_10 : decode cX8_sensesV 10 = .ok (.iconst 1, 1) := by decide +kernel
theorem dX8_sensesV_11 : decode cX8_sensesV 11 = .ok (.goto 4, 3) := by decide +kernel
theorem dX8_sensesV_14 : decode cX8_sensesV 14 = .ok (.iconst 0, 1) := by decide +kernel
theorem dX8_sensesV_15 : decode cX8_sensesV 15 = .ok (.ireturn, 1) := by decide +kernel
theorem dX8_follows_0 : decode cX8_follows 0 = .ok (.iload_n 0, 1) := by decide +kernel
theorem dX8_follows_1 : decode cX8_follows 1 = .ok (.iconst 5, 1) := by decide +kernel
theorem dX8_follows_2 : decode cX8_follows 2 = .ok (.if_icmp .eq 9, 3) := by decide +kernel
theorem dX8_follows_5 : decode cX8_follows 5 = .ok (.iload_n 0, 1) := by decide +kernel
theorem dX8_follows_6 : decode cX8_follows 6 = .ok (.bipush 7, 2) := by decide +kernel
theorem dX8_follows_8 : decode cX8_follows 8 = .ok (.if_icmp .ne 7, 3) := by decide +kernel
theorem dX8_follows_11 : decode cX8_follows 11 = .ok (.iconst 1, 1) := by decide +kernel
theorem dX8_follows_12 : decode cX8_follows 12 = .ok (.goto 4, 3) := by decide +kernel
theorem dX8_follows_15 : decode cX8_follows 15 = .ok (.iconst 0, 1) := by decide +kernel
theorem dX8_follows_16 : decode cX8_follows 16 = .ok (.ireturn, 1) := by decide +kernel
theorem dX8_statusOf_0 : decode cX8_statusOf 0 = .ok (.iload_n 0, 1) := by decide +kernel
theorem dX8_statusOf_1 : decode cX8_statusOf 1 = .ok (.sipush 280, 3) := by decide +kernel
theorem dX8_statusOf_4 : decode cX8_statusOf 4 = .ok (.if_icmp .lt 5, 3) := by decide +kernel
theorem dX8_statusOf_7 : decode cX8_statusOf 7 = .ok (.iconst 0, 1) := by decide +kernel
theorem dX8_statusOf_8 : decode cX8_statusOf 8 = .ok (.ireturn, 1) := by decide +kernel
theorem dX8_statusOf_9 : decode cX8_statusOf 9 = .ok (.iload_n 0, 1) := by decide +kernel
theorem dX8_statusOf_10 : decode cX8_statusOf 10 = .ok (.sipush 250, 3) := by decide +kernel
theorem dX8_statusOf_13 : decode cX8_statusOf 13 = .ok (.if_icmp .lt 5, 3) := by decide +kernel
theorem dX8_statusOf_16 : decode cX8_statusOf 16 = .ok (.iconst 1, 1) := by decide +kernel
theorem dX8_statusOf_17 : decode cX8_statusOf 17 = .ok (.ireturn, 1) := by decide +kernel
theorem dX8_statusOf_18 : decode cX8_statusOf 18 = .ok (.iload_n 0, 1) := by decide +kernel
theorem dX8_statusOf_19 : decode cX8_statusOf 19 = .ok (.sipush 220, 3) := by decide +kernel
theorem dX8_statusOf_22 : decode cX8_statusOf 22 = .ok (.if_icmp .lt 7, 3) := by decide +kernel
theorem dX8_statusOf_25 : decode cX8_statusOf 25 = .ok (.iconst 2, 1) := by decide +kernel
theorem dX8_statusOf_26 : decode cX8_statusOf 26 = .ok (.goto 4, 3) := by decide +kernel
theorem dX8_statusOf_29 : decode cX8_statusOf 29 = .ok (.iconst 3, 1) := by decide +kernel
theorem dX8_statusOf_30 : decode cX8_statusOf 30 = .ok (.ireturn, 1) := by decide +kernel
theorem dX8_nearest_0 : decode cX8_nearest 0 = .ok (.iload_n 0, 1) := by decide +kernel
theorem dX8_nearest_1 : decode cX8_nearest 1 = .ok (.iload_n 1, 1) := by decide +kernel
theorem dX8_nearest_2 : decode cX8_nearest 2 = .ok (.if_icmp .ge 5, 3) := by decide +kernel
theorem dX8_nearest_5 : decode cX8_nearest 5 = .ok (.iload_n 1, 1) := by decide +kernel
theorem dX8_nearest_6 : decode cX8_nearest 6 = .ok (.ireturn, 1) := by decide +kernel
theorem dX8_nearest_7 : decode cX8_nearest 7 = .ok (.iload_n 0, 1) := by decide +kernel
theorem dX8_nearest_8 : decode cX8_nearest 8 = .ok (.iload_n 2, 1) := by decide +kernel
theorem dX8_nearest_9 : decode cX8_nearest 9 = .ok (.if_icmp .le 7, 3) := by decide +kernel
theorem dX8_nearest_12 : decode cX8_nearest 12 = .ok (.iload_n 2, 1) := by decide +kernel
theorem dX8_nearest_13 : decode cX8_nearest 13 = .ok (.goto 4, 3) := by decide +kernel
theorem dX8_nearest_16 : decode cX8_nearest 16 = .ok (.iload_n 0, 1) := by decide +kernel
theorem dX8_nearest_17 : decode cX8_nearest 17 = .ok (.ireturn, 1) := by decide +kernel
set_option maxRecDepth 20000 in
theorem ggX9_init_X9_range : GoodIn wsX9_init wsX9_range := goodIn_r _ [21, 5, 6, 7, 22, 23, 24, 25, 26, 27, 28, 29, 30, 31, 32, 33, 34, 35, 36, 37, 38, 39, 40, 41, 42, 43, 44, 45, 46, 47, 48, 49, 50, 51, 52] (by decide +kernel) (by decide +kernel)
set_option maxRecDepth 20000 in
theorem gX9_init_X9_range : GoodIn wsX9_init (wsV RX9 45 RX9 yX9_range wsX9_range) := goodIn_app (goodIn_of _ (by decide +kernel)) ggX9_init_X9_range
theorem dX9_init_0 : decode cX9_init 0 = .ok (.aload_n 0, 1) := by decide +kernel
theorem dX9_init_1 : decode cX9_init 1 = .ok (.invokespecial 1, 3) := by decide +kernel
theorem dX9_init_4 : decode cX9_init 4 = .ok (.aload_n 0, 1) := by decide +kernel
theorem dX9_init_5 : decode cX9_init 5 = .ok (.bipush 14, 2) := by decide +kernel
theorem dX9_init_7 : decode cX9_init 7 = .ok (.newarray .int, 2) := by decide +kernel
theorem dX9_init_9 : decode cX9_init 9 = .ok (.putfield 7, 3) := by decide +kernel
theorem dX9_init_12 : decode cX9_init 12 = .ok (.aload_n 0, 1) := by decide +kernel
theorem dX9_init_13 : decode cX9_init 13 = .ok (.bipush 14, 2) := by decide +kernel
theorem dX9_init_15 : decode cX9_init 15 = .ok (.newarray .int, 2) := by decide +kernel
theorem dX9_init_17 : decode cX9_init 17 = .ok (.putfield 13, 3) := by decide +kernel
theorem dX9_init_20 : decode cX9_init 20 = .ok (.aload_n 0, 1) := by decide +kernel
theorem dX9_init_21 : decode cX9_init 21 = .ok (.bipush 14, 2) := by decide +kernel
theorem dX9_init_23 : decode cX9_init 23 = .ok (.newarray .int, 2) := by decide +kernel
theorem dX9_init_25 : decode cX9_init 25 = .ok (.putfield 16, 3) := by decide +kernel
theorem dX9_init_28 : decode cX9_init 28 = .ok (.aload_n 0, 1) := by decide +kernel
theorem dX9_init_29 : decode cX9_init 29 = .ok (.bipush 14, 2) := by decide +kernel
theorem dX9_init_31 : decode cX9_init 31 = .ok (.newarray .int, 2) := by decide +kernel
theorem dX9_init_33 : decode cX9_init 33 = .ok (.putfield 19, 3) := by decide +kernel
theorem dX9_init_36 : decode cX9_init 36 = .ok (.aload_n 0, 1) := by decide +kernel
theorem dX9_init_37 : decode cX9_init 37 = .ok (.bipush 14, 2) := by decide +kernel
theorem dX9_init_39 : decode cX9_init 39 = .ok (.newarray .boolean, 2) := by decide +kernel
theorem dX9_init_41 : decode cX9_init 41 = .ok (.putfield 22, 3) := by decide +kernel
theorem dX9_init_44 : decode cX9_init 44 = .ok (.aload_n 0, 1) := by decide +kernel
theorem dX9_init_45 : decode cX9_init 45 = .ok (.bipush 100, 2) := by decide +kernel
theorem dX9_init_47 : decode cX9_init 47 = .ok (.putfield 26, 3) := by decide +kernel
theorem dX9_init_50 : decode cX9_init 50 = .ok (.aload_n 0, 1) := by decide +kernel
theorem dX9_init_51 : decode cX9_init 51 = .ok (.bipush 100, 2) := by decide +kernel
theorem dX9_init_53 : decode cX9_init 53 = .ok (.putfield 30, 3) := by decide +kernel
theorem dX9_init_56 : decode cX9_init 56 = .ok (.aload_n 0, 1) := by decide +kernel
theorem dX9_init_57 : decode cX9_init 57 = .ok (.bipush 8, 2) := by decide +kernel
theorem dX9_init_59 : decode cX9_init 59 = .ok (.newarray .int, 2) := by decide +kernel
theorem dX9_init_61 : decode cX9_init 61 = .ok (.putfield 33, 3) := by decide +kernel
theorem dX9_init_64 : decode cX9_init 64 = .ok (.aload_n 0, 1) := by decide +kernel
theorem dX9_init_65 : decode cX9_init 65 = .ok (.bipush 6, 2) := by decide +kernel
theorem dX9_init_67 : decode cX9_init 67 = .ok (.newarray .int, 2) := by decide +kernel
theorem dX9_init_69 : decode cX9_init 69 = .ok (.putfield 36, 3) := by decide +kernel
theorem dX9_init_72 : decode cX9_init 72 = .ok (.aload_n 0, 1) := by decide +kernel
theorem dX9_init_73 : decode cX9_init 73 = .ok (.bipush 12, 2) := by decide +kernel
theorem dX9_init_75 : decode cX9_init 75 = .ok (.newarray .int, 2) := by decide +kernel
theorem dX9_init_77 : decode cX9_init 77 = .ok (.putfield 39, 3) := by decide +kernel
theorem dX9_init_80 : decode cX9_init 80 = .ok (.aload_n 0, 1) := by decide +kernel
theorem dX9_init_81 : decode cX9_init 81 = .ok (.bipush 12, 2) := by decide +kernel
theorem dX9_init_83 : decode cX9_init 83 = .ok (.newarray .int, 2) := by decide +kernel
theorem dX9_init_85 : decode cX9_init 85 = .ok (.putfield 42, 3) := by decide +kernel
theorem dX9_init_88 : decode cX9_init 88 = .ok (.aload_n 0, 1) := by decide +kernel
theorem dX9_init_89 : decode cX9_init 89 = .ok (.iconst 0, 1) := by decide +kernel
theorem dX9_init_90 : decode cX9_init 90 = .ok (.iconst 0, 1) := by decide +kernel
theorem dX9_init_91 : decode cX9_init 91 = .ok (.bipush 7, 2) := by decide +kernel
theorem dX9_init_93 : decode cX9_init 93 = .ok (.bipush 7, 2) := by decide +kernel
theorem dX9_init_95 : decode cX9_init 95 = .ok (.invokevirtual 45, 3) := by decide +kernel
theorem dX9_init_98 : decode cX9_init 98 = .ok (.aload_n 0, 1) := by decide +kernel
theorem dX9_init_99 : decode cX9_init 99 = .ok (.iconst 1, 1) := by decide +kernel
theorem dX9_init_100 : decode cX9_init 100 = .ok (.bipush 30, 2) := by decide +kernel
theorem dX9_init_102 : decode cX9_init 102 = .ok (.sipush 200, 3) := by decide +kernel
theorem dX9_init_105 : decode cX9_init 105 = .ok (.bipush 100, 2) := by decide +kernel
theorem dX9_init_107 : decode cX9_init 107 = .ok (.invokevirtual 45, 3) := by decide +kernel
theorem dX9_init_110 : decode cX9_init 110 = .ok (.aload_n 0, 1) := by decide +kernel
theorem dX9_init_111 : decode cX9_init 111 = .ok (.iconst 2, 1) := by decide +kernel
theorem dX9_init_112 : decode cX9_init 112 = .ok (.bipush 20, 2) := by decide +kernel
theorem dX9_init_114 : decode cX9_init 114 = .ok (.bipush 120, 2) := by decide +kernel
theorem dX9_init_116 : decode cX9_init 116 = .ok (.bipush 50, 2) := by decide +kernel
theorem dX9_init_118 : decode cX9_init 118 = .ok (.invokevirtual 45, 3) := by decide +kernel
theorem dX9_init_121 : decode cX9_init 121 = .ok (.aload_n 0, 1) := by decide +kernel
theorem dX9_init_122 : decode cX9_init 122 = .ok (.iconst 3, 1) := by decide +kernel
theorem dX9_init_123 : decode cX9_init 123 = .ok (.iconst 5, 1) := by decide +kernel
theorem dX9_init_124 : decode cX9_init 124 = .ok (.bipush 30, 2) := by decide +kernel
theorem dX9_init_126 : decode cX9_init 126 = .ok (.bipush 15, 2) := by decide +kernel
theorem dX9_init_128 : decode cX9_init 128 = .ok (.invokevirtual 45, 3) := by decide +kernel
theorem dX9_init_131 : decode cX9_init 131 = .ok (.aload_n 0, 1) := by decide +kernel
theorem dX9_init_132 : decode cX9_init 132 = .ok (.iconst 4, 1) := by decide +kernel
theorem dX9_init_133 : decode cX9_init 133 = .ok (.bipush 10, 2) := by decide +kernel
theorem dX9_init_135 : decode cX9_init 135 = .ok (.bipush 60, 2) := by decide +kernel
theorem dX9_init_137 : decode cX9_init 137 = .ok (.bipush 25, 2) := by decide +kernel
theorem dX9_init_139 : decode cX9_init 139 = .ok (.invokevirtual 45, 3) := by decide +kernel
theorem dX9_init_142 : decode cX9_init 142 = .ok (.aload_n 0, 1) := by decide +kernel
theorem dX9_init_143 : decode cX9_init 143 = .ok (.iconst 5, 1) := by decide +kernel
theorem dX9_init_144 : decode cX9_init 144 = .ok (.bipush 10, 2) := by decide +kernel
theorem dX9_init_146 : decode cX9_init 146 = .ok (.bipush 60, 2) := by decide +kernel
theorem dX9_init_148 : decode cX9_init 148 = .ok (.bipush 30, 2) := by decide +kernel
theorem dX9_init_150 : decode cX9_init 150 = .ok (.invokevirtual 45, 3) := by decide +kernel
theorem dX9_init_153 : decode cX9_init 153 = .ok (.aload_n 0, 1) := by decide +kernel
theorem dX9_init_154 : decode cX9_init 154 = .ok (.bipush 6, 2) := by decide +kernel
theorem dX9_init_156 : decode cX9_init 156 = .ok (.iconst 5, 1) := by decide +kernel
theorem dX9_init_157 : decode cX9_init 157 = .ok (.bipush 60, 2) := by decide +kernel
theorem dX9_init_159 : decode cX9_init 159 = .ok (.bipush 20, 2) := by decide +kernel
theorem dX9_init_161 : decode cX9_init 161 = .ok (.invokevirtual 45, 3) := by decide +kernel
theorem dX9_init_164 : decode cX9_init 164 = .ok (.aload_n 0, 1) := by decide +kernel
theorem dX9_init_165 : decode cX9_init 165 = .ok (.bipush 7, 2) := by decide +kernel
theorem dX9_init_167 : decode cX9_init 167 = .ok (.iconst 0, 1) := by decide +kernel
theorem dX9_init_168 : decode cX9_init 168 = .ok (.bipush 10, 2) := by decide +kernel
theorem dX9_init_170 : decode cX9_init 170 = .ok (.iconst 4, 1) := by decide +kernel
theorem dX9_init_171 : decode cX9_init 171 = .ok (.invokevirtual 45, 3) := by decide +kernel
theorem dX9_init_174 : decode cX9_init 174 = .ok (.aload_n 0, 1) := by decide +kernel
theorem dX9_init_175 : decode cX9_init 175 = .ok (.bipush 8, 2) := by decide +kernel
theorem dX9_init_177 : decode cX9_init 177 = .ok (.iconst 0, 1) := by decide +kernel
theorem dX9_init_178 : decode cX9_init 178 = .ok (.bipush 60, 2) := by decide +kernel
theorem dX9_init_180 : decode cX9_init 180 = .ok (.iconst 0, 1) := by decide +kernel
theorem dX9_init_181 : decode cX9_init 181 = .ok (.invokevirtual 45, 3) := by decide +kernel
theorem dX9_init_184 : decode cX9_init 184 = .ok (.aload_n 0, 1) := by decide +kernel
theorem dX9_init_185 : decode cX9_init 185 = .ok (.bipush 9, 2) := by decide +kernel
theorem dX9_init_187 : decode cX9_init 187 = .ok (.iconst 1, 1) := by decide +kernel
theorem dX9_init_188 : decode cX9_init 188 = .ok (.sipush 500, 3) := by decide +kernel
theorem dX9_init_191 : decode cX9_init 191 = .ok (.bipush 10, 2) := by decide +kernel
theorem dX9_init_193 : decode cX9_init 193 = .ok (.invokevirtual 45, 3) := by decide +kernel
theorem dX9_init_196 : decode cX9_init 196 = .ok (.aload_n 0, 1) := by decide +kernel
theorem dX9_init_197 : decode cX9_init 197 = .ok (.bipush 10, 2) := by decide +kernel
theorem dX9_init_199 : decode cX9_init 199 = .ok (.iconst 1, 1) := by decide +kernel
theorem dX9_init_200 : decode cX9_init 200 = .ok (.sipush 500, 3) := by decide +kernel
theorem dX9_init_203 : decode cX9_init 203 = .ok (.bipush 20, 2) := by decide +kernel
theorem dX9_init_205 : decode cX9_init 205 = .ok (.invokevirtual 45, 3) := by decide +kernel
theorem dX9_init_208 : decode cX9_init 208 = .ok (.aload_n 0, 1) := by decide +kernel
theorem dX9_init_209 : decode cX9_init 209 = .ok (.bipush 11, 2) := by decide +kernel
theorem dX9_init_211 : decode cX9_init 211 = .ok (.iconst 0, 1) := by decide +kernel
theorem dX9_init_212 : decode cX9_init 212 = .ok (.iconst 1, 1) := by decide +kernel
theorem dX9_init_213 : decode cX9_init 213 = .ok (.iconst 0, 1) := by decide +kernel
theorem dX9_init_214 : decode cX9_init 214 = .ok (.invokevirtual 45, 3) := by decide +kernel
theorem dX9_init_217 : decode cX9_init 217 = .ok (.aload_n 0, 1) := by decide +kernel
theorem dX9_init_218 : decode cX9_init 218 = .ok (.bipush 12, 2) := by decide +kernel
theorem dX9_init_220 : decode cX9_init 220 = .ok (.bipush 25, 2) := by decide +kernel
theorem dX9_init_222 : decode cX9_init 222 = .ok (.sipush 150, 3) := by decide +kernel
theorem dX9_init_225 : decode cX9_init 225 = .ok (.bipush 50, 2) := by decide +kernel
theorem dX9_init_227 : decode cX9_init 227 = .ok (.invokevirtual 45, 3) := by decide +kernel
theorem dX9_init_230 : decode cX9_init 230 = .ok (.aload_n 0, 1) := by decide +kernel
theorem dX9_init_231 : decode cX9_init 231 = .ok (.bipush 13, 2) := by decide +kernel
theorem dX9_init_233 : decode cX9_init 233 = .ok (.bipush 10, 2) := by decide +kernel
theorem dX9_init_235 : decode cX9_init 235 = .ok (.bipush 60, 2) := by decide +kernel
theorem dX9_init_237 : decode cX9_init 237 = .ok (.bipush 25, 2) := by decide +kernel
theorem dX9_init_239 : decode cX9_init 239 = .ok (.invokevirtual 45, 3) := by decide +kernel
theorem dX9_init_242 : decode cX9_init 242 = .ok (.return_, 1) := by decide +kernel
theorem dX9_range_0 : decode cX9_range 0 = .ok (.aload_n 0, 1) := by decide +kernel
theorem dX9_range_1 : decode cX9_range 1 = .ok (.getfield 7, 3) := by decide +kernel
theorem dX9_range_4 : decode cX9_range 4 = .ok (.iload_n 1, 1) := by decide +kernel
theorem dX9_range_5 : decode cX9_range 5 = .ok (.iload_n 2, 1) := by decide +kernel
theorem dX9_range_6 : decode cX9_range 6 = .ok (.iastore, 1) := by decide +kernel
theorem dX9_range_7 : decode cX9_range 7 = .ok (.aload_n 0, 1) := by decide +kernel
theorem dX9_range_8 : decode cX9_range 8 = .ok (.getfield 13, 3) := by decide +kernel
theorem dX9_range_11 : decode cX9_range 11 = .ok (.iload_n 1, 1) := by decide +kernel
theorem dX9_range_12 : decode cX9_range 12 = .ok (.iload_n 3, 1) := by decide +kernel
theorem dX9_range_13 : decode cX9_range 13 = .ok (.iastore, 1) := by decide +kernel
theorem dX9_range_14 : decode cX9_range 14 = .ok (.aload_n 0, 1) := by decide +kernel
theorem dX9_range_15 : decode cX9_range 15 = .ok (.getfield 16, 3) := by decide +kernel
theorem dX9_range_18 : decode cX9_range 18 = .ok (.iload_n 1, 1) := by decide +kernel
theorem dX9_range_19 : decode cX9_range 19 = .ok (.iload 4, 2) := by decide +kernel
theorem dX9_range_21 : decode cX9_range 21 = .ok (.iastore, 1) := by decide +kernel
theorem dX9_range_22 : decode cX9_range 22 = .ok (.return_, 1) := by decide +kernel
theorem dX9_thrown_0 : decode cX9_thrown 0 = .ok (.aload_n 0, 1) := by decide +kernel
theorem dX9_thrown_1 : decode cX9_thrown 1 = .ok (.getfield 49, 3) := by decide +kernel
theorem dX9_thrown_4 : decode cX9_thrown 4 = .ok (.ireturn, 1) := by decide +kernel
theorem dX9_mode_0 : decode cX9_mode 0 = .ok (.iload_n 1, 1) := by decide +kernel
theorem dX9_mode_1 : decode cX9_mode 1 = .ok (.aload_n 0, 1) := by decide +kernel
theorem dX9_mode_2 : decode cX9_mode 2 = .ok (.getfield 16, 3) := by decide +kernel
theorem dX9_mode_5 : decode cX9_mode 5 = .ok (.iconst 0, 1) := by decide +kernel
theorem dX9_mode_6 : decode cX9_mode 6 = .ok (.iaload, 1) := by decide +kernel
theorem dX9_mode_7 : decode cX9_mode 7 = .ok (.ishr, 1) := by decide +kernel
theorem dX9_mode_8 : decode cX9_mode 8 = .ok (.iconst 1, 1) := by decide +kernel
theorem dX9_mode_9 : decode cX9_mode 9 = .ok (.iand, 1) := by decide +kernel
theorem dX9_mode_10 : decode cX9_mode 10 = .ok (.iconst 1, 1) := by decide +kernel
theorem dX9_mode_11 : decode cX9_mode 11 = .ok (.if_icmp .ne 7, 3) := by decide +kernel
theorem dX9_mode_14 : decode cX9_mode 14 = .ok (.iconst 1, 1) := by decide +kernel
theorem dX9_mode_15 : decode cX9_mode 15 = .ok (.goto 4, 3) := by decide +kernel
theorem dX9_mode_18 : decode cX9_mode 18 = .ok (.iconst 0, 1) := by decide +kernel
theorem dX9_mode_19 : decode cX9_mode 19 = .ok (.ireturn, 1) := by decide +kernel
theorem dX9_mark_0 : decode cX9_mark 0 = .ok (.aload_n 0, 1) := by decide +kernel
theorem dX9_mark_1 : decode cX9_mark 1 = .ok (.getfield 39, 3) := by decide +kernel
theorem dX9_mark_4 : decode cX9_mark 4 = .ok (.aload_n 0, 1) := by decide +kernel
theorem dX9_mark_5 : decode cX9_mark 5 = .ok (.getfield 52, 3) := by decide +kernel
theorem dX9_mark_8 : decode cX9_mark 8 = .ok (.bipush 12, 2) := by decide +kernel
theorem dX9_mark_10 : decode cX9_mark 10 = .ok (.irem, 1) := by decide +kernel
theorem dX9_mark_11 : decode cX9_mark 11 = .ok (.iload_n 1, 1) := by decide +kernel
theorem dX9_mark_12 : decode cX9_mark 12 = .ok (.iastore, 1) := by decide +kernel
theorem dX9_mark_13 : decode cX9_mark 13 = .ok (.aload_n 0, 1) := by decide +kernel
theorem dX9_mark_14 : decode cX9_mark 14 = .ok (.getfield 42, 3) := by decide +kernel
theorem dX9_mark_17 : decode cX9_mark 17 = .ok (.aload_n 0, 1) := by decide +kernel
theorem dX9_mark_18 : decode cX9_mark 18 = .ok (.getfield 52, 3) := by decide +kernel
theorem dX9_mark_21 : decode cX9_mark 21 = .ok (.bipush 12, 2) := by decide +kernel
theorem dX9_mark_23 : decode cX9_mark 23 = .ok (.irem, 1) := by decide +kernel
theorem dX9_mark_24 : decode cX9_mark 24 = .ok (.aload_n 0, 1) := by decide +kernel
theorem dX9_mark_25 : decode cX9_mark 25 = .ok (.getfield 55, 3) := by decide +kernel
theorem dX9_mark_28 : decode cX9_mark 28 = .ok (.iastore, 1) := by decide +kernel
theorem dX9_mark_29 : decode cX9_mark 29 = .ok (.aload_n 0, 1) := by decide +kernel
theorem dX9_mark_30 : decode cX9_mark 30 = .ok (.dup, 1) := by decide +kernel
theorem dX9_mark_31 : decode cX9_mark 31 = .ok (.getfield 52, 3) := by decide +kernel
theorem dX9_mark_34 : decode cX9_mark 34 = .ok (.iconst 1, 1) := by decide +kernel
theorem dX9_mark_35 : decode cX9_mark 35 = .ok (.iadd, 1) := by decide +kernel
theorem dX9_mark_36 : decode cX9_mark 36 = .ok (.putfield 52, 3) := by decide +kernel
theorem dX9_mark_39 : decode cX9_mark 39 = .ok (.return_, 1) := by decide +kernel
set_option maxRecDepth 20000 in
theorem ggX9_tooFast_X9_mode : GoodIn wsX9_tooFast wsX9_mode := goodIn_r _ [10, 2, 19, 20, 21, 22, 23, 24, 25, 26, 27, 28, 29, 30, 31, 32, 33, 34, 35, 36, 37, 38, 39, 40, 41, 42, 43, 44, 45, 46, 47, 48, 49] (by decide +kernel) (by decide +kernel)
set_option maxRecDepth 20000 in
theorem gX9_tooFast_X9_mode : GoodIn wsX9_tooFast (wsV RX9 58 RX9 yX9_mode wsX9_mode) := goodIn_app (goodIn_of _ (by decide +kernel)) ggX9_tooFast_X9_mode
set_option maxRecDepth 20000 in
theorem ggX9_tooFast_X9_mark : GoodIn wsX9_tooFast wsX9_mark := goodIn_r _ [14, 15, 16, 17, 18, 19, 20, 21, 22, 23, 24, 25, 26, 27, 28, 29, 30, 31, 32, 33, 34, 35, 36, 37, 38, 39, 40, 41, 42, 43, 44, 45, 46, 47, 48, 49] (by decide +kernel) (by decide +kernel)
set_option maxRecDepth 20000 in
theorem gX9_tooFast_X9_mark : GoodIn wsX9_tooFast (wsV RX9 75 RX9 yX9_mark wsX9_mark) := goodIn_app (goodIn_of _ (by decide +kernel)) ggX9_tooFast_X9_mark
theorem dX9_tooFast_0 : decode cX9_tooFast 0 = .ok (.aload_n 0, 1) := by decide +kernel
theorem dX9_tooFast_1 : decode cX9_tooFast 1 = .ok (.sipush 160, 3) := by decide +kernel
theorem dX9_tooFast_4 : decode cX9_tooFast 4 = .ok (.invokevirtual 58, 3) := by decide +kernel
theorem dX9_tooFast_7 : decode cX9_tooFast 7 = .ok (.ifCond .ne 4, 3) := by decide +kernel
theorem dX9_tooFast_10 : decode cX9_tooFast 10 = .ok (.return_, 1) := by decide +kernel
theorem dX9_tooFast_11 : decode cX9_tooFast 11 = .ok (.aload_n 0, 1) := by decide +kernel
theorem dX9_tooFast_12 : decode cX9_tooFast 12 = .ok (.getfield 62, 3) := by decide +kernel
theorem dX9_tooFast_15 : decode cX9_tooFast 15 = .ok (.aload_n 0, 1) := by decide +kernel
theorem dX9_tooFast_16 : decode cX9_tooFast 16 = .ok (.getfield 16, 3) := by decide +kernel
theorem dX9_tooFast_19 : decode cX9_tooFast 19 = .ok (.bipush 13, 2) := by decide +kernel
theorem dX9_tooFast_21 : decode cX9_tooFast 21 = .ok (.iaload, 1) := by decide +kernel
theorem dX9_tooFast_22 : decode cX9_tooFast 22 = .ok (.if_icmp .ge 7, 3) := by decide +kernel
theorem dX9_tooFast_25 : decode cX9_tooFast 25 = .ok (.iconst 1, 1) := by decide +kernel
theorem dX9_tooFast_26 : decode cX9_tooFast 26 = .ok (.goto 4, 3) := by decide +kernel
theorem dX9_tooFast_29 : decode cX9_tooFast 29 = .ok (.iconst 0, 1) := by decide +kernel
theorem dX9_tooFast_30 : decode cX9_tooFast 30 = .ok (.istore_n 1, 1) := by decide +kernel
theorem dX9_tooFast_31 : decode cX9_tooFast 31 = .ok (.aload_n 0, 1) := by decide +kernel
theorem dX9_tooFast_32 : decode cX9_tooFast 32 = .ok (.iload_n 1, 1) := by decide +kernel
theorem dX9_tooFast_33 : decode cX9_tooFast 33 = .ok (.ifCond .eq 12, 3) := by decide +kernel
theorem dX9_tooFast_36 : decode cX9_tooFast 36 = .ok (.aload_n 0, 1) := by decide +kernel
theorem dX9_tooFast_37 : decode cX9_tooFast 37 = .ok (.getfield 65, 3) := by decide +kernel
theorem dX9_tooFast_40 : decode cX9_tooFast 40 = .ok (.iconst 1, 1) := by decide +kernel
theorem dX9_tooFast_41 : decode cX9_tooFast 41 = .ok (.iadd, 1) := by decide +kernel
theorem dX9_tooFast_42 : decode cX9_tooFast 42 = .ok (.goto 4, 3) := by decide +kernel
theorem dX9_tooFast_45 : decode cX9_tooFast 45 = .ok (.iconst 0, 1) := by decide +kernel
theorem dX9_tooFast_46 : decode cX9_tooFast 46 = .ok (.putfield 65, 3) := by decide +kernel
theorem dX9_tooFast_49 : decode cX9_tooFast 49 = .ok (.aload_n 0, 1) := by decide +kernel
theorem dX9_tooFast_50 : decode cX9_tooFast 50 = .ok (.iload_n 1, 1) := by decide +kernel
theorem dX9_tooFast_51 : decode cX9_tooFast 51 = .ok (.ifCond .eq 7, 3) := by decide +kernel
theorem dX9_tooFast_54 : decode cX9_tooFast 54 = .ok (.iconst 0, 1) := by decide +kernel
theorem dX9_tooFast_55 : decode cX9_tooFast 55 = .ok (.goto 9, 3) := by decide +kernel
theorem dX9_tooFast_58 : decode cX9_tooFast 58 = .ok (.aload_n 0, 1) := by decide +kernel
theorem dX9_tooFast_59 : decode cX9_tooFast 59 = .ok (.getfield 68, 3) := by decide +kernel
theorem dX9_tooFast_62 : decode cX9_tooFast 62 = .ok (.iconst 1, 1) := by decide +kernel
theorem dX9_tooFast_63 : decode cX9_tooFast 63 = .ok (.iadd, 1) := by decide +kernel
theorem dX9_tooFast_64 : decode cX9_tooFast 64 = .ok (.putfield 68, 3) := by decide +kernel
theorem dX9_tooFast_67 : decode cX9_tooFast 67 = .ok (.aload_n 0, 1) := by decide +kernel
theorem dX9_tooFast_68 : decode cX9_tooFast 68 = .ok (.getfield 65, 3) := by decide +kernel
theorem dX9_tooFast_71 : decode cX9_tooFast 71 = .ok (.iconst 5, 1) := by decide +kernel
theorem dX9_tooFast_72 : decode cX9_tooFast 72 = .ok (.if_icmp .lt 20, 3) := by decide +kernel
theorem dX9_tooFast_75 : decode cX9_tooFast 75 = .ok (.aload_n 0, 1) := by decide +kernel
theorem dX9_tooFast_76 : decode cX9_tooFast 76 = .ok (.getfield 71, 3) := by decide +kernel
theorem dX9_tooFast_79 : decode cX9_tooFast 79 = .ok (.ifCond .ne 13, 3) := by decide +kernel
theorem dX9_tooFast_82 : decode cX9_tooFast 82 = .ok (.aload_n 0, 1) := by decide +kernel
theorem dX9_tooFast_83 : decode cX9_tooFast 83 = .ok (.iconst 1, 1) := by decide +kernel
theorem dX9_tooFast_84 : decode cX9_tooFast 84 = .ok (.putfield 71, 3) := by decide +kernel
theorem dX9_tooFast_87 : decode cX9_tooFast 87 = .ok (.aload_n 0, 1) := by decide +kernel
theorem dX9_tooFast_88 : decode cX9_tooFast 88 = .ok (.iconst 4, 1) := by decide +kernel
theorem dX9_tooFast_89 : decode cX9_tooFast 89 = .ok (.invokevirtual 75, 3) := by decide +kernel
theorem dX9_tooFast_92 : decode cX9_tooFast 92 = .ok (.aload_n 0, 1) := by decide +kernel
theorem dX9_tooFast_93 : decode cX9_tooFast 93 = .ok (.getfield 68, 3) := by decide +kernel
theorem dX9_tooFast_96 : decode cX9_tooFast 96 = .ok (.iconst 3, 1) := by decide +kernel
theorem dX9_tooFast_97 : decode cX9_tooFast 97 = .ok (.if_icmp .lt 20, 3) := by decide +kernel
theorem dX9_tooFast_100 : decode cX9_tooFast 100 = .ok (.aload_n 0, 1) := by decide +kernel
theorem dX9_tooFast_101 : decode cX9_tooFast 101 = .ok (.getfield 71, 3) := by decide +kernel
theorem dX9_tooFast_104 : decode cX9_tooFast 104 = .ok (.ifCond .eq 13, 3) := by decide +kernel
theorem dX9_tooFast_107 : decode cX9_tooFast 107 = .ok (.aload_n 0, 1) := by decide +kernel
theorem dX9_tooFast_108 : decode cX9_tooFast 108 = .ok (.iconst 0, 1) := by decide +kernel
theorem dX9_tooFast_109 : decode cX9_tooFast 109 = .ok (.putfield 71, 3) := by decide +kernel
theorem dX9_tooFast_112 : decode cX9_tooFast 112 = .ok (.aload_n 0, 1) := by decide +kernel
theorem dX9_tooFast_113 : decode cX9_tooFast 113 = .ok (.iconst 5, 1) := by decide +kernel
theorem dX9_tooFast_114 : decode cX9_tooFast 114 = .ok (.invokevirtual 75, 3) := by decide +kernel
theorem dX9_tooFast_117 : decode cX9_tooFast 117 = .ok (.return_, 1) := by decide +kernel
set_option maxRecDepth 20000 in
theorem ggX9_boundary_X9_mark : GoodIn wsX9_boundary wsX9_mark := goodIn_r _ [18, 19, 20, 21, 8, 22, 23, 24, 25, 26, 27, 28, 29, 30, 31, 32, 33, 34, 35, 36, 37, 38, 39, 40, 41, 42, 43, 44, 45, 46, 47, 48, 49, 50, 51, 52] (by decide +kernel) (by decide +kernel)
set_option maxRecDepth 20000 in
theorem gX9_boundary_X9_mark : GoodIn wsX9_boundary (wsV RX9 75 RX9 yX9_mark wsX9_mark) := goodIn_app (goodIn_of _ (by decide +kernel)) ggX9_boundary_X9_mark
theorem dX9_boundary_0 : decode cX9_boundary 0 = .ok (.aload_n 0, 1) := by decide +kernel
theorem dX9_boundary_1 : decode cX9_boundary 1 = .ok (.getfield 16, 3) := by decide +kernel
theorem dX9_boundary_4 : decode cX9_boundary 4 = .ok (.iconst 0, 1) := by decide +kernel
theorem dX9_boundary_5 : decode cX9_boundary 5 = .ok (.iaload, 1) := by decide +kernel
theorem dX9_boundary_6 : decode cX9_boundary 6 = .ok (.istore_n 2, 1) := by decide +kernel
theorem dX9_boundary_7 : decode cX9_boundary 7 = .ok (.iconst 0, 1) := by decide +kernel
theorem dX9_boundary_8 : decode cX9_boundary 8 = .ok (.istore_n 3, 1) := by decide +kernel
theorem dX9_boundary_9 : decode cX9_boundary 9 = .ok (.iconst 0, 1) := by decide +kernel
theorem dX9_boundary_10 : decode cX9_boundary 10 = .ok (.istore 4, 2) := by decide +kernel
theorem dX9_boundary_12 : decode cX9_boundary 12 = .ok (.iload 4, 2) := by decide +kernel
theorem dX9_boundary_14 : decode cX9_boundary 14 = .ok (.bipush 14, 2) := by decide +kernel
theorem dX9_boundary_16 : decode cX9_boundary 16 = .ok (.if_icmp .ge 71, 3) := by decide +kernel
theorem dX9_boundary_19 : decode cX9_boundary 19 = .ok (.iload_n 3, 1) := by decide +kernel
theorem dX9_boundary_20 : decode cX9_boundary 20 = .ok (.ifCond .ne 13, 3) := by decide +kernel
theorem dX9_boundary_23 : decode cX9_boundary 23 = .ok (.aload_n 0, 1) := by decide +kernel
theorem dX9_boundary_24 : decode cX9_boundary 24 = .ok (.getfield 22, 3) := by decide +kernel
theorem dX9_boundary_27 : decode cX9_boundary 27 = .ok (.iload 4, 2) := by decide +kernel
theorem dX9_boundary_29 : decode cX9_boundary 29 = .ok (.baload, 1) := by decide +kernel
theorem dX9_boundary_30 : decode cX9_boundary 30 = .ok (.ifCond .eq 7, 3) := by decide +kernel
theorem dX9_boundary_33 : decode cX9_boundary 33 = .ok (.iconst 1, 1) := by decide +kernel
theorem dX9_boundary_34 : decode cX9_boundary 34 = .ok (.goto 4, 3) := by decide +kernel
theorem dX9_boundary_37 : decode cX9_boundary 37 = .ok (.iconst 0, 1) := by decide +kernel
theorem dX9_boundary_38 : decode cX9_boundary 38 = .ok (.istore_n 3, 1) := by decide +kernel
theorem dX9_boundary_39 : decode cX9_boundary 39 = .ok (.aload_n 0, 1) := by decide +kernel
theorem dX9_boundary_40 : decode cX9_boundary 40 = .ok (.getfield 16, 3) := by decide +kernel
theorem dX9_boundary_43 : decode cX9_boundary 43 = .ok (.iload 4, 2) := by decide +kernel
theorem dX9_boundary_45 : decode cX9_boundary 45 = .ok (.aload_n 0, 1) := by decide +kernel
theorem dX9_boundary_46 : decode cX9_boundary 46 = .ok (.getfield 22, 3) := by decide +kernel
theorem dX9_boundary_49 : decode cX9_boundary 49 = .ok (.iload 4, 2) := by decide +kernel
theorem dX9_boundary_51 : decode cX9_boundary 51 = .ok (.baload, 1) := by decide +kernel
theorem dX9_boundary_52 : decode cX9_boundary 52 = .ok (.ifCond .eq 13, 3) := by decide +kernel
theorem dX9_boundary_55 : decode cX9_boundary 55 = .ok (.aload_n 0, 1) := by decide +kernel
theorem dX9_boundary_56 : decode cX9_boundary 56 = .ok (.getfield 19, 3) := by decide +kernel
theorem dX9_boundary_59 : decode cX9_boundary 59 = .ok (.iload 4, 2) := by decide +kernel
theorem dX9_boundary_61 : decode cX9_boundary 61 = .ok (.iaload, 1) := by decide +kernel
theorem dX9_boundary_62 : decode cX9_boundary 62 = .ok (.goto 10, 3) := by decide +kernel
theorem dX9_boundary_65 : decode cX9_boundary 65 = .ok (.aload_n 0, 1) := by decide +kernel
theorem dX9_boundary_66 : decode cX9_boundary 66 = .ok (.getfield 16, 3) := by decide +kernel
theorem dX9_boundary_69 : decode cX9_boundary 69 = .ok (.iload 4, 2) := by decide +kernel
theorem dX9_boundary_71 : decode cX9_boundary 71 = .ok (.iaload, 1) := by decide +kernel
theorem dX9_boundary_72 : decode cX9_boundary 72 = .ok (.iastore, 1) := by decide +kernel
theorem dX9_boundary_73 : decode cX9_boundary 73 = .ok (.aload_n 0, 1) := by decide +kernel
theorem dX9_boundary_74 : decode cX9_boundary 74 = .ok (.getfield 22, 3) := by decide +kernel
theorem dX9_boundary_77 : decode cX9_boundary 77 = .ok (.iload 4, 2) := by decide +kernel
theorem dX9_boundary_79 : decode cX9_boundary 79 = .ok (.iconst 0, 1) := by decide +kernel
theorem dX9_boundary_80 : decode cX9_boundary 80 = .ok (.bastore, 1) := by decide +kernel
theorem dX9_boundary_81 : decode cX9_boundary 81 = .ok (.iinc 4 1, 3) := by decide +kernel
theorem dX9_boundary_84 : decode cX9_boundary 84 = .ok (.goto (-72), 3) := by decide +kernel
theorem dX9_boundary_87 : decode cX9_boundary 87 = .ok (.iload_n 3, 1) := by decide +kernel
theorem dX9_boundary_88 : decode cX9_boundary 88 = .ok (.ifCond .eq 9, 3) := by decide +kernel
theorem dX9_boundary_91 : decode cX9_boundary 91 = .ok (.aload_n 0, 1) := by decide +kernel
theorem dX9_boundary_92 : decode cX9_boundary 92 = .ok (.bipush 6, 2) := by decide +kernel
theorem dX9_boundary_94 : decode cX9_boundary 94 = .ok (.invokevirtual 75, 3) := by decide +kernel
theorem dX9_boundary_97 : decode cX9_boundary 97 = .ok (.aload_n 0, 1) := by decide +kernel
theorem dX9_boundary_98 : decode cX9_boundary 98 = .ok (.getfield 16, 3) := by decide +kernel
theorem dX9_boundary_101 : decode cX9_boundary 101 = .ok (.iconst 0, 1) := by decide +kernel
theorem dX9_boundary_102 : decode cX9_boundary 102 = .ok (.iaload, 1) := by decide +kernel
theorem dX9_boundary_103 : decode cX9_boundary 103 = .ok (.iload_n 2, 1) := by decide +kernel
theorem dX9_boundary_104 : decode cX9_boundary 104 = .ok (.if_icmp .eq 35, 3) := by decide +kernel
theorem dX9_boundary_107 : decode cX9_boundary 107 = .ok (.aload_n 0, 1) := by decide +kernel
theorem dX9_boundary_108 : decode cX9_boundary 108 = .ok (.iconst 0, 1) := by decide +kernel
