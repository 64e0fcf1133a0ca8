theorem dX8_aIsDue_49 : decode cX8_aIsDue 49 = .ok (.aload_n 0, 1) := by decide +kernel
theorem dX8_aIsDue_50 : decode cX8_aIsDue 50 = .ok (.getfield 19, 3) := by decide +kernel
theorem dX8_aIsDue_53 : decode cX8_aIsDue 53 = .ok (.getfield 235, 3) := by decide +kernel
theorem dX8_aIsDue_56 : decode cX8_aIsDue 56 = .ok (.ifCond .ne 33, 3) := by decide +kernel
theorem dX8_aIsDue_59 : decode cX8_aIsDue 59 = .ok (.aload_n 0, 1) := by decide +kernel
theorem dX8_aIsDue_60 : decode cX8_aIsDue 60 = .ok (.getfield 19, 3) := by decide +kernel
theorem dX8_aIsDue_63 : decode cX8_aIsDue 63 = .ok (.getfield 162, 3) := by decide +kernel
theorem dX8_aIsDue_66 : decode cX8_aIsDue 66 = .ok (.aload_n 0, 1) := by decide +kernel
theorem dX8_aIsDue_67 : decode cX8_aIsDue 67 = .ok (.getfield 43, 3) := by decide +kernel
theorem dX8_aIsDue_70 : decode cX8_aIsDue 70 = .ok (.getfield 171, 3) := by decide +kernel
theorem dX8_aIsDue_73 : decode cX8_aIsDue 73 = .ok (.aload_n 0, 1) := by decide +kernel
theorem dX8_aIsDue_74 : decode cX8_aIsDue 74 = .ok (.getfield 10, 3) := by decide +kernel
theorem dX8_aIsDue_77 : decode cX8_aIsDue 77 = .ok (.iconst 3, 1) := by decide +kernel
theorem dX8_aIsDue_78 : decode cX8_aIsDue 78 = .ok (.invokevirtual 83, 3) := by decide +kernel
theorem dX8_aIsDue_81 : decode cX8_aIsDue 81 = .ok (.isub, 1) := by decide +kernel
theorem dX8_aIsDue_82 : decode cX8_aIsDue 82 = .ok (.if_icmp .lt 7, 3) := by decide +kernel
theorem dX8_aIsDue_85 : decode cX8_aIsDue 85 = .ok (.iconst 1, 1) := by decide +kernel
theorem dX8_aIsDue_86 : decode cX8_aIsDue 86 = .ok (.goto 4, 3) := by decide +kernel
theorem dX8_aIsDue_89 : decode cX8_aIsDue 89 = .ok (.iconst 0, 1) := by decide +kernel
theorem dX8_aIsDue_90 : decode cX8_aIsDue 90 = .ok (.ireturn, 1) := by decide +kernel
set_option maxRecDepth 20000 in
theorem ggX8_vIsDue_X6_mode : GoodIn wsX8_vIsDue wsX6_mode := goodIn_r _ [11, 12, 49, 50] (by decide +kernel) (by decide +kernel)
set_option maxRecDepth 20000 in
theorem gX8_vIsDue_X6_mode : GoodIn wsX8_vIsDue (wsV RX8 220 RX6 yX6_mode wsX6_mode) := goodIn_app (goodIn_of _ (by decide +kernel)) ggX8_vIsDue_X6_mode
set_option maxRecDepth 20000 in
theorem ggX8_vIsDue_X8_isLedByA : GoodIn wsX8_vIsDue wsX8_isLedByA := goodIn_r _ [16] (by decide +kernel) (by decide +kernel)
set_option maxRecDepth 20000 in
theorem gX8_vIsDue_X8_isLedByA : GoodIn wsX8_vIsDue (va_wsS RX8 229 yX8_isLedByA wsX8_isLedByA) := goodIn_app (goodIn_of _ (by decide +kernel)) ggX8_vIsDue_X8_isLedByA
set_option maxRecDepth 20000 in
theorem ggX8_vIsDue_X0_avRuns : GoodIn wsX8_vIsDue wsX0_avRuns := goodIn_r _ [21, 22, 40, 41, 42, 43, 44, 45] (by decide +kernel) (by decide +kernel)
set_option maxRecDepth 20000 in
theorem gX8_vIsDue_X0_avRuns : GoodIn wsX8_vIsDue (wsV RX8 238 RX0 yX0_avRuns wsX0_avRuns) := goodIn_app (goodIn_of _ (by decide +kernel)) ggX8_vIsDue_X0_avRuns
set_option maxRecDepth 20000 in
theorem ggX8_vIsDue_X6_inForce : GoodIn wsX8_vIsDue wsX6_inForce := goodIn_r _ [26, 12, 27, 28, 10, 29, 49, 50] (by decide +kernel) (by decide +kernel)
set_option maxRecDepth 20000 in
theorem gX8_vIsDue_X6_inForce : GoodIn wsX8_vIsDue (wsV RX8 83 RX6 yX6_inForce wsX6_inForce) := goodIn_app (goodIn_of _ (by decide +kernel)) ggX8_vIsDue_X6_inForce
theorem dX8_vIsDue_0 : decode cX8_vIsDue 0 = .ok (.aload_n 0, 1) := by decide +kernel
theorem dX8_vIsDue_1 : decode cX8_vIsDue 1 = .ok (.getfield 10, 3) := by decide +kernel
theorem dX8_vIsDue_4 : decode cX8_vIsDue 4 = .ok (.invokevirtual 220, 3) := by decide +kernel
theorem dX8_vIsDue_7 : decode cX8_vIsDue 7 = .ok (.invokestatic 229, 3) := by decide +kernel
theorem dX8_vIsDue_10 : decode cX8_vIsDue 10 = .ok (.ifCond .ne 22, 3) := by decide +kernel
theorem dX8_vIsDue_13 : decode cX8_vIsDue 13 = .ok (.aload_n 0, 1) := by decide +kernel
theorem dX8_vIsDue_14 : decode cX8_vIsDue 14 = .ok (.getfield 19, 3) := by decide +kernel
theorem dX8_vIsDue_17 : decode cX8_vIsDue 17 = .ok (.getfield 162, 3) := by decide +kernel
theorem dX8_vIsDue_20 : decode cX8_vIsDue 20 = .ok (.aload_n 0, 1) := by decide +kernel
theorem dX8_vIsDue_21 : decode cX8_vIsDue 21 = .ok (.getfield 43, 3) := by decide +kernel
theorem dX8_vIsDue_24 : decode cX8_vIsDue 24 = .ok (.getfield 171, 3) := by decide +kernel
theorem dX8_vIsDue_27 : decode cX8_vIsDue 27 = .ok (.if_icmp .lt 5, 3) := by decide +kernel
theorem dX8_vIsDue_30 : decode cX8_vIsDue 30 = .ok (.iconst 1, 1) := by decide +kernel
theorem dX8_vIsDue_31 : decode cX8_vIsDue 31 = .ok (.ireturn, 1) := by decide +kernel
theorem dX8_vIsDue_32 : decode cX8_vIsDue 32 = .ok (.aload_n 0, 1) := by decide +kernel
theorem dX8_vIsDue_33 : decode cX8_vIsDue 33 = .ok (.getfield 19, 3) := by decide +kernel
theorem dX8_vIsDue_36 : decode cX8_vIsDue 36 = .ok (.invokevirtual 238, 3) := by decide +kernel
theorem dX8_vIsDue_39 : decode cX8_vIsDue 39 = .ok (.ifCond .eq 43, 3) := by decide +kernel
theorem dX8_vIsDue_42 : decode cX8_vIsDue 42 = .ok (.aload_n 0, 1) := by decide +kernel
theorem dX8_vIsDue_43 : decode cX8_vIsDue 43 = .ok (.getfield 19, 3) := by decide +kernel
theorem dX8_vIsDue_46 : decode cX8_vIsDue 46 = .ok (.getfield 168, 3) := by decide +kernel
theorem dX8_vIsDue_49 : decode cX8_vIsDue 49 = .ok (.aload_n 0, 1) := by decide +kernel
theorem dX8_vIsDue_50 : decode cX8_vIsDue 50 = .ok (.getfield 10, 3) := by decide +kernel
theorem dX8_vIsDue_53 : decode cX8_vIsDue 53 = .ok (.iconst 3, 1) := by decide +kernel
theorem dX8_vIsDue_54 : decode cX8_vIsDue 54 = .ok (.invokevirtual 83, 3) := by decide +kernel
theorem dX8_vIsDue_57 : decode cX8_vIsDue 57 = .ok (.if_icmp .lt 25, 3) := by decide +kernel
theorem dX8_vIsDue_60 : decode cX8_vIsDue 60 = .ok (.aload_n 0, 1) := by decide +kernel
theorem dX8_vIsDue_61 : decode cX8_vIsDue 61 = .ok (.getfield 19, 3) := by decide +kernel
theorem dX8_vIsDue_64 : decode cX8_vIsDue 64 = .ok (.getfield 162, 3) := by decide +kernel
theorem dX8_vIsDue_67 : decode cX8_vIsDue 67 = .ok (.aload_n 0, 1) := by decide +kernel
theorem dX8_vIsDue_68 : decode cX8_vIsDue 68 = .ok (.getfield 10, 3) := by decide +kernel
theorem dX8_vIsDue_71 : decode cX8_vIsDue 71 = .ok (.iconst 2, 1) := by decide +kernel
theorem dX8_vIsDue_72 : decode cX8_vIsDue 72 = .ok (.invokevirtual 83, 3) := by decide +kernel
theorem dX8_vIsDue_75 : decode cX8_vIsDue 75 = .ok (.if_icmp .lt 7, 3) := by decide +kernel
theorem dX8_vIsDue_78 : decode cX8_vIsDue 78 = .ok (.iconst 1, 1) := by decide +kernel
theorem dX8_vIsDue_79 : decode cX8_vIsDue 79 = .ok (.goto 4, 3) := by decide +kernel
theorem dX8_vIsDue_82 : decode cX8_vIsDue 82 = .ok (.iconst 0, 1) := by decide +kernel
theorem dX8_vIsDue_83 : decode cX8_vIsDue 83 = .ok (.ireturn, 1) := by decide +kernel
set_option maxRecDepth 20000 in
theorem ggX8_atrialEvent_X4_keep : GoodIn wsX8_atrialEvent wsX4_keep := goodIn_r _ [9, 10, 11, 12, 13, 137, 138, 139, 140] (by decide +kernel) (by decide +kernel)
set_option maxRecDepth 20000 in
theorem gX8_atrialEvent_X4_keep : GoodIn wsX8_atrialEvent (wsV RX8 241 RX4 yX4_keep wsX4_keep) := goodIn_app (goodIn_of _ (by decide +kernel)) ggX8_atrialEvent_X4_keep
set_option maxRecDepth 20000 in
theorem ggX8_atrialEvent_X6_mode : GoodIn wsX8_atrialEvent wsX6_mode := goodIn_r _ [18, 19, 141, 142] (by decide +kernel) (by decide +kernel)
set_option maxRecDepth 20000 in
theorem gX8_atrialEvent_X6_mode : GoodIn wsX8_atrialEvent (wsV RX8 220 RX6 yX6_mode wsX6_mode) := goodIn_app (goodIn_of _ (by decide +kernel)) ggX8_atrialEvent_X6_mode
set_option maxRecDepth 20000 in
theorem ggX8_atrialEvent_X8_follows : GoodIn wsX8_atrialEvent wsX8_follows := goodIn_r _ [23] (by decide +kernel) (by decide +kernel)
set_option maxRecDepth 20000 in
theorem gX8_atrialEvent_X8_follows : GoodIn wsX8_atrialEvent (va_wsS RX8 244 yX8_follows wsX8_follows) := goodIn_app (goodIn_of _ (by decide +kernel)) ggX8_atrialEvent_X8_follows
set_option maxRecDepth 20000 in
theorem ggX8_atrialEvent_X8_tellTooFast : GoodIn wsX8_atrialEvent wsX8_tellTooFast := goodIn_r _ [27, 28, 29, 2, 30, 4, 1, 3, 31, 32, 33, 17, 34, 19, 35, 36, 37, 38, 39, 40, 41, 42, 43, 44, 45, 5, 6, 7, 8, 9, 10, 11, 12, 13, 121, 122, 123, 124, 125, 126, 127, 128, 129, 130, 143, 144, 145, 131, 132, 133, 134, 135, 136, 141, 142, 137, 138, 139, 140] (by decide +kernel) (by decide +kernel)
set_option maxRecDepth 20000 in
theorem gX8_atrialEvent_X8_tellTooFast : GoodIn wsX8_atrialEvent (wsV RX8 247 RX8 yX8_tellTooFast wsX8_tellTooFast) := goodIn_app (goodIn_of _ (by decide +kernel)) ggX8_atrialEvent_X8_tellTooFast
set_option maxRecDepth 20000 in
theorem ggX8_atrialEvent_X0_restartA : GoodIn wsX8_atrialEvent wsX0_restartA := goodIn_r _ [50, 51, 52, 53, 131, 132, 133, 134, 135, 136] (by decide +kernel) (by decide +kernel)
set_option maxRecDepth 20000 in
theorem gX8_atrialEvent_X0_restartA : GoodIn wsX8_atrialEvent (wsV RX8 250 RX0 yX0_restartA wsX0_restartA) := goodIn_app (goodIn_of _ (by decide +kernel)) ggX8_atrialEvent_X0_restartA
set_option maxRecDepth 20000 in
theorem ggX8_atrialEvent_X8_beginsAv : GoodIn wsX8_atrialEvent wsX8_beginsAv := goodIn_r _ [57, 4, 28, 29, 2, 14, 15, 16, 17, 18, 19, 20, 21, 22, 23, 58, 59, 60, 49, 61, 62, 63, 64, 65, 121, 122, 123, 124, 125, 126, 127, 128, 129, 130, 143, 144, 145, 141, 142, 131, 132, 133, 134, 135, 136] (by decide +kernel) (by decide +kernel)
set_option maxRecDepth 20000 in
theorem gX8_atrialEvent_X8_beginsAv : GoodIn wsX8_atrialEvent (wsV RX8 254 RX8 yX8_beginsAv wsX8_beginsAv) := goodIn_app (goodIn_of _ (by decide +kernel)) ggX8_atrialEvent_X8_beginsAv
set_option maxRecDepth 20000 in
theorem ggX8_atrialEvent_X0_startAv : GoodIn wsX8_atrialEvent wsX0_startAv := goodIn_r _ [69, 62, 131, 132, 133, 134, 135, 136] (by decide +kernel) (by decide +kernel)
set_option maxRecDepth 20000 in
theorem gX8_atrialEvent_X0_startAv : GoodIn wsX8_atrialEvent (wsV RX8 258 RX0 yX0_startAv wsX0_startAv) := goodIn_app (goodIn_of _ (by decide +kernel)) ggX8_atrialEvent_X0_startAv
set_option maxRecDepth 20000 in
theorem ggX8_atrialEvent_X8_isLedByA : GoodIn wsX8_atrialEvent wsX8_isLedByA := goodIn_r _ [72] (by decide +kernel) (by decide +kernel)
set_option maxRecDepth 20000 in
theorem gX8_atrialEvent_X8_isLedByA : GoodIn wsX8_atrialEvent (va_wsS RX8 229 yX8_isLedByA wsX8_isLedByA) := goodIn_app (goodIn_of _ (by decide +kernel)) ggX8_atrialEvent_X8_isLedByA
set_option maxRecDepth 20000 in
theorem ggX8_atrialEvent_X8_boundary : GoodIn wsX8_atrialEvent wsX8_boundary := goodIn_r _ [76, 4, 1, 2, 3, 77, 78, 14, 15, 16, 17, 18, 19, 79, 80, 81, 82, 83, 5, 6, 7, 8, 9, 10, 11, 12, 13, 84, 85, 86, 22, 87, 28, 29, 88, 89, 90, 49, 91, 62, 92, 93, 94, 41, 95, 43, 44, 45, 96, 97, 98, 99, 100, 101, 102, 103, 104, 31, 32, 33, 34, 35, 36, 37, 105, 106, 107, 108, 109, 110, 111, 112, 113, 114, 115, 116, 117, 118, 119, 120, 121, 122, 123, 124, 125, 126, 127, 128, 129, 130, 131, 132, 133, 134, 135, 136, 141, 142, 137, 138, 139, 140, 143, 144, 145, 146, 147, 148, 149, 150] (by decide +kernel) (by decide +kernel)
set_option maxRecDepth 20000 in
theorem gX8_atrialEvent_X8_boundary : GoodIn wsX8_atrialEvent (wsV RX8 261 RX8 yX8_boundary wsX8_boundary) := goodIn_app (goodIn_of _ (by decide +kernel)) ggX8_atrialEvent_X8_boundary
theorem dX8_atrialEvent_0 : decode cX8_atrialEvent 0 = .ok (.aload_n 0, 1) := by decide +kernel
theorem dX8_atrialEvent_1 : decode cX8_atrialEvent 1 = .ok (.getfield 57, 3) := by decide +kernel
theorem dX8_atrialEvent_4 : decode cX8_atrialEvent 4 = .ok (.iload_n 1, 1) := by decide +kernel
theorem dX8_atrialEvent_5 : decode cX8_atrialEvent 5 = .ok (.aload_n 0, 1) := by decide +kernel
theorem dX8_atrialEvent_6 : decode cX8_atrialEvent 6 = .ok (.getfield 19, 3) := by decide +kernel
theorem dX8_atrialEvent_9 : decode cX8_atrialEvent 9 = .ok (.getfield 186, 3) := by decide +kernel
theorem dX8_atrialEvent_12 : decode cX8_atrialEvent 12 = .ok (.invokevirtual 241, 3) := by decide +kernel
theorem dX8_atrialEvent_15 : decode cX8_atrialEvent 15 = .ok (.iload_n 2, 1) := by decide +kernel
theorem dX8_atrialEvent_16 : decode cX8_atrialEvent 16 = .ok (.ifCond .eq 20, 3) := by decide +kernel
theorem dX8_atrialEvent_19 : decode cX8_atrialEvent 19 = .ok (.aload_n 0, 1) := by decide +kernel
theorem dX8_atrialEvent_20 : decode cX8_atrialEvent 20 = .ok (.getfield 10, 3) := by decide +kernel
theorem dX8_atrialEvent_23 : decode cX8_atrialEvent 23 = .ok (.invokevirtual 220, 3) := by decide +kernel
theorem dX8_atrialEvent_26 : decode cX8_atrialEvent 26 = .ok (.invokestatic 244, 3) := by decide +kernel
theorem dX8_atrialEvent_29 : decode cX8_atrialEvent 29 = .ok (.ifCond .eq 7, 3) := by decide +kernel
theorem dX8_atrialEvent_32 : decode cX8_atrialEvent 32 = .ok (.aload_n 0, 1) := by decide +kernel
theorem dX8_atrialEvent_33 : decode cX8_atrialEvent 33 = .ok (.invokevirtual 247, 3) := by decide +kernel
theorem dX8_atrialEvent_36 : decode cX8_atrialEvent 36 = .ok (.aload_n 0, 1) := by decide +kernel
theorem dX8_atrialEvent_37 : decode cX8_atrialEvent 37 = .ok (.getfield 19, 3) := by decide +kernel
theorem dX8_atrialEvent_40 : decode cX8_atrialEvent 40 = .ok (.iload_n 2, 1) := by decide +kernel
theorem dX8_atrialEvent_41 : decode cX8_atrialEvent 41 = .ok (.ifCond .ne 7, 3) := by decide +kernel
theorem dX8_atrialEvent_44 : decode cX8_atrialEvent 44 = .ok (.iconst 1, 1) := by decide +kernel
theorem dX8_atrialEvent_45 : decode cX8_atrialEvent 45 = .ok (.goto 4, 3) := by decide +kernel
theorem dX8_atrialEvent_48 : decode cX8_atrialEvent 48 = .ok (.iconst 0, 1) := by decide +kernel
theorem dX8_atrialEvent_49 : decode cX8_atrialEvent 49 = .ok (.invokevirtual 250, 3) := by decide +kernel
theorem dX8_atrialEvent_52 : decode cX8_atrialEvent 52 = .ok (.aload_n 0, 1) := by decide +kernel
theorem dX8_atrialEvent_53 : decode cX8_atrialEvent 53 = .ok (.iload_n 2, 1) := by decide +kernel
theorem dX8_atrialEvent_54 : decode cX8_atrialEvent 54 = .ok (.invokevirtual 254, 3) := by decide +kernel
theorem dX8_atrialEvent_57 : decode cX8_atrialEvent 57 = .ok (.ifCond .eq 10, 3) := by decide +kernel
theorem dX8_atrialEvent_60 : decode cX8_atrialEvent 60 = .ok (.aload_n 0, 1) := by decide +kernel
theorem dX8_atrialEvent_61 : decode cX8_atrialEvent 61 = .ok (.getfield 19, 3) := by decide +kernel
theorem dX8_atrialEvent_64 : decode cX8_atrialEvent 64 = .ok (.invokevirtual 258, 3) := by decide +kernel
theorem dX8_atrialEvent_67 : decode cX8_atrialEvent 67 = .ok (.aload_n 0, 1) := by decide +kernel
theorem dX8_atrialEvent_68 : decode cX8_atrialEvent 68 = .ok (.getfield 10, 3) := by decide +kernel
theorem dX8_atrialEvent_71 : decode cX8_atrialEvent 71 = .ok (.invokevirtual 220, 3) := by decide +kernel
theorem dX8_atrialEvent_74 : decode cX8_atrialEvent 74 = .ok (.invokestatic 229, 3) := by decide +kernel
theorem dX8_atrialEvent_77 : decode cX8_atrialEvent 77 = .ok (.ifCond .eq 8, 3) := by decide +kernel
theorem dX8_atrialEvent_80 : decode cX8_atrialEvent 80 = .ok (.aload_n 0, 1) := by decide +kernel
theorem dX8_atrialEvent_81 : decode cX8_atrialEvent 81 = .ok (.iload_n 2, 1) := by decide +kernel
theorem dX8_atrialEvent_82 : decode cX8_atrialEvent 82 = .ok (.invokevirtual 261, 3) := by decide +kernel
theorem dX8_atrialEvent_85 : decode cX8_atrialEvent 85 = .ok (.return_, 1) := by decide +kernel
set_option maxRecDepth 20000 in
theorem ggX8_beginsAv_X6_mode : GoodIn wsX8_beginsAv wsX6_mode := goodIn_r _ [9, 10, 37, 38] (by decide +kernel) (by decide +kernel)
set_option maxRecDepth 20000 in
theorem gX8_beginsAv_X6_mode : GoodIn wsX8_beginsAv (wsV RX8 220 RX6 yX6_mode wsX6_mode) := goodIn_app (goodIn_of _ (by decide +kernel)) ggX8_beginsAv_X6_mode
set_option maxRecDepth 20000 in
theorem ggX8_beginsAv_X8_follows : GoodIn wsX8_beginsAv wsX8_follows := goodIn_r _ [14] (by decide +kernel) (by decide +kernel)
set_option maxRecDepth 20000 in
theorem gX8_beginsAv_X8_follows : GoodIn wsX8_beginsAv (va_wsS RX8 244 yX8_follows wsX8_follows) := goodIn_app (goodIn_of _ (by decide +kernel)) ggX8_beginsAv_X8_follows
set_option maxRecDepth 20000 in
theorem ggX8_beginsAv_X0_avRuns : GoodIn wsX8_beginsAv wsX0_avRuns := goodIn_r _ [19, 20, 39, 40, 41, 42, 43, 44] (by decide +kernel) (by decide +kernel)
set_option maxRecDepth 20000 in
theorem gX8_beginsAv_X0_avRuns : GoodIn wsX8_beginsAv (wsV RX8 238 RX0 yX0_avRuns wsX0_avRuns) := goodIn_app (goodIn_of _ (by decide +kernel)) ggX8_beginsAv_X0_avRuns
set_option maxRecDepth 20000 in
theorem ggX8_beginsAv_X8_pacesBoth : GoodIn wsX8_beginsAv wsX8_pacesBoth := goodIn_r _ [23] (by decide +kernel) (by decide +kernel)
set_option maxRecDepth 20000 in
theorem gX8_beginsAv_X8_pacesBoth : GoodIn wsX8_beginsAv (va_wsS RX8 232 yX8_pacesBoth wsX8_pacesBoth) := goodIn_app (goodIn_of _ (by decide +kernel)) ggX8_beginsAv_X8_pacesBoth
theorem dX8_beginsAv_0 : decode cX8_beginsAv 0 = .ok (.iload_n 1, 1) := by decide +kernel
theorem dX8_beginsAv_1 : decode cX8_beginsAv 1 = .ok (.ifCond .eq 42, 3) := by decide +kernel
theorem dX8_beginsAv_4 : decode cX8_beginsAv 4 = .ok (.aload_n 0, 1) := by decide +kernel
theorem dX8_beginsAv_5 : decode cX8_beginsAv 5 = .ok (.getfield 10, 3) := by decide +kernel
theorem dX8_beginsAv_8 : decode cX8_beginsAv 8 = .ok (.invokevirtual 220, 3) := by decide +kernel
theorem dX8_beginsAv_11 : decode cX8_beginsAv 11 = .ok (.invokestatic 244, 3) := by decide +kernel
theorem dX8_beginsAv_14 : decode cX8_beginsAv 14 = .ok (.ifCond .eq 27, 3) := by decide +kernel
theorem dX8_beginsAv_17 : decode cX8_beginsAv 17 = .ok (.aload_n 0, 1) := by decide +kernel
theorem dX8_beginsAv_18 : decode cX8_beginsAv 18 = .ok (.getfield 36, 3) := by decide +kernel
theorem dX8_beginsAv_21 : decode cX8_beginsAv 21 = .ok (.getfield 189, 3) := by decide +kernel
theorem dX8_beginsAv_24 : decode cX8_beginsAv 24 = .ok (.ifCond .ne 17, 3) := by decide +kernel
theorem dX8_beginsAv_27 : decode cX8_beginsAv 27 = .ok (.aload_n 0, 1) := by decide +kernel
theorem dX8_beginsAv_28 : decode cX8_beginsAv 28 = .ok (.getfield 19, 3) := by decide +kernel
theorem dX8_beginsAv_31 : decode cX8_beginsAv 31 = .ok (.invokevirtual 238, 3) := by decide +kernel
theorem dX8_beginsAv_34 : decode cX8_beginsAv 34 = .ok (.ifCond .ne 7, 3) := by decide +kernel
theorem dX8_beginsAv_37 : decode cX8_beginsAv 37 = .ok (.iconst 1, 1) := by decide +kernel
theorem dX8_beginsAv_38 : decode cX8_beginsAv 38 = .ok (.goto 4, 3) := by decide +kernel
theorem dX8_beginsAv_41 : decode cX8_beginsAv 41 = .ok (.iconst 0, 1) := by decide +kernel
theorem dX8_beginsAv_42 : decode cX8_beginsAv 42 = .ok (.ireturn, 1) := by decide +kernel
theorem dX8_beginsAv_43 : decode cX8_beginsAv 43 = .ok (.aload_n 0, 1) := by decide +kernel
theorem dX8_beginsAv_44 : decode cX8_beginsAv 44 = .ok (.getfield 10, 3) := by decide +kernel
theorem dX8_beginsAv_47 : decode cX8_beginsAv 47 = .ok (.invokevirtual 220, 3) := by decide +kernel
theorem dX8_beginsAv_50 : decode cX8_beginsAv 50 = .ok (.invokestatic 232, 3) := by decide +kernel
theorem dX8_beginsAv_53 : decode cX8_beginsAv 53 = .ok (.ireturn, 1) := by decide +kernel
set_option maxRecDepth 20000 in
theorem ggX8_ventricularEvent_X4_keep : GoodIn wsX8_ventricularEvent wsX4_keep := goodIn_r _ [9, 10, 11, 12, 13, 110, 111, 112, 113] (by decide +kernel) (by decide +kernel)
set_option maxRecDepth 20000 in
theorem gX8_ventricularEvent_X4_keep : GoodIn wsX8_ventricularEvent (wsV RX8 241 RX4 yX4_keep wsX4_keep) := goodIn_app (goodIn_of _ (by decide +kernel)) ggX8_ventricularEvent_X4_keep
set_option maxRecDepth 20000 in
theorem ggX8_ventricularEvent_X0_restartV : GoodIn wsX8_ventricularEvent wsX0_restartV := goodIn_r _ [18, 19, 20, 21, 22, 23, 17, 24, 25, 104, 105, 106, 107, 108, 109] (by decide +kernel) (by decide +kernel)
set_option maxRecDepth 20000 in
theorem gX8_ventricularEvent_X0_restartV : GoodIn wsX8_ventricularEvent (wsV RX8 264 RX0 yX0_restartV wsX0_restartV) := goodIn_app (goodIn_of _ (by decide +kernel)) ggX8_ventricularEvent_X0_restartV
set_option maxRecDepth 20000 in
theorem ggX8_ventricularEvent_X6_mode : GoodIn wsX8_ventricularEvent wsX6_mode := goodIn_r _ [30, 31, 114, 115] (by decide +kernel) (by decide +kernel)
set_option maxRecDepth 20000 in
theorem gX8_ventricularEvent_X6_mode : GoodIn wsX8_ventricularEvent (wsV RX8 220 RX6 yX6_mode wsX6_mode) := goodIn_app (goodIn_of _ (by decide +kernel)) ggX8_ventricularEvent_X6_mode
set_option maxRecDepth 20000 in
theorem ggX8_ventricularEvent_X8_isLedByA : GoodIn wsX8_ventricularEvent wsX8_isLedByA := goodIn_r _ [35] (by decide +kernel) (by decide +kernel)
set_option maxRecDepth 20000 in
theorem gX8_ventricularEvent_X8_isLedByA : GoodIn wsX8_ventricularEvent (va_wsS RX8 229 yX8_isLedByA wsX8_isLedByA) := goodIn_app (goodIn_of _ (by decide +kernel)) ggX8_ventricularEvent_X8_isLedByA
set_option maxRecDepth 20000 in
theorem ggX8_ventricularEvent_X8_boundary : GoodIn wsX8_ventricularEvent wsX8_boundary := goodIn_r _ [39, 4, 1, 2, 3, 40, 41, 26, 27, 28, 29, 30, 31, 42, 43, 44, 45, 46, 5, 6, 7, 8, 9, 10, 11, 12, 13, 47, 48, 49, 34, 50, 51, 52, 53, 22, 23, 17, 24, 25, 54, 55, 56, 57, 58, 59, 60, 61, 62, 63, 64, 65, 66, 67, 68, 69, 70, 71, 72, 73, 74, 75, 76, 77, 78, 79, 80, 81, 82, 83, 84, 85, 86, 87, 88, 89, 90, 91, 92, 93, 94, 95, 96, 97, 98, 99, 100, 101, 102, 103, 104, 105, 106, 107, 108, 109, 114, 115, 110, 111, 112, 113, 116, 117, 118, 119, 120, 121, 122, 123] (by decide +kernel) (by decide +kernel)
set_option maxRecDepth 20000 in
theorem gX8_ventricularEvent_X8_boundary : GoodIn wsX8_ventricularEvent (wsV RX8 261 RX8 yX8_boundary wsX8_boundary) := goodIn_app (goodIn_of _ (by decide +kernel)) ggX8_ventricularEvent_X8_boundary
theorem dX8_ventricularEvent_0 : decode cX8_ventricularEvent 0 = .ok (.aload_n 0, 1) := by decide +kernel
theorem dX8_ventricularEvent_1 : decode cX8_ventricularEvent 1 = .ok (.getfield 57, 3) := by decide +kernel
theorem dX8_ventricularEvent_4 : decode cX8_ventricularEvent 4 = .ok (.iload_n 1, 1) := by decide +kernel
theorem dX8_ventricularEvent_5 : decode cX8_ventricularEvent 5 = .ok (.aload_n 0, 1) := by decide +kernel
theorem dX8_ventricularEvent_6 : decode cX8_ventricularEvent 6 = .ok (.getfield 19, 3) := by decide +kernel
theorem dX8_ventricularEvent_9 : decode cX8_ventricularEvent 9 = .ok (.getfield 186, 3) := by decide +kernel
theorem dX8_ventricularEvent_12 : decode cX8_ventricularEvent 12 = .ok (.invokevirtual 241, 3) := by decide +kernel
theorem dX8_ventricularEvent_15 : decode cX8_ventricularEvent 15 = .ok (.aload_n 0, 1) := by decide +kernel
theorem dX8_ventricularEvent_16 : decode cX8_ventricularEvent 16 = .ok (.getfield 19, 3) := by decide +kernel
theorem dX8_ventricularEvent_19 : decode cX8_ventricularEvent 19 = .ok (.invokevirtual 264, 3) := by decide +kernel
theorem dX8_ventricularEvent_22 : decode cX8_ventricularEvent 22 = .ok (.aload_n 0, 1) := by decide +kernel
theorem dX8_ventricularEvent_23 : decode cX8_ventricularEvent 23 = .ok (.getfield 10, 3) := by decide +kernel
theorem dX8_ventricularEvent_26 : decode cX8_ventricularEvent 26 = .ok (.invokevirtual 220, 3) := by decide +kernel
theorem dX8_ventricularEvent_29 : decode cX8_ventricularEvent 29 = .ok (.invokestatic 229, 3) := by decide +kernel
theorem dX8_ventricularEvent_32 : decode cX8_ventricularEvent 32 = .ok (.ifCond .ne 8, 3) := by decide +kernel
theorem dX8_ventricularEvent_35 : decode cX8_ventricularEvent 35 = .ok (.aload_n 0, 1) := by decide +kernel
theorem dX8_ventricularEvent_36 : decode cX8_ventricularEvent 36 = .ok (.iload_n 2, 1) := by decide +kernel
theorem dX8_ventricularEvent_37 : decode cX8_ventricularEvent 37 = .ok (.invokevirtual 261, 3) := by decide +kernel
theorem dX8_ventricularEvent_40 : decode cX8_ventricularEvent 40 = .ok (.return_, 1) := by decide +kernel
set_option maxRecDepth 20000 in
theorem ggX8_tellTooFast_X6_inForce : GoodIn wsX8_tellTooFast wsX6_inForce := goodIn_r _ [12, 13, 14, 15, 11, 16, 53, 54] (by decide +kernel) (by decide +kernel)
set_option maxRecDepth 20000 in
theorem gX8_tellTooFast_X6_inForce : GoodIn wsX8_tellTooFast (wsV RX8 83 RX6 yX6_inForce wsX6_inForce) := goodIn_app (goodIn_of _ (by decide +kernel)) ggX8_tellTooFast_X6_inForce
set_option maxRecDepth 20000 in
theorem ggX8_tellTooFast_X2_count : GoodIn wsX8_tellTooFast wsX2_count := goodIn_r _ [21, 22, 23, 24, 44, 45, 46] (by decide +kernel) (by decide +kernel)
set_option maxRecDepth 20000 in
theorem gX8_tellTooFast_X2_count : GoodIn wsX8_tellTooFast (wsV RX8 267 RX2 yX2_count wsX2_count) := goodIn_app (goodIn_of _ (by decide +kernel)) ggX8_tellTooFast_X2_count
set_option maxRecDepth 20000 in
theorem ggX8_tellTooFast_X4_keep : GoodIn wsX8_tellTooFast wsX4_keep := goodIn_r _ [29, 30, 31, 32, 33, 55, 56, 57, 58] (by decide +kernel) (by decide +kernel)
set_option maxRecDepth 20000 in
theorem gX8_tellTooFast_X4_keep : GoodIn wsX8_tellTooFast (wsV RX8 241 RX4 yX4_keep wsX4_keep) := goodIn_app (goodIn_of _ (by decide +kernel)) ggX8_tellTooFast_X4_keep
theorem dX8_tellTooFast_0 : decode cX8_tellTooFast 0 = .ok (.aload_n 0, 1) := by decide +kernel
theorem dX8_tellTooFast_1 : decode cX8_tellTooFast 1 = .ok (.getfield 36, 3) := by decide +kernel
theorem dX8_tellTooFast_4 : decode cX8_tellTooFast 4 = .ok (.getfield 189, 3) := by decide +kernel
theorem dX8_tellTooFast_7 : decode cX8_tellTooFast 7 = .ok (.istore_n 1, 1) := by decide +kernel
theorem dX8_tellTooFast_8 : decode cX8_tellTooFast 8 = .ok (.aload_n 0, 1) := by decide +kernel
theorem dX8_tellTooFast_9 : decode cX8_tellTooFast 9 = .ok (.getfield 36, 3) := by decide +kernel
theorem dX8_tellTooFast_12 : decode cX8_tellTooFast 12 = .ok (.aload_n 0, 1) := by decide +kernel
theorem dX8_tellTooFast_13 : decode cX8_tellTooFast 13 = .ok (.getfield 19, 3) := by decide +kernel
theorem dX8_tellTooFast_16 : decode cX8_tellTooFast 16 = .ok (.getfield 159, 3) := by decide +kernel
theorem dX8_tellTooFast_19 : decode cX8_tellTooFast 19 = .ok (.aload_n 0, 1) := by decide +kernel
theorem dX8_tellTooFast_20 : decode cX8_tellTooFast 20 = .ok (.getfield 10, 3) := by decide +kernel
theorem dX8_tellTooFast_23 : decode cX8_tellTooFast 23 = .ok (.bipush 13, 2) := by decide +kernel
theorem dX8_tellTooFast_25 : decode cX8_tellTooFast 25 = .ok (.invokevirtual 83, 3) := by decide +kernel
theorem dX8_tellTooFast_28 : decode cX8_tellTooFast 28 = .ok (.if_icmp .ge 7, 3) := by decide +kernel
theorem dX8_tellTooFast_31 : decode cX8_tellTooFast 31 = .ok (.iconst 1, 1) := by decide +kernel
theorem dX8_tellTooFast_32 : decode cX8_tellTooFast 32 = .ok (.goto 4, 3) := by decide +kernel
theorem dX8_tellTooFast_35 : decode cX8_tellTooFast 35 = .ok (.iconst 0, 1) := by decide +kernel
theorem dX8_tellTooFast_36 : decode cX8_tellTooFast 36 = .ok (.invokevirtual 267, 3) := by decide +kernel
theorem dX8_tellTooFast_39 : decode cX8_tellTooFast 39 = .ok (.iload_n 1, 1) := by decide +kernel
theorem dX8_tellTooFast_40 : decode cX8_tellTooFast 40 = .ok (.ifCond .ne 28, 3) := by decide +kernel
theorem dX8_tellTooFast_43 : decode cX8_tellTooFast 43 = .ok (.aload_n 0, 1) := by decide +kernel
theorem dX8_tellTooFast_44 : decode cX8_tellTooFast 44 = .ok (.getfield 36, 3) := by decide +kernel
theorem dX8_tellTooFast_47 : decode cX8_tellTooFast 47 = .ok (.getfield 189, 3) := by decide +kernel
theorem dX8_tellTooFast_50 : decode cX8_tellTooFast 50 = .ok (.ifCond .eq 18, 3) := by decide +kernel
theorem dX8_tellTooFast_53 : decode cX8_tellTooFast 53 = .ok (.aload_n 0, 1) := by decide +kernel
theorem dX8_tellTooFast_54 : decode cX8_tellTooFast 54 = .ok (.getfield 57, 3) := by decide +kernel
theorem dX8_tellTooFast_57 : decode cX8_tellTooFast 57 = .ok (.iconst 4, 1) := by decide +kernel
theorem dX8_tellTooFast_58 : decode cX8_tellTooFast 58 = .ok (.aload_n 0, 1) := by decide +kernel
theorem dX8_tellTooFast_59 : decode cX8_tellTooFast 59 = .ok (.getfield 19, 3) := by decide +kernel
theorem dX8_tellTooFast_62 : decode cX8_tellTooFast 62 = .ok (.getfield 186, 3) := by decide +kernel
theorem dX8_tellTooFast_65 : decode cX8_tellTooFast 65 = .ok (.invokevirtual 241, 3) := by decide +kernel
theorem dX8_tellTooFast_68 : decode cX8_tellTooFast 68 = .ok (.iload_n 1, 1) := by decide +kernel
theorem dX8_tellTooFast_69 : decode cX8_tellTooFast 69 = .ok (.ifCond .eq 28, 3) := by decide +kernel
theorem dX8_tellTooFast_72 : decode cX8_tellTooFast 72 = .ok (.aload_n 0, 1) := by decide +kernel
theorem dX8_tellTooFast_73 : decode cX8_tellTooFast 73 = .ok (.getfield 36, 3) := by decide +kernel
theorem dX8_tellTooFast_76 : decode cX8_tellTooFast 76 = .ok (.getfield 189, 3) := by decide +kernel
theorem dX8_tellTooFast_79 : decode cX8_tellTooFast 79 = .ok (.ifCond .ne 18, 3) := by decide +kernel
theorem dX8_tellTooFast_82 : decode cX8_tellTooFast 82 = .ok (.aload_n 0, 1) := by decide +kernel
theorem dX8_tellTooFast_83 : decode cX8_tellTooFast 83 = .ok (.getfield 57, 3) := by decide +kernel
theorem dX8_tellTooFast_86 : decode cX8_tellTooFast 86 = .ok (.iconst 5, 1) := by decide +kernel
theorem dX8_tellTooFast_87 : decode cX8_tellTooFast 87 = .ok (.aload_n 0, 1) := by decide +kernel
theorem dX8_tellTooFast_88 : decode cX8_tellTooFast 88 = .ok (.getfield 19, 3) := by decide +kernel
theorem dX8_tellTooFast_91 : decode cX8_tellTooFast 91 = .ok (.getfield 186, 3) := by decide +kernel
theorem dX8_tellTooFast_94 : decode cX8_tellTooFast 94 = .ok (.invokevirtual 241, 3) := by decide +kernel
theorem dX8_tellTooFast_97 : decode cX8_tellTooFast 97 = .ok (.return_, 1) := by decide +kernel
set_option maxRecDepth 20000 in
theorem ggX8_boundary_X6_mode : GoodIn wsX8_boundary wsX6_mode := goodIn_r _ [11, 12, 96, 97] (by decide +kernel) (by decide +kernel)
set_option maxRecDepth 20000 in
theorem gX8_boundary_X6_mode : GoodIn wsX8_boundary (wsV RX8 220 RX6 yX6_mode wsX6_mode) := goodIn_app (goodIn_of _ (by decide +kernel)) ggX8_boundary_X6_mode
set_option maxRecDepth 20000 in
theorem ggX8_boundary_X6_putInForce : GoodIn wsX8_boundary wsX6_putInForce := goodIn_r _ [16, 17, 12, 96, 97] (by decide +kernel) (by decide +kernel)
set_option maxRecDepth 20000 in
theorem gX8_boundary_X6_putInForce : GoodIn wsX8_boundary (wsV RX8 270 RX6 yX6_putInForce wsX6_putInForce) := goodIn_app (goodIn_of _ (by decide +kernel)) ggX8_boundary_X6_putInForce
set_option maxRecDepth 20000 in
theorem ggX8_boundary_X4_keep : GoodIn wsX8_boundary wsX4_keep := goodIn_r _ [22, 23, 24, 25, 26, 98, 99, 100, 101] (by decide +kernel) (by decide +kernel)
set_option maxRecDepth 20000 in
theorem gX8_boundary_X4_keep : GoodIn wsX8_boundary (wsV RX8 241 RX4 yX4_keep wsX4_keep) := goodIn_app (goodIn_of _ (by decide +kernel)) ggX8_boundary_X4_keep
set_option maxRecDepth 20000 in
theorem ggX8_boundary_X8_leaveMode : GoodIn wsX8_boundary wsX8_leaveMode := goodIn_r _ [31, 3, 32, 33, 2, 4, 34, 35, 36, 37, 38, 39, 18, 19, 20, 21, 22, 23, 24, 25, 26, 40, 41, 42, 43, 44, 45, 46, 47, 80, 81, 82, 83, 84, 85, 86, 87, 88, 89, 102, 103, 104, 90, 91, 92, 93, 94, 95, 98, 99, 100, 101] (by decide +kernel) (by decide +kernel)
set_option maxRecDepth 20000 in
theorem gX8_boundary_X8_leaveMode : GoodIn wsX8_boundary (wsV RX8 273 RX8 yX8_leaveMode wsX8_leaveMode) := goodIn_app (goodIn_of _ (by decide +kernel)) ggX8_boundary_X8_leaveMode
set_option maxRecDepth 20000 in
theorem ggX8_boundary_X1_end : GoodIn wsX8_boundary wsX1_end := goodIn_r _ [52, 53, 54, 55, 30, 56, 105, 106] (by decide +kernel) (by decide +kernel)
set_option maxRecDepth 20000 in
theorem gX8_boundary_X1_end : GoodIn wsX8_boundary (wsV RX8 276 RX1 yX1_end wsX1_end) := goodIn_app (goodIn_of _ (by decide +kernel)) ggX8_boundary_X1_end
set_option maxRecDepth 20000 in
theorem ggX8_boundary_X6_inForce : GoodIn wsX8_boundary wsX6_inForce := goodIn_r _ [60, 12, 61, 62, 10, 63, 96, 97] (by decide +kernel) (by decide +kernel)
set_option maxRecDepth 20000 in
theorem gX8_boundary_X6_inForce : GoodIn wsX8_boundary (wsV RX8 83 RX6 yX6_inForce wsX6_inForce) := goodIn_app (goodIn_of _ (by decide +kernel)) ggX8_boundary_X6_inForce
set_option maxRecDepth 20000 in
theorem ggX8_boundary_X5_approach : GoodIn wsX8_boundary wsX5_approach := goodIn_r _ [68, 69, 70, 55, 30, 56, 107, 108, 109] (by decide +kernel) (by decide +kernel)
set_option maxRecDepth 20000 in
theorem gX8_boundary_X5_approach : GoodIn wsX8_boundary (wsV RX8 279 RX5 yX5_approach wsX5_approach) := goodIn_app (goodIn_of _ (by decide +kernel)) ggX8_boundary_X5_approach
set_option maxRecDepth 20000 in
theorem ggX8_boundary_X5_beginCycle : GoodIn wsX8_boundary wsX5_beginCycle := goodIn_r _ [74, 70, 75, 76, 77, 78, 79, 107, 108, 109] (by decide +kernel) (by decide +kernel)
set_option maxRecDepth 20000 in
theorem gX8_boundary_X5_beginCycle : GoodIn wsX8_boundary (wsV RX8 282 RX5 yX5_beginCycle wsX5_beginCycle) := goodIn_app (goodIn_of _ (by decide +kernel)) ggX8_boundary_X5_beginCycle
theorem dX8_boundary_0 : decode cX8_boundary 0 = .ok (.aload_n 0, 1) := by decide +kernel
theorem dX8_boundary_1 : decode cX8_boundary 1 = .ok (.getfield 10, 3) := by decide +kernel
theorem dX8_boundary_4 : decode cX8_boundary 4 = .ok (.invokevirtual 220, 3) := by decide +kernel
theorem dX8_boundary_7 : decode cX8_boundary 7 = .ok (.istore_n 2, 1) := by decide +kernel
theorem dX8_boundary_8 : decode cX8_boundary 8 = .ok (.aload_n 0, 1) := by decide +kernel
theorem dX8_boundary_9 : decode cX8_boundary 9 = .ok (.getfield 10, 3) := by decide +kernel
theorem dX8_boundary_12 : decode cX8_boundary 12 = .ok (.invokevirtual 270, 3) := by decide +kernel
theorem dX8_boundary_15 : decode cX8_boundary 15 = .ok (.ifCond .eq 19, 3) := by decide +kernel
theorem dX8_boundary_18 : decode cX8_boundary 18 = .ok (.aload_n 0, 1) := by decide +kernel
theorem dX8_boundary_19 : decode cX8_boundary 19 = .ok (.getfield 57, 3) := by decide +kernel
theorem dX8_boundary_22 : decode cX8_boundary 22 = .ok (.bipush 6, 2) := by decide +kernel
theorem dX8_boundary_24 : decode cX8_boundary 24 = .ok (.aload_n 0, 1) := by decide +kernel
theorem dX8_boundary_25 : decode cX8_boundary 25 = .ok (.getfield 19, 3) := by decide +kernel
theorem dX8_boundary_28 : decode cX8_boundary 28 = .ok (.getfield 186, 3) := by decide +kernel
theorem dX8_boundary_31 : decode cX8_boundary 31 = .ok (.invokevirtual 241, 3) := by decide +kernel
theorem dX8_boundary_34 : decode cX8_boundary 34 = .ok (.aload_n 0, 1) := by decide +kernel
theorem dX8_boundary_35 : decode cX8_boundary 35 = .ok (.getfield 10, 3) := by decide +kernel
theorem dX8_boundary_38 : decode cX8_boundary 38 = .ok (.invokevirtual 220, 3) := by decide +kernel
theorem dX8_boundary_41 : decode cX8_boundary 41 = .ok (.iload_n 2, 1) := by decide +kernel
theorem dX8_boundary_42 : decode cX8_boundary 42 = .ok (.if_icmp .eq 7, 3) := by decide +kernel
theorem dX8_boundary_45 : decode cX8_boundary 45 = .ok (.aload_n 0, 1) := by decide +kernel
theorem dX8_boundary_46 : decode cX8_boundary 46 = .ok (.invokevirtual 273, 3) := by decide +kernel
theorem dX8_boundary_49 : decode cX8_boundary 49 = .ok (.aload_n 0, 1) := by decide +kernel
theorem dX8_boundary_50 : decode cX8_boundary 50 = .ok (.getfield 50, 3) := by decide +kernel
theorem dX8_boundary_53 : decode cX8_boundary 53 = .ok (.aload_n 0, 1) := by decide +kernel
theorem dX8_boundary_54 : decode cX8_boundary 54 = .ok (.getfield 19, 3) := by decide +kernel
theorem dX8_boundary_57 : decode cX8_boundary 57 = .ok (.getfield 186, 3) := by decide +kernel
theorem dX8_boundary_60 : decode cX8_boundary 60 = .ok (.invokevirtual 276, 3) := by decide +kernel
theorem dX8_boundary_63 : decode cX8_boundary 63 = .ok (.aload_n 0, 1) := by decide +kernel
theorem dX8_boundary_64 : decode cX8_boundary 64 = .ok (.getfield 10, 3) := by decide +kernel
theorem dX8_boundary_67 : decode cX8_boundary 67 = .ok (.iconst 1, 1) := by decide +kernel
theorem dX8_boundary_68 : decode cX8_boundary 68 = .ok (.invokevirtual 83, 3) := by decide +kernel
theorem dX8_boundary_71 : decode cX8_boundary 71 = .ok (.istore_n 3, 1) := by decide +kernel
theorem dX8_boundary_72 : decode cX8_boundary 72 = .ok (.aload_n 0, 1) := by decide +kernel
theorem dX8_boundary_73 : decode cX8_boundary 73 = .ok (.getfield 43, 3) := by decide +kernel
theorem dX8_boundary_76 : decode cX8_boundary 76 = .ok (.iload_n 3, 1) := by decide +kernel
theorem dX8_boundary_77 : decode cX8_boundary 77 = .ok (.aload_n 0, 1) := by decide +kernel
theorem dX8_boundary_78 : decode cX8_boundary 78 = .ok (.getfield 10, 3) := by decide +kernel
theorem dX8_boundary_81 : decode cX8_boundary 81 = .ok (.bipush 12, 2) := by decide +kernel
theorem dX8_boundary_83 : decode cX8_boundary 83 = .ok (.invokevirtual 83, 3) := by decide +kernel
theorem dX8_boundary_86 : decode cX8_boundary 86 = .ok (.invokevirtual 279, 3) := by decide +kernel
theorem dX8_boundary_89 : decode cX8_boundary 89 = .ok (.iload_n 1, 1) := by decide +kernel
theorem dX8_boundary_90 : decode cX8_boundary 90 = .ok (.ifCond .eq 15, 3) := by decide +kernel
theorem dX8_boundary_93 : decode cX8_boundary 93 = .ok (.aload_n 0, 1) := by decide +kernel
theorem dX8_boundary_94 : decode cX8_boundary 94 = .ok (.getfield 10, 3) := by decide +kernel
theorem dX8_boundary_97 : decode cX8_boundary 97 = .ok (.bipush 8, 2) := by decide +kernel
theorem dX8_boundary_99 : decode cX8_boundary 99 = .ok (.invokevirtual 83, 3) := by decide +kernel
theorem dX8_boundary_102 : decode cX8_boundary 102 = .ok (.goto 4, 3) := by decide +kernel
theorem dX8_boundary_105 : decode cX8_boundary 105 = .ok (.iconst 0, 1) := by decide +kernel
theorem dX8_boundary_106 : decode cX8_boundary 106 = .ok (.istore 4, 2) := by decide +kernel
theorem dX8_boundary_108 : decode cX8_boundary 108 = .ok (.aload_n 0, 1) := by decide +kernel
theorem dX8_boundary_109 : decode cX8_boundary 109 = .ok (.getfield 43, 3) := by decide +kernel
theorem dX8_boundary_112 : decode cX8_boundary 112 = .ok (.iload_n 3, 1) := by decide +kernel
theorem dX8_boundary_113 : decode cX8_boundary 113 = .ok (.iload 4, 2) := by decide +kernel
theorem dX8_boundary_115 : decode cX8_boundary 115 = .ok (.iadd, 1) := by decide +kernel
theorem dX8_boundary_116 : decode cX8_boundary 116 = .ok (.aload_n 0, 1) := by decide +kernel
theorem dX8_boundary_117 : decode cX8_boundary 117 = .ok (.getfield 10, 3) := by decide +kernel
theorem dX8_boundary_120 : decode cX8_boundary 120 = .ok (.bipush 11, 2) := by decide +kernel
theorem dX8_boundary_122 : decode cX8_boundary 122 = .ok (.invokevirtual 83, 3) := by decide +kernel
theorem dX8_boundary_125 : decode cX8_boundary 125 = .ok (.iconst 1, 1) := by decide +kernel
theorem dX8_boundary_126 : decode cX8_boundary 126 = .ok (.if_icmp .ne 7, 3) := by decide +kernel
theorem dX8_boundary_129 : decode cX8_boundary 129 = .ok (.iconst 1, 1) := by decide +kernel
theorem dX8_boundary_130 : decode cX8_boundary 130 = .ok (.goto 4, 3) := by decide +kernel
theorem dX8_boundary_133 : decode cX8_boundary 133 = .ok (.iconst 0, 1) := by decide +kernel
theorem dX8_boundary_134 : decode cX8_boundary 134 = .ok (.invokevirtual 282, 3) := by decide +kernel
theorem dX8_boundary_137 : decode cX8_boundary 137 = .ok (.return_, 1) := by decide +kernel
set_option maxRecDepth 20000 in
theorem ggX8_leaveMode_X0_stopAv : GoodIn wsX8_leaveMode wsX0_stopAv := goodIn_r _ [10, 11, 42, 43, 44, 45, 46, 47] (by decide +kernel) (by decide +kernel)
set_option maxRecDepth 20000 in
theorem gX8_leaveMode_X0_stopAv : GoodIn wsX8_leaveMode (wsV RX8 285 RX0 yX0_stopAv wsX0_stopAv) := goodIn_app (goodIn_of _ (by decide +kernel)) ggX8_leaveMode_X0_stopAv
set_option maxRecDepth 20000 in
theorem ggX8_leaveMode_X4_keep : GoodIn wsX8_leaveMode wsX4_keep := goodIn_r _ [16, 17, 18, 19, 20, 48, 49, 50, 51] (by decide +kernel) (by decide +kernel)
set_option maxRecDepth 20000 in
theorem gX8_leaveMode_X4_keep : GoodIn wsX8_leaveMode (wsV RX8 241 RX4 yX4_keep wsX4_keep) := goodIn_app (goodIn_of _ (by decide +kernel)) ggX8_leaveMode_X4_keep
set_option maxRecDepth 20000 in
theorem ggX8_leaveMode_X2_forget : GoodIn wsX8_leaveMode wsX2_forget := goodIn_r _ [25, 26, 27, 28, 39, 40, 41] (by decide +kernel) (by decide +kernel)
set_option maxRecDepth 20000 in
theorem gX8_leaveMode_X2_forget : GoodIn wsX8_leaveMode (wsV RX8 288 RX2 yX2_forget wsX2_forget) := goodIn_app (goodIn_of _ (by decide +kernel)) ggX8_leaveMode_X2_forget
theorem dX8_leaveMode_0 : decode cX8_leaveMode 0 = .ok (.aload_n 0, 1) := by decide +kernel
theorem dX8_leaveMode_1 : decode cX8_leaveMode 1 = .ok (.getfield 19, 3) := by decide +kernel
theorem dX8_leaveMode_4 : decode cX8_leaveMode 4 = .ok (.invokevirtual 285, 3) := by decide +kernel
theorem dX8_leaveMode_7 : decode cX8_leaveMode 7 = .ok (.aload_n 0, 1) := by decide +kernel
theorem dX8_leaveMode_8 : decode cX8_leaveMode 8 = .ok (.getfield 36, 3) := by decide +kernel
theorem dX8_leaveMode_11 : decode cX8_leaveMode 11 = .ok (.getfield 189, 3) := by decide +kernel
theorem dX8_leaveMode_14 : decode cX8_leaveMode 14 = .ok (.ifCond .eq 18, 3) := by decide +kernel
theorem dX8_leaveMode_17 : decode cX8_leaveMode 17 = .ok (.aload_n 0, 1) := by decide +kernel
theorem dX8_leaveMode_18 : decode cX8_leaveMode 18 = .ok (.getfield 57, 3) := by decide +kernel
theorem dX8_leaveMode_21 : decode cX8_leaveMode 21 = .ok (.iconst 5, 1) := by decide +kernel
theorem dX8_leaveMode_22 : decode cX8_leaveMode 22 = .ok (.aload_n 0, 1) := by decide +kernel
theorem dX8_leaveMode_23 : decode cX8_leaveMode 23 = .ok (.getfield 19, 3) := by decide +kernel
theorem dX8_leaveMode_26 : decode cX8_leaveMode 26 = .ok (.getfield 186, 3) := by decide +kernel
theorem dX8_leaveMode_29 : decode cX8_leaveMode 29 = .ok (.invokevirtual 241, 3) := by decide +kernel
theorem dX8_leaveMode_32 : decode cX8_leaveMode 32 = .ok (.aload_n 0, 1) := by decide +kernel
theorem dX8_leaveMode_33 : decode cX8_leaveMode 33 = .ok (.getfield 36, 3) := by decide +kernel
theorem dX8_leaveMode_36 : decode cX8_leaveMode 36 = .ok (.invokevirtual 288, 3) := by decide +kernel
theorem dX8_leaveMode_39 : decode cX8_leaveMode 39 = .ok (.return_, 1) := by decide +kernel
set_option maxRecDepth 20000 in
theorem ggX8_obey_X6_exists : GoodIn wsX8_obey wsX6_exists := goodIn_r _ [6] (by decide +kernel) (by decide +kernel)
set_option maxRecDepth 20000 in
theorem gX8_obey_X6_exists : GoodIn wsX8_obey (va_wsS RX8 291 yX6_exists wsX6_exists) := goodIn_app (goodIn_of _ (by decide +kernel)) ggX8_obey_X6_exists
set_option maxRecDepth 20000 in
theorem ggX8_obey_X6_inForce : GoodIn wsX8_obey wsX6_inForce := goodIn_r _ [10, 11, 12, 4, 5, 6, 32, 33] (by decide +kernel) (by decide +kernel)
set_option maxRecDepth 20000 in
theorem gX8_obey_X6_inForce : GoodIn wsX8_obey (wsV RX8 83 RX6 yX6_inForce wsX6_inForce) := goodIn_app (goodIn_of _ (by decide +kernel)) ggX8_obey_X6_inForce
set_option maxRecDepth 20000 in
theorem ggX8_obey_X6_allows : GoodIn wsX8_obey wsX6_allows := goodIn_r _ [15, 12, 4, 5, 6] (by decide +kernel) (by decide +kernel)
set_option maxRecDepth 20000 in
theorem gX8_obey_X6_allows : GoodIn wsX8_obey (va_wsS RX8 107 yX6_allows wsX6_allows) := goodIn_app (goodIn_of _ (by decide +kernel)) ggX8_obey_X6_allows
set_option maxRecDepth 20000 in
theorem ggX8_obey_X6_ask : GoodIn wsX8_obey wsX6_ask := goodIn_r _ [19, 20, 21, 14, 5, 15, 12, 4, 6, 32, 33] (by decide +kernel) (by decide +kernel)
set_option maxRecDepth 20000 in
theorem gX8_obey_X6_ask : GoodIn wsX8_obey (wsV RX8 119 RX6 yX6_ask wsX6_ask) := goodIn_app (goodIn_of _ (by decide +kernel)) ggX8_obey_X6_ask
theorem dX8_obey_0 : decode cX8_obey 0 = .ok (.iload_n 1, 1) := by decide +kernel
theorem dX8_obey_1 : decode cX8_obey 1 = .ok (.iconst 2, 1) := by decide +kernel
theorem dX8_obey_2 : decode cX8_obey 2 = .ok (.if_icmp .ne 19, 3) := by decide +kernel
theorem dX8_obey_5 : decode cX8_obey 5 = .ok (.iload_n 2, 1) := by decide +kernel
theorem dX8_obey_6 : decode cX8_obey 6 = .ok (.invokestatic 291, 3) := by decide +kernel
theorem dX8_obey_9 : decode cX8_obey 9 = .ok (.ifCond .eq 12, 3) := by decide +kernel
theorem dX8_obey_12 : decode cX8_obey 12 = .ok (.aload_n 0, 1) := by decide +kernel
theorem dX8_obey_13 : decode cX8_obey 13 = .ok (.getfield 10, 3) := by decide +kernel
theorem dX8_obey_16 : decode cX8_obey 16 = .ok (.iload_n 2, 1) := by decide +kernel
theorem dX8_obey_17 : decode cX8_obey 17 = .ok (.invokevirtual 83, 3) := by decide +kernel
theorem dX8_obey_20 : decode cX8_obey 20 = .ok (.ireturn, 1) := by decide +kernel
theorem dX8_obey_21 : decode cX8_obey 21 = .ok (.iload_n 1, 1) := by decide +kernel
theorem dX8_obey_22 : decode cX8_obey 22 = .ok (.iconst 1, 1) := by decide +kernel
theorem dX8_obey_23 : decode cX8_obey 23 = .ok (.if_icmp .ne 11, 3) := by decide +kernel
theorem dX8_obey_26 : decode cX8_obey 26 = .ok (.iload_n 2, 1) := by decide +kernel
theorem dX8_obey_27 : decode cX8_obey 27 = .ok (.iload_n 3, 1) := by decide +kernel
theorem dX8_obey_28 : decode cX8_obey 28 = .ok (.invokestatic 107, 3) := by decide +kernel
theorem dX8_obey_31 : decode cX8_obey 31 = .ok (.ifCond .ne 6, 3) := by decide +kernel
theorem dX8_obey_34 : decode cX8_obey 34 = .ok (.bipush (-3), 2) := by decide +kernel
theorem dX8_obey_36 : decode cX8_obey 36 = .ok (.ireturn, 1) := by decide +kernel
