theorem dX9_step_292 : decode cX9_step 292 = .ok (.istore 7, 2) := by decide +kernel
theorem dX9_step_294 : decode cX9_step 294 = .ok (.iload 7, 2) := by decide +kernel
theorem dX9_step_296 : decode cX9_step 296 = .ok (.iconst 2, 1) := by decide +kernel
theorem dX9_step_297 : decode cX9_step 297 = .ok (.iand, 1) := by decide +kernel
theorem dX9_step_298 : decode cX9_step 298 = .ok (.iconst 2, 1) := by decide +kernel
theorem dX9_step_299 : decode cX9_step 299 = .ok (.if_icmp .ne 8, 3) := by decide +kernel
theorem dX9_step_302 : decode cX9_step 302 = .ok (.iload 7, 2) := by decide +kernel
theorem dX9_step_304 : decode cX9_step 304 = .ok (.goto 20, 3) := by decide +kernel
theorem dX9_step_307 : decode cX9_step 307 = .ok (.iload 7, 2) := by decide +kernel
theorem dX9_step_309 : decode cX9_step 309 = .ok (.aload_n 0, 1) := by decide +kernel
theorem dX9_step_310 : decode cX9_step 310 = .ok (.iload 7, 2) := by decide +kernel
theorem dX9_step_312 : decode cX9_step 312 = .ok (.ifCond .ne 7, 3) := by decide +kernel
theorem dX9_step_315 : decode cX9_step 315 = .ok (.iconst 1, 1) := by decide +kernel
theorem dX9_step_316 : decode cX9_step 316 = .ok (.goto 4, 3) := by decide +kernel
theorem dX9_step_319 : decode cX9_step 319 = .ok (.iconst 0, 1) := by decide +kernel
theorem dX9_step_320 : decode cX9_step 320 = .ok (.invokevirtual 133, 3) := by decide +kernel
theorem dX9_step_323 : decode cX9_step 323 = .ok (.iadd, 1) := by decide +kernel
theorem dX9_step_324 : decode cX9_step 324 = .ok (.ireturn, 1) := by decide +kernel
set_option maxRecDepth 20000 in
theorem ggX9_pace_X9_mode : GoodIn wsX9_pace wsX9_mode := goodIn_r _ [12, 5, 47, 48, 49, 50, 51, 52, 53, 54, 55, 56, 57, 58, 59, 60, 61, 62, 63, 64, 65, 66, 67, 68, 69, 70, 71, 72, 73, 74, 75, 76, 77] (by decide +kernel) (by decide +kernel)
set_option maxRecDepth 20000 in
theorem gX9_pace_X9_mode : GoodIn wsX9_pace (wsV RX9 58 RX9 yX9_mode wsX9_mode) := goodIn_app (goodIn_of _ (by decide +kernel)) ggX9_pace_X9_mode
set_option maxRecDepth 20000 in
theorem ggX9_pace_X9_atrialEvent : GoodIn wsX9_pace wsX9_atrialEvent := goodIn_r _ [16, 1, 17, 3, 18, 6, 7, 8, 9, 10, 11, 12, 5, 19, 20, 21, 22, 23, 24, 25, 26, 27, 28, 29, 30, 31, 32, 33, 34, 35, 36, 37, 38, 39, 40, 41, 42, 2, 47, 48, 49, 50, 51, 52, 53, 54, 55, 56, 57, 58, 59, 60, 61, 62, 63, 64, 65, 66, 67, 68, 69, 70, 71, 72, 73, 74, 75, 76, 77] (by decide +kernel) (by decide +kernel)
set_option maxRecDepth 20000 in
theorem gX9_pace_X9_atrialEvent : GoodIn wsX9_pace (wsV RX9 130 RX9 yX9_atrialEvent wsX9_atrialEvent) := goodIn_app (goodIn_of _ (by decide +kernel)) ggX9_pace_X9_atrialEvent
set_option maxRecDepth 20000 in
theorem ggX9_pace_X9_ventricularEvent : GoodIn wsX9_pace wsX9_ventricularEvent := goodIn_r _ [46, 4, 6, 3, 8, 9, 10, 11, 12, 5, 19, 20, 21, 22, 23, 24, 25, 26, 33, 34, 35, 36, 37, 38, 31, 32, 18, 39, 40, 41, 42, 2, 47, 48, 49, 50, 51, 52, 53, 54, 55, 56, 57, 58, 59, 60, 61, 62, 63, 64, 65, 66, 67, 68, 69, 70, 71, 72, 73, 74, 75, 76, 77] (by decide +kernel) (by decide +kernel)
set_option maxRecDepth 20000 in
theorem gX9_pace_X9_ventricularEvent : GoodIn wsX9_pace (wsV RX9 127 RX9 yX9_ventricularEvent wsX9_ventricularEvent) := goodIn_app (goodIn_of _ (by decide +kernel)) ggX9_pace_X9_ventricularEvent
theorem dX9_pace_0 : decode cX9_pace 0 = .ok (.iconst 0, 1) := by decide +kernel
theorem dX9_pace_1 : decode cX9_pace 1 = .ok (.istore_n 2, 1) := by decide +kernel
theorem dX9_pace_2 : decode cX9_pace 2 = .ok (.aload_n 0, 1) := by decide +kernel
theorem dX9_pace_3 : decode cX9_pace 3 = .ok (.bipush 18, 2) := by decide +kernel
theorem dX9_pace_5 : decode cX9_pace 5 = .ok (.invokevirtual 58, 3) := by decide +kernel
theorem dX9_pace_8 : decode cX9_pace 8 = .ok (.ifCond .eq 22, 3) := by decide +kernel
theorem dX9_pace_11 : decode cX9_pace 11 = .ok (.aload_n 0, 1) := by decide +kernel
theorem dX9_pace_12 : decode cX9_pace 12 = .ok (.getfield 62, 3) := by decide +kernel
theorem dX9_pace_15 : decode cX9_pace 15 = .ok (.aload_n 0, 1) := by decide +kernel
theorem dX9_pace_16 : decode cX9_pace 16 = .ok (.getfield 30, 3) := by decide +kernel
theorem dX9_pace_19 : decode cX9_pace 19 = .ok (.if_icmp .lt 7, 3) := by decide +kernel
theorem dX9_pace_22 : decode cX9_pace 22 = .ok (.iconst 1, 1) := by decide +kernel
theorem dX9_pace_23 : decode cX9_pace 23 = .ok (.goto 47, 3) := by decide +kernel
theorem dX9_pace_26 : decode cX9_pace 26 = .ok (.iconst 0, 1) := by decide +kernel
theorem dX9_pace_27 : decode cX9_pace 27 = .ok (.goto 43, 3) := by decide +kernel
theorem dX9_pace_30 : decode cX9_pace 30 = .ok (.aload_n 0, 1) := by decide +kernel
theorem dX9_pace_31 : decode cX9_pace 31 = .ok (.sipush 196, 3) := by decide +kernel
theorem dX9_pace_34 : decode cX9_pace 34 = .ok (.invokevirtual 58, 3) := by decide +kernel
theorem dX9_pace_37 : decode cX9_pace 37 = .ok (.ifCond .eq 32, 3) := by decide +kernel
theorem dX9_pace_40 : decode cX9_pace 40 = .ok (.aload_n 0, 1) := by decide +kernel
theorem dX9_pace_41 : decode cX9_pace 41 = .ok (.getfield 94, 3) := by decide +kernel
theorem dX9_pace_44 : decode cX9_pace 44 = .ok (.ifCond .ne 25, 3) := by decide +kernel
theorem dX9_pace_47 : decode cX9_pace 47 = .ok (.aload_n 0, 1) := by decide +kernel
theorem dX9_pace_48 : decode cX9_pace 48 = .ok (.getfield 104, 3) := by decide +kernel
theorem dX9_pace_51 : decode cX9_pace 51 = .ok (.aload_n 0, 1) := by decide +kernel
theorem dX9_pace_52 : decode cX9_pace 52 = .ok (.getfield 30, 3) := by decide +kernel
theorem dX9_pace_55 : decode cX9_pace 55 = .ok (.aload_n 0, 1) := by decide +kernel
theorem dX9_pace_56 : decode cX9_pace 56 = .ok (.getfield 16, 3) := by decide +kernel
theorem dX9_pace_59 : decode cX9_pace 59 = .ok (.iconst 3, 1) := by decide +kernel
theorem dX9_pace_60 : decode cX9_pace 60 = .ok (.iaload, 1) := by decide +kernel
theorem dX9_pace_61 : decode cX9_pace 61 = .ok (.isub, 1) := by decide +kernel
theorem dX9_pace_62 : decode cX9_pace 62 = .ok (.if_icmp .lt 7, 3) := by decide +kernel
theorem dX9_pace_65 : decode cX9_pace 65 = .ok (.iconst 1, 1) := by decide +kernel
theorem dX9_pace_66 : decode cX9_pace 66 = .ok (.goto 4, 3) := by decide +kernel
theorem dX9_pace_69 : decode cX9_pace 69 = .ok (.iconst 0, 1) := by decide +kernel
theorem dX9_pace_70 : decode cX9_pace 70 = .ok (.istore_n 3, 1) := by decide +kernel
theorem dX9_pace_71 : decode cX9_pace 71 = .ok (.iload_n 1, 1) := by decide +kernel
theorem dX9_pace_72 : decode cX9_pace 72 = .ok (.ifCond .eq 14, 3) := by decide +kernel
theorem dX9_pace_75 : decode cX9_pace 75 = .ok (.iload_n 3, 1) := by decide +kernel
theorem dX9_pace_76 : decode cX9_pace 76 = .ok (.ifCond .eq 10, 3) := by decide +kernel
theorem dX9_pace_79 : decode cX9_pace 79 = .ok (.aload_n 0, 1) := by decide +kernel
theorem dX9_pace_80 : decode cX9_pace 80 = .ok (.iconst 0, 1) := by decide +kernel
theorem dX9_pace_81 : decode cX9_pace 81 = .ok (.invokevirtual 130, 3) := by decide +kernel
theorem dX9_pace_84 : decode cX9_pace 84 = .ok (.iconst 4, 1) := by decide +kernel
theorem dX9_pace_85 : decode cX9_pace 85 = .ok (.istore_n 2, 1) := by decide +kernel
theorem dX9_pace_86 : decode cX9_pace 86 = .ok (.aload_n 0, 1) := by decide +kernel
theorem dX9_pace_87 : decode cX9_pace 87 = .ok (.getfield 79, 3) := by decide +kernel
theorem dX9_pace_90 : decode cX9_pace 90 = .ok (.ifCond .eq 33, 3) := by decide +kernel
theorem dX9_pace_93 : decode cX9_pace 93 = .ok (.aload_n 0, 1) := by decide +kernel
theorem dX9_pace_94 : decode cX9_pace 94 = .ok (.getfield 97, 3) := by decide +kernel
theorem dX9_pace_97 : decode cX9_pace 97 = .ok (.aload_n 0, 1) := by decide +kernel
theorem dX9_pace_98 : decode cX9_pace 98 = .ok (.getfield 16, 3) := by decide +kernel
theorem dX9_pace_101 : decode cX9_pace 101 = .ok (.iconst 3, 1) := by decide +kernel
theorem dX9_pace_102 : decode cX9_pace 102 = .ok (.iaload, 1) := by decide +kernel
theorem dX9_pace_103 : decode cX9_pace 103 = .ok (.if_icmp .lt 20, 3) := by decide +kernel
theorem dX9_pace_106 : decode cX9_pace 106 = .ok (.aload_n 0, 1) := by decide +kernel
theorem dX9_pace_107 : decode cX9_pace 107 = .ok (.getfield 104, 3) := by decide +kernel
theorem dX9_pace_110 : decode cX9_pace 110 = .ok (.aload_n 0, 1) := by decide +kernel
theorem dX9_pace_111 : decode cX9_pace 111 = .ok (.getfield 16, 3) := by decide +kernel
theorem dX9_pace_114 : decode cX9_pace 114 = .ok (.iconst 2, 1) := by decide +kernel
theorem dX9_pace_115 : decode cX9_pace 115 = .ok (.iaload, 1) := by decide +kernel
theorem dX9_pace_116 : decode cX9_pace 116 = .ok (.if_icmp .lt 7, 3) := by decide +kernel
theorem dX9_pace_119 : decode cX9_pace 119 = .ok (.iconst 1, 1) := by decide +kernel
theorem dX9_pace_120 : decode cX9_pace 120 = .ok (.goto 4, 3) := by decide +kernel
theorem dX9_pace_123 : decode cX9_pace 123 = .ok (.iconst 0, 1) := by decide +kernel
theorem dX9_pace_124 : decode cX9_pace 124 = .ok (.istore 4, 2) := by decide +kernel
theorem dX9_pace_126 : decode cX9_pace 126 = .ok (.aload_n 0, 1) := by decide +kernel
theorem dX9_pace_127 : decode cX9_pace 127 = .ok (.bipush 18, 2) := by decide +kernel
theorem dX9_pace_129 : decode cX9_pace 129 = .ok (.invokevirtual 58, 3) := by decide +kernel
theorem dX9_pace_132 : decode cX9_pace 132 = .ok (.ifCond .ne 29, 3) := by decide +kernel
theorem dX9_pace_135 : decode cX9_pace 135 = .ok (.aload_n 0, 1) := by decide +kernel
theorem dX9_pace_136 : decode cX9_pace 136 = .ok (.getfield 104, 3) := by decide +kernel
theorem dX9_pace_139 : decode cX9_pace 139 = .ok (.aload_n 0, 1) := by decide +kernel
theorem dX9_pace_140 : decode cX9_pace 140 = .ok (.getfield 30, 3) := by decide +kernel
theorem dX9_pace_143 : decode cX9_pace 143 = .ok (.if_icmp .ge 8, 3) := by decide +kernel
theorem dX9_pace_146 : decode cX9_pace 146 = .ok (.iload 4, 2) := by decide +kernel
theorem dX9_pace_148 : decode cX9_pace 148 = .ok (.ifCond .eq 13, 3) := by decide +kernel
theorem dX9_pace_151 : decode cX9_pace 151 = .ok (.aload_n 0, 1) := by decide +kernel
theorem dX9_pace_152 : decode cX9_pace 152 = .ok (.iconst 0, 1) := by decide +kernel
theorem dX9_pace_153 : decode cX9_pace 153 = .ok (.invokevirtual 127, 3) := by decide +kernel
theorem dX9_pace_156 : decode cX9_pace 156 = .ok (.iload_n 2, 1) := by decide +kernel
theorem dX9_pace_157 : decode cX9_pace 157 = .ok (.bipush 8, 2) := by decide +kernel
theorem dX9_pace_159 : decode cX9_pace 159 = .ok (.iadd, 1) := by decide +kernel
theorem dX9_pace_160 : decode cX9_pace 160 = .ok (.istore_n 2, 1) := by decide +kernel
theorem dX9_pace_161 : decode cX9_pace 161 = .ok (.iload_n 2, 1) := by decide +kernel
theorem dX9_pace_162 : decode cX9_pace 162 = .ok (.ireturn, 1) := by decide +kernel
set_option maxRecDepth 20000 in
theorem ggX9_tick_X9_near : GoodIn wsX9_tick wsX9_near := goodIn_r _ [5] (by decide +kernel) (by decide +kernel)
set_option maxRecDepth 20000 in
theorem gX9_tick_X9_near : GoodIn wsX9_tick (va_wsS RX9 137 yX9_near wsX9_near) := goodIn_app (goodIn_of _ (by decide +kernel)) ggX9_tick_X9_near
set_option maxRecDepth 20000 in
theorem ggX9_tick_X9_step : GoodIn wsX9_tick wsX9_step := goodIn_r _ [9, 10, 11, 12, 13, 14, 15, 16, 17, 18, 19, 20, 21, 22, 23, 4, 24, 25, 26, 27, 28, 29, 30, 31, 32, 33, 34, 35, 36, 37, 38, 39, 40, 41, 42, 43, 44, 45, 46, 47, 48, 49, 50, 51, 52, 53, 54, 55, 56, 57, 58, 59, 60, 61, 62, 63, 64, 65, 66, 67, 68, 69, 70, 71, 72, 73, 74, 75, 76, 77, 78, 79, 80, 81, 82, 83, 84, 85, 86, 87, 88, 89, 90, 91, 92, 93, 94, 95, 96, 97, 98, 99] (by decide +kernel) (by decide +kernel)
set_option maxRecDepth 20000 in
theorem gX9_tick_X9_step : GoodIn wsX9_tick (wsV RX9 141 RX9 yX9_step wsX9_step) := goodIn_app (goodIn_of _ (by decide +kernel)) ggX9_tick_X9_step
theorem dX9_tick_0 : decode cX9_tick 0 = .ok (.aload_n 0, 1) := by decide +kernel
theorem dX9_tick_1 : decode cX9_tick 1 = .ok (.iconst 0, 1) := by decide +kernel
theorem dX9_tick_2 : decode cX9_tick 2 = .ok (.putfield 49, 3) := by decide +kernel
theorem dX9_tick_5 : decode cX9_tick 5 = .ok (.aload_n 0, 1) := by decide +kernel
theorem dX9_tick_6 : decode cX9_tick 6 = .ok (.iload_n 1, 1) := by decide +kernel
theorem dX9_tick_7 : decode cX9_tick 7 = .ok (.sipush (-1000), 3) := by decide +kernel
theorem dX9_tick_10 : decode cX9_tick 10 = .ok (.sipush 1000, 3) := by decide +kernel
theorem dX9_tick_13 : decode cX9_tick 13 = .ok (.invokestatic 137, 3) := by decide +kernel
theorem dX9_tick_16 : decode cX9_tick 16 = .ok (.iload_n 2, 1) := by decide +kernel
theorem dX9_tick_17 : decode cX9_tick 17 = .ok (.sipush (-1000), 3) := by decide +kernel
theorem dX9_tick_20 : decode cX9_tick 20 = .ok (.sipush 1000, 3) := by decide +kernel
theorem dX9_tick_23 : decode cX9_tick 23 = .ok (.invokestatic 137, 3) := by decide +kernel
theorem dX9_tick_26 : decode cX9_tick 26 = .ok (.iload_n 3, 1) := by decide +kernel
theorem dX9_tick_27 : decode cX9_tick 27 = .ok (.iconst 0, 1) := by decide +kernel
theorem dX9_tick_28 : decode cX9_tick 28 = .ok (.sipush 255, 3) := by decide +kernel
theorem dX9_tick_31 : decode cX9_tick 31 = .ok (.invokestatic 137, 3) := by decide +kernel
theorem dX9_tick_34 : decode cX9_tick 34 = .ok (.invokevirtual 141, 3) := by decide +kernel
theorem dX9_tick_37 : decode cX9_tick 37 = .ok (.ireturn, 1) := by decide +kernel
set_option maxRecDepth 20000 in
theorem ggX9_run_X9_near : GoodIn wsX9_run wsX9_near := goodIn_r _ [5] (by decide +kernel) (by decide +kernel)
set_option maxRecDepth 20000 in
theorem gX9_run_X9_near : GoodIn wsX9_run (va_wsS RX9 137 yX9_near wsX9_near) := goodIn_app (goodIn_of _ (by decide +kernel)) ggX9_run_X9_near
set_option maxRecDepth 20000 in
theorem ggX9_run_X9_step : GoodIn wsX9_run wsX9_step := goodIn_r _ [9, 10, 11, 12, 13, 14, 15, 16, 17, 18, 19, 20, 21, 22, 23, 4, 24, 25, 26, 27, 28, 29, 30, 31, 32, 33, 34, 35, 36, 37, 38, 39, 40, 41, 42, 43, 44, 45, 46, 47, 48, 49, 50, 51, 52, 53, 54, 55, 56, 57, 58, 59, 60, 61, 62, 63, 64, 65, 66, 67, 68, 69, 70, 71, 72, 73, 74, 75, 76, 77, 78, 79, 80, 81, 82, 83, 84, 85, 86, 87, 88, 89, 90, 91, 92, 93, 94, 95, 96, 97, 98, 99] (by decide +kernel) (by decide +kernel)
set_option maxRecDepth 20000 in
theorem gX9_run_X9_step : GoodIn wsX9_run (wsV RX9 141 RX9 yX9_step wsX9_step) := goodIn_app (goodIn_of _ (by decide +kernel)) ggX9_run_X9_step
theorem dX9_run_0 : decode cX9_run 0 = .ok (.aload_n 0, 1) := by decide +kernel
theorem dX9_run_1 : decode cX9_run 1 = .ok (.iconst 0, 1) := by decide +kernel
theorem dX9_run_2 : decode cX9_run 2 = .ok (.putfield 49, 3) := by decide +kernel
theorem dX9_run_5 : decode cX9_run 5 = .ok (.iload_n 1, 1) := by decide +kernel
theorem dX9_run_6 : decode cX9_run 6 = .ok (.iconst 1, 1) := by decide +kernel
theorem dX9_run_7 : decode cX9_run 7 = .ok (.if_icmp .lt 9, 3) := by decide +kernel
theorem dX9_run_10 : decode cX9_run 10 = .ok (.iload_n 1, 1) := by decide +kernel
theorem dX9_run_11 : decode cX9_run 11 = .ok (.bipush 60, 2) := by decide +kernel
theorem dX9_run_13 : decode cX9_run 13 = .ok (.if_icmp .le 5, 3) := by decide +kernel
theorem dX9_run_16 : decode cX9_run 16 = .ok (.iconst (-1), 1) := by decide +kernel
theorem dX9_run_17 : decode cX9_run 17 = .ok (.ireturn, 1) := by decide +kernel
theorem dX9_run_18 : decode cX9_run 18 = .ok (.iconst 0, 1) := by decide +kernel
theorem dX9_run_19 : decode cX9_run 19 = .ok (.istore 5, 2) := by decide +kernel
theorem dX9_run_21 : decode cX9_run 21 = .ok (.iconst 0, 1) := by decide +kernel
theorem dX9_run_22 : decode cX9_run 22 = .ok (.istore 6, 2) := by decide +kernel
theorem dX9_run_24 : decode cX9_run 24 = .ok (.iload 6, 2) := by decide +kernel
theorem dX9_run_26 : decode cX9_run 26 = .ok (.iload_n 1, 1) := by decide +kernel
theorem dX9_run_27 : decode cX9_run 27 = .ok (.if_icmp .ge 62, 3) := by decide +kernel
theorem dX9_run_30 : decode cX9_run 30 = .ok (.aload_n 0, 1) := by decide +kernel
theorem dX9_run_31 : decode cX9_run 31 = .ok (.iload_n 2, 1) := by decide +kernel
theorem dX9_run_32 : decode cX9_run 32 = .ok (.sipush (-1000), 3) := by decide +kernel
theorem dX9_run_35 : decode cX9_run 35 = .ok (.sipush 1000, 3) := by decide +kernel
theorem dX9_run_38 : decode cX9_run 38 = .ok (.invokestatic 137, 3) := by decide +kernel
theorem dX9_run_41 : decode cX9_run 41 = .ok (.iload_n 3, 1) := by decide +kernel
theorem dX9_run_42 : decode cX9_run 42 = .ok (.sipush (-1000), 3) := by decide +kernel
theorem dX9_run_45 : decode cX9_run 45 = .ok (.sipush 1000, 3) := by decide +kernel
theorem dX9_run_48 : decode cX9_run 48 = .ok (.invokestatic 137, 3) := by decide +kernel
theorem dX9_run_51 : decode cX9_run 51 = .ok (.iload 4, 2) := by decide +kernel
theorem dX9_run_53 : decode cX9_run 53 = .ok (.iconst 0, 1) := by decide +kernel
theorem dX9_run_54 : decode cX9_run 54 = .ok (.sipush 255, 3) := by decide +kernel
theorem dX9_run_57 : decode cX9_run 57 = .ok (.invokestatic 137, 3) := by decide +kernel
theorem dX9_run_60 : decode cX9_run 60 = .ok (.invokevirtual 141, 3) := by decide +kernel
theorem dX9_run_63 : decode cX9_run 63 = .ok (.istore 7, 2) := by decide +kernel
theorem dX9_run_65 : decode cX9_run 65 = .ok (.iload 5, 2) := by decide +kernel
theorem dX9_run_67 : decode cX9_run 67 = .ok (.iload 7, 2) := by decide +kernel
theorem dX9_run_69 : decode cX9_run 69 = .ok (.iconst 2, 1) := by decide +kernel
theorem dX9_run_70 : decode cX9_run 70 = .ok (.ishr, 1) := by decide +kernel
theorem dX9_run_71 : decode cX9_run 71 = .ok (.iconst 1, 1) := by decide +kernel
theorem dX9_run_72 : decode cX9_run 72 = .ok (.iand, 1) := by decide +kernel
theorem dX9_run_73 : decode cX9_run 73 = .ok (.iadd, 1) := by decide +kernel
theorem dX9_run_74 : decode cX9_run 74 = .ok (.iload 7, 2) := by decide +kernel
theorem dX9_run_76 : decode cX9_run 76 = .ok (.iconst 3, 1) := by decide +kernel
theorem dX9_run_77 : decode cX9_run 77 = .ok (.ishr, 1) := by decide +kernel
theorem dX9_run_78 : decode cX9_run 78 = .ok (.iconst 1, 1) := by decide +kernel
theorem dX9_run_79 : decode cX9_run 79 = .ok (.iand, 1) := by decide +kernel
theorem dX9_run_80 : decode cX9_run 80 = .ok (.iadd, 1) := by decide +kernel
theorem dX9_run_81 : decode cX9_run 81 = .ok (.istore 5, 2) := by decide +kernel
theorem dX9_run_83 : decode cX9_run 83 = .ok (.iinc 6 1, 3) := by decide +kernel
theorem dX9_run_86 : decode cX9_run 86 = .ok (.goto (-62), 3) := by decide +kernel
theorem dX9_run_89 : decode cX9_run 89 = .ok (.iload 5, 2) := by decide +kernel
theorem dX9_run_91 : decode cX9_run 91 = .ok (.ireturn, 1) := by decide +kernel
theorem dX9_fits_0 : decode cX9_fits 0 = .ok (.iload_n 1, 1) := by decide +kernel
theorem dX9_fits_1 : decode cX9_fits 1 = .ok (.ifCond .lt 33, 3) := by decide +kernel
theorem dX9_fits_4 : decode cX9_fits 4 = .ok (.iload_n 1, 1) := by decide +kernel
theorem dX9_fits_5 : decode cX9_fits 5 = .ok (.bipush 14, 2) := by decide +kernel
theorem dX9_fits_7 : decode cX9_fits 7 = .ok (.if_icmp .ge 27, 3) := by decide +kernel
theorem dX9_fits_10 : decode cX9_fits 10 = .ok (.iload_n 2, 1) := by decide +kernel
theorem dX9_fits_11 : decode cX9_fits 11 = .ok (.aload_n 0, 1) := by decide +kernel
theorem dX9_fits_12 : decode cX9_fits 12 = .ok (.getfield 7, 3) := by decide +kernel
theorem dX9_fits_15 : decode cX9_fits 15 = .ok (.iload_n 1, 1) := by decide +kernel
theorem dX9_fits_16 : decode cX9_fits 16 = .ok (.iaload, 1) := by decide +kernel
theorem dX9_fits_17 : decode cX9_fits 17 = .ok (.if_icmp .lt 17, 3) := by decide +kernel
theorem dX9_fits_20 : decode cX9_fits 20 = .ok (.iload_n 2, 1) := by decide +kernel
theorem dX9_fits_21 : decode cX9_fits 21 = .ok (.aload_n 0, 1) := by decide +kernel
theorem dX9_fits_22 : decode cX9_fits 22 = .ok (.getfield 13, 3) := by decide +kernel
theorem dX9_fits_25 : decode cX9_fits 25 = .ok (.iload_n 1, 1) := by decide +kernel
theorem dX9_fits_26 : decode cX9_fits 26 = .ok (.iaload, 1) := by decide +kernel
theorem dX9_fits_27 : decode cX9_fits 27 = .ok (.if_icmp .gt 7, 3) := by decide +kernel
theorem dX9_fits_30 : decode cX9_fits 30 = .ok (.iconst 1, 1) := by decide +kernel
theorem dX9_fits_31 : decode cX9_fits 31 = .ok (.goto 4, 3) := by decide +kernel
theorem dX9_fits_34 : decode cX9_fits 34 = .ok (.iconst 0, 1) := by decide +kernel
theorem dX9_fits_35 : decode cX9_fits 35 = .ok (.ireturn, 1) := by decide +kernel
theorem dX9_put_0 : decode cX9_put 0 = .ok (.aload_n 0, 1) := by decide +kernel
theorem dX9_put_1 : decode cX9_put 1 = .ok (.getfield 22, 3) := by decide +kernel
theorem dX9_put_4 : decode cX9_put 4 = .ok (.iload_n 1, 1) := by decide +kernel
theorem dX9_put_5 : decode cX9_put 5 = .ok (.baload, 1) := by decide +kernel
theorem dX9_put_6 : decode cX9_put 6 = .ok (.ifCond .eq 12, 3) := by decide +kernel
theorem dX9_put_9 : decode cX9_put 9 = .ok (.aload_n 0, 1) := by decide +kernel
theorem dX9_put_10 : decode cX9_put 10 = .ok (.getfield 19, 3) := by decide +kernel
theorem dX9_put_13 : decode cX9_put 13 = .ok (.iload_n 1, 1) := by decide +kernel
theorem dX9_put_14 : decode cX9_put 14 = .ok (.iaload, 1) := by decide +kernel
theorem dX9_put_15 : decode cX9_put 15 = .ok (.goto 9, 3) := by decide +kernel
theorem dX9_put_18 : decode cX9_put 18 = .ok (.aload_n 0, 1) := by decide +kernel
theorem dX9_put_19 : decode cX9_put 19 = .ok (.getfield 16, 3) := by decide +kernel
theorem dX9_put_22 : decode cX9_put 22 = .ok (.iload_n 1, 1) := by decide +kernel
theorem dX9_put_23 : decode cX9_put 23 = .ok (.iaload, 1) := by decide +kernel
theorem dX9_put_24 : decode cX9_put 24 = .ok (.istore_n 3, 1) := by decide +kernel
theorem dX9_put_25 : decode cX9_put 25 = .ok (.aload_n 0, 1) := by decide +kernel
theorem dX9_put_26 : decode cX9_put 26 = .ok (.getfield 22, 3) := by decide +kernel
theorem dX9_put_29 : decode cX9_put 29 = .ok (.iload_n 1, 1) := by decide +kernel
theorem dX9_put_30 : decode cX9_put 30 = .ok (.iconst 1, 1) := by decide +kernel
theorem dX9_put_31 : decode cX9_put 31 = .ok (.bastore, 1) := by decide +kernel
theorem dX9_put_32 : decode cX9_put 32 = .ok (.aload_n 0, 1) := by decide +kernel
theorem dX9_put_33 : decode cX9_put 33 = .ok (.getfield 19, 3) := by decide +kernel
theorem dX9_put_36 : decode cX9_put 36 = .ok (.iload_n 1, 1) := by decide +kernel
theorem dX9_put_37 : decode cX9_put 37 = .ok (.iload_n 2, 1) := by decide +kernel
theorem dX9_put_38 : decode cX9_put 38 = .ok (.iastore, 1) := by decide +kernel
theorem dX9_put_39 : decode cX9_put 39 = .ok (.iload_n 3, 1) := by decide +kernel
theorem dX9_put_40 : decode cX9_put 40 = .ok (.ireturn, 1) := by decide +kernel
set_option maxRecDepth 20000 in
theorem ggX9_program_X9_fits : GoodIn wsX9_program wsX9_fits := goodIn_r _ [7, 8, 9, 17, 18, 19, 20, 21, 22, 23, 24, 25, 26, 27, 28, 29, 30, 31, 32, 33, 34, 35, 36, 37, 38, 39, 40, 41, 42, 43, 44, 45, 46, 47] (by decide +kernel) (by decide +kernel)
set_option maxRecDepth 20000 in
theorem gX9_program_X9_fits : GoodIn wsX9_program (wsV RX9 144 RX9 yX9_fits wsX9_fits) := goodIn_app (goodIn_of _ (by decide +kernel)) ggX9_program_X9_fits
set_option maxRecDepth 20000 in
theorem ggX9_program_X9_put : GoodIn wsX9_program wsX9_put := goodIn_r _ [13, 14, 15, 16, 17, 18, 19, 20, 21, 22, 23, 24, 25, 26, 27, 28, 29, 30, 31, 32, 33, 34, 35, 36, 37, 38, 39, 40, 41, 42, 43, 44, 45, 46, 47] (by decide +kernel) (by decide +kernel)
set_option maxRecDepth 20000 in
theorem gX9_program_X9_put : GoodIn wsX9_program (wsV RX9 151 RX9 yX9_put wsX9_put) := goodIn_app (goodIn_of _ (by decide +kernel)) ggX9_program_X9_put
theorem dX9_program_0 : decode cX9_program 0 = .ok (.aload_n 0, 1) := by decide +kernel
theorem dX9_program_1 : decode cX9_program 1 = .ok (.aload_n 0, 1) := by decide +kernel
theorem dX9_program_2 : decode cX9_program 2 = .ok (.iload_n 1, 1) := by decide +kernel
theorem dX9_program_3 : decode cX9_program 3 = .ok (.iload_n 2, 1) := by decide +kernel
theorem dX9_program_4 : decode cX9_program 4 = .ok (.invokevirtual 144, 3) := by decide +kernel
theorem dX9_program_7 : decode cX9_program 7 = .ok (.ifCond .ne 7, 3) := by decide +kernel
theorem dX9_program_10 : decode cX9_program 10 = .ok (.iconst 1, 1) := by decide +kernel
theorem dX9_program_11 : decode cX9_program 11 = .ok (.goto 16, 3) := by decide +kernel
theorem dX9_program_14 : decode cX9_program 14 = .ok (.aload_n 0, 1) := by decide +kernel
theorem dX9_program_15 : decode cX9_program 15 = .ok (.getfield 148, 3) := by decide +kernel
theorem dX9_program_18 : decode cX9_program 18 = .ok (.iconst 3, 1) := by decide +kernel
theorem dX9_program_19 : decode cX9_program 19 = .ok (.if_icmp .ne 7, 3) := by decide +kernel
theorem dX9_program_22 : decode cX9_program 22 = .ok (.iconst 2, 1) := by decide +kernel
theorem dX9_program_23 : decode cX9_program 23 = .ok (.goto 4, 3) := by decide +kernel
theorem dX9_program_26 : decode cX9_program 26 = .ok (.iconst 0, 1) := by decide +kernel
theorem dX9_program_27 : decode cX9_program 27 = .ok (.putfield 49, 3) := by decide +kernel
theorem dX9_program_30 : decode cX9_program 30 = .ok (.aload_n 0, 1) := by decide +kernel
theorem dX9_program_31 : decode cX9_program 31 = .ok (.getfield 49, 3) := by decide +kernel
theorem dX9_program_34 : decode cX9_program 34 = .ok (.ifCond .ne 12, 3) := by decide +kernel
theorem dX9_program_37 : decode cX9_program 37 = .ok (.aload_n 0, 1) := by decide +kernel
theorem dX9_program_38 : decode cX9_program 38 = .ok (.iload_n 1, 1) := by decide +kernel
theorem dX9_program_39 : decode cX9_program 39 = .ok (.iload_n 2, 1) := by decide +kernel
theorem dX9_program_40 : decode cX9_program 40 = .ok (.invokevirtual 151, 3) := by decide +kernel
theorem dX9_program_43 : decode cX9_program 43 = .ok (.goto 4, 3) := by decide +kernel
theorem dX9_program_46 : decode cX9_program 46 = .ok (.iconst 0, 1) := by decide +kernel
theorem dX9_program_47 : decode cX9_program 47 = .ok (.ireturn, 1) := by decide +kernel
theorem dX9_frameSum_0 : decode cX9_frameSum 0 = .ok (.iconst 0, 1) := by decide +kernel
theorem dX9_frameSum_1 : decode cX9_frameSum 1 = .ok (.istore_n 1, 1) := by decide +kernel
theorem dX9_frameSum_2 : decode cX9_frameSum 2 = .ok (.iconst 1, 1) := by decide +kernel
theorem dX9_frameSum_3 : decode cX9_frameSum 3 = .ok (.istore_n 2, 1) := by decide +kernel
theorem dX9_frameSum_4 : decode cX9_frameSum 4 = .ok (.iload_n 2, 1) := by decide +kernel
theorem dX9_frameSum_5 : decode cX9_frameSum 5 = .ok (.iconst 5, 1) := by decide +kernel
theorem dX9_frameSum_6 : decode cX9_frameSum 6 = .ok (.if_icmp .ge 53, 3) := by decide +kernel
theorem dX9_frameSum_9 : decode cX9_frameSum 9 = .ok (.iload_n 1, 1) := by decide +kernel
theorem dX9_frameSum_10 : decode cX9_frameSum 10 = .ok (.aload_n 0, 1) := by decide +kernel
theorem dX9_frameSum_11 : decode cX9_frameSum 11 = .ok (.getfield 36, 3) := by decide +kernel
theorem dX9_frameSum_14 : decode cX9_frameSum 14 = .ok (.iload_n 2, 1) := by decide +kernel
theorem dX9_frameSum_15 : decode cX9_frameSum 15 = .ok (.iaload, 1) := by decide +kernel
theorem dX9_frameSum_16 : decode cX9_frameSum 16 = .ok (.ixor, 1) := by decide +kernel
theorem dX9_frameSum_17 : decode cX9_frameSum 17 = .ok (.istore_n 1, 1) := by decide +kernel
theorem dX9_frameSum_18 : decode cX9_frameSum 18 = .ok (.iconst 0, 1) := by decide +kernel
theorem dX9_frameSum_19 : decode cX9_frameSum 19 = .ok (.istore_n 3, 1) := by decide +kernel
theorem dX9_frameSum_20 : decode cX9_frameSum 20 = .ok (.iload_n 3, 1) := by decide +kernel
theorem dX9_frameSum_21 : decode cX9_frameSum 21 = .ok (.bipush 8, 2) := by decide +kernel
theorem dX9_frameSum_23 : decode cX9_frameSum 23 = .ok (.if_icmp .ge 30, 3) := by decide +kernel
theorem dX9_frameSum_26 : decode cX9_frameSum 26 = .ok (.iconst 2, 1) := by decide +kernel
theorem dX9_frameSum_27 : decode cX9_frameSum 27 = .ok (.iload_n 1, 1) := by decide +kernel
theorem dX9_frameSum_28 : decode cX9_frameSum 28 = .ok (.imul, 1) := by decide +kernel
theorem dX9_frameSum_29 : decode cX9_frameSum 29 = .ok (.istore_n 1, 1) := by decide +kernel
theorem dX9_frameSum_30 : decode cX9_frameSum 30 = .ok (.iload_n 1, 1) := by decide +kernel
theorem dX9_frameSum_31 : decode cX9_frameSum 31 = .ok (.sipush 256, 3) := by decide +kernel
theorem dX9_frameSum_34 : decode cX9_frameSum 34 = .ok (.if_icmp .lt 11, 3) := by decide +kernel
theorem dX9_frameSum_37 : decode cX9_frameSum 37 = .ok (.iload_n 1, 1) := by decide +kernel
theorem dX9_frameSum_38 : decode cX9_frameSum 38 = .ok (.sipush 263, 3) := by decide +kernel
theorem dX9_frameSum_41 : decode cX9_frameSum 41 = .ok (.ixor, 1) := by decide +kernel
theorem dX9_frameSum_42 : decode cX9_frameSum 42 = .ok (.goto 4, 3) := by decide +kernel
theorem dX9_frameSum_45 : decode cX9_frameSum 45 = .ok (.iload_n 1, 1) := by decide +kernel
theorem dX9_frameSum_46 : decode cX9_frameSum 46 = .ok (.istore_n 1, 1) := by decide +kernel
theorem dX9_frameSum_47 : decode cX9_frameSum 47 = .ok (.iinc 3 1, 3) := by decide +kernel
theorem dX9_frameSum_50 : decode cX9_frameSum 50 = .ok (.goto (-30), 3) := by decide +kernel
theorem dX9_frameSum_53 : decode cX9_frameSum 53 = .ok (.iinc 2 1, 3) := by decide +kernel
theorem dX9_frameSum_56 : decode cX9_frameSum 56 = .ok (.goto (-52), 3) := by decide +kernel
theorem dX9_frameSum_59 : decode cX9_frameSum 59 = .ok (.iload_n 1, 1) := by decide +kernel
theorem dX9_frameSum_60 : decode cX9_frameSum 60 = .ok (.ireturn, 1) := by decide +kernel
set_option maxRecDepth 20000 in
theorem ggX9_receive_X9_frameSum : GoodIn wsX9_receive wsX9_frameSum := goodIn_r _ [10, 3, 23, 24, 25, 26, 27, 28, 29, 30, 31, 32, 33, 34, 35, 36, 37, 38, 39, 40, 41, 42, 43, 44, 45, 46, 47, 48, 49, 50, 51, 52, 53] (by decide +kernel) (by decide +kernel)
set_option maxRecDepth 20000 in
theorem gX9_receive_X9_frameSum : GoodIn wsX9_receive (wsV RX9 158 RX9 yX9_frameSum wsX9_frameSum) := goodIn_app (goodIn_of _ (by decide +kernel)) ggX9_receive_X9_frameSum
set_option maxRecDepth 20000 in
theorem ggX9_receive_X9_fits : GoodIn wsX9_receive wsX9_fits := goodIn_r _ [14, 15, 16, 23, 24, 25, 26, 27, 28, 29, 30, 31, 32, 33, 34, 35, 36, 37, 38, 39, 40, 41, 42, 43, 44, 45, 46, 47, 48, 49, 50, 51, 52, 53] (by decide +kernel) (by decide +kernel)
set_option maxRecDepth 20000 in
theorem gX9_receive_X9_fits : GoodIn wsX9_receive (wsV RX9 144 RX9 yX9_fits wsX9_fits) := goodIn_app (goodIn_of _ (by decide +kernel)) ggX9_receive_X9_fits
set_option maxRecDepth 20000 in
theorem ggX9_receive_X9_put : GoodIn wsX9_receive wsX9_put := goodIn_r _ [20, 21, 22, 4, 23, 24, 25, 26, 27, 28, 29, 30, 31, 32, 33, 34, 35, 36, 37, 38, 39, 40, 41, 42, 43, 44, 45, 46, 47, 48, 49, 50, 51, 52, 53] (by decide +kernel) (by decide +kernel)
set_option maxRecDepth 20000 in
theorem gX9_receive_X9_put : GoodIn wsX9_receive (wsV RX9 151 RX9 yX9_put wsX9_put) := goodIn_app (goodIn_of _ (by decide +kernel)) ggX9_receive_X9_put
theorem dX9_receive_0 : decode cX9_receive 0 = .ok (.aload_n 0, 1) := by decide +kernel
theorem dX9_receive_1 : decode cX9_receive 1 = .ok (.iconst 0, 1) := by decide +kernel
theorem dX9_receive_2 : decode cX9_receive 2 = .ok (.putfield 49, 3) := by decide +kernel
theorem dX9_receive_5 : decode cX9_receive 5 = .ok (.iload_n 1, 1) := by decide +kernel
theorem dX9_receive_6 : decode cX9_receive 6 = .ok (.sipush 255, 3) := by decide +kernel
theorem dX9_receive_9 : decode cX9_receive 9 = .ok (.iand, 1) := by decide +kernel
theorem dX9_receive_10 : decode cX9_receive 10 = .ok (.istore_n 2, 1) := by decide +kernel
theorem dX9_receive_11 : decode cX9_receive 11 = .ok (.aload_n 0, 1) := by decide +kernel
theorem dX9_receive_12 : decode cX9_receive 12 = .ok (.getfield 155, 3) := by decide +kernel
theorem dX9_receive_15 : decode cX9_receive 15 = .ok (.ifCond .ne 11, 3) := by decide +kernel
theorem dX9_receive_18 : decode cX9_receive 18 = .ok (.iload_n 2, 1) := by decide +kernel
theorem dX9_receive_19 : decode cX9_receive 19 = .ok (.bipush 126, 2) := by decide +kernel
theorem dX9_receive_21 : decode cX9_receive 21 = .ok (.if_icmp .eq 5, 3) := by decide +kernel
theorem dX9_receive_24 : decode cX9_receive 24 = .ok (.iconst (-1), 1) := by decide +kernel
theorem dX9_receive_25 : decode cX9_receive 25 = .ok (.ireturn, 1) := by decide +kernel
theorem dX9_receive_26 : decode cX9_receive 26 = .ok (.aload_n 0, 1) := by decide +kernel
theorem dX9_receive_27 : decode cX9_receive 27 = .ok (.getfield 36, 3) := by decide +kernel
theorem dX9_receive_30 : decode cX9_receive 30 = .ok (.aload_n 0, 1) := by decide +kernel
theorem dX9_receive_31 : decode cX9_receive 31 = .ok (.getfield 155, 3) := by decide +kernel
theorem dX9_receive_34 : decode cX9_receive 34 = .ok (.iload_n 2, 1) := by decide +kernel
theorem dX9_receive_35 : decode cX9_receive 35 = .ok (.iastore, 1) := by decide +kernel
theorem dX9_receive_36 : decode cX9_receive 36 = .ok (.aload_n 0, 1) := by decide +kernel
theorem dX9_receive_37 : decode cX9_receive 37 = .ok (.dup, 1) := by decide +kernel
theorem dX9_receive_38 : decode cX9_receive 38 = .ok (.getfield 155, 3) := by decide +kernel
theorem dX9_receive_41 : decode cX9_receive 41 = .ok (.iconst 1, 1) := by decide +kernel
theorem dX9_receive_42 : decode cX9_receive 42 = .ok (.iadd, 1) := by decide +kernel
theorem dX9_receive_43 : decode cX9_receive 43 = .ok (.putfield 155, 3) := by decide +kernel
theorem dX9_receive_46 : decode cX9_receive 46 = .ok (.aload_n 0, 1) := by decide +kernel
theorem dX9_receive_47 : decode cX9_receive 47 = .ok (.getfield 155, 3) := by decide +kernel
theorem dX9_receive_50 : decode cX9_receive 50 = .ok (.bipush 6, 2) := by decide +kernel
theorem dX9_receive_52 : decode cX9_receive 52 = .ok (.if_icmp .ge 5, 3) := by decide +kernel
theorem dX9_receive_55 : decode cX9_receive 55 = .ok (.iconst (-1), 1) := by decide +kernel
theorem dX9_receive_56 : decode cX9_receive 56 = .ok (.ireturn, 1) := by decide +kernel
theorem dX9_receive_57 : decode cX9_receive 57 = .ok (.aload_n 0, 1) := by decide +kernel
theorem dX9_receive_58 : decode cX9_receive 58 = .ok (.iconst 0, 1) := by decide +kernel
theorem dX9_receive_59 : decode cX9_receive 59 = .ok (.putfield 155, 3) := by decide +kernel
theorem dX9_receive_62 : decode cX9_receive 62 = .ok (.aload_n 0, 1) := by decide +kernel
theorem dX9_receive_63 : decode cX9_receive 63 = .ok (.getfield 36, 3) := by decide +kernel
theorem dX9_receive_66 : decode cX9_receive 66 = .ok (.iconst 2, 1) := by decide +kernel
theorem dX9_receive_67 : decode cX9_receive 67 = .ok (.iaload, 1) := by decide +kernel
theorem dX9_receive_68 : decode cX9_receive 68 = .ok (.istore_n 3, 1) := by decide +kernel
theorem dX9_receive_69 : decode cX9_receive 69 = .ok (.sipush 256, 3) := by decide +kernel
theorem dX9_receive_72 : decode cX9_receive 72 = .ok (.aload_n 0, 1) := by decide +kernel
theorem dX9_receive_73 : decode cX9_receive 73 = .ok (.getfield 36, 3) := by decide +kernel
theorem dX9_receive_76 : decode cX9_receive 76 = .ok (.iconst 3, 1) := by decide +kernel
theorem dX9_receive_77 : decode cX9_receive 77 = .ok (.iaload, 1) := by decide +kernel
theorem dX9_receive_78 : decode cX9_receive 78 = .ok (.imul, 1) := by decide +kernel
theorem dX9_receive_79 : decode cX9_receive 79 = .ok (.aload_n 0, 1) := by decide +kernel
theorem dX9_receive_80 : decode cX9_receive 80 = .ok (.getfield 36, 3) := by decide +kernel
theorem dX9_receive_83 : decode cX9_receive 83 = .ok (.iconst 4, 1) := by decide +kernel
theorem dX9_receive_84 : decode cX9_receive 84 = .ok (.iaload, 1) := by decide +kernel
theorem dX9_receive_85 : decode cX9_receive 85 = .ok (.iadd, 1) := by decide +kernel
theorem dX9_receive_86 : decode cX9_receive 86 = .ok (.istore 4, 2) := by decide +kernel
theorem dX9_receive_88 : decode cX9_receive 88 = .ok (.aload_n 0, 1) := by decide +kernel
theorem dX9_receive_89 : decode cX9_receive 89 = .ok (.getfield 36, 3) := by decide +kernel
theorem dX9_receive_92 : decode cX9_receive 92 = .ok (.iconst 5, 1) := by decide +kernel
theorem dX9_receive_93 : decode cX9_receive 93 = .ok (.iaload, 1) := by decide +kernel
theorem dX9_receive_94 : decode cX9_receive 94 = .ok (.aload_n 0, 1) := by decide +kernel
theorem dX9_receive_95 : decode cX9_receive 95 = .ok (.invokevirtual 158, 3) := by decide +kernel
theorem dX9_receive_98 : decode cX9_receive 98 = .ok (.if_icmp .eq 6, 3) := by decide +kernel
theorem dX9_receive_101 : decode cX9_receive 101 = .ok (.bipush (-2), 2) := by decide +kernel
theorem dX9_receive_103 : decode cX9_receive 103 = .ok (.ireturn, 1) := by decide +kernel
theorem dX9_receive_104 : decode cX9_receive 104 = .ok (.aload_n 0, 1) := by decide +kernel
theorem dX9_receive_105 : decode cX9_receive 105 = .ok (.getfield 36, 3) := by decide +kernel
theorem dX9_receive_108 : decode cX9_receive 108 = .ok (.iconst 1, 1) := by decide +kernel
theorem dX9_receive_109 : decode cX9_receive 109 = .ok (.iaload, 1) := by decide +kernel
theorem dX9_receive_110 : decode cX9_receive 110 = .ok (.iconst 2, 1) := by decide +kernel
theorem dX9_receive_111 : decode cX9_receive 111 = .ok (.if_icmp .ne 13, 3) := by decide +kernel
theorem dX9_receive_114 : decode cX9_receive 114 = .ok (.iload_n 3, 1) := by decide +kernel
theorem dX9_receive_115 : decode cX9_receive 115 = .ok (.bipush 14, 2) := by decide +kernel
theorem dX9_receive_117 : decode cX9_receive 117 = .ok (.if_icmp .ge 7, 3) := by decide +kernel
theorem dX9_receive_120 : decode cX9_receive 120 = .ok (.iconst 1, 1) := by decide +kernel
theorem dX9_receive_121 : decode cX9_receive 121 = .ok (.goto 4, 3) := by decide +kernel
theorem dX9_receive_124 : decode cX9_receive 124 = .ok (.iconst 0, 1) := by decide +kernel
theorem dX9_receive_125 : decode cX9_receive 125 = .ok (.istore 5, 2) := by decide +kernel
theorem dX9_receive_127 : decode cX9_receive 127 = .ok (.iload 5, 2) := by decide +kernel
theorem dX9_receive_129 : decode cX9_receive 129 = .ok (.ifCond .eq 10, 3) := by decide +kernel
theorem dX9_receive_132 : decode cX9_receive 132 = .ok (.aload_n 0, 1) := by decide +kernel
theorem dX9_receive_133 : decode cX9_receive 133 = .ok (.getfield 16, 3) := by decide +kernel
theorem dX9_receive_136 : decode cX9_receive 136 = .ok (.iload_n 3, 1) := by decide +kernel
theorem dX9_receive_137 : decode cX9_receive 137 = .ok (.iaload, 1) := by decide +kernel
theorem dX9_receive_138 : decode cX9_receive 138 = .ok (.ireturn, 1) := by decide +kernel
theorem dX9_receive_139 : decode cX9_receive 139 = .ok (.aload_n 0, 1) := by decide +kernel
theorem dX9_receive_140 : decode cX9_receive 140 = .ok (.getfield 36, 3) := by decide +kernel
theorem dX9_receive_143 : decode cX9_receive 143 = .ok (.iconst 1, 1) := by decide +kernel
theorem dX9_receive_144 : decode cX9_receive 144 = .ok (.iaload, 1) := by decide +kernel
theorem dX9_receive_145 : decode cX9_receive 145 = .ok (.iconst 1, 1) := by decide +kernel
theorem dX9_receive_146 : decode cX9_receive 146 = .ok (.if_icmp .ne 13, 3) := by decide +kernel
theorem dX9_receive_149 : decode cX9_receive 149 = .ok (.aload_n 0, 1) := by decide +kernel
theorem dX9_receive_150 : decode cX9_receive 150 = .ok (.iload_n 3, 1) := by decide +kernel
theorem dX9_receive_151 : decode cX9_receive 151 = .ok (.iload 4, 2) := by decide +kernel
theorem dX9_receive_153 : decode cX9_receive 153 = .ok (.invokevirtual 144, 3) := by decide +kernel
theorem dX9_receive_156 : decode cX9_receive 156 = .ok (.ifCond .ne 6, 3) := by decide +kernel
theorem dX9_receive_159 : decode cX9_receive 159 = .ok (.bipush (-3), 2) := by decide +kernel
theorem dX9_receive_161 : decode cX9_receive 161 = .ok (.ireturn, 1) := by decide +kernel
theorem dX9_receive_162 : decode cX9_receive 162 = .ok (.aload_n 0, 1) := by decide +kernel
theorem dX9_receive_163 : decode cX9_receive 163 = .ok (.getfield 148, 3) := by decide +kernel
theorem dX9_receive_166 : decode cX9_receive 166 = .ok (.iconst 3, 1) := by decide +kernel
theorem dX9_receive_167 : decode cX9_receive 167 = .ok (.if_icmp .ne 6, 3) := by decide +kernel
theorem dX9_receive_170 : decode cX9_receive 170 = .ok (.bipush (-4), 2) := by decide +kernel
theorem dX9_receive_172 : decode cX9_receive 172 = .ok (.ireturn, 1) := by decide +kernel
theorem dX9_receive_173 : decode cX9_receive 173 = .ok (.aload_n 0, 1) := by decide +kernel
theorem dX9_receive_174 : decode cX9_receive 174 = .ok (.iload_n 3, 1) := by decide +kernel
theorem dX9_receive_175 : decode cX9_receive 175 = .ok (.iload 4, 2) := by decide +kernel
theorem dX9_receive_177 : decode cX9_receive 177 = .ok (.invokevirtual 151, 3) := by decide +kernel
theorem dX9_receive_180 : decode cX9_receive 180 = .ok (.istore 6, 2) := by decide +kernel
theorem dX9_receive_182 : decode cX9_receive 182 = .ok (.iload 6, 2) := by decide +kernel
theorem dX9_receive_184 : decode cX9_receive 184 = .ok (.ifCond .ge 8, 3) := by decide +kernel
theorem dX9_receive_187 : decode cX9_receive 187 = .ok (.iload 6, 2) := by decide +kernel
theorem dX9_receive_189 : decode cX9_receive 189 = .ok (.goto 4, 3) := by decide +kernel
theorem dX9_receive_192 : decode cX9_receive 192 = .ok (.iconst 0, 1) := by decide +kernel
theorem dX9_receive_193 : decode cX9_receive 193 = .ok (.ireturn, 1) := by decide +kernel
theorem dX9_battery_0 : decode cX9_battery 0 = .ok (.aload_n 0, 1) := by decide +kernel
theorem dX9_battery_1 : decode cX9_battery 1 = .ok (.iconst 0, 1) := by decide +kernel
theorem dX9_battery_2 : decode cX9_battery 2 = .ok (.putfield 49, 3) := by decide +kernel
theorem dX9_battery_5 : decode cX9_battery 5 = .ok (.iload_n 1, 1) := by decide +kernel
theorem dX9_battery_6 : decode cX9_battery 6 = .ok (.sipush 280, 3) := by decide +kernel
