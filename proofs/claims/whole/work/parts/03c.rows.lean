theorem dX8_run_17 : decode cX8_run 17 = .ok (.istore 6, 2) := by decide +kernel
theorem dX8_run_19 : decode cX8_run 19 = .ok (.iload 6, 2) := by decide +kernel
theorem dX8_run_21 : decode cX8_run 21 = .ok (.iload_n 1, 1) := by decide +kernel
theorem dX8_run_22 : decode cX8_run 22 = .ok (.if_icmp .ge 28, 3) := by decide +kernel
theorem dX8_run_25 : decode cX8_run 25 = .ok (.iload 5, 2) := by decide +kernel
theorem dX8_run_27 : decode cX8_run 27 = .ok (.aload_n 0, 1) := by decide +kernel
theorem dX8_run_28 : decode cX8_run 28 = .ok (.iload_n 2, 1) := by decide +kernel
theorem dX8_run_29 : decode cX8_run 29 = .ok (.iload_n 3, 1) := by decide +kernel
theorem dX8_run_30 : decode cX8_run 30 = .ok (.iload 4, 2) := by decide +kernel
theorem dX8_run_32 : decode cX8_run 32 = .ok (.invokevirtual 99, 3) := by decide +kernel
theorem dX8_run_35 : decode cX8_run 35 = .ok (.bipush 12, 2) := by decide +kernel
theorem dX8_run_37 : decode cX8_run 37 = .ok (.iand, 1) := by decide +kernel
theorem dX8_run_38 : decode cX8_run 38 = .ok (.invokestatic 102, 3) := by decide +kernel
theorem dX8_run_41 : decode cX8_run 41 = .ok (.iadd, 1) := by decide +kernel
theorem dX8_run_42 : decode cX8_run 42 = .ok (.istore 5, 2) := by decide +kernel
theorem dX8_run_44 : decode cX8_run 44 = .ok (.iinc 6 1, 3) := by decide +kernel
theorem dX8_run_47 : decode cX8_run 47 = .ok (.goto (-28), 3) := by decide +kernel
theorem dX8_run_50 : decode cX8_run 50 = .ok (.iload 5, 2) := by decide +kernel
theorem dX8_run_52 : decode cX8_run 52 = .ok (.ireturn, 1) := by decide +kernel
set_option maxRecDepth 20000 in
theorem ggX8_program_X6_allows : GoodIn wsX8_program wsX6_allows := goodIn_r _ [10, 11, 12, 9, 13] (by decide +kernel) (by decide +kernel)
set_option maxRecDepth 20000 in
theorem gX8_program_X6_allows : GoodIn wsX8_program (va_wsS RX8 107 yX6_allows wsX6_allows) := goodIn_app (goodIn_of _ (by decide +kernel)) ggX8_program_X6_allows
set_option maxRecDepth 20000 in
theorem ggX8_program_X6_latest : GoodIn wsX8_program wsX6_latest := goodIn_r _ [17, 18, 19, 20, 9, 21, 22, 11, 12, 13, 23, 24, 25, 26, 27, 43, 44] (by decide +kernel) (by decide +kernel)
set_option maxRecDepth 20000 in
theorem gX8_program_X6_latest : GoodIn wsX8_program (wsV RX8 116 RX6 yX6_latest wsX6_latest) := goodIn_app (goodIn_of _ (by decide +kernel)) ggX8_program_X6_latest
set_option maxRecDepth 20000 in
theorem ggX8_program_X6_ask : GoodIn wsX8_program wsX6_ask := goodIn_r _ [31, 22, 32, 8, 9, 10, 11, 12, 13, 43, 44] (by decide +kernel) (by decide +kernel)
set_option maxRecDepth 20000 in
theorem gX8_program_X6_ask : GoodIn wsX8_program (wsV RX8 119 RX6 yX6_ask wsX6_ask) := goodIn_app (goodIn_of _ (by decide +kernel)) ggX8_program_X6_ask
theorem dX8_program_0 : decode cX8_program 0 = .ok (.iload_n 1, 1) := by decide +kernel
theorem dX8_program_1 : decode cX8_program 1 = .ok (.iload_n 2, 1) := by decide +kernel
theorem dX8_program_2 : decode cX8_program 2 = .ok (.invokestatic 107, 3) := by decide +kernel
theorem dX8_program_5 : decode cX8_program 5 = .ok (.ifCond .ne 11, 3) := by decide +kernel
theorem dX8_program_8 : decode cX8_program 8 = .ok (.new 110, 3) := by decide +kernel
theorem dX8_program_11 : decode cX8_program 11 = .ok (.dup, 1) := by decide +kernel
theorem dX8_program_12 : decode cX8_program 12 = .ok (.invokespecial 112, 3) := by decide +kernel
theorem dX8_program_15 : decode cX8_program 15 = .ok (.athrow, 1) := by decide +kernel
theorem dX8_program_16 : decode cX8_program 16 = .ok (.aload_n 0, 1) := by decide +kernel
theorem dX8_program_17 : decode cX8_program 17 = .ok (.getfield 68, 3) := by decide +kernel
theorem dX8_program_20 : decode cX8_program 20 = .ok (.iconst 3, 1) := by decide +kernel
theorem dX8_program_21 : decode cX8_program 21 = .ok (.if_icmp .ne 11, 3) := by decide +kernel
theorem dX8_program_24 : decode cX8_program 24 = .ok (.new 113, 3) := by decide +kernel
theorem dX8_program_27 : decode cX8_program 27 = .ok (.dup, 1) := by decide +kernel
theorem dX8_program_28 : decode cX8_program 28 = .ok (.invokespecial 115, 3) := by decide +kernel
theorem dX8_program_31 : decode cX8_program 31 = .ok (.athrow, 1) := by decide +kernel
theorem dX8_program_32 : decode cX8_program 32 = .ok (.aload_n 0, 1) := by decide +kernel
theorem dX8_program_33 : decode cX8_program 33 = .ok (.getfield 10, 3) := by decide +kernel
theorem dX8_program_36 : decode cX8_program 36 = .ok (.iload_n 1, 1) := by decide +kernel
theorem dX8_program_37 : decode cX8_program 37 = .ok (.invokevirtual 116, 3) := by decide +kernel
theorem dX8_program_40 : decode cX8_program 40 = .ok (.istore_n 3, 1) := by decide +kernel
theorem dX8_program_41 : decode cX8_program 41 = .ok (.aload_n 0, 1) := by decide +kernel
theorem dX8_program_42 : decode cX8_program 42 = .ok (.getfield 10, 3) := by decide +kernel
theorem dX8_program_45 : decode cX8_program 45 = .ok (.iload_n 1, 1) := by decide +kernel
theorem dX8_program_46 : decode cX8_program 46 = .ok (.iload_n 2, 1) := by decide +kernel
theorem dX8_program_47 : decode cX8_program 47 = .ok (.invokevirtual 119, 3) := by decide +kernel
theorem dX8_program_50 : decode cX8_program 50 = .ok (.iload_n 3, 1) := by decide +kernel
theorem dX8_program_51 : decode cX8_program 51 = .ok (.ireturn, 1) := by decide +kernel
set_option maxRecDepth 20000 in
theorem ggX8_receive_X3_endsWith : GoodIn wsX8_receive wsX3_endsWith := goodIn_r _ [6, 7, 8, 64, 65] (by decide +kernel) (by decide +kernel)
set_option maxRecDepth 20000 in
theorem gX8_receive_X3_endsWith : GoodIn wsX8_receive (wsV RX8 123 RX3 yX3_endsWith wsX3_endsWith) := goodIn_app (goodIn_of _ (by decide +kernel)) ggX8_receive_X3_endsWith
set_option maxRecDepth 20000 in
theorem ggX8_receive_X3_sumIsRight : GoodIn wsX8_receive wsX3_sumIsRight := goodIn_r _ [12, 8, 13, 14, 5, 15, 64, 65] (by decide +kernel) (by decide +kernel)
set_option maxRecDepth 20000 in
theorem gX8_receive_X3_sumIsRight : GoodIn wsX8_receive (wsV RX8 127 RX3 yX3_sumIsRight wsX3_sumIsRight) := goodIn_app (goodIn_of _ (by decide +kernel)) ggX8_receive_X3_sumIsRight
set_option maxRecDepth 20000 in
theorem ggX8_receive_X3_command : GoodIn wsX8_receive wsX3_command := goodIn_r _ [19, 8, 64, 65] (by decide +kernel) (by decide +kernel)
set_option maxRecDepth 20000 in
theorem gX8_receive_X3_command : GoodIn wsX8_receive (wsV RX8 131 RX3 yX3_command wsX3_command) := goodIn_app (goodIn_of _ (by decide +kernel)) ggX8_receive_X3_command
set_option maxRecDepth 20000 in
theorem ggX8_receive_X3_number : GoodIn wsX8_receive wsX3_number := goodIn_r _ [23, 8, 64, 65] (by decide +kernel) (by decide +kernel)
set_option maxRecDepth 20000 in
theorem gX8_receive_X3_number : GoodIn wsX8_receive (wsV RX8 135 RX3 yX3_number wsX3_number) := goodIn_app (goodIn_of _ (by decide +kernel)) ggX8_receive_X3_number
set_option maxRecDepth 20000 in
theorem ggX8_receive_X3_amount : GoodIn wsX8_receive wsX3_amount := goodIn_r _ [27, 8, 64, 65] (by decide +kernel) (by decide +kernel)
set_option maxRecDepth 20000 in
theorem gX8_receive_X3_amount : GoodIn wsX8_receive (wsV RX8 138 RX3 yX3_amount wsX3_amount) := goodIn_app (goodIn_of _ (by decide +kernel)) ggX8_receive_X3_amount
set_option maxRecDepth 20000 in
theorem ggX8_receive_X8_obey : GoodIn wsX8_receive wsX8_obey := goodIn_r _ [32, 33, 34, 35, 36, 37, 38, 39, 40, 41, 42, 43, 44, 45, 46, 47, 48, 49, 50, 51, 52, 53, 54, 55, 56, 57, 58, 59, 60, 61, 62, 63, 66, 67] (by decide +kernel) (by decide +kernel)
set_option maxRecDepth 20000 in
theorem gX8_receive_X8_obey : GoodIn wsX8_receive (wsV RX8 141 RX8 yX8_obey wsX8_obey) := goodIn_app (goodIn_of _ (by decide +kernel)) ggX8_receive_X8_obey
theorem dX8_receive_0 : decode cX8_receive 0 = .ok (.aload_n 0, 1) := by decide +kernel
theorem dX8_receive_1 : decode cX8_receive 1 = .ok (.getfield 64, 3) := by decide +kernel
theorem dX8_receive_4 : decode cX8_receive 4 = .ok (.iload_n 1, 1) := by decide +kernel
theorem dX8_receive_5 : decode cX8_receive 5 = .ok (.sipush 255, 3) := by decide +kernel
theorem dX8_receive_8 : decode cX8_receive 8 = .ok (.iand, 1) := by decide +kernel
theorem dX8_receive_9 : decode cX8_receive 9 = .ok (.invokevirtual 123, 3) := by decide +kernel
theorem dX8_receive_12 : decode cX8_receive 12 = .ok (.ifCond .ne 5, 3) := by decide +kernel
theorem dX8_receive_15 : decode cX8_receive 15 = .ok (.iconst (-1), 1) := by decide +kernel
theorem dX8_receive_16 : decode cX8_receive 16 = .ok (.ireturn, 1) := by decide +kernel
theorem dX8_receive_17 : decode cX8_receive 17 = .ok (.aload_n 0, 1) := by decide +kernel
theorem dX8_receive_18 : decode cX8_receive 18 = .ok (.getfield 64, 3) := by decide +kernel
theorem dX8_receive_21 : decode cX8_receive 21 = .ok (.invokevirtual 127, 3) := by decide +kernel
theorem dX8_receive_24 : decode cX8_receive 24 = .ok (.ifCond .ne 6, 3) := by decide +kernel
theorem dX8_receive_27 : decode cX8_receive 27 = .ok (.bipush (-2), 2) := by decide +kernel
theorem dX8_receive_29 : decode cX8_receive 29 = .ok (.ireturn, 1) := by decide +kernel
theorem dX8_receive_30 : decode cX8_receive 30 = .ok (.aload_n 0, 1) := by decide +kernel
theorem dX8_receive_31 : decode cX8_receive 31 = .ok (.aload_n 0, 1) := by decide +kernel
theorem dX8_receive_32 : decode cX8_receive 32 = .ok (.getfield 64, 3) := by decide +kernel
theorem dX8_receive_35 : decode cX8_receive 35 = .ok (.invokevirtual 131, 3) := by decide +kernel
theorem dX8_receive_38 : decode cX8_receive 38 = .ok (.aload_n 0, 1) := by decide +kernel
theorem dX8_receive_39 : decode cX8_receive 39 = .ok (.getfield 64, 3) := by decide +kernel
theorem dX8_receive_42 : decode cX8_receive 42 = .ok (.invokevirtual 135, 3) := by decide +kernel
theorem dX8_receive_45 : decode cX8_receive 45 = .ok (.aload_n 0, 1) := by decide +kernel
theorem dX8_receive_46 : decode cX8_receive 46 = .ok (.getfield 64, 3) := by decide +kernel
theorem dX8_receive_49 : decode cX8_receive 49 = .ok (.invokevirtual 138, 3) := by decide +kernel
theorem dX8_receive_52 : decode cX8_receive 52 = .ok (.invokevirtual 141, 3) := by decide +kernel
theorem dX8_receive_55 : decode cX8_receive 55 = .ok (.ireturn, 1) := by decide +kernel
set_option maxRecDepth 20000 in
theorem ggX8_battery_X8_statusOf : GoodIn wsX8_battery wsX8_statusOf := goodIn_r _ [9] (by decide +kernel) (by decide +kernel)
set_option maxRecDepth 20000 in
theorem gX8_battery_X8_statusOf : GoodIn wsX8_battery (va_wsS RX8 144 yX8_statusOf wsX8_statusOf) := goodIn_app (goodIn_of _ (by decide +kernel)) ggX8_battery_X8_statusOf
set_option maxRecDepth 20000 in
theorem ggX8_battery_X8_askForSafety : GoodIn wsX8_battery wsX8_askForSafety := goodIn_r _ [13, 14, 15, 16, 17, 18, 19, 20, 21, 22, 23, 24, 25, 26, 27, 28, 29, 30, 31, 32, 33, 34, 35, 36, 37, 38, 39, 40, 41, 42, 43, 44, 45, 46] (by decide +kernel) (by decide +kernel)
set_option maxRecDepth 20000 in
theorem gX8_battery_X8_askForSafety : GoodIn wsX8_battery (wsV RX8 153 RX8 yX8_askForSafety wsX8_askForSafety) := goodIn_app (goodIn_of _ (by decide +kernel)) ggX8_battery_X8_askForSafety
theorem dX8_battery_0 : decode cX8_battery 0 = .ok (.aload_n 0, 1) := by decide +kernel
theorem dX8_battery_1 : decode cX8_battery 1 = .ok (.getfield 68, 3) := by decide +kernel
theorem dX8_battery_4 : decode cX8_battery 4 = .ok (.iload_n 1, 1) := by decide +kernel
theorem dX8_battery_5 : decode cX8_battery 5 = .ok (.invokestatic 144, 3) := by decide +kernel
theorem dX8_battery_8 : decode cX8_battery 8 = .ok (.invokestatic 147, 3) := by decide +kernel
theorem dX8_battery_11 : decode cX8_battery 11 = .ok (.istore_n 2, 1) := by decide +kernel
theorem dX8_battery_12 : decode cX8_battery 12 = .ok (.iload_n 2, 1) := by decide +kernel
theorem dX8_battery_13 : decode cX8_battery 13 = .ok (.iconst 3, 1) := by decide +kernel
theorem dX8_battery_14 : decode cX8_battery 14 = .ok (.if_icmp .ne 15, 3) := by decide +kernel
theorem dX8_battery_17 : decode cX8_battery 17 = .ok (.aload_n 0, 1) := by decide +kernel
theorem dX8_battery_18 : decode cX8_battery 18 = .ok (.getfield 68, 3) := by decide +kernel
theorem dX8_battery_21 : decode cX8_battery 21 = .ok (.iconst 3, 1) := by decide +kernel
theorem dX8_battery_22 : decode cX8_battery 22 = .ok (.if_icmp .eq 7, 3) := by decide +kernel
theorem dX8_battery_25 : decode cX8_battery 25 = .ok (.aload_n 0, 1) := by decide +kernel
theorem dX8_battery_26 : decode cX8_battery 26 = .ok (.invokevirtual 153, 3) := by decide +kernel
theorem dX8_battery_29 : decode cX8_battery 29 = .ok (.aload_n 0, 1) := by decide +kernel
theorem dX8_battery_30 : decode cX8_battery 30 = .ok (.iload_n 2, 1) := by decide +kernel
theorem dX8_battery_31 : decode cX8_battery 31 = .ok (.putfield 68, 3) := by decide +kernel
theorem dX8_battery_34 : decode cX8_battery 34 = .ok (.aload_n 0, 1) := by decide +kernel
theorem dX8_battery_35 : decode cX8_battery 35 = .ok (.getfield 68, 3) := by decide +kernel
theorem dX8_battery_38 : decode cX8_battery 38 = .ok (.ireturn, 1) := by decide +kernel
set_option maxRecDepth 20000 in
theorem ggX8_parameter_X6_inForce : GoodIn wsX8_parameter wsX6_inForce := goodIn_r _ [6, 7, 8, 9, 5, 10, 21, 22] (by decide +kernel) (by decide +kernel)
set_option maxRecDepth 20000 in
theorem gX8_parameter_X6_inForce : GoodIn wsX8_parameter (wsV RX8 83 RX6 yX6_inForce wsX6_inForce) := goodIn_app (goodIn_of _ (by decide +kernel)) ggX8_parameter_X6_inForce
theorem dX8_parameter_0 : decode cX8_parameter 0 = .ok (.aload_n 0, 1) := by decide +kernel
theorem dX8_parameter_1 : decode cX8_parameter 1 = .ok (.getfield 10, 3) := by decide +kernel
theorem dX8_parameter_4 : decode cX8_parameter 4 = .ok (.iload_n 1, 1) := by decide +kernel
theorem dX8_parameter_5 : decode cX8_parameter 5 = .ok (.invokevirtual 83, 3) := by decide +kernel
theorem dX8_parameter_8 : decode cX8_parameter 8 = .ok (.ireturn, 1) := by decide +kernel
set_option maxRecDepth 20000 in
theorem ggX8_waiting_X6_pending : GoodIn wsX8_waiting wsX6_pending := goodIn_r _ [6, 7, 8, 9, 5, 10, 21, 22] (by decide +kernel) (by decide +kernel)
set_option maxRecDepth 20000 in
theorem gX8_waiting_X6_pending : GoodIn wsX8_waiting (wsV RX8 156 RX6 yX6_pending wsX6_pending) := goodIn_app (goodIn_of _ (by decide +kernel)) ggX8_waiting_X6_pending
theorem dX8_waiting_0 : decode cX8_waiting 0 = .ok (.aload_n 0, 1) := by decide +kernel
theorem dX8_waiting_1 : decode cX8_waiting 1 = .ok (.getfield 10, 3) := by decide +kernel
theorem dX8_waiting_4 : decode cX8_waiting 4 = .ok (.iload_n 1, 1) := by decide +kernel
theorem dX8_waiting_5 : decode cX8_waiting 5 = .ok (.invokevirtual 156, 3) := by decide +kernel
theorem dX8_waiting_8 : decode cX8_waiting 8 = .ok (.ireturn, 1) := by decide +kernel
theorem dX8_since_0 : decode cX8_since 0 = .ok (.iload_n 1, 1) := by decide +kernel
theorem dX8_since_1 : decode cX8_since 1 = .ok (.tableswitch 63 0 3 #[31, 39, 47, 55], 31) := by decide +kernel
theorem dX8_since_32 : decode cX8_since 32 = .ok (.aload_n 0, 1) := by decide +kernel
theorem dX8_since_33 : decode cX8_since 33 = .ok (.getfield 19, 3) := by decide +kernel
theorem dX8_since_36 : decode cX8_since 36 = .ok (.getfield 159, 3) := by decide +kernel
theorem dX8_since_39 : decode cX8_since 39 = .ok (.ireturn, 1) := by decide +kernel
theorem dX8_since_40 : decode cX8_since 40 = .ok (.aload_n 0, 1) := by decide +kernel
theorem dX8_since_41 : decode cX8_since 41 = .ok (.getfield 19, 3) := by decide +kernel
theorem dX8_since_44 : decode cX8_since 44 = .ok (.getfield 162, 3) := by decide +kernel
theorem dX8_since_47 : decode cX8_since 47 = .ok (.ireturn, 1) := by decide +kernel
theorem dX8_since_48 : decode cX8_since 48 = .ok (.aload_n 0, 1) := by decide +kernel
theorem dX8_since_49 : decode cX8_since 49 = .ok (.getfield 19, 3) := by decide +kernel
theorem dX8_since_52 : decode cX8_since 52 = .ok (.getfield 165, 3) := by decide +kernel
theorem dX8_since_55 : decode cX8_since 55 = .ok (.ireturn, 1) := by decide +kernel
theorem dX8_since_56 : decode cX8_since 56 = .ok (.aload_n 0, 1) := by decide +kernel
theorem dX8_since_57 : decode cX8_since 57 = .ok (.getfield 19, 3) := by decide +kernel
theorem dX8_since_60 : decode cX8_since 60 = .ok (.getfield 168, 3) := by decide +kernel
theorem dX8_since_63 : decode cX8_since 63 = .ok (.ireturn, 1) := by decide +kernel
theorem dX8_since_64 : decode cX8_since 64 = .ok (.iconst (-1), 1) := by decide +kernel
theorem dX8_since_65 : decode cX8_since 65 = .ok (.ireturn, 1) := by decide +kernel
theorem dX8_value_0 : decode cX8_value 0 = .ok (.iload_n 1, 1) := by decide +kernel
theorem dX8_value_1 : decode cX8_value 1 = .ok (.tableswitch 87 0 5 #[39, 47, 55, 63, 71, 79], 39) := by decide +kernel
theorem dX8_value_40 : decode cX8_value 40 = .ok (.aload_n 0, 1) := by decide +kernel
theorem dX8_value_41 : decode cX8_value 41 = .ok (.getfield 43, 3) := by decide +kernel
theorem dX8_value_44 : decode cX8_value 44 = .ok (.getfield 171, 3) := by decide +kernel
theorem dX8_value_47 : decode cX8_value 47 = .ok (.ireturn, 1) := by decide +kernel
theorem dX8_value_48 : decode cX8_value 48 = .ok (.aload_n 0, 1) := by decide +kernel
theorem dX8_value_49 : decode cX8_value 49 = .ok (.getfield 43, 3) := by decide +kernel
theorem dX8_value_52 : decode cX8_value 52 = .ok (.getfield 174, 3) := by decide +kernel
theorem dX8_value_55 : decode cX8_value 55 = .ok (.ireturn, 1) := by decide +kernel
theorem dX8_value_56 : decode cX8_value 56 = .ok (.aload_n 0, 1) := by decide +kernel
theorem dX8_value_57 : decode cX8_value 57 = .ok (.getfield 43, 3) := by decide +kernel
theorem dX8_value_60 : decode cX8_value 60 = .ok (.getfield 177, 3) := by decide +kernel
theorem dX8_value_63 : decode cX8_value 63 = .ok (.ireturn, 1) := by decide +kernel
theorem dX8_value_64 : decode cX8_value 64 = .ok (.aload_n 0, 1) := by decide +kernel
theorem dX8_value_65 : decode cX8_value 65 = .ok (.getfield 36, 3) := by decide +kernel
theorem dX8_value_68 : decode cX8_value 68 = .ok (.getfield 180, 3) := by decide +kernel
theorem dX8_value_71 : decode cX8_value 71 = .ok (.ireturn, 1) := by decide +kernel
theorem dX8_value_72 : decode cX8_value 72 = .ok (.aload_n 0, 1) := by decide +kernel
theorem dX8_value_73 : decode cX8_value 73 = .ok (.getfield 36, 3) := by decide +kernel
theorem dX8_value_76 : decode cX8_value 76 = .ok (.getfield 183, 3) := by decide +kernel
theorem dX8_value_79 : decode cX8_value 79 = .ok (.ireturn, 1) := by decide +kernel
theorem dX8_value_80 : decode cX8_value 80 = .ok (.aload_n 0, 1) := by decide +kernel
theorem dX8_value_81 : decode cX8_value 81 = .ok (.getfield 19, 3) := by decide +kernel
theorem dX8_value_84 : decode cX8_value 84 = .ok (.getfield 186, 3) := by decide +kernel
theorem dX8_value_87 : decode cX8_value 87 = .ok (.ireturn, 1) := by decide +kernel
theorem dX8_value_88 : decode cX8_value 88 = .ok (.iconst (-1), 1) := by decide +kernel
theorem dX8_value_89 : decode cX8_value 89 = .ok (.ireturn, 1) := by decide +kernel
theorem dX8_fallback_0 : decode cX8_fallback 0 = .ok (.aload_n 0, 1) := by decide +kernel
theorem dX8_fallback_1 : decode cX8_fallback 1 = .ok (.getfield 36, 3) := by decide +kernel
theorem dX8_fallback_4 : decode cX8_fallback 4 = .ok (.getfield 189, 3) := by decide +kernel
theorem dX8_fallback_7 : decode cX8_fallback 7 = .ok (.ireturn, 1) := by decide +kernel
set_option maxRecDepth 20000 in
theorem ggX8_marker_X4_kind : GoodIn wsX8_marker wsX4_kind := goodIn_r _ [6, 7, 8, 9, 10, 5, 11, 12, 13, 14, 15, 16, 17, 33, 34, 35, 36] (by decide +kernel) (by decide +kernel)
set_option maxRecDepth 20000 in
theorem gX8_marker_X4_kind : GoodIn wsX8_marker (wsV RX8 193 RX4 yX4_kind wsX4_kind) := goodIn_app (goodIn_of _ (by decide +kernel)) ggX8_marker_X4_kind
set_option maxRecDepth 20000 in
theorem ggX8_marker_X4_time : GoodIn wsX8_marker wsX4_time := goodIn_r _ [21, 22, 8, 9, 10, 5, 11, 12, 13, 14, 15, 16, 17, 33, 34, 35, 36] (by decide +kernel) (by decide +kernel)
set_option maxRecDepth 20000 in
theorem gX8_marker_X4_time : GoodIn wsX8_marker (wsV RX8 196 RX4 yX4_time wsX4_time) := goodIn_app (goodIn_of _ (by decide +kernel)) ggX8_marker_X4_time
theorem dX8_marker_0 : decode cX8_marker 0 = .ok (.iload_n 2, 1) := by decide +kernel
theorem dX8_marker_1 : decode cX8_marker 1 = .ok (.lookupswitch 45 #[(0, 27), (1, 36)], 27) := by decide +kernel
theorem dX8_marker_28 : decode cX8_marker 28 = .ok (.aload_n 0, 1) := by decide +kernel
theorem dX8_marker_29 : decode cX8_marker 29 = .ok (.getfield 57, 3) := by decide +kernel
theorem dX8_marker_32 : decode cX8_marker 32 = .ok (.iload_n 1, 1) := by decide +kernel
theorem dX8_marker_33 : decode cX8_marker 33 = .ok (.invokevirtual 193, 3) := by decide +kernel
theorem dX8_marker_36 : decode cX8_marker 36 = .ok (.ireturn, 1) := by decide +kernel
theorem dX8_marker_37 : decode cX8_marker 37 = .ok (.aload_n 0, 1) := by decide +kernel
theorem dX8_marker_38 : decode cX8_marker 38 = .ok (.getfield 57, 3) := by decide +kernel
theorem dX8_marker_41 : decode cX8_marker 41 = .ok (.iload_n 1, 1) := by decide +kernel
theorem dX8_marker_42 : decode cX8_marker 42 = .ok (.invokevirtual 196, 3) := by decide +kernel
theorem dX8_marker_45 : decode cX8_marker 45 = .ok (.ireturn, 1) := by decide +kernel
theorem dX8_marker_46 : decode cX8_marker 46 = .ok (.iconst (-1), 1) := by decide +kernel
theorem dX8_marker_47 : decode cX8_marker 47 = .ok (.ireturn, 1) := by decide +kernel
set_option maxRecDepth 20000 in
theorem ggX8_histogram_X1_inBin : GoodIn wsX8_histogram wsX1_inBin := goodIn_r _ [6, 7, 18, 19] (by decide +kernel) (by decide +kernel)
set_option maxRecDepth 20000 in
theorem gX8_histogram_X1_inBin : GoodIn wsX8_histogram (wsV RX8 198 RX1 yX1_inBin wsX1_inBin) := goodIn_app (goodIn_of _ (by decide +kernel)) ggX8_histogram_X1_inBin
theorem dX8_histogram_0 : decode cX8_histogram 0 = .ok (.aload_n 0, 1) := by decide +kernel
theorem dX8_histogram_1 : decode cX8_histogram 1 = .ok (.getfield 50, 3) := by decide +kernel
theorem dX8_histogram_4 : decode cX8_histogram 4 = .ok (.iload_n 1, 1) := by decide +kernel
theorem dX8_histogram_5 : decode cX8_histogram 5 = .ok (.invokevirtual 198, 3) := by decide +kernel
theorem dX8_histogram_8 : decode cX8_histogram 8 = .ok (.ireturn, 1) := by decide +kernel
set_option maxRecDepth 20000 in
theorem ggX8_sense_X8_vIsListenedTo : GoodIn wsX8_sense wsX8_vIsListenedTo := goodIn_r _ [5, 6, 7, 8, 9, 10, 11, 12, 13, 14, 15, 16, 17, 4, 18, 19, 20, 21, 22, 23, 24, 25, 151, 152, 153, 154, 155, 156, 157, 158, 159, 160, 161, 162, 163, 164, 165, 166, 167, 168] (by decide +kernel) (by decide +kernel)
set_option maxRecDepth 20000 in
theorem gX8_sense_X8_vIsListenedTo : GoodIn wsX8_sense (wsV RX8 201 RX8 yX8_vIsListenedTo wsX8_vIsListenedTo) := goodIn_app (goodIn_of _ (by decide +kernel)) ggX8_sense_X8_vIsListenedTo
set_option maxRecDepth 20000 in
theorem ggX8_sense_X8_ventricularEvent : GoodIn wsX8_sense wsX8_ventricularEvent := goodIn_r _ [29, 30, 7, 31, 6, 32, 33, 34, 35, 36, 37, 38, 39, 40, 41, 42, 43, 44, 45, 46, 47, 48, 49, 50, 51, 52, 10, 11, 12, 13, 14, 15, 53, 54, 4, 55, 56, 57, 58, 59, 60, 61, 62, 63, 64, 65, 66, 67, 68, 69, 70, 71, 72, 73, 74, 75, 76, 77, 78, 79, 80, 81, 82, 83, 84, 85, 86, 87, 88, 89, 90, 19, 20, 21, 22, 23, 24, 25, 91, 92, 93, 94, 95, 96, 97, 98, 99, 100, 101, 102, 103, 104, 105, 106, 151, 152, 153, 154, 155, 156, 157, 158, 159, 160, 161, 162, 163, 164, 165, 166, 169, 170, 171, 172, 167, 168, 173, 174, 175, 176, 177, 178, 179, 180] (by decide +kernel) (by decide +kernel)
set_option maxRecDepth 20000 in
theorem gX8_sense_X8_ventricularEvent : GoodIn wsX8_sense (wsV RX8 204 RX8 yX8_ventricularEvent wsX8_ventricularEvent) := goodIn_app (goodIn_of _ (by decide +kernel)) ggX8_sense_X8_ventricularEvent
set_option maxRecDepth 20000 in
theorem ggX8_sense_X8_aIsListenedTo : GoodIn wsX8_sense wsX8_aIsListenedTo := goodIn_r _ [110, 6, 7, 111, 8, 10, 11, 12, 13, 14, 15, 112, 113, 4, 114, 19, 20, 21, 22, 23, 24, 25, 53, 54, 55, 151, 152, 153, 154, 155, 156, 157, 158, 159, 160, 161, 162, 163, 164, 165, 166, 167, 168] (by decide +kernel) (by decide +kernel)
set_option maxRecDepth 20000 in
theorem gX8_sense_X8_aIsListenedTo : GoodIn wsX8_sense (wsV RX8 208 RX8 yX8_aIsListenedTo wsX8_aIsListenedTo) := goodIn_app (goodIn_of _ (by decide +kernel)) ggX8_sense_X8_aIsListenedTo
set_option maxRecDepth 20000 in
theorem ggX8_sense_X8_atrialEvent : GoodIn wsX8_sense wsX8_atrialEvent := goodIn_r _ [118, 30, 7, 31, 6, 32, 33, 34, 35, 36, 37, 38, 39, 40, 10, 11, 12, 13, 14, 15, 119, 120, 4, 121, 122, 123, 124, 125, 71, 72, 111, 19, 20, 21, 22, 23, 24, 25, 126, 127, 128, 77, 129, 79, 80, 81, 130, 131, 132, 44, 133, 134, 135, 47, 136, 137, 138, 139, 140, 141, 142, 143, 52, 144, 145, 146, 147, 148, 149, 150, 53, 54, 55, 56, 57, 58, 59, 60, 61, 62, 63, 64, 65, 66, 67, 68, 69, 70, 73, 49, 50, 51, 74, 75, 76, 78, 82, 83, 84, 85, 86, 87, 88, 89, 90, 91, 92, 93, 94, 95, 96, 97, 98, 99, 100, 101, 102, 103, 104, 105, 106, 151, 152, 153, 154, 155, 156, 157, 158, 159, 160, 161, 162, 163, 164, 165, 166, 169, 170, 171, 172, 167, 168, 173, 174, 175, 176, 177, 178, 179, 180] (by decide +kernel) (by decide +kernel)
set_option maxRecDepth 20000 in
theorem gX8_sense_X8_atrialEvent : GoodIn wsX8_sense (wsV RX8 211 RX8 yX8_atrialEvent wsX8_atrialEvent) := goodIn_app (goodIn_of _ (by decide +kernel)) ggX8_sense_X8_atrialEvent
theorem dX8_sense_0 : decode cX8_sense 0 = .ok (.iconst 0, 1) := by decide +kernel
theorem dX8_sense_1 : decode cX8_sense 1 = .ok (.istore_n 3, 1) := by decide +kernel
theorem dX8_sense_2 : decode cX8_sense 2 = .ok (.iload_n 2, 1) := by decide +kernel
theorem dX8_sense_3 : decode cX8_sense 3 = .ok (.ifCond .eq 20, 3) := by decide +kernel
theorem dX8_sense_6 : decode cX8_sense 6 = .ok (.aload_n 0, 1) := by decide +kernel
theorem dX8_sense_7 : decode cX8_sense 7 = .ok (.invokevirtual 201, 3) := by decide +kernel
theorem dX8_sense_10 : decode cX8_sense 10 = .ok (.ifCond .eq 13, 3) := by decide +kernel
theorem dX8_sense_13 : decode cX8_sense 13 = .ok (.aload_n 0, 1) := by decide +kernel
theorem dX8_sense_14 : decode cX8_sense 14 = .ok (.iconst 1, 1) := by decide +kernel
theorem dX8_sense_15 : decode cX8_sense 15 = .ok (.iconst 1, 1) := by decide +kernel
theorem dX8_sense_16 : decode cX8_sense 16 = .ok (.invokevirtual 204, 3) := by decide +kernel
theorem dX8_sense_19 : decode cX8_sense 19 = .ok (.iload_n 3, 1) := by decide +kernel
theorem dX8_sense_20 : decode cX8_sense 20 = .ok (.iconst 2, 1) := by decide +kernel
theorem dX8_sense_21 : decode cX8_sense 21 = .ok (.ior, 1) := by decide +kernel
theorem dX8_sense_22 : decode cX8_sense 22 = .ok (.istore_n 3, 1) := by decide +kernel
theorem dX8_sense_23 : decode cX8_sense 23 = .ok (.iload_n 1, 1) := by decide +kernel
theorem dX8_sense_24 : decode cX8_sense 24 = .ok (.ifCond .eq 20, 3) := by decide +kernel
theorem dX8_sense_27 : decode cX8_sense 27 = .ok (.aload_n 0, 1) := by decide +kernel
theorem dX8_sense_28 : decode cX8_sense 28 = .ok (.invokevirtual 208, 3) := by decide +kernel
theorem dX8_sense_31 : decode cX8_sense 31 = .ok (.ifCond .eq 13, 3) := by decide +kernel
theorem dX8_sense_34 : decode cX8_sense 34 = .ok (.aload_n 0, 1) := by decide +kernel
theorem dX8_sense_35 : decode cX8_sense 35 = .ok (.iconst 0, 1) := by decide +kernel
theorem dX8_sense_36 : decode cX8_sense 36 = .ok (.iconst 1, 1) := by decide +kernel
theorem dX8_sense_37 : decode cX8_sense 37 = .ok (.invokevirtual 211, 3) := by decide +kernel
theorem dX8_sense_40 : decode cX8_sense 40 = .ok (.iload_n 3, 1) := by decide +kernel
theorem dX8_sense_41 : decode cX8_sense 41 = .ok (.iconst 1, 1) := by decide +kernel
theorem dX8_sense_42 : decode cX8_sense 42 = .ok (.ior, 1) := by decide +kernel
theorem dX8_sense_43 : decode cX8_sense 43 = .ok (.istore_n 3, 1) := by decide +kernel
theorem dX8_sense_44 : decode cX8_sense 44 = .ok (.iload_n 3, 1) := by decide +kernel
theorem dX8_sense_45 : decode cX8_sense 45 = .ok (.ireturn, 1) := by decide +kernel
set_option maxRecDepth 20000 in
theorem ggX8_stimulate_X8_aIsDue : GoodIn wsX8_stimulate wsX8_aIsDue := goodIn_r _ [5, 6, 7, 8, 9, 10, 11, 12, 13, 14, 15, 16, 17, 18, 19, 20, 4, 21, 22, 23, 24, 25, 26, 27, 28, 29, 30, 31, 147, 148, 149, 150, 151, 152, 153, 154, 155, 156, 157, 158, 159, 160, 161, 162, 163, 164, 165, 166, 167] (by decide +kernel) (by decide +kernel)
set_option maxRecDepth 20000 in
theorem gX8_stimulate_X8_aIsDue : GoodIn wsX8_stimulate (wsV RX8 214 RX8 yX8_aIsDue wsX8_aIsDue) := goodIn_app (goodIn_of _ (by decide +kernel)) ggX8_stimulate_X8_aIsDue
set_option maxRecDepth 20000 in
theorem ggX8_stimulate_X8_atrialEvent : GoodIn wsX8_stimulate wsX8_atrialEvent := goodIn_r _ [35, 36, 7, 37, 6, 38, 39, 40, 41, 42, 43, 44, 45, 46, 13, 14, 15, 16, 17, 18, 47, 48, 4, 49, 50, 51, 52, 53, 54, 55, 8, 25, 26, 27, 28, 29, 30, 31, 56, 57, 58, 59, 60, 61, 62, 63, 64, 65, 66, 67, 68, 69, 70, 71, 72, 73, 74, 75, 76, 77, 78, 79, 80, 22, 23, 24, 81, 82, 83, 84, 19, 20, 21, 85, 86, 87, 88, 89, 9, 90, 91, 92, 93, 94, 95, 96, 97, 98, 99, 100, 101, 102, 103, 104, 105, 106, 107, 108, 109, 110, 111, 112, 113, 114, 115, 116, 117, 118, 119, 120, 121, 122, 123, 124, 125, 126, 127, 128, 129, 130, 131, 147, 148, 149, 150, 151, 152, 153, 154, 155, 156, 157, 158, 159, 160, 161, 162, 168, 169, 170, 171, 166, 167, 172, 173, 174, 175, 176, 163, 164, 165] (by decide +kernel) (by decide +kernel)
set_option maxRecDepth 20000 in
theorem gX8_stimulate_X8_atrialEvent : GoodIn wsX8_stimulate (wsV RX8 211 RX8 yX8_atrialEvent wsX8_atrialEvent) := goodIn_app (goodIn_of _ (by decide +kernel)) ggX8_stimulate_X8_atrialEvent
set_option maxRecDepth 20000 in
theorem ggX8_stimulate_X8_vIsDue : GoodIn wsX8_stimulate wsX8_vIsDue := goodIn_r _ [135, 6, 7, 12, 9, 10, 136, 13, 14, 15, 16, 17, 18, 19, 20, 4, 21, 76, 77, 78, 67, 79, 80, 25, 26, 27, 28, 29, 30, 31, 147, 148, 149, 150, 151, 152, 153, 154, 155, 156, 157, 158, 159, 160, 161, 162, 163, 164, 165, 166, 167] (by decide +kernel) (by decide +kernel)
set_option maxRecDepth 20000 in
theorem gX8_stimulate_X8_vIsDue : GoodIn wsX8_stimulate (wsV RX8 217 RX8 yX8_vIsDue wsX8_vIsDue) := goodIn_app (goodIn_of _ (by decide +kernel)) ggX8_stimulate_X8_vIsDue
set_option maxRecDepth 20000 in
theorem ggX8_stimulate_X8_ventricularEvent : GoodIn wsX8_stimulate wsX8_ventricularEvent := goodIn_r _ [140, 36, 7, 37, 6, 38, 39, 40, 41, 42, 43, 44, 45, 46, 141, 142, 143, 67, 144, 145, 71, 146, 100, 101, 102, 80, 13, 14, 15, 16, 17, 18, 19, 20, 4, 21, 85, 86, 87, 88, 89, 9, 90, 91, 92, 93, 94, 95, 96, 97, 98, 54, 55, 99, 103, 104, 105, 59, 106, 61, 62, 63, 107, 108, 109, 110, 111, 112, 113, 114, 115, 25, 26, 27, 28, 29, 30, 31, 116, 117, 118, 119, 120, 121, 122, 123, 124, 125, 126, 127, 128, 129, 130, 131, 147, 148, 149, 150, 151, 152, 153, 154, 155, 156, 157, 158, 159, 160, 161, 162, 168, 169, 170, 171, 166, 167, 172, 173, 174, 175, 176, 163, 164, 165] (by decide +kernel) (by decide +kernel)
set_option maxRecDepth 20000 in
theorem gX8_stimulate_X8_ventricularEvent : GoodIn wsX8_stimulate (wsV RX8 204 RX8 yX8_ventricularEvent wsX8_ventricularEvent) := goodIn_app (goodIn_of _ (by decide +kernel)) ggX8_stimulate_X8_ventricularEvent
theorem dX8_stimulate_0 : decode cX8_stimulate 0 = .ok (.iconst 0, 1) := by decide +kernel
theorem dX8_stimulate_1 : decode cX8_stimulate 1 = .ok (.istore_n 2, 1) := by decide +kernel
theorem dX8_stimulate_2 : decode cX8_stimulate 2 = .ok (.iload_n 1, 1) := by decide +kernel
theorem dX8_stimulate_3 : decode cX8_stimulate 3 = .ok (.ifCond .ne 20, 3) := by decide +kernel
theorem dX8_stimulate_6 : decode cX8_stimulate 6 = .ok (.aload_n 0, 1) := by decide +kernel
theorem dX8_stimulate_7 : decode cX8_stimulate 7 = .ok (.invokevirtual 214, 3) := by decide +kernel
theorem dX8_stimulate_10 : decode cX8_stimulate 10 = .ok (.ifCond .eq 13, 3) := by decide +kernel
theorem dX8_stimulate_13 : decode cX8_stimulate 13 = .ok (.aload_n 0, 1) := by decide +kernel
theorem dX8_stimulate_14 : decode cX8_stimulate 14 = .ok (.iconst 2, 1) := by decide +kernel
theorem dX8_stimulate_15 : decode cX8_stimulate 15 = .ok (.iconst 0, 1) := by decide +kernel
theorem dX8_stimulate_16 : decode cX8_stimulate 16 = .ok (.invokevirtual 211, 3) := by decide +kernel
theorem dX8_stimulate_19 : decode cX8_stimulate 19 = .ok (.iload_n 2, 1) := by decide +kernel
theorem dX8_stimulate_20 : decode cX8_stimulate 20 = .ok (.iconst 4, 1) := by decide +kernel
theorem dX8_stimulate_21 : decode cX8_stimulate 21 = .ok (.ior, 1) := by decide +kernel
theorem dX8_stimulate_22 : decode cX8_stimulate 22 = .ok (.istore_n 2, 1) := by decide +kernel
theorem dX8_stimulate_23 : decode cX8_stimulate 23 = .ok (.aload_n 0, 1) := by decide +kernel
theorem dX8_stimulate_24 : decode cX8_stimulate 24 = .ok (.invokevirtual 217, 3) := by decide +kernel
theorem dX8_stimulate_27 : decode cX8_stimulate 27 = .ok (.ifCond .eq 14, 3) := by decide +kernel
theorem dX8_stimulate_30 : decode cX8_stimulate 30 = .ok (.aload_n 0, 1) := by decide +kernel
theorem dX8_stimulate_31 : decode cX8_stimulate 31 = .ok (.iconst 3, 1) := by decide +kernel
theorem dX8_stimulate_32 : decode cX8_stimulate 32 = .ok (.iconst 0, 1) := by decide +kernel
theorem dX8_stimulate_33 : decode cX8_stimulate 33 = .ok (.invokevirtual 204, 3) := by decide +kernel
theorem dX8_stimulate_36 : decode cX8_stimulate 36 = .ok (.iload_n 2, 1) := by decide +kernel
theorem dX8_stimulate_37 : decode cX8_stimulate 37 = .ok (.bipush 8, 2) := by decide +kernel
theorem dX8_stimulate_39 : decode cX8_stimulate 39 = .ok (.ior, 1) := by decide +kernel
theorem dX8_stimulate_40 : decode cX8_stimulate 40 = .ok (.istore_n 2, 1) := by decide +kernel
theorem dX8_stimulate_41 : decode cX8_stimulate 41 = .ok (.iload_n 2, 1) := by decide +kernel
theorem dX8_stimulate_42 : decode cX8_stimulate 42 = .ok (.ireturn, 1) := by decide +kernel
set_option maxRecDepth 20000 in
theorem ggX8_vIsListenedTo_X6_mode : GoodIn wsX8_vIsListenedTo wsX6_mode := goodIn_r _ [9, 10, 38, 39] (by decide +kernel) (by decide +kernel)
set_option maxRecDepth 20000 in
theorem gX8_vIsListenedTo_X6_mode : GoodIn wsX8_vIsListenedTo (wsV RX8 220 RX6 yX6_mode wsX6_mode) := goodIn_app (goodIn_of _ (by decide +kernel)) ggX8_vIsListenedTo_X6_mode
set_option maxRecDepth 20000 in
theorem ggX8_vIsListenedTo_X8_sensesV : GoodIn wsX8_vIsListenedTo wsX8_sensesV := goodIn_r _ [14] (by decide +kernel) (by decide +kernel)
set_option maxRecDepth 20000 in
theorem gX8_vIsListenedTo_X8_sensesV : GoodIn wsX8_vIsListenedTo (va_wsS RX8 223 yX8_sensesV wsX8_sensesV) := goodIn_app (goodIn_of _ (by decide +kernel)) ggX8_vIsListenedTo_X8_sensesV
set_option maxRecDepth 20000 in
theorem ggX8_vIsListenedTo_X6_inForce : GoodIn wsX8_vIsListenedTo wsX6_inForce := goodIn_r _ [18, 10, 19, 20, 8, 21, 38, 39] (by decide +kernel) (by decide +kernel)
set_option maxRecDepth 20000 in
theorem gX8_vIsListenedTo_X6_inForce : GoodIn wsX8_vIsListenedTo (wsV RX8 83 RX6 yX6_inForce wsX6_inForce) := goodIn_app (goodIn_of _ (by decide +kernel)) ggX8_vIsListenedTo_X6_inForce
theorem dX8_vIsListenedTo_0 : decode cX8_vIsListenedTo 0 = .ok (.aload_n 0, 1) := by decide +kernel
theorem dX8_vIsListenedTo_1 : decode cX8_vIsListenedTo 1 = .ok (.getfield 10, 3) := by decide +kernel
theorem dX8_vIsListenedTo_4 : decode cX8_vIsListenedTo 4 = .ok (.invokevirtual 220, 3) := by decide +kernel
theorem dX8_vIsListenedTo_7 : decode cX8_vIsListenedTo 7 = .ok (.invokestatic 223, 3) := by decide +kernel
theorem dX8_vIsListenedTo_10 : decode cX8_vIsListenedTo 10 = .ok (.ifCond .eq 44, 3) := by decide +kernel
theorem dX8_vIsListenedTo_13 : decode cX8_vIsListenedTo 13 = .ok (.aload_n 0, 1) := by decide +kernel
theorem dX8_vIsListenedTo_14 : decode cX8_vIsListenedTo 14 = .ok (.getfield 19, 3) := by decide +kernel
theorem dX8_vIsListenedTo_17 : decode cX8_vIsListenedTo 17 = .ok (.getfield 162, 3) := by decide +kernel
theorem dX8_vIsListenedTo_20 : decode cX8_vIsListenedTo 20 = .ok (.aload_n 0, 1) := by decide +kernel
theorem dX8_vIsListenedTo_21 : decode cX8_vIsListenedTo 21 = .ok (.getfield 10, 3) := by decide +kernel
theorem dX8_vIsListenedTo_24 : decode cX8_vIsListenedTo 24 = .ok (.iconst 5, 1) := by decide +kernel
theorem dX8_vIsListenedTo_25 : decode cX8_vIsListenedTo 25 = .ok (.invokevirtual 83, 3) := by decide +kernel
theorem dX8_vIsListenedTo_28 : decode cX8_vIsListenedTo 28 = .ok (.if_icmp .lt 26, 3) := by decide +kernel
theorem dX8_vIsListenedTo_31 : decode cX8_vIsListenedTo 31 = .ok (.aload_n 0, 1) := by decide +kernel
theorem dX8_vIsListenedTo_32 : decode cX8_vIsListenedTo 32 = .ok (.getfield 19, 3) := by decide +kernel
theorem dX8_vIsListenedTo_35 : decode cX8_vIsListenedTo 35 = .ok (.getfield 165, 3) := by decide +kernel
theorem dX8_vIsListenedTo_38 : decode cX8_vIsListenedTo 38 = .ok (.aload_n 0, 1) := by decide +kernel
theorem dX8_vIsListenedTo_39 : decode cX8_vIsListenedTo 39 = .ok (.getfield 10, 3) := by decide +kernel
theorem dX8_vIsListenedTo_42 : decode cX8_vIsListenedTo 42 = .ok (.bipush 7, 2) := by decide +kernel
theorem dX8_vIsListenedTo_44 : decode cX8_vIsListenedTo 44 = .ok (.invokevirtual 83, 3) := by decide +kernel
theorem dX8_vIsListenedTo_47 : decode cX8_vIsListenedTo 47 = .ok (.if_icmp .lt 7, 3) := by decide +kernel
theorem dX8_vIsListenedTo_50 : decode cX8_vIsListenedTo 50 = .ok (.iconst 1, 1) := by decide +kernel
theorem dX8_vIsListenedTo_51 : decode cX8_vIsListenedTo 51 = .ok (.goto 4, 3) := by decide +kernel
theorem dX8_vIsListenedTo_54 : decode cX8_vIsListenedTo 54 = .ok (.iconst 0, 1) := by decide +kernel
theorem dX8_vIsListenedTo_55 : decode cX8_vIsListenedTo 55 = .ok (.ireturn, 1) := by decide +kernel
set_option maxRecDepth 20000 in
theorem ggX8_aIsListenedTo_X6_mode : GoodIn wsX8_aIsListenedTo wsX6_mode := goodIn_r _ [9, 10, 41, 42] (by decide +kernel) (by decide +kernel)
set_option maxRecDepth 20000 in
theorem gX8_aIsListenedTo_X6_mode : GoodIn wsX8_aIsListenedTo (wsV RX8 220 RX6 yX6_mode wsX6_mode) := goodIn_app (goodIn_of _ (by decide +kernel)) ggX8_aIsListenedTo_X6_mode
set_option maxRecDepth 20000 in
theorem ggX8_aIsListenedTo_X8_sensesA : GoodIn wsX8_aIsListenedTo wsX8_sensesA := goodIn_r _ [14] (by decide +kernel) (by decide +kernel)
set_option maxRecDepth 20000 in
theorem gX8_aIsListenedTo_X8_sensesA : GoodIn wsX8_aIsListenedTo (va_wsS RX8 226 yX8_sensesA wsX8_sensesA) := goodIn_app (goodIn_of _ (by decide +kernel)) ggX8_aIsListenedTo_X8_sensesA
set_option maxRecDepth 20000 in
theorem ggX8_aIsListenedTo_X6_inForce : GoodIn wsX8_aIsListenedTo wsX6_inForce := goodIn_r _ [18, 10, 19, 20, 8, 21, 41, 42] (by decide +kernel) (by decide +kernel)
set_option maxRecDepth 20000 in
theorem gX8_aIsListenedTo_X6_inForce : GoodIn wsX8_aIsListenedTo (wsV RX8 83 RX6 yX6_inForce wsX6_inForce) := goodIn_app (goodIn_of _ (by decide +kernel)) ggX8_aIsListenedTo_X6_inForce
set_option maxRecDepth 20000 in
theorem ggX8_aIsListenedTo_X8_isLedByA : GoodIn wsX8_aIsListenedTo wsX8_isLedByA := goodIn_r _ [24] (by decide +kernel) (by decide +kernel)
set_option maxRecDepth 20000 in
theorem gX8_aIsListenedTo_X8_isLedByA : GoodIn wsX8_aIsListenedTo (va_wsS RX8 229 yX8_isLedByA wsX8_isLedByA) := goodIn_app (goodIn_of _ (by decide +kernel)) ggX8_aIsListenedTo_X8_isLedByA
theorem dX8_aIsListenedTo_0 : decode cX8_aIsListenedTo 0 = .ok (.aload_n 0, 1) := by decide +kernel
theorem dX8_aIsListenedTo_1 : decode cX8_aIsListenedTo 1 = .ok (.getfield 10, 3) := by decide +kernel
theorem dX8_aIsListenedTo_4 : decode cX8_aIsListenedTo 4 = .ok (.invokevirtual 220, 3) := by decide +kernel
theorem dX8_aIsListenedTo_7 : decode cX8_aIsListenedTo 7 = .ok (.invokestatic 226, 3) := by decide +kernel
theorem dX8_aIsListenedTo_10 : decode cX8_aIsListenedTo 10 = .ok (.ifCond .eq 57, 3) := by decide +kernel
theorem dX8_aIsListenedTo_13 : decode cX8_aIsListenedTo 13 = .ok (.aload_n 0, 1) := by decide +kernel
theorem dX8_aIsListenedTo_14 : decode cX8_aIsListenedTo 14 = .ok (.getfield 19, 3) := by decide +kernel
theorem dX8_aIsListenedTo_17 : decode cX8_aIsListenedTo 17 = .ok (.getfield 159, 3) := by decide +kernel
theorem dX8_aIsListenedTo_20 : decode cX8_aIsListenedTo 20 = .ok (.aload_n 0, 1) := by decide +kernel
theorem dX8_aIsListenedTo_21 : decode cX8_aIsListenedTo 21 = .ok (.getfield 10, 3) := by decide +kernel
theorem dX8_aIsListenedTo_24 : decode cX8_aIsListenedTo 24 = .ok (.bipush 6, 2) := by decide +kernel
theorem dX8_aIsListenedTo_26 : decode cX8_aIsListenedTo 26 = .ok (.invokevirtual 83, 3) := by decide +kernel
theorem dX8_aIsListenedTo_29 : decode cX8_aIsListenedTo 29 = .ok (.if_icmp .lt 38, 3) := by decide +kernel
theorem dX8_aIsListenedTo_32 : decode cX8_aIsListenedTo 32 = .ok (.aload_n 0, 1) := by decide +kernel
theorem dX8_aIsListenedTo_33 : decode cX8_aIsListenedTo 33 = .ok (.getfield 10, 3) := by decide +kernel
theorem dX8_aIsListenedTo_36 : decode cX8_aIsListenedTo 36 = .ok (.invokevirtual 220, 3) := by decide +kernel
theorem dX8_aIsListenedTo_39 : decode cX8_aIsListenedTo 39 = .ok (.invokestatic 229, 3) := by decide +kernel
theorem dX8_aIsListenedTo_42 : decode cX8_aIsListenedTo 42 = .ok (.ifCond .ne 21, 3) := by decide +kernel
theorem dX8_aIsListenedTo_45 : decode cX8_aIsListenedTo 45 = .ok (.aload_n 0, 1) := by decide +kernel
theorem dX8_aIsListenedTo_46 : decode cX8_aIsListenedTo 46 = .ok (.getfield 19, 3) := by decide +kernel
theorem dX8_aIsListenedTo_49 : decode cX8_aIsListenedTo 49 = .ok (.getfield 162, 3) := by decide +kernel
theorem dX8_aIsListenedTo_52 : decode cX8_aIsListenedTo 52 = .ok (.aload_n 0, 1) := by decide +kernel
theorem dX8_aIsListenedTo_53 : decode cX8_aIsListenedTo 53 = .ok (.getfield 10, 3) := by decide +kernel
theorem dX8_aIsListenedTo_56 : decode cX8_aIsListenedTo 56 = .ok (.iconst 4, 1) := by decide +kernel
theorem dX8_aIsListenedTo_57 : decode cX8_aIsListenedTo 57 = .ok (.invokevirtual 83, 3) := by decide +kernel
theorem dX8_aIsListenedTo_60 : decode cX8_aIsListenedTo 60 = .ok (.if_icmp .lt 7, 3) := by decide +kernel
theorem dX8_aIsListenedTo_63 : decode cX8_aIsListenedTo 63 = .ok (.iconst 1, 1) := by decide +kernel
theorem dX8_aIsListenedTo_64 : decode cX8_aIsListenedTo 64 = .ok (.goto 4, 3) := by decide +kernel
theorem dX8_aIsListenedTo_67 : decode cX8_aIsListenedTo 67 = .ok (.iconst 0, 1) := by decide +kernel
theorem dX8_aIsListenedTo_68 : decode cX8_aIsListenedTo 68 = .ok (.ireturn, 1) := by decide +kernel
set_option maxRecDepth 20000 in
theorem ggX8_aIsDue_X6_mode : GoodIn wsX8_aIsDue wsX6_mode := goodIn_r _ [12, 13, 47, 48] (by decide +kernel) (by decide +kernel)
set_option maxRecDepth 20000 in
theorem gX8_aIsDue_X6_mode : GoodIn wsX8_aIsDue (wsV RX8 220 RX6 yX6_mode wsX6_mode) := goodIn_app (goodIn_of _ (by decide +kernel)) ggX8_aIsDue_X6_mode
set_option maxRecDepth 20000 in
theorem ggX8_aIsDue_X8_isLedByA : GoodIn wsX8_aIsDue wsX8_isLedByA := goodIn_r _ [17] (by decide +kernel) (by decide +kernel)
set_option maxRecDepth 20000 in
theorem gX8_aIsDue_X8_isLedByA : GoodIn wsX8_aIsDue (va_wsS RX8 229 yX8_isLedByA wsX8_isLedByA) := goodIn_app (goodIn_of _ (by decide +kernel)) ggX8_aIsDue_X8_isLedByA
set_option maxRecDepth 20000 in
theorem ggX8_aIsDue_X8_pacesBoth : GoodIn wsX8_aIsDue wsX8_pacesBoth := goodIn_r _ [20] (by decide +kernel) (by decide +kernel)
set_option maxRecDepth 20000 in
theorem gX8_aIsDue_X8_pacesBoth : GoodIn wsX8_aIsDue (va_wsS RX8 232 yX8_pacesBoth wsX8_pacesBoth) := goodIn_app (goodIn_of _ (by decide +kernel)) ggX8_aIsDue_X8_pacesBoth
set_option maxRecDepth 20000 in
theorem ggX8_aIsDue_X6_inForce : GoodIn wsX8_aIsDue wsX6_inForce := goodIn_r _ [24, 13, 25, 26, 11, 27, 47, 48] (by decide +kernel) (by decide +kernel)
set_option maxRecDepth 20000 in
theorem gX8_aIsDue_X6_inForce : GoodIn wsX8_aIsDue (wsV RX8 83 RX6 yX6_inForce wsX6_inForce) := goodIn_app (goodIn_of _ (by decide +kernel)) ggX8_aIsDue_X6_inForce
theorem dX8_aIsDue_0 : decode cX8_aIsDue 0 = .ok (.aload_n 0, 1) := by decide +kernel
theorem dX8_aIsDue_1 : decode cX8_aIsDue 1 = .ok (.getfield 10, 3) := by decide +kernel
theorem dX8_aIsDue_4 : decode cX8_aIsDue 4 = .ok (.invokevirtual 220, 3) := by decide +kernel
theorem dX8_aIsDue_7 : decode cX8_aIsDue 7 = .ok (.invokestatic 229, 3) := by decide +kernel
theorem dX8_aIsDue_10 : decode cX8_aIsDue 10 = .ok (.ifCond .eq 26, 3) := by decide +kernel
theorem dX8_aIsDue_13 : decode cX8_aIsDue 13 = .ok (.aload_n 0, 1) := by decide +kernel
theorem dX8_aIsDue_14 : decode cX8_aIsDue 14 = .ok (.getfield 19, 3) := by decide +kernel
theorem dX8_aIsDue_17 : decode cX8_aIsDue 17 = .ok (.getfield 159, 3) := by decide +kernel
theorem dX8_aIsDue_20 : decode cX8_aIsDue 20 = .ok (.aload_n 0, 1) := by decide +kernel
theorem dX8_aIsDue_21 : decode cX8_aIsDue 21 = .ok (.getfield 43, 3) := by decide +kernel
theorem dX8_aIsDue_24 : decode cX8_aIsDue 24 = .ok (.getfield 171, 3) := by decide +kernel
theorem dX8_aIsDue_27 : decode cX8_aIsDue 27 = .ok (.if_icmp .lt 7, 3) := by decide +kernel
theorem dX8_aIsDue_30 : decode cX8_aIsDue 30 = .ok (.iconst 1, 1) := by decide +kernel
theorem dX8_aIsDue_31 : decode cX8_aIsDue 31 = .ok (.goto 4, 3) := by decide +kernel
theorem dX8_aIsDue_34 : decode cX8_aIsDue 34 = .ok (.iconst 0, 1) := by decide +kernel
theorem dX8_aIsDue_35 : decode cX8_aIsDue 35 = .ok (.ireturn, 1) := by decide +kernel
theorem dX8_aIsDue_36 : decode cX8_aIsDue 36 = .ok (.aload_n 0, 1) := by decide +kernel
theorem dX8_aIsDue_37 : decode cX8_aIsDue 37 = .ok (.getfield 10, 3) := by decide +kernel
theorem dX8_aIsDue_40 : decode cX8_aIsDue 40 = .ok (.invokevirtual 220, 3) := by decide +kernel
theorem dX8_aIsDue_43 : decode cX8_aIsDue 43 = .ok (.invokestatic 232, 3) := by decide +kernel
theorem dX8_aIsDue_46 : decode cX8_aIsDue 46 = .ok (.ifCond .eq 43, 3) := by decide +kernel
