theorem dX9_battery_9 : decode cX9_battery 9 = .ok (.if_icmp .lt 7, 3) := by decide +kernel
theorem dX9_battery_12 : decode cX9_battery 12 = .ok (.iconst 0, 1) := by decide +kernel
theorem dX9_battery_13 : decode cX9_battery 13 = .ok (.goto 26, 3) := by decide +kernel
theorem dX9_battery_16 : decode cX9_battery 16 = .ok (.iload_n 1, 1) := by decide +kernel
theorem dX9_battery_17 : decode cX9_battery 17 = .ok (.sipush 250, 3) := by decide +kernel
theorem dX9_battery_20 : decode cX9_battery 20 = .ok (.if_icmp .lt 7, 3) := by decide +kernel
theorem dX9_battery_23 : decode cX9_battery 23 = .ok (.iconst 1, 1) := by decide +kernel
theorem dX9_battery_24 : decode cX9_battery 24 = .ok (.goto 15, 3) := by decide +kernel
theorem dX9_battery_27 : decode cX9_battery 27 = .ok (.iload_n 1, 1) := by decide +kernel
theorem dX9_battery_28 : decode cX9_battery 28 = .ok (.sipush 220, 3) := by decide +kernel
theorem dX9_battery_31 : decode cX9_battery 31 = .ok (.if_icmp .lt 7, 3) := by decide +kernel
theorem dX9_battery_34 : decode cX9_battery 34 = .ok (.iconst 2, 1) := by decide +kernel
theorem dX9_battery_35 : decode cX9_battery 35 = .ok (.goto 4, 3) := by decide +kernel
theorem dX9_battery_38 : decode cX9_battery 38 = .ok (.iconst 3, 1) := by decide +kernel
theorem dX9_battery_39 : decode cX9_battery 39 = .ok (.istore_n 2, 1) := by decide +kernel
theorem dX9_battery_40 : decode cX9_battery 40 = .ok (.iload_n 2, 1) := by decide +kernel
theorem dX9_battery_41 : decode cX9_battery 41 = .ok (.iconst 3, 1) := by decide +kernel
theorem dX9_battery_42 : decode cX9_battery 42 = .ok (.if_icmp .ne 82, 3) := by decide +kernel
theorem dX9_battery_45 : decode cX9_battery 45 = .ok (.aload_n 0, 1) := by decide +kernel
theorem dX9_battery_46 : decode cX9_battery 46 = .ok (.getfield 148, 3) := by decide +kernel
theorem dX9_battery_49 : decode cX9_battery 49 = .ok (.iconst 3, 1) := by decide +kernel
theorem dX9_battery_50 : decode cX9_battery 50 = .ok (.if_icmp .ge 74, 3) := by decide +kernel
theorem dX9_battery_53 : decode cX9_battery 53 = .ok (.iconst 0, 1) := by decide +kernel
theorem dX9_battery_54 : decode cX9_battery 54 = .ok (.istore_n 3, 1) := by decide +kernel
theorem dX9_battery_55 : decode cX9_battery 55 = .ok (.iload_n 3, 1) := by decide +kernel
theorem dX9_battery_56 : decode cX9_battery 56 = .ok (.bipush 14, 2) := by decide +kernel
theorem dX9_battery_58 : decode cX9_battery 58 = .ok (.if_icmp .ge 66, 3) := by decide +kernel
theorem dX9_battery_61 : decode cX9_battery 61 = .ok (.aload_n 0, 1) := by decide +kernel
theorem dX9_battery_62 : decode cX9_battery 62 = .ok (.getfield 22, 3) := by decide +kernel
theorem dX9_battery_65 : decode cX9_battery 65 = .ok (.iload_n 3, 1) := by decide +kernel
theorem dX9_battery_66 : decode cX9_battery 66 = .ok (.iload_n 3, 1) := by decide +kernel
theorem dX9_battery_67 : decode cX9_battery 67 = .ok (.ifCond .eq 20, 3) := by decide +kernel
theorem dX9_battery_70 : decode cX9_battery 70 = .ok (.iload_n 3, 1) := by decide +kernel
theorem dX9_battery_71 : decode cX9_battery 71 = .ok (.iconst 1, 1) := by decide +kernel
theorem dX9_battery_72 : decode cX9_battery 72 = .ok (.if_icmp .eq 15, 3) := by decide +kernel
theorem dX9_battery_75 : decode cX9_battery 75 = .ok (.iload_n 3, 1) := by decide +kernel
theorem dX9_battery_76 : decode cX9_battery 76 = .ok (.bipush 8, 2) := by decide +kernel
theorem dX9_battery_78 : decode cX9_battery 78 = .ok (.if_icmp .eq 9, 3) := by decide +kernel
theorem dX9_battery_81 : decode cX9_battery 81 = .ok (.iload_n 3, 1) := by decide +kernel
theorem dX9_battery_82 : decode cX9_battery 82 = .ok (.bipush 11, 2) := by decide +kernel
theorem dX9_battery_84 : decode cX9_battery 84 = .ok (.if_icmp .ne 7, 3) := by decide +kernel
theorem dX9_battery_87 : decode cX9_battery 87 = .ok (.iconst 1, 1) := by decide +kernel
theorem dX9_battery_88 : decode cX9_battery 88 = .ok (.goto 4, 3) := by decide +kernel
theorem dX9_battery_91 : decode cX9_battery 91 = .ok (.iconst 0, 1) := by decide +kernel
theorem dX9_battery_92 : decode cX9_battery 92 = .ok (.bastore, 1) := by decide +kernel
theorem dX9_battery_93 : decode cX9_battery 93 = .ok (.aload_n 0, 1) := by decide +kernel
theorem dX9_battery_94 : decode cX9_battery 94 = .ok (.getfield 19, 3) := by decide +kernel
theorem dX9_battery_97 : decode cX9_battery 97 = .ok (.iload_n 3, 1) := by decide +kernel
theorem dX9_battery_98 : decode cX9_battery 98 = .ok (.iload_n 3, 1) := by decide +kernel
theorem dX9_battery_99 : decode cX9_battery 99 = .ok (.ifCond .ne 7, 3) := by decide +kernel
theorem dX9_battery_102 : decode cX9_battery 102 = .ok (.iconst 3, 1) := by decide +kernel
theorem dX9_battery_103 : decode cX9_battery 103 = .ok (.goto 14, 3) := by decide +kernel
theorem dX9_battery_106 : decode cX9_battery 106 = .ok (.iload_n 3, 1) := by decide +kernel
theorem dX9_battery_107 : decode cX9_battery 107 = .ok (.iconst 1, 1) := by decide +kernel
theorem dX9_battery_108 : decode cX9_battery 108 = .ok (.if_icmp .ne 8, 3) := by decide +kernel
theorem dX9_battery_111 : decode cX9_battery 111 = .ok (.bipush 100, 2) := by decide +kernel
theorem dX9_battery_113 : decode cX9_battery 113 = .ok (.goto 4, 3) := by decide +kernel
theorem dX9_battery_116 : decode cX9_battery 116 = .ok (.iconst 0, 1) := by decide +kernel
theorem dX9_battery_117 : decode cX9_battery 117 = .ok (.iastore, 1) := by decide +kernel
theorem dX9_battery_118 : decode cX9_battery 118 = .ok (.iinc 3 1, 3) := by decide +kernel
theorem dX9_battery_121 : decode cX9_battery 121 = .ok (.goto (-66), 3) := by decide +kernel
theorem dX9_battery_124 : decode cX9_battery 124 = .ok (.aload_n 0, 1) := by decide +kernel
theorem dX9_battery_125 : decode cX9_battery 125 = .ok (.iload_n 2, 1) := by decide +kernel
theorem dX9_battery_126 : decode cX9_battery 126 = .ok (.aload_n 0, 1) := by decide +kernel
theorem dX9_battery_127 : decode cX9_battery 127 = .ok (.getfield 148, 3) := by decide +kernel
theorem dX9_battery_130 : decode cX9_battery 130 = .ok (.if_icmp .le 7, 3) := by decide +kernel
theorem dX9_battery_133 : decode cX9_battery 133 = .ok (.iload_n 2, 1) := by decide +kernel
theorem dX9_battery_134 : decode cX9_battery 134 = .ok (.goto 7, 3) := by decide +kernel
theorem dX9_battery_137 : decode cX9_battery 137 = .ok (.aload_n 0, 1) := by decide +kernel
theorem dX9_battery_138 : decode cX9_battery 138 = .ok (.getfield 148, 3) := by decide +kernel
theorem dX9_battery_141 : decode cX9_battery 141 = .ok (.putfield 148, 3) := by decide +kernel
theorem dX9_battery_144 : decode cX9_battery 144 = .ok (.aload_n 0, 1) := by decide +kernel
theorem dX9_battery_145 : decode cX9_battery 145 = .ok (.getfield 148, 3) := by decide +kernel
theorem dX9_battery_148 : decode cX9_battery 148 = .ok (.ireturn, 1) := by decide +kernel
theorem dX9_parameter_0 : decode cX9_parameter 0 = .ok (.aload_n 0, 1) := by decide +kernel
theorem dX9_parameter_1 : decode cX9_parameter 1 = .ok (.iconst 0, 1) := by decide +kernel
theorem dX9_parameter_2 : decode cX9_parameter 2 = .ok (.putfield 49, 3) := by decide +kernel
theorem dX9_parameter_5 : decode cX9_parameter 5 = .ok (.iload_n 1, 1) := by decide +kernel
theorem dX9_parameter_6 : decode cX9_parameter 6 = .ok (.ifCond .lt 9, 3) := by decide +kernel
theorem dX9_parameter_9 : decode cX9_parameter 9 = .ok (.iload_n 1, 1) := by decide +kernel
theorem dX9_parameter_10 : decode cX9_parameter 10 = .ok (.bipush 13, 2) := by decide +kernel
theorem dX9_parameter_12 : decode cX9_parameter 12 = .ok (.if_icmp .le 7, 3) := by decide +kernel
theorem dX9_parameter_15 : decode cX9_parameter 15 = .ok (.iconst (-1), 1) := by decide +kernel
theorem dX9_parameter_16 : decode cX9_parameter 16 = .ok (.goto 9, 3) := by decide +kernel
theorem dX9_parameter_19 : decode cX9_parameter 19 = .ok (.aload_n 0, 1) := by decide +kernel
theorem dX9_parameter_20 : decode cX9_parameter 20 = .ok (.getfield 16, 3) := by decide +kernel
theorem dX9_parameter_23 : decode cX9_parameter 23 = .ok (.iload_n 1, 1) := by decide +kernel
theorem dX9_parameter_24 : decode cX9_parameter 24 = .ok (.iaload, 1) := by decide +kernel
theorem dX9_parameter_25 : decode cX9_parameter 25 = .ok (.ireturn, 1) := by decide +kernel
theorem dX9_waiting_0 : decode cX9_waiting 0 = .ok (.aload_n 0, 1) := by decide +kernel
theorem dX9_waiting_1 : decode cX9_waiting 1 = .ok (.iconst 0, 1) := by decide +kernel
theorem dX9_waiting_2 : decode cX9_waiting 2 = .ok (.putfield 49, 3) := by decide +kernel
theorem dX9_waiting_5 : decode cX9_waiting 5 = .ok (.iload_n 1, 1) := by decide +kernel
theorem dX9_waiting_6 : decode cX9_waiting 6 = .ok (.ifCond .lt 18, 3) := by decide +kernel
theorem dX9_waiting_9 : decode cX9_waiting 9 = .ok (.iload_n 1, 1) := by decide +kernel
theorem dX9_waiting_10 : decode cX9_waiting 10 = .ok (.bipush 13, 2) := by decide +kernel
theorem dX9_waiting_12 : decode cX9_waiting 12 = .ok (.if_icmp .gt 12, 3) := by decide +kernel
theorem dX9_waiting_15 : decode cX9_waiting 15 = .ok (.aload_n 0, 1) := by decide +kernel
theorem dX9_waiting_16 : decode cX9_waiting 16 = .ok (.getfield 22, 3) := by decide +kernel
theorem dX9_waiting_19 : decode cX9_waiting 19 = .ok (.iload_n 1, 1) := by decide +kernel
theorem dX9_waiting_20 : decode cX9_waiting 20 = .ok (.baload, 1) := by decide +kernel
theorem dX9_waiting_21 : decode cX9_waiting 21 = .ok (.ifCond .ne 7, 3) := by decide +kernel
theorem dX9_waiting_24 : decode cX9_waiting 24 = .ok (.iconst (-1), 1) := by decide +kernel
theorem dX9_waiting_25 : decode cX9_waiting 25 = .ok (.goto 9, 3) := by decide +kernel
theorem dX9_waiting_28 : decode cX9_waiting 28 = .ok (.aload_n 0, 1) := by decide +kernel
theorem dX9_waiting_29 : decode cX9_waiting 29 = .ok (.getfield 19, 3) := by decide +kernel
theorem dX9_waiting_32 : decode cX9_waiting 32 = .ok (.iload_n 1, 1) := by decide +kernel
theorem dX9_waiting_33 : decode cX9_waiting 33 = .ok (.iaload, 1) := by decide +kernel
theorem dX9_waiting_34 : decode cX9_waiting 34 = .ok (.ireturn, 1) := by decide +kernel
theorem dX9_since_0 : decode cX9_since 0 = .ok (.aload_n 0, 1) := by decide +kernel
theorem dX9_since_1 : decode cX9_since 1 = .ok (.iconst 0, 1) := by decide +kernel
theorem dX9_since_2 : decode cX9_since 2 = .ok (.putfield 49, 3) := by decide +kernel
theorem dX9_since_5 : decode cX9_since 5 = .ok (.iload_n 1, 1) := by decide +kernel
theorem dX9_since_6 : decode cX9_since 6 = .ok (.ifCond .ne 10, 3) := by decide +kernel
theorem dX9_since_9 : decode cX9_since 9 = .ok (.aload_n 0, 1) := by decide +kernel
theorem dX9_since_10 : decode cX9_since 10 = .ok (.getfield 62, 3) := by decide +kernel
theorem dX9_since_13 : decode cX9_since 13 = .ok (.goto 47, 3) := by decide +kernel
theorem dX9_since_16 : decode cX9_since 16 = .ok (.iload_n 1, 1) := by decide +kernel
theorem dX9_since_17 : decode cX9_since 17 = .ok (.iconst 1, 1) := by decide +kernel
theorem dX9_since_18 : decode cX9_since 18 = .ok (.if_icmp .ne 10, 3) := by decide +kernel
theorem dX9_since_21 : decode cX9_since 21 = .ok (.aload_n 0, 1) := by decide +kernel
theorem dX9_since_22 : decode cX9_since 22 = .ok (.getfield 104, 3) := by decide +kernel
theorem dX9_since_25 : decode cX9_since 25 = .ok (.goto 35, 3) := by decide +kernel
theorem dX9_since_28 : decode cX9_since 28 = .ok (.iload_n 1, 1) := by decide +kernel
theorem dX9_since_29 : decode cX9_since 29 = .ok (.iconst 2, 1) := by decide +kernel
theorem dX9_since_30 : decode cX9_since 30 = .ok (.if_icmp .ne 10, 3) := by decide +kernel
theorem dX9_since_33 : decode cX9_since 33 = .ok (.aload_n 0, 1) := by decide +kernel
theorem dX9_since_34 : decode cX9_since 34 = .ok (.getfield 91, 3) := by decide +kernel
theorem dX9_since_37 : decode cX9_since 37 = .ok (.goto 23, 3) := by decide +kernel
theorem dX9_since_40 : decode cX9_since 40 = .ok (.iload_n 1, 1) := by decide +kernel
theorem dX9_since_41 : decode cX9_since 41 = .ok (.iconst 3, 1) := by decide +kernel
theorem dX9_since_42 : decode cX9_since 42 = .ok (.if_icmp .ne 17, 3) := by decide +kernel
theorem dX9_since_45 : decode cX9_since 45 = .ok (.aload_n 0, 1) := by decide +kernel
theorem dX9_since_46 : decode cX9_since 46 = .ok (.getfield 79, 3) := by decide +kernel
theorem dX9_since_49 : decode cX9_since 49 = .ok (.ifCond .eq 10, 3) := by decide +kernel
theorem dX9_since_52 : decode cX9_since 52 = .ok (.aload_n 0, 1) := by decide +kernel
theorem dX9_since_53 : decode cX9_since 53 = .ok (.getfield 97, 3) := by decide +kernel
theorem dX9_since_56 : decode cX9_since 56 = .ok (.goto 4, 3) := by decide +kernel
theorem dX9_since_59 : decode cX9_since 59 = .ok (.iconst (-1), 1) := by decide +kernel
theorem dX9_since_60 : decode cX9_since 60 = .ok (.ireturn, 1) := by decide +kernel
theorem dX9_value_0 : decode cX9_value 0 = .ok (.aload_n 0, 1) := by decide +kernel
theorem dX9_value_1 : decode cX9_value 1 = .ok (.iconst 0, 1) := by decide +kernel
theorem dX9_value_2 : decode cX9_value 2 = .ok (.putfield 49, 3) := by decide +kernel
theorem dX9_value_5 : decode cX9_value 5 = .ok (.iload_n 1, 1) := by decide +kernel
theorem dX9_value_6 : decode cX9_value 6 = .ok (.tableswitch 68 0 5 #[38, 43, 48, 53, 58, 63], 38) := by decide +kernel
theorem dX9_value_44 : decode cX9_value 44 = .ok (.aload_n 0, 1) := by decide +kernel
theorem dX9_value_45 : decode cX9_value 45 = .ok (.getfield 30, 3) := by decide +kernel
theorem dX9_value_48 : decode cX9_value 48 = .ok (.ireturn, 1) := by decide +kernel
theorem dX9_value_49 : decode cX9_value 49 = .ok (.aload_n 0, 1) := by decide +kernel
theorem dX9_value_50 : decode cX9_value 50 = .ok (.getfield 26, 3) := by decide +kernel
theorem dX9_value_53 : decode cX9_value 53 = .ok (.ireturn, 1) := by decide +kernel
theorem dX9_value_54 : decode cX9_value 54 = .ok (.aload_n 0, 1) := by decide +kernel
theorem dX9_value_55 : decode cX9_value 55 = .ok (.getfield 85, 3) := by decide +kernel
theorem dX9_value_58 : decode cX9_value 58 = .ok (.ireturn, 1) := by decide +kernel
theorem dX9_value_59 : decode cX9_value 59 = .ok (.aload_n 0, 1) := by decide +kernel
theorem dX9_value_60 : decode cX9_value 60 = .ok (.getfield 65, 3) := by decide +kernel
theorem dX9_value_63 : decode cX9_value 63 = .ok (.ireturn, 1) := by decide +kernel
theorem dX9_value_64 : decode cX9_value 64 = .ok (.aload_n 0, 1) := by decide +kernel
theorem dX9_value_65 : decode cX9_value 65 = .ok (.getfield 68, 3) := by decide +kernel
theorem dX9_value_68 : decode cX9_value 68 = .ok (.ireturn, 1) := by decide +kernel
theorem dX9_value_69 : decode cX9_value 69 = .ok (.aload_n 0, 1) := by decide +kernel
theorem dX9_value_70 : decode cX9_value 70 = .ok (.getfield 55, 3) := by decide +kernel
theorem dX9_value_73 : decode cX9_value 73 = .ok (.ireturn, 1) := by decide +kernel
theorem dX9_value_74 : decode cX9_value 74 = .ok (.iconst (-1), 1) := by decide +kernel
theorem dX9_value_75 : decode cX9_value 75 = .ok (.ireturn, 1) := by decide +kernel
theorem dX9_fallback_0 : decode cX9_fallback 0 = .ok (.aload_n 0, 1) := by decide +kernel
theorem dX9_fallback_1 : decode cX9_fallback 1 = .ok (.iconst 0, 1) := by decide +kernel
theorem dX9_fallback_2 : decode cX9_fallback 2 = .ok (.putfield 49, 3) := by decide +kernel
theorem dX9_fallback_5 : decode cX9_fallback 5 = .ok (.aload_n 0, 1) := by decide +kernel
theorem dX9_fallback_6 : decode cX9_fallback 6 = .ok (.getfield 71, 3) := by decide +kernel
theorem dX9_fallback_9 : decode cX9_fallback 9 = .ok (.ireturn, 1) := by decide +kernel
theorem dX9_marker_0 : decode cX9_marker 0 = .ok (.aload_n 0, 1) := by decide +kernel
theorem dX9_marker_1 : decode cX9_marker 1 = .ok (.iconst 0, 1) := by decide +kernel
theorem dX9_marker_2 : decode cX9_marker 2 = .ok (.putfield 49, 3) := by decide +kernel
theorem dX9_marker_5 : decode cX9_marker 5 = .ok (.iload_n 1, 1) := by decide +kernel
theorem dX9_marker_6 : decode cX9_marker 6 = .ok (.ifCond .lt 26, 3) := by decide +kernel
theorem dX9_marker_9 : decode cX9_marker 9 = .ok (.iload_n 1, 1) := by decide +kernel
theorem dX9_marker_10 : decode cX9_marker 10 = .ok (.bipush 11, 2) := by decide +kernel
theorem dX9_marker_12 : decode cX9_marker 12 = .ok (.if_icmp .gt 20, 3) := by decide +kernel
theorem dX9_marker_15 : decode cX9_marker 15 = .ok (.iload_n 1, 1) := by decide +kernel
theorem dX9_marker_16 : decode cX9_marker 16 = .ok (.aload_n 0, 1) := by decide +kernel
theorem dX9_marker_17 : decode cX9_marker 17 = .ok (.getfield 52, 3) := by decide +kernel
theorem dX9_marker_20 : decode cX9_marker 20 = .ok (.if_icmp .ge 12, 3) := by decide +kernel
theorem dX9_marker_23 : decode cX9_marker 23 = .ok (.iload_n 2, 1) := by decide +kernel
theorem dX9_marker_24 : decode cX9_marker 24 = .ok (.ifCond .lt 8, 3) := by decide +kernel
theorem dX9_marker_27 : decode cX9_marker 27 = .ok (.iload_n 2, 1) := by decide +kernel
theorem dX9_marker_28 : decode cX9_marker 28 = .ok (.iconst 1, 1) := by decide +kernel
theorem dX9_marker_29 : decode cX9_marker 29 = .ok (.if_icmp .le 5, 3) := by decide +kernel
theorem dX9_marker_32 : decode cX9_marker 32 = .ok (.iconst (-1), 1) := by decide +kernel
theorem dX9_marker_33 : decode cX9_marker 33 = .ok (.ireturn, 1) := by decide +kernel
theorem dX9_marker_34 : decode cX9_marker 34 = .ok (.aload_n 0, 1) := by decide +kernel
theorem dX9_marker_35 : decode cX9_marker 35 = .ok (.getfield 52, 3) := by decide +kernel
theorem dX9_marker_38 : decode cX9_marker 38 = .ok (.iconst 1, 1) := by decide +kernel
theorem dX9_marker_39 : decode cX9_marker 39 = .ok (.isub, 1) := by decide +kernel
theorem dX9_marker_40 : decode cX9_marker 40 = .ok (.iload_n 1, 1) := by decide +kernel
theorem dX9_marker_41 : decode cX9_marker 41 = .ok (.isub, 1) := by decide +kernel
theorem dX9_marker_42 : decode cX9_marker 42 = .ok (.bipush 12, 2) := by decide +kernel
theorem dX9_marker_44 : decode cX9_marker 44 = .ok (.irem, 1) := by decide +kernel
theorem dX9_marker_45 : decode cX9_marker 45 = .ok (.istore_n 3, 1) := by decide +kernel
theorem dX9_marker_46 : decode cX9_marker 46 = .ok (.iload_n 2, 1) := by decide +kernel
theorem dX9_marker_47 : decode cX9_marker 47 = .ok (.ifCond .ne 12, 3) := by decide +kernel
theorem dX9_marker_50 : decode cX9_marker 50 = .ok (.aload_n 0, 1) := by decide +kernel
theorem dX9_marker_51 : decode cX9_marker 51 = .ok (.getfield 39, 3) := by decide +kernel
theorem dX9_marker_54 : decode cX9_marker 54 = .ok (.iload_n 3, 1) := by decide +kernel
theorem dX9_marker_55 : decode cX9_marker 55 = .ok (.iaload, 1) := by decide +kernel
theorem dX9_marker_56 : decode cX9_marker 56 = .ok (.goto 9, 3) := by decide +kernel
theorem dX9_marker_59 : decode cX9_marker 59 = .ok (.aload_n 0, 1) := by decide +kernel
theorem dX9_marker_60 : decode cX9_marker 60 = .ok (.getfield 42, 3) := by decide +kernel
theorem dX9_marker_63 : decode cX9_marker 63 = .ok (.iload_n 3, 1) := by decide +kernel
theorem dX9_marker_64 : decode cX9_marker 64 = .ok (.iaload, 1) := by decide +kernel
theorem dX9_marker_65 : decode cX9_marker 65 = .ok (.ireturn, 1) := by decide +kernel
theorem dX9_histogram_0 : decode cX9_histogram 0 = .ok (.aload_n 0, 1) := by decide +kernel
theorem dX9_histogram_1 : decode cX9_histogram 1 = .ok (.iconst 0, 1) := by decide +kernel
theorem dX9_histogram_2 : decode cX9_histogram 2 = .ok (.putfield 49, 3) := by decide +kernel
theorem dX9_histogram_5 : decode cX9_histogram 5 = .ok (.iload_n 1, 1) := by decide +kernel
theorem dX9_histogram_6 : decode cX9_histogram 6 = .ok (.ifCond .lt 9, 3) := by decide +kernel
theorem dX9_histogram_9 : decode cX9_histogram 9 = .ok (.iload_n 1, 1) := by decide +kernel
theorem dX9_histogram_10 : decode cX9_histogram 10 = .ok (.bipush 7, 2) := by decide +kernel
theorem dX9_histogram_12 : decode cX9_histogram 12 = .ok (.if_icmp .le 7, 3) := by decide +kernel
theorem dX9_histogram_15 : decode cX9_histogram 15 = .ok (.iconst (-1), 1) := by decide +kernel
theorem dX9_histogram_16 : decode cX9_histogram 16 = .ok (.goto 9, 3) := by decide +kernel
theorem dX9_histogram_19 : decode cX9_histogram 19 = .ok (.aload_n 0, 1) := by decide +kernel
theorem dX9_histogram_20 : decode cX9_histogram 20 = .ok (.getfield 33, 3) := by decide +kernel
theorem dX9_histogram_23 : decode cX9_histogram 23 = .ok (.iload_n 1, 1) := by decide +kernel
theorem dX9_histogram_24 : decode cX9_histogram 24 = .ok (.iaload, 1) := by decide +kernel
theorem dX9_histogram_25 : decode cX9_histogram 25 = .ok (.ireturn, 1) := by decide +kernel
theorem dJ6_bitCount_0f7a4_0 : decode cJ6_bitCount_0f7a4 0 = .ok (.iload_n 0, 1) := by decide +kernel
theorem dJ6_bitCount_0f7a4_1 : decode cJ6_bitCount_0f7a4 1 = .ok (.iload_n 0, 1) := by decide +kernel
theorem dJ6_bitCount_0f7a4_2 : decode cJ6_bitCount_0f7a4 2 = .ok (.iconst 1, 1) := by decide +kernel
theorem dJ6_bitCount_0f7a4_3 : decode cJ6_bitCount_0f7a4 3 = .ok (.iushr, 1) := by decide +kernel
theorem dJ6_bitCount_0f7a4_4 : decode cJ6_bitCount_0f7a4 4 = .ok (.ldc_w 265, 3) := by decide +kernel
theorem dJ6_bitCount_0f7a4_7 : decode cJ6_bitCount_0f7a4 7 = .ok (.iand, 1) := by decide +kernel
theorem dJ6_bitCount_0f7a4_8 : decode cJ6_bitCount_0f7a4 8 = .ok (.isub, 1) := by decide +kernel
theorem dJ6_bitCount_0f7a4_9 : decode cJ6_bitCount_0f7a4 9 = .ok (.istore_n 0, 1) := by decide +kernel
theorem dJ6_bitCount_0f7a4_10 : decode cJ6_bitCount_0f7a4 10 = .ok (.iload_n 0, 1) := by decide +kernel
theorem dJ6_bitCount_0f7a4_11 : decode cJ6_bitCount_0f7a4 11 = .ok (.ldc_w 266, 3) := by decide +kernel
theorem dJ6_bitCount_0f7a4_14 : decode cJ6_bitCount_0f7a4 14 = .ok (.iand, 1) := by decide +kernel
theorem dJ6_bitCount_0f7a4_15 : decode cJ6_bitCount_0f7a4 15 = .ok (.iload_n 0, 1) := by decide +kernel
theorem dJ6_bitCount_0f7a4_16 : decode cJ6_bitCount_0f7a4 16 = .ok (.iconst 2, 1) := by decide +kernel
theorem dJ6_bitCount_0f7a4_17 : decode cJ6_bitCount_0f7a4 17 = .ok (.iushr, 1) := by decide +kernel
theorem dJ6_bitCount_0f7a4_18 : decode cJ6_bitCount_0f7a4 18 = .ok (.ldc_w 266, 3) := by decide +kernel
theorem dJ6_bitCount_0f7a4_21 : decode cJ6_bitCount_0f7a4 21 = .ok (.iand, 1) := by decide +kernel
theorem dJ6_bitCount_0f7a4_22 : decode cJ6_bitCount_0f7a4 22 = .ok (.iadd, 1) := by decide +kernel
theorem dJ6_bitCount_0f7a4_23 : decode cJ6_bitCount_0f7a4 23 = .ok (.istore_n 0, 1) := by decide +kernel
theorem dJ6_bitCount_0f7a4_24 : decode cJ6_bitCount_0f7a4 24 = .ok (.iload_n 0, 1) := by decide +kernel
theorem dJ6_bitCount_0f7a4_25 : decode cJ6_bitCount_0f7a4 25 = .ok (.iload_n 0, 1) := by decide +kernel
theorem dJ6_bitCount_0f7a4_26 : decode cJ6_bitCount_0f7a4 26 = .ok (.iconst 4, 1) := by decide +kernel
theorem dJ6_bitCount_0f7a4_27 : decode cJ6_bitCount_0f7a4 27 = .ok (.iushr, 1) := by decide +kernel
theorem dJ6_bitCount_0f7a4_28 : decode cJ6_bitCount_0f7a4 28 = .ok (.iadd, 1) := by decide +kernel
theorem dJ6_bitCount_0f7a4_29 : decode cJ6_bitCount_0f7a4 29 = .ok (.ldc_w 267, 3) := by decide +kernel
theorem dJ6_bitCount_0f7a4_32 : decode cJ6_bitCount_0f7a4 32 = .ok (.iand, 1) := by decide +kernel
theorem dJ6_bitCount_0f7a4_33 : decode cJ6_bitCount_0f7a4 33 = .ok (.istore_n 0, 1) := by decide +kernel
theorem dJ6_bitCount_0f7a4_34 : decode cJ6_bitCount_0f7a4 34 = .ok (.iload_n 0, 1) := by decide +kernel
theorem dJ6_bitCount_0f7a4_35 : decode cJ6_bitCount_0f7a4 35 = .ok (.iload_n 0, 1) := by decide +kernel
theorem dJ6_bitCount_0f7a4_36 : decode cJ6_bitCount_0f7a4 36 = .ok (.bipush 8, 2) := by decide +kernel
theorem dJ6_bitCount_0f7a4_38 : decode cJ6_bitCount_0f7a4 38 = .ok (.iushr, 1) := by decide +kernel
theorem dJ6_bitCount_0f7a4_39 : decode cJ6_bitCount_0f7a4 39 = .ok (.iadd, 1) := by decide +kernel
theorem dJ6_bitCount_0f7a4_40 : decode cJ6_bitCount_0f7a4 40 = .ok (.istore_n 0, 1) := by decide +kernel
theorem dJ6_bitCount_0f7a4_41 : decode cJ6_bitCount_0f7a4 41 = .ok (.iload_n 0, 1) := by decide +kernel
theorem dJ6_bitCount_0f7a4_42 : decode cJ6_bitCount_0f7a4 42 = .ok (.iload_n 0, 1) := by decide +kernel
theorem dJ6_bitCount_0f7a4_43 : decode cJ6_bitCount_0f7a4 43 = .ok (.bipush 16, 2) := by decide +kernel
theorem dJ6_bitCount_0f7a4_45 : decode cJ6_bitCount_0f7a4 45 = .ok (.iushr, 1) := by decide +kernel
theorem dJ6_bitCount_0f7a4_46 : decode cJ6_bitCount_0f7a4 46 = .ok (.iadd, 1) := by decide +kernel
theorem dJ6_bitCount_0f7a4_47 : decode cJ6_bitCount_0f7a4 47 = .ok (.istore_n 0, 1) := by decide +kernel
theorem dJ6_bitCount_0f7a4_48 : decode cJ6_bitCount_0f7a4 48 = .ok (.iload_n 0, 1) := by decide +kernel
theorem dJ6_bitCount_0f7a4_49 : decode cJ6_bitCount_0f7a4 49 = .ok (.bipush 63, 2) := by decide +kernel
theorem dJ6_bitCount_0f7a4_51 : decode cJ6_bitCount_0f7a4 51 = .ok (.iand, 1) := by decide +kernel
theorem dJ6_bitCount_0f7a4_52 : decode cJ6_bitCount_0f7a4 52 = .ok (.ireturn, 1) := by decide +kernel
theorem dJ9_abs_0f7a4_0 : decode cJ9_abs_0f7a4 0 = .ok (.iload_n 0, 1) := by decide +kernel
theorem dJ9_abs_0f7a4_1 : decode cJ9_abs_0f7a4 1 = .ok (.ifCond .ge 8, 3) := by decide +kernel
theorem dJ9_abs_0f7a4_4 : decode cJ9_abs_0f7a4 4 = .ok (.iload_n 0, 1) := by decide +kernel
theorem dJ9_abs_0f7a4_5 : decode cJ9_abs_0f7a4 5 = .ok (.ineg, 1) := by decide +kernel
theorem dJ9_abs_0f7a4_6 : decode cJ9_abs_0f7a4 6 = .ok (.goto 4, 3) := by decide +kernel
theorem dJ9_abs_0f7a4_9 : decode cJ9_abs_0f7a4 9 = .ok (.iload_n 0, 1) := by decide +kernel
theorem dJ9_abs_0f7a4_10 : decode cJ9_abs_0f7a4 10 = .ok (.ireturn, 1) := by decide +kernel
theorem dJ9_max_7cf53_0 : decode cJ9_max_7cf53 0 = .ok (.iload_n 0, 1) := by decide +kernel
theorem dJ9_max_7cf53_1 : decode cJ9_max_7cf53 1 = .ok (.iload_n 1, 1) := by decide +kernel
theorem dJ9_max_7cf53_2 : decode cJ9_max_7cf53 2 = .ok (.if_icmp .lt 7, 3) := by decide +kernel
theorem dJ9_max_7cf53_5 : decode cJ9_max_7cf53 5 = .ok (.iload_n 0, 1) := by decide +kernel
theorem dJ9_max_7cf53_6 : decode cJ9_max_7cf53 6 = .ok (.goto 4, 3) := by decide +kernel
theorem dJ9_max_7cf53_9 : decode cJ9_max_7cf53 9 = .ok (.iload_n 1, 1) := by decide +kernel
theorem dJ9_max_7cf53_10 : decode cJ9_max_7cf53 10 = .ok (.ireturn, 1) := by decide +kernel
theorem dJ9_min_7cf53_0 : decode cJ9_min_7cf53 0 = .ok (.iload_n 0, 1) := by decide +kernel
theorem dJ9_min_7cf53_1 : decode cJ9_min_7cf53 1 = .ok (.iload_n 1, 1) := by decide +kernel
theorem dJ9_min_7cf53_2 : decode cJ9_min_7cf53 2 = .ok (.if_icmp .gt 7, 3) := by decide +kernel
theorem dJ9_min_7cf53_5 : decode cJ9_min_7cf53 5 = .ok (.iload_n 0, 1) := by decide +kernel
theorem dJ9_min_7cf53_6 : decode cJ9_min_7cf53 6 = .ok (.goto 4, 3) := by decide +kernel
theorem dJ9_min_7cf53_9 : decode cJ9_min_7cf53 9 = .ok (.iload_n 1, 1) := by decide +kernel
theorem dJ9_min_7cf53_10 : decode cJ9_min_7cf53 10 = .ok (.ireturn, 1) := by decide +kernel
theorem dJ7_fill_53178_0 : decode cJ7_fill_53178 0 = .ok (.iconst 0, 1) := by decide +kernel
theorem dJ7_fill_53178_1 : decode cJ7_fill_53178 1 = .ok (.istore_n 2, 1) := by decide +kernel
theorem dJ7_fill_53178_2 : decode cJ7_fill_53178 2 = .ok (.aload_n 0, 1) := by decide +kernel
theorem dJ7_fill_53178_3 : decode cJ7_fill_53178 3 = .ok (.arraylength, 1) := by decide +kernel
theorem dJ7_fill_53178_4 : decode cJ7_fill_53178 4 = .ok (.istore_n 3, 1) := by decide +kernel
theorem dJ7_fill_53178_5 : decode cJ7_fill_53178 5 = .ok (.iload_n 2, 1) := by decide +kernel
theorem dJ7_fill_53178_6 : decode cJ7_fill_53178 6 = .ok (.iload_n 3, 1) := by decide +kernel
theorem dJ7_fill_53178_7 : decode cJ7_fill_53178 7 = .ok (.if_icmp .ge 13, 3) := by decide +kernel
theorem dJ7_fill_53178_10 : decode cJ7_fill_53178 10 = .ok (.aload_n 0, 1) := by decide +kernel
theorem dJ7_fill_53178_11 : decode cJ7_fill_53178 11 = .ok (.iload_n 2, 1) := by decide +kernel
theorem dJ7_fill_53178_12 : decode cJ7_fill_53178 12 = .ok (.iload_n 1, 1) := by decide +kernel
theorem dJ7_fill_53178_13 : decode cJ7_fill_53178 13 = .ok (.iastore, 1) := by decide +kernel
theorem dJ7_fill_53178_14 : decode cJ7_fill_53178 14 = .ok (.iinc 2 1, 3) := by decide +kernel
theorem dJ7_fill_53178_17 : decode cJ7_fill_53178 17 = .ok (.goto (-12), 3) := by decide +kernel
theorem dJ7_fill_53178_20 : decode cJ7_fill_53178 20 = .ok (.return_, 1) := by decide +kernel
