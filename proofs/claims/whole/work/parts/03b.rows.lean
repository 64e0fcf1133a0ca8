theorem dX5_init_15 : decode cX5_init 15 = .ok (.aload_n 0, 1) := by decide +kernel
theorem dX5_init_16 : decode cX5_init 16 = .ok (.bipush 100, 2) := by decide +kernel
theorem dX5_init_18 : decode cX5_init 18 = .ok (.putfield 18, 3) := by decide +kernel
theorem dX5_init_21 : decode cX5_init 21 = .ok (.return_, 1) := by decide +kernel
theorem dX5_adapt_0 : decode cX5_adapt 0 = .ok (.bipush 16, 2) := by decide +kernel
theorem dX5_adapt_2 : decode cX5_adapt 2 = .ok (.iload_n 1, 1) := by decide +kernel
theorem dX5_adapt_3 : decode cX5_adapt 3 = .ok (.imul, 1) := by decide +kernel
theorem dX5_adapt_4 : decode cX5_adapt 4 = .ok (.istore_n 2, 1) := by decide +kernel
theorem dX5_adapt_5 : decode cX5_adapt 5 = .ok (.iload_n 2, 1) := by decide +kernel
theorem dX5_adapt_6 : decode cX5_adapt 6 = .ok (.aload_n 0, 1) := by decide +kernel
theorem dX5_adapt_7 : decode cX5_adapt 7 = .ok (.getfield 11, 3) := by decide +kernel
theorem dX5_adapt_10 : decode cX5_adapt 10 = .ok (.if_icmp .le 24, 3) := by decide +kernel
theorem dX5_adapt_13 : decode cX5_adapt 13 = .ok (.aload_n 0, 1) := by decide +kernel
theorem dX5_adapt_14 : decode cX5_adapt 14 = .ok (.dup, 1) := by decide +kernel
theorem dX5_adapt_15 : decode cX5_adapt 15 = .ok (.getfield 11, 3) := by decide +kernel
theorem dX5_adapt_18 : decode cX5_adapt 18 = .ok (.iload_n 2, 1) := by decide +kernel
theorem dX5_adapt_19 : decode cX5_adapt 19 = .ok (.aload_n 0, 1) := by decide +kernel
theorem dX5_adapt_20 : decode cX5_adapt 20 = .ok (.getfield 11, 3) := by decide +kernel
theorem dX5_adapt_23 : decode cX5_adapt 23 = .ok (.isub, 1) := by decide +kernel
theorem dX5_adapt_24 : decode cX5_adapt 24 = .ok (.bipush 8, 2) := by decide +kernel
theorem dX5_adapt_26 : decode cX5_adapt 26 = .ok (.idiv, 1) := by decide +kernel
theorem dX5_adapt_27 : decode cX5_adapt 27 = .ok (.iadd, 1) := by decide +kernel
theorem dX5_adapt_28 : decode cX5_adapt 28 = .ok (.putfield 11, 3) := by decide +kernel
theorem dX5_adapt_31 : decode cX5_adapt 31 = .ok (.goto 21, 3) := by decide +kernel
theorem dX5_adapt_34 : decode cX5_adapt 34 = .ok (.aload_n 0, 1) := by decide +kernel
theorem dX5_adapt_35 : decode cX5_adapt 35 = .ok (.dup, 1) := by decide +kernel
theorem dX5_adapt_36 : decode cX5_adapt 36 = .ok (.getfield 11, 3) := by decide +kernel
theorem dX5_adapt_39 : decode cX5_adapt 39 = .ok (.aload_n 0, 1) := by decide +kernel
theorem dX5_adapt_40 : decode cX5_adapt 40 = .ok (.getfield 11, 3) := by decide +kernel
theorem dX5_adapt_43 : decode cX5_adapt 43 = .ok (.iload_n 2, 1) := by decide +kernel
theorem dX5_adapt_44 : decode cX5_adapt 44 = .ok (.isub, 1) := by decide +kernel
theorem dX5_adapt_45 : decode cX5_adapt 45 = .ok (.bipush 32, 2) := by decide +kernel
theorem dX5_adapt_47 : decode cX5_adapt 47 = .ok (.idiv, 1) := by decide +kernel
theorem dX5_adapt_48 : decode cX5_adapt 48 = .ok (.isub, 1) := by decide +kernel
theorem dX5_adapt_49 : decode cX5_adapt 49 = .ok (.putfield 11, 3) := by decide +kernel
theorem dX5_adapt_52 : decode cX5_adapt 52 = .ok (.return_, 1) := by decide +kernel
set_option maxRecDepth 20000 in
theorem ggX5_approach_X8_nearest : GoodIn wsX5_approach wsX8_nearest := goodIn_r _ [5] (by decide +kernel) (by decide +kernel)
set_option maxRecDepth 20000 in
theorem gX5_approach_X8_nearest_n21 : GoodIn wsX5_approach (wsX8_nearest) := ggX5_approach_X8_nearest
theorem dX5_approach_0 : decode cX5_approach 0 = .ok (.iload_n 1, 1) := by decide +kernel
theorem dX5_approach_1 : decode cX5_approach 1 = .ok (.iload_n 1, 1) := by decide +kernel
theorem dX5_approach_2 : decode cX5_approach 2 = .ok (.iload_n 2, 1) := by decide +kernel
theorem dX5_approach_3 : decode cX5_approach 3 = .ok (.isub, 1) := by decide +kernel
theorem dX5_approach_4 : decode cX5_approach 4 = .ok (.aload_n 0, 1) := by decide +kernel
theorem dX5_approach_5 : decode cX5_approach 5 = .ok (.getfield 11, 3) := by decide +kernel
theorem dX5_approach_8 : decode cX5_approach 8 = .ok (.imul, 1) := by decide +kernel
theorem dX5_approach_9 : decode cX5_approach 9 = .ok (.sipush 4080, 3) := by decide +kernel
theorem dX5_approach_12 : decode cX5_approach 12 = .ok (.idiv, 1) := by decide +kernel
theorem dX5_approach_13 : decode cX5_approach 13 = .ok (.isub, 1) := by decide +kernel
theorem dX5_approach_14 : decode cX5_approach 14 = .ok (.istore_n 3, 1) := by decide +kernel
theorem dX5_approach_15 : decode cX5_approach 15 = .ok (.aload_n 0, 1) := by decide +kernel
theorem dX5_approach_16 : decode cX5_approach 16 = .ok (.dup, 1) := by decide +kernel
theorem dX5_approach_17 : decode cX5_approach 17 = .ok (.getfield 15, 3) := by decide +kernel
theorem dX5_approach_20 : decode cX5_approach 20 = .ok (.iload_n 3, 1) := by decide +kernel
theorem dX5_approach_21 : decode cX5_approach 21 = .ok (.aload_n 0, 1) := by decide +kernel
theorem dX5_approach_22 : decode cX5_approach 22 = .ok (.getfield 15, 3) := by decide +kernel
theorem dX5_approach_25 : decode cX5_approach 25 = .ok (.isub, 1) := by decide +kernel
theorem dX5_approach_26 : decode cX5_approach 26 = .ok (.bipush (-4), 2) := by decide +kernel
theorem dX5_approach_28 : decode cX5_approach 28 = .ok (.iconst 4, 1) := by decide +kernel
theorem dX5_approach_29 : decode cX5_approach 29 = .ok (.invokestatic 21, 3) := by decide +kernel
theorem dX5_approach_32 : decode cX5_approach 32 = .ok (.iadd, 1) := by decide +kernel
theorem dX5_approach_33 : decode cX5_approach 33 = .ok (.putfield 15, 3) := by decide +kernel
theorem dX5_approach_36 : decode cX5_approach 36 = .ok (.return_, 1) := by decide +kernel
theorem dX5_beginCycle_0 : decode cX5_beginCycle 0 = .ok (.aload_n 0, 1) := by decide +kernel
theorem dX5_beginCycle_1 : decode cX5_beginCycle 1 = .ok (.iload_n 2, 1) := by decide +kernel
theorem dX5_beginCycle_2 : decode cX5_beginCycle 2 = .ok (.ifCond .eq 14, 3) := by decide +kernel
theorem dX5_beginCycle_5 : decode cX5_beginCycle 5 = .ok (.iload_n 1, 1) := by decide +kernel
theorem dX5_beginCycle_6 : decode cX5_beginCycle 6 = .ok (.aload_n 0, 1) := by decide +kernel
theorem dX5_beginCycle_7 : decode cX5_beginCycle 7 = .ok (.getfield 15, 3) := by decide +kernel
theorem dX5_beginCycle_10 : decode cX5_beginCycle 10 = .ok (.invokestatic 25, 3) := by decide +kernel
theorem dX5_beginCycle_13 : decode cX5_beginCycle 13 = .ok (.goto 4, 3) := by decide +kernel
theorem dX5_beginCycle_16 : decode cX5_beginCycle 16 = .ok (.iload_n 1, 1) := by decide +kernel
theorem dX5_beginCycle_17 : decode cX5_beginCycle 17 = .ok (.putfield 18, 3) := by decide +kernel
theorem dX5_beginCycle_20 : decode cX5_beginCycle 20 = .ok (.return_, 1) := by decide +kernel
set_option maxRecDepth 20000 in
theorem ggX6_init_J7_fill_53178 : GoodIn wsX6_init wsJ7_fill_53178 := goodIn_r _ [16] (by decide +kernel) (by decide +kernel)
set_option maxRecDepth 20000 in
theorem gX6_init_J7_fill_53178 : GoodIn wsX6_init (va_wsS RX6 26 yJ7_fill_53178 wsJ7_fill_53178) := goodIn_app (goodIn_of _ (by decide +kernel)) ggX6_init_J7_fill_53178
theorem dX6_init_0 : decode cX6_init 0 = .ok (.aload_n 0, 1) := by decide +kernel
theorem dX6_init_1 : decode cX6_init 1 = .ok (.invokespecial 3, 3) := by decide +kernel
theorem dX6_init_4 : decode cX6_init 4 = .ok (.aload_n 0, 1) := by decide +kernel
theorem dX6_init_5 : decode cX6_init 5 = .ok (.getstatic 9, 3) := by decide +kernel
theorem dX6_init_8 : decode cX6_init 8 = .ok (.invokevirtual 13, 3) := by decide +kernel
theorem dX6_init_11 : decode cX6_init 11 = .ok (.checkcast 14, 3) := by decide +kernel
theorem dX6_init_14 : decode cX6_init 14 = .ok (.putfield 18, 3) := by decide +kernel
theorem dX6_init_17 : decode cX6_init 17 = .ok (.aload_n 0, 1) := by decide +kernel
theorem dX6_init_18 : decode cX6_init 18 = .ok (.bipush 14, 2) := by decide +kernel
theorem dX6_init_20 : decode cX6_init 20 = .ok (.newarray .int, 2) := by decide +kernel
theorem dX6_init_22 : decode cX6_init 22 = .ok (.putfield 23, 3) := by decide +kernel
theorem dX6_init_25 : decode cX6_init 25 = .ok (.aload_n 0, 1) := by decide +kernel
theorem dX6_init_26 : decode cX6_init 26 = .ok (.getfield 23, 3) := by decide +kernel
theorem dX6_init_29 : decode cX6_init 29 = .ok (.iconst (-1), 1) := by decide +kernel
theorem dX6_init_30 : decode cX6_init 30 = .ok (.invokestatic 26, 3) := by decide +kernel
theorem dX6_init_33 : decode cX6_init 33 = .ok (.return_, 1) := by decide +kernel
theorem dX6_exists_0 : decode cX6_exists 0 = .ok (.iload_n 0, 1) := by decide +kernel
theorem dX6_exists_1 : decode cX6_exists 1 = .ok (.ifCond .lt 13, 3) := by decide +kernel
theorem dX6_exists_4 : decode cX6_exists 4 = .ok (.iload_n 0, 1) := by decide +kernel
theorem dX6_exists_5 : decode cX6_exists 5 = .ok (.bipush 14, 2) := by decide +kernel
theorem dX6_exists_7 : decode cX6_exists 7 = .ok (.if_icmp .ge 7, 3) := by decide +kernel
theorem dX6_exists_10 : decode cX6_exists 10 = .ok (.iconst 1, 1) := by decide +kernel
theorem dX6_exists_11 : decode cX6_exists 11 = .ok (.goto 4, 3) := by decide +kernel
theorem dX6_exists_14 : decode cX6_exists 14 = .ok (.iconst 0, 1) := by decide +kernel
theorem dX6_exists_15 : decode cX6_exists 15 = .ok (.ireturn, 1) := by decide +kernel
set_option maxRecDepth 20000 in
theorem ggX6_allows_X6_exists : GoodIn wsX6_allows wsX6_exists := goodIn_r _ [4] (by decide +kernel) (by decide +kernel)
set_option maxRecDepth 20000 in
theorem gX6_allows_X6_exists : GoodIn wsX6_allows (va_wsS RX6 32 yX6_exists wsX6_exists) := goodIn_app (goodIn_of _ (by decide +kernel)) ggX6_allows_X6_exists
theorem dX6_allows_0 : decode cX6_allows 0 = .ok (.iload_n 0, 1) := by decide +kernel
theorem dX6_allows_1 : decode cX6_allows 1 = .ok (.invokestatic 32, 3) := by decide +kernel
theorem dX6_allows_4 : decode cX6_allows 4 = .ok (.ifCond .eq 25, 3) := by decide +kernel
theorem dX6_allows_7 : decode cX6_allows 7 = .ok (.iload_n 1, 1) := by decide +kernel
theorem dX6_allows_8 : decode cX6_allows 8 = .ok (.getstatic 36, 3) := by decide +kernel
theorem dX6_allows_11 : decode cX6_allows 11 = .ok (.iload_n 0, 1) := by decide +kernel
theorem dX6_allows_12 : decode cX6_allows 12 = .ok (.iaload, 1) := by decide +kernel
theorem dX6_allows_13 : decode cX6_allows 13 = .ok (.if_icmp .lt 16, 3) := by decide +kernel
theorem dX6_allows_16 : decode cX6_allows 16 = .ok (.iload_n 1, 1) := by decide +kernel
theorem dX6_allows_17 : decode cX6_allows 17 = .ok (.getstatic 39, 3) := by decide +kernel
theorem dX6_allows_20 : decode cX6_allows 20 = .ok (.iload_n 0, 1) := by decide +kernel
theorem dX6_allows_21 : decode cX6_allows 21 = .ok (.iaload, 1) := by decide +kernel
theorem dX6_allows_22 : decode cX6_allows 22 = .ok (.if_icmp .gt 7, 3) := by decide +kernel
theorem dX6_allows_25 : decode cX6_allows 25 = .ok (.iconst 1, 1) := by decide +kernel
theorem dX6_allows_26 : decode cX6_allows 26 = .ok (.goto 4, 3) := by decide +kernel
theorem dX6_allows_29 : decode cX6_allows 29 = .ok (.iconst 0, 1) := by decide +kernel
theorem dX6_allows_30 : decode cX6_allows 30 = .ok (.ireturn, 1) := by decide +kernel
theorem dX6_mode_0 : decode cX6_mode 0 = .ok (.aload_n 0, 1) := by decide +kernel
theorem dX6_mode_1 : decode cX6_mode 1 = .ok (.getfield 18, 3) := by decide +kernel
theorem dX6_mode_4 : decode cX6_mode 4 = .ok (.iconst 0, 1) := by decide +kernel
theorem dX6_mode_5 : decode cX6_mode 5 = .ok (.iaload, 1) := by decide +kernel
theorem dX6_mode_6 : decode cX6_mode 6 = .ok (.ireturn, 1) := by decide +kernel
set_option maxRecDepth 20000 in
theorem ggX6_inForce_X6_exists : GoodIn wsX6_inForce wsX6_exists := goodIn_r _ [5] (by decide +kernel) (by decide +kernel)
set_option maxRecDepth 20000 in
theorem gX6_inForce_X6_exists : GoodIn wsX6_inForce (va_wsS RX6 32 yX6_exists wsX6_exists) := goodIn_app (goodIn_of _ (by decide +kernel)) ggX6_inForce_X6_exists
theorem dX6_inForce_0 : decode cX6_inForce 0 = .ok (.iload_n 1, 1) := by decide +kernel
theorem dX6_inForce_1 : decode cX6_inForce 1 = .ok (.invokestatic 32, 3) := by decide +kernel
theorem dX6_inForce_4 : decode cX6_inForce 4 = .ok (.ifCond .eq 12, 3) := by decide +kernel
theorem dX6_inForce_7 : decode cX6_inForce 7 = .ok (.aload_n 0, 1) := by decide +kernel
theorem dX6_inForce_8 : decode cX6_inForce 8 = .ok (.getfield 18, 3) := by decide +kernel
theorem dX6_inForce_11 : decode cX6_inForce 11 = .ok (.iload_n 1, 1) := by decide +kernel
theorem dX6_inForce_12 : decode cX6_inForce 12 = .ok (.iaload, 1) := by decide +kernel
theorem dX6_inForce_13 : decode cX6_inForce 13 = .ok (.goto 4, 3) := by decide +kernel
theorem dX6_inForce_16 : decode cX6_inForce 16 = .ok (.iconst (-1), 1) := by decide +kernel
theorem dX6_inForce_17 : decode cX6_inForce 17 = .ok (.ireturn, 1) := by decide +kernel
set_option maxRecDepth 20000 in
theorem ggX6_pending_X6_exists : GoodIn wsX6_pending wsX6_exists := goodIn_r _ [5] (by decide +kernel) (by decide +kernel)
set_option maxRecDepth 20000 in
theorem gX6_pending_X6_exists : GoodIn wsX6_pending (va_wsS RX6 32 yX6_exists wsX6_exists) := goodIn_app (goodIn_of _ (by decide +kernel)) ggX6_pending_X6_exists
theorem dX6_pending_0 : decode cX6_pending 0 = .ok (.iload_n 1, 1) := by decide +kernel
theorem dX6_pending_1 : decode cX6_pending 1 = .ok (.invokestatic 32, 3) := by decide +kernel
theorem dX6_pending_4 : decode cX6_pending 4 = .ok (.ifCond .eq 12, 3) := by decide +kernel
theorem dX6_pending_7 : decode cX6_pending 7 = .ok (.aload_n 0, 1) := by decide +kernel
theorem dX6_pending_8 : decode cX6_pending 8 = .ok (.getfield 23, 3) := by decide +kernel
theorem dX6_pending_11 : decode cX6_pending 11 = .ok (.iload_n 1, 1) := by decide +kernel
theorem dX6_pending_12 : decode cX6_pending 12 = .ok (.iaload, 1) := by decide +kernel
theorem dX6_pending_13 : decode cX6_pending 13 = .ok (.goto 4, 3) := by decide +kernel
theorem dX6_pending_16 : decode cX6_pending 16 = .ok (.iconst (-1), 1) := by decide +kernel
theorem dX6_pending_17 : decode cX6_pending 17 = .ok (.ireturn, 1) := by decide +kernel
set_option maxRecDepth 20000 in
theorem ggX6_latest_X6_pending : GoodIn wsX6_latest wsX6_pending := goodIn_r _ [5, 6, 7, 8, 4, 9, 15, 16] (by decide +kernel) (by decide +kernel)
set_option maxRecDepth 20000 in
theorem gX6_latest_X6_pending : GoodIn wsX6_latest (wsV RX6 42 RX6 yX6_pending wsX6_pending) := goodIn_app (goodIn_of _ (by decide +kernel)) ggX6_latest_X6_pending
set_option maxRecDepth 20000 in
theorem ggX6_latest_X6_inForce : GoodIn wsX6_latest wsX6_inForce := goodIn_r _ [13, 14, 7, 8, 4, 9, 15, 16] (by decide +kernel) (by decide +kernel)
set_option maxRecDepth 20000 in
theorem gX6_latest_X6_inForce : GoodIn wsX6_latest (wsV RX6 46 RX6 yX6_inForce wsX6_inForce) := goodIn_app (goodIn_of _ (by decide +kernel)) ggX6_latest_X6_inForce
theorem dX6_latest_0 : decode cX6_latest 0 = .ok (.aload_n 0, 1) := by decide +kernel
theorem dX6_latest_1 : decode cX6_latest 1 = .ok (.iload_n 1, 1) := by decide +kernel
theorem dX6_latest_2 : decode cX6_latest 2 = .ok (.invokevirtual 42, 3) := by decide +kernel
theorem dX6_latest_5 : decode cX6_latest 5 = .ok (.istore_n 2, 1) := by decide +kernel
theorem dX6_latest_6 : decode cX6_latest 6 = .ok (.iload_n 2, 1) := by decide +kernel
theorem dX6_latest_7 : decode cX6_latest 7 = .ok (.iconst (-1), 1) := by decide +kernel
theorem dX6_latest_8 : decode cX6_latest 8 = .ok (.if_icmp .ne 11, 3) := by decide +kernel
theorem dX6_latest_11 : decode cX6_latest 11 = .ok (.aload_n 0, 1) := by decide +kernel
theorem dX6_latest_12 : decode cX6_latest 12 = .ok (.iload_n 1, 1) := by decide +kernel
theorem dX6_latest_13 : decode cX6_latest 13 = .ok (.invokevirtual 46, 3) := by decide +kernel
theorem dX6_latest_16 : decode cX6_latest 16 = .ok (.goto 4, 3) := by decide +kernel
theorem dX6_latest_19 : decode cX6_latest 19 = .ok (.iload_n 2, 1) := by decide +kernel
theorem dX6_latest_20 : decode cX6_latest 20 = .ok (.ireturn, 1) := by decide +kernel
set_option maxRecDepth 20000 in
theorem ggX6_ask_X6_allows : GoodIn wsX6_ask wsX6_allows := goodIn_r _ [5, 6, 7, 4, 8] (by decide +kernel) (by decide +kernel)
set_option maxRecDepth 20000 in
theorem gX6_ask_X6_allows : GoodIn wsX6_ask (va_wsS RX6 49 yX6_allows wsX6_allows) := goodIn_app (goodIn_of _ (by decide +kernel)) ggX6_ask_X6_allows
theorem dX6_ask_0 : decode cX6_ask 0 = .ok (.iload_n 1, 1) := by decide +kernel
theorem dX6_ask_1 : decode cX6_ask 1 = .ok (.iload_n 2, 1) := by decide +kernel
theorem dX6_ask_2 : decode cX6_ask 2 = .ok (.invokestatic 49, 3) := by decide +kernel
theorem dX6_ask_5 : decode cX6_ask 5 = .ok (.ifCond .eq 10, 3) := by decide +kernel
theorem dX6_ask_8 : decode cX6_ask 8 = .ok (.aload_n 0, 1) := by decide +kernel
theorem dX6_ask_9 : decode cX6_ask 9 = .ok (.getfield 23, 3) := by decide +kernel
theorem dX6_ask_12 : decode cX6_ask 12 = .ok (.iload_n 1, 1) := by decide +kernel
theorem dX6_ask_13 : decode cX6_ask 13 = .ok (.iload_n 2, 1) := by decide +kernel
theorem dX6_ask_14 : decode cX6_ask 14 = .ok (.iastore, 1) := by decide +kernel
theorem dX6_ask_15 : decode cX6_ask 15 = .ok (.return_, 1) := by decide +kernel
set_option maxRecDepth 20000 in
theorem ggX6_dropPending_J7_fill_53178 : GoodIn wsX6_dropPending wsJ7_fill_53178 := goodIn_r _ [5] (by decide +kernel) (by decide +kernel)
set_option maxRecDepth 20000 in
theorem gX6_dropPending_J7_fill_53178 : GoodIn wsX6_dropPending (va_wsS RX6 26 yJ7_fill_53178 wsJ7_fill_53178) := goodIn_app (goodIn_of _ (by decide +kernel)) ggX6_dropPending_J7_fill_53178
theorem dX6_dropPending_0 : decode cX6_dropPending 0 = .ok (.aload_n 0, 1) := by decide +kernel
theorem dX6_dropPending_1 : decode cX6_dropPending 1 = .ok (.getfield 23, 3) := by decide +kernel
theorem dX6_dropPending_4 : decode cX6_dropPending 4 = .ok (.iconst (-1), 1) := by decide +kernel
theorem dX6_dropPending_5 : decode cX6_dropPending 5 = .ok (.invokestatic 26, 3) := by decide +kernel
theorem dX6_dropPending_8 : decode cX6_dropPending 8 = .ok (.return_, 1) := by decide +kernel
theorem dX6_putInForce_0 : decode cX6_putInForce 0 = .ok (.iconst 0, 1) := by decide +kernel
theorem dX6_putInForce_1 : decode cX6_putInForce 1 = .ok (.istore_n 1, 1) := by decide +kernel
theorem dX6_putInForce_2 : decode cX6_putInForce 2 = .ok (.iconst 0, 1) := by decide +kernel
theorem dX6_putInForce_3 : decode cX6_putInForce 3 = .ok (.istore_n 2, 1) := by decide +kernel
theorem dX6_putInForce_4 : decode cX6_putInForce 4 = .ok (.iload_n 2, 1) := by decide +kernel
theorem dX6_putInForce_5 : decode cX6_putInForce 5 = .ok (.bipush 14, 2) := by decide +kernel
theorem dX6_putInForce_7 : decode cX6_putInForce 7 = .ok (.if_icmp .ge 40, 3) := by decide +kernel
theorem dX6_putInForce_10 : decode cX6_putInForce 10 = .ok (.aload_n 0, 1) := by decide +kernel
theorem dX6_putInForce_11 : decode cX6_putInForce 11 = .ok (.getfield 23, 3) := by decide +kernel
theorem dX6_putInForce_14 : decode cX6_putInForce 14 = .ok (.iload_n 2, 1) := by decide +kernel
theorem dX6_putInForce_15 : decode cX6_putInForce 15 = .ok (.iaload, 1) := by decide +kernel
theorem dX6_putInForce_16 : decode cX6_putInForce 16 = .ok (.iconst (-1), 1) := by decide +kernel
theorem dX6_putInForce_17 : decode cX6_putInForce 17 = .ok (.if_icmp .eq 24, 3) := by decide +kernel
theorem dX6_putInForce_20 : decode cX6_putInForce 20 = .ok (.aload_n 0, 1) := by decide +kernel
theorem dX6_putInForce_21 : decode cX6_putInForce 21 = .ok (.getfield 18, 3) := by decide +kernel
theorem dX6_putInForce_24 : decode cX6_putInForce 24 = .ok (.iload_n 2, 1) := by decide +kernel
theorem dX6_putInForce_25 : decode cX6_putInForce 25 = .ok (.aload_n 0, 1) := by decide +kernel
theorem dX6_putInForce_26 : decode cX6_putInForce 26 = .ok (.getfield 23, 3) := by decide +kernel
theorem dX6_putInForce_29 : decode cX6_putInForce 29 = .ok (.iload_n 2, 1) := by decide +kernel
theorem dX6_putInForce_30 : decode cX6_putInForce 30 = .ok (.iaload, 1) := by decide +kernel
theorem dX6_putInForce_31 : decode cX6_putInForce 31 = .ok (.iastore, 1) := by decide +kernel
theorem dX6_putInForce_32 : decode cX6_putInForce 32 = .ok (.aload_n 0, 1) := by decide +kernel
theorem dX6_putInForce_33 : decode cX6_putInForce 33 = .ok (.getfield 23, 3) := by decide +kernel
theorem dX6_putInForce_36 : decode cX6_putInForce 36 = .ok (.iload_n 2, 1) := by decide +kernel
theorem dX6_putInForce_37 : decode cX6_putInForce 37 = .ok (.iconst (-1), 1) := by decide +kernel
theorem dX6_putInForce_38 : decode cX6_putInForce 38 = .ok (.iastore, 1) := by decide +kernel
theorem dX6_putInForce_39 : decode cX6_putInForce 39 = .ok (.iconst 1, 1) := by decide +kernel
theorem dX6_putInForce_40 : decode cX6_putInForce 40 = .ok (.istore_n 1, 1) := by decide +kernel
theorem dX6_putInForce_41 : decode cX6_putInForce 41 = .ok (.iinc 2 1, 3) := by decide +kernel
theorem dX6_putInForce_44 : decode cX6_putInForce 44 = .ok (.goto (-40), 3) := by decide +kernel
theorem dX6_putInForce_47 : decode cX6_putInForce 47 = .ok (.iload_n 1, 1) := by decide +kernel
theorem dX6_putInForce_48 : decode cX6_putInForce 48 = .ok (.ireturn, 1) := by decide +kernel
theorem dX7_init_0 : decode cX7_init 0 = .ok (.aload_n 0, 1) := by decide +kernel
theorem dX7_init_1 : decode cX7_init 1 = .ok (.invokespecial 1, 3) := by decide +kernel
theorem dX7_init_4 : decode cX7_init 4 = .ok (.aload_n 0, 1) := by decide +kernel
theorem dX7_init_5 : decode cX7_init 5 = .ok (.iconst 0, 1) := by decide +kernel
theorem dX7_init_6 : decode cX7_init 6 = .ok (.putfield 7, 3) := by decide +kernel
theorem dX7_init_9 : decode cX7_init 9 = .ok (.aload_n 0, 1) := by decide +kernel
theorem dX7_init_10 : decode cX7_init 10 = .ok (.iconst 0, 1) := by decide +kernel
theorem dX7_init_11 : decode cX7_init 11 = .ok (.putfield 13, 3) := by decide +kernel
theorem dX7_init_14 : decode cX7_init 14 = .ok (.return_, 1) := by decide +kernel
theorem dX7_crosses_0 : decode cX7_crosses 0 = .ok (.iload_n 1, 1) := by decide +kernel
theorem dX7_crosses_1 : decode cX7_crosses 1 = .ok (.aload_n 0, 1) := by decide +kernel
theorem dX7_crosses_2 : decode cX7_crosses 2 = .ok (.getfield 13, 3) := by decide +kernel
theorem dX7_crosses_5 : decode cX7_crosses 5 = .ok (.isub, 1) := by decide +kernel
theorem dX7_crosses_6 : decode cX7_crosses 6 = .ok (.invokestatic 16, 3) := by decide +kernel
theorem dX7_crosses_9 : decode cX7_crosses 9 = .ok (.istore_n 3, 1) := by decide +kernel
theorem dX7_crosses_10 : decode cX7_crosses 10 = .ok (.aload_n 0, 1) := by decide +kernel
theorem dX7_crosses_11 : decode cX7_crosses 11 = .ok (.aload_n 0, 1) := by decide +kernel
theorem dX7_crosses_12 : decode cX7_crosses 12 = .ok (.getfield 7, 3) := by decide +kernel
theorem dX7_crosses_15 : decode cX7_crosses 15 = .ok (.putfield 13, 3) := by decide +kernel
theorem dX7_crosses_18 : decode cX7_crosses 18 = .ok (.aload_n 0, 1) := by decide +kernel
theorem dX7_crosses_19 : decode cX7_crosses 19 = .ok (.iload_n 1, 1) := by decide +kernel
theorem dX7_crosses_20 : decode cX7_crosses 20 = .ok (.putfield 7, 3) := by decide +kernel
theorem dX7_crosses_23 : decode cX7_crosses 23 = .ok (.iload_n 3, 1) := by decide +kernel
theorem dX7_crosses_24 : decode cX7_crosses 24 = .ok (.iload_n 2, 1) := by decide +kernel
theorem dX7_crosses_25 : decode cX7_crosses 25 = .ok (.if_icmp .lt 7, 3) := by decide +kernel
theorem dX7_crosses_28 : decode cX7_crosses 28 = .ok (.iconst 1, 1) := by decide +kernel
theorem dX7_crosses_29 : decode cX7_crosses 29 = .ok (.goto 4, 3) := by decide +kernel
theorem dX7_crosses_32 : decode cX7_crosses 32 = .ok (.iconst 0, 1) := by decide +kernel
theorem dX7_crosses_33 : decode cX7_crosses 33 = .ok (.ireturn, 1) := by decide +kernel
set_option maxRecDepth 20000 in
theorem ggX8_init_X6_init : GoodIn wsX8_init wsX6_init := goodIn_r _ [40, 41, 2, 3, 42, 43, 44, 45, 46, 47, 48, 49, 50, 51, 52, 53, 54, 98, 99] (by decide +kernel) (by decide +kernel)
set_option maxRecDepth 20000 in
theorem gX8_init_X6_init : GoodIn wsX8_init (wsX6_init) := ggX8_init_X6_init
set_option maxRecDepth 20000 in
theorem ggX8_init_X0_init : GoodIn wsX8_init wsX0_init := goodIn_r _ [56, 57, 2, 3, 58, 59, 60, 61, 62, 63, 110, 111, 112, 113, 114, 115] (by decide +kernel) (by decide +kernel)
set_option maxRecDepth 20000 in
theorem gX8_init_X0_init_n18 : GoodIn wsX8_init (wsX0_init) := ggX8_init_X0_init
set_option maxRecDepth 20000 in
theorem ggX8_init_X7_init : GoodIn wsX8_init wsX7_init := goodIn_r _ [65, 66, 2, 3, 67, 68, 116, 117] (by decide +kernel) (by decide +kernel)
set_option maxRecDepth 20000 in
theorem gX8_init_X7_init_n25 : GoodIn wsX8_init (wsX7_init) := ggX8_init_X7_init
set_option maxRecDepth 20000 in
theorem ggX8_init_X2_init : GoodIn wsX8_init wsX2_init := goodIn_r _ [70, 71, 2, 3, 72, 73, 74, 118, 119, 120] (by decide +kernel) (by decide +kernel)
set_option maxRecDepth 20000 in
theorem gX8_init_X2_init_n35 : GoodIn wsX8_init (wsX2_init) := ggX8_init_X2_init
set_option maxRecDepth 20000 in
theorem ggX8_init_X5_init : GoodIn wsX8_init wsX5_init := goodIn_r _ [76, 77, 2, 3, 78, 79, 80, 121, 122, 123] (by decide +kernel) (by decide +kernel)
set_option maxRecDepth 20000 in
theorem gX8_init_X5_init_n42 : GoodIn wsX8_init (wsX5_init) := ggX8_init_X5_init
set_option maxRecDepth 20000 in
theorem ggX8_init_X1_init : GoodIn wsX8_init wsX1_init := goodIn_r _ [82, 83, 2, 3, 49, 84, 85, 124, 125] (by decide +kernel) (by decide +kernel)
set_option maxRecDepth 20000 in
theorem gX8_init_X1_init_n49 : GoodIn wsX8_init (wsX1_init) := ggX8_init_X1_init
set_option maxRecDepth 20000 in
theorem ggX8_init_X4_init : GoodIn wsX8_init wsX4_init := goodIn_r _ [87, 88, 2, 3, 49, 89, 90, 91, 92, 126, 127, 128, 129] (by decide +kernel) (by decide +kernel)
set_option maxRecDepth 20000 in
theorem gX8_init_X4_init_n56 : GoodIn wsX8_init (wsX4_init) := ggX8_init_X4_init
set_option maxRecDepth 20000 in
theorem ggX8_init_X3_init : GoodIn wsX8_init wsX3_init := goodIn_r _ [94, 95, 2, 3, 49, 96, 97, 130, 131] (by decide +kernel) (by decide +kernel)
set_option maxRecDepth 20000 in
theorem gX8_init_X3_init_n63 : GoodIn wsX8_init (wsX3_init) := ggX8_init_X3_init
theorem dX8_init_0 : decode cX8_init 0 = .ok (.aload_n 0, 1) := by decide +kernel
theorem dX8_init_1 : decode cX8_init 1 = .ok (.invokespecial 1, 3) := by decide +kernel
theorem dX8_init_4 : decode cX8_init 4 = .ok (.aload_n 0, 1) := by decide +kernel
theorem dX8_init_5 : decode cX8_init 5 = .ok (.new 7, 3) := by decide +kernel
theorem dX8_init_8 : decode cX8_init 8 = .ok (.dup, 1) := by decide +kernel
theorem dX8_init_9 : decode cX8_init 9 = .ok (.invokespecial 9, 3) := by decide +kernel
theorem dX8_init_12 : decode cX8_init 12 = .ok (.putfield 10, 3) := by decide +kernel
theorem dX8_init_15 : decode cX8_init 15 = .ok (.aload_n 0, 1) := by decide +kernel
theorem dX8_init_16 : decode cX8_init 16 = .ok (.new 16, 3) := by decide +kernel
theorem dX8_init_19 : decode cX8_init 19 = .ok (.dup, 1) := by decide +kernel
theorem dX8_init_20 : decode cX8_init 20 = .ok (.invokespecial 18, 3) := by decide +kernel
theorem dX8_init_23 : decode cX8_init 23 = .ok (.putfield 19, 3) := by decide +kernel
theorem dX8_init_26 : decode cX8_init 26 = .ok (.aload_n 0, 1) := by decide +kernel
theorem dX8_init_27 : decode cX8_init 27 = .ok (.new 23, 3) := by decide +kernel
theorem dX8_init_30 : decode cX8_init 30 = .ok (.dup, 1) := by decide +kernel
theorem dX8_init_31 : decode cX8_init 31 = .ok (.invokespecial 25, 3) := by decide +kernel
theorem dX8_init_34 : decode cX8_init 34 = .ok (.putfield 26, 3) := by decide +kernel
theorem dX8_init_37 : decode cX8_init 37 = .ok (.aload_n 0, 1) := by decide +kernel
theorem dX8_init_38 : decode cX8_init 38 = .ok (.new 23, 3) := by decide +kernel
theorem dX8_init_41 : decode cX8_init 41 = .ok (.dup, 1) := by decide +kernel
theorem dX8_init_42 : decode cX8_init 42 = .ok (.invokespecial 25, 3) := by decide +kernel
theorem dX8_init_45 : decode cX8_init 45 = .ok (.putfield 30, 3) := by decide +kernel
theorem dX8_init_48 : decode cX8_init 48 = .ok (.aload_n 0, 1) := by decide +kernel
theorem dX8_init_49 : decode cX8_init 49 = .ok (.new 33, 3) := by decide +kernel
theorem dX8_init_52 : decode cX8_init 52 = .ok (.dup, 1) := by decide +kernel
theorem dX8_init_53 : decode cX8_init 53 = .ok (.invokespecial 35, 3) := by decide +kernel
theorem dX8_init_56 : decode cX8_init 56 = .ok (.putfield 36, 3) := by decide +kernel
theorem dX8_init_59 : decode cX8_init 59 = .ok (.aload_n 0, 1) := by decide +kernel
theorem dX8_init_60 : decode cX8_init 60 = .ok (.new 40, 3) := by decide +kernel
theorem dX8_init_63 : decode cX8_init 63 = .ok (.dup, 1) := by decide +kernel
theorem dX8_init_64 : decode cX8_init 64 = .ok (.invokespecial 42, 3) := by decide +kernel
theorem dX8_init_67 : decode cX8_init 67 = .ok (.putfield 43, 3) := by decide +kernel
theorem dX8_init_70 : decode cX8_init 70 = .ok (.aload_n 0, 1) := by decide +kernel
theorem dX8_init_71 : decode cX8_init 71 = .ok (.new 47, 3) := by decide +kernel
theorem dX8_init_74 : decode cX8_init 74 = .ok (.dup, 1) := by decide +kernel
theorem dX8_init_75 : decode cX8_init 75 = .ok (.invokespecial 49, 3) := by decide +kernel
theorem dX8_init_78 : decode cX8_init 78 = .ok (.putfield 50, 3) := by decide +kernel
theorem dX8_init_81 : decode cX8_init 81 = .ok (.aload_n 0, 1) := by decide +kernel
theorem dX8_init_82 : decode cX8_init 82 = .ok (.new 54, 3) := by decide +kernel
theorem dX8_init_85 : decode cX8_init 85 = .ok (.dup, 1) := by decide +kernel
theorem dX8_init_86 : decode cX8_init 86 = .ok (.invokespecial 56, 3) := by decide +kernel
theorem dX8_init_89 : decode cX8_init 89 = .ok (.putfield 57, 3) := by decide +kernel
theorem dX8_init_92 : decode cX8_init 92 = .ok (.aload_n 0, 1) := by decide +kernel
theorem dX8_init_93 : decode cX8_init 93 = .ok (.new 61, 3) := by decide +kernel
theorem dX8_init_96 : decode cX8_init 96 = .ok (.dup, 1) := by decide +kernel
theorem dX8_init_97 : decode cX8_init 97 = .ok (.invokespecial 63, 3) := by decide +kernel
theorem dX8_init_100 : decode cX8_init 100 = .ok (.putfield 64, 3) := by decide +kernel
theorem dX8_init_103 : decode cX8_init 103 = .ok (.aload_n 0, 1) := by decide +kernel
theorem dX8_init_104 : decode cX8_init 104 = .ok (.iconst 0, 1) := by decide +kernel
theorem dX8_init_105 : decode cX8_init 105 = .ok (.putfield 68, 3) := by decide +kernel
theorem dX8_init_108 : decode cX8_init 108 = .ok (.return_, 1) := by decide +kernel
set_option maxRecDepth 20000 in
theorem ggX8_tick_X0_grow : GoodIn wsX8_tick wsX0_grow := goodIn_r _ [10, 11, 12, 13, 14, 15, 16, 17, 18, 19, 20, 21, 22, 9, 23, 204, 205, 206, 207, 208, 209] (by decide +kernel) (by decide +kernel)
set_option maxRecDepth 20000 in
theorem gX8_tick_X0_grow : GoodIn wsX8_tick (wsV RX8 72 RX0 yX0_grow wsX0_grow) := goodIn_app (goodIn_of _ (by decide +kernel)) ggX8_tick_X0_grow
set_option maxRecDepth 20000 in
theorem ggX8_tick_X8_nearest : GoodIn wsX8_tick wsX8_nearest := goodIn_r _ [27] (by decide +kernel) (by decide +kernel)
set_option maxRecDepth 20000 in
theorem gX8_tick_X8_nearest : GoodIn wsX8_tick (va_wsS RX8 75 yX8_nearest wsX8_nearest) := goodIn_app (goodIn_of _ (by decide +kernel)) ggX8_tick_X8_nearest
set_option maxRecDepth 20000 in
theorem ggX8_tick_X5_adapt : GoodIn wsX8_tick wsX5_adapt := goodIn_r _ [32, 33, 210, 211, 212] (by decide +kernel) (by decide +kernel)
set_option maxRecDepth 20000 in
theorem gX8_tick_X5_adapt : GoodIn wsX8_tick (wsV RX8 79 RX5 yX5_adapt wsX5_adapt) := goodIn_app (goodIn_of _ (by decide +kernel)) ggX8_tick_X5_adapt
set_option maxRecDepth 20000 in
theorem ggX8_tick_X6_inForce : GoodIn wsX8_tick wsX6_inForce := goodIn_r _ [38, 39, 40, 41, 37, 42, 213, 214] (by decide +kernel) (by decide +kernel)
set_option maxRecDepth 20000 in
theorem gX8_tick_X6_inForce : GoodIn wsX8_tick (wsV RX8 83 RX6 yX6_inForce wsX6_inForce) := goodIn_app (goodIn_of _ (by decide +kernel)) ggX8_tick_X6_inForce
set_option maxRecDepth 20000 in
theorem ggX8_tick_X7_crosses : GoodIn wsX8_tick wsX7_crosses := goodIn_r _ [47, 48, 49, 50, 15, 51, 52, 215, 216] (by decide +kernel) (by decide +kernel)
set_option maxRecDepth 20000 in
theorem gX8_tick_X7_crosses : GoodIn wsX8_tick (wsV RX8 87 RX7 yX7_crosses wsX7_crosses) := goodIn_app (goodIn_of _ (by decide +kernel)) ggX8_tick_X7_crosses
set_option maxRecDepth 20000 in
theorem ggX8_tick_X8_sense : GoodIn wsX8_tick wsX8_sense := goodIn_r _ [56, 57, 58, 59, 26, 60, 4, 1, 61, 62, 63, 64, 65, 37, 66, 39, 67, 68, 69, 34, 35, 36, 38, 40, 41, 42, 70, 71, 72, 73, 74, 75, 76, 77, 78, 79, 80, 81, 82, 83, 84, 85, 86, 87, 9, 88, 17, 89, 90, 91, 92, 93, 19, 94, 95, 96, 97, 98, 99, 100, 101, 2, 102, 103, 104, 105, 106, 107, 108, 109, 110, 111, 112, 113, 114, 115, 116, 117, 118, 119, 120, 121, 122, 123, 124, 125, 126, 127, 128, 25, 27, 129, 130, 131, 31, 132, 33, 133, 134, 135, 136, 137, 138, 14, 15, 16, 139, 140, 141, 142, 143, 144, 145, 146, 147, 148, 149, 150, 151, 152, 153, 154, 155, 156, 157, 158, 159, 160, 161, 162, 163, 164, 165, 166, 12, 18, 167, 168, 169, 170, 171, 21, 22, 23, 172, 173, 174, 175, 176, 177, 178, 194, 195, 196, 197, 198, 199, 200, 201, 202, 203, 204, 205, 206, 207, 208, 209, 213, 214, 217, 218, 219, 220, 221, 222, 223, 224, 225, 210, 211, 212] (by decide +kernel) (by decide +kernel)
set_option maxRecDepth 20000 in
theorem gX8_tick_X8_sense : GoodIn wsX8_tick (wsV RX8 91 RX8 yX8_sense wsX8_sense) := goodIn_app (goodIn_of _ (by decide +kernel)) ggX8_tick_X8_sense
set_option maxRecDepth 20000 in
theorem ggX8_tick_X8_stimulate : GoodIn wsX8_tick wsX8_stimulate := goodIn_r _ [182, 183, 184, 185, 26, 186, 4, 1, 144, 2, 187, 188, 61, 63, 64, 65, 37, 66, 39, 94, 95, 96, 172, 173, 174, 34, 35, 36, 38, 40, 41, 42, 148, 149, 150, 151, 74, 75, 76, 77, 78, 79, 80, 81, 82, 83, 84, 152, 153, 154, 155, 156, 157, 158, 111, 112, 159, 160, 161, 117, 162, 119, 120, 121, 163, 164, 165, 9, 166, 12, 18, 89, 167, 168, 169, 170, 171, 21, 22, 23, 19, 175, 176, 177, 178, 97, 98, 99, 100, 101, 102, 103, 104, 105, 106, 107, 108, 109, 110, 113, 91, 92, 93, 114, 115, 116, 118, 122, 123, 124, 125, 126, 127, 128, 25, 27, 129, 130, 131, 31, 132, 33, 133, 134, 135, 136, 137, 138, 14, 15, 16, 139, 189, 190, 191, 192, 193, 70, 71, 72, 73, 85, 86, 87, 88, 17, 90, 194, 195, 196, 197, 198, 199, 200, 201, 202, 203, 204, 205, 206, 207, 208, 209, 210, 211, 212, 213, 214, 217, 218, 219, 220, 221, 222, 223, 224, 225] (by decide +kernel) (by decide +kernel)
set_option maxRecDepth 20000 in
theorem gX8_tick_X8_stimulate : GoodIn wsX8_tick (wsV RX8 95 RX8 yX8_stimulate wsX8_stimulate) := goodIn_app (goodIn_of _ (by decide +kernel)) ggX8_tick_X8_stimulate
theorem dX8_tick_0 : decode cX8_tick 0 = .ok (.aload_n 0, 1) := by decide +kernel
theorem dX8_tick_1 : decode cX8_tick 1 = .ok (.getfield 19, 3) := by decide +kernel
theorem dX8_tick_4 : decode cX8_tick 4 = .ok (.invokevirtual 72, 3) := by decide +kernel
theorem dX8_tick_7 : decode cX8_tick 7 = .ok (.aload_n 0, 1) := by decide +kernel
theorem dX8_tick_8 : decode cX8_tick 8 = .ok (.getfield 43, 3) := by decide +kernel
theorem dX8_tick_11 : decode cX8_tick 11 = .ok (.iload_n 3, 1) := by decide +kernel
theorem dX8_tick_12 : decode cX8_tick 12 = .ok (.iconst 0, 1) := by decide +kernel
theorem dX8_tick_13 : decode cX8_tick 13 = .ok (.sipush 255, 3) := by decide +kernel
theorem dX8_tick_16 : decode cX8_tick 16 = .ok (.invokestatic 75, 3) := by decide +kernel
theorem dX8_tick_19 : decode cX8_tick 19 = .ok (.invokevirtual 79, 3) := by decide +kernel
theorem dX8_tick_22 : decode cX8_tick 22 = .ok (.aload_n 0, 1) := by decide +kernel
theorem dX8_tick_23 : decode cX8_tick 23 = .ok (.getfield 26, 3) := by decide +kernel
theorem dX8_tick_26 : decode cX8_tick 26 = .ok (.iload_n 1, 1) := by decide +kernel
theorem dX8_tick_27 : decode cX8_tick 27 = .ok (.sipush (-1000), 3) := by decide +kernel
theorem dX8_tick_30 : decode cX8_tick 30 = .ok (.sipush 1000, 3) := by decide +kernel
theorem dX8_tick_33 : decode cX8_tick 33 = .ok (.invokestatic 75, 3) := by decide +kernel
theorem dX8_tick_36 : decode cX8_tick 36 = .ok (.aload_n 0, 1) := by decide +kernel
theorem dX8_tick_37 : decode cX8_tick 37 = .ok (.getfield 10, 3) := by decide +kernel
theorem dX8_tick_40 : decode cX8_tick 40 = .ok (.bipush 9, 2) := by decide +kernel
theorem dX8_tick_42 : decode cX8_tick 42 = .ok (.invokevirtual 83, 3) := by decide +kernel
theorem dX8_tick_45 : decode cX8_tick 45 = .ok (.invokevirtual 87, 3) := by decide +kernel
theorem dX8_tick_48 : decode cX8_tick 48 = .ok (.istore 4, 2) := by decide +kernel
theorem dX8_tick_50 : decode cX8_tick 50 = .ok (.aload_n 0, 1) := by decide +kernel
theorem dX8_tick_51 : decode cX8_tick 51 = .ok (.getfield 30, 3) := by decide +kernel
theorem dX8_tick_54 : decode cX8_tick 54 = .ok (.iload_n 2, 1) := by decide +kernel
theorem dX8_tick_55 : decode cX8_tick 55 = .ok (.sipush (-1000), 3) := by decide +kernel
theorem dX8_tick_58 : decode cX8_tick 58 = .ok (.sipush 1000, 3) := by decide +kernel
theorem dX8_tick_61 : decode cX8_tick 61 = .ok (.invokestatic 75, 3) := by decide +kernel
theorem dX8_tick_64 : decode cX8_tick 64 = .ok (.aload_n 0, 1) := by decide +kernel
theorem dX8_tick_65 : decode cX8_tick 65 = .ok (.getfield 10, 3) := by decide +kernel
theorem dX8_tick_68 : decode cX8_tick 68 = .ok (.bipush 10, 2) := by decide +kernel
theorem dX8_tick_70 : decode cX8_tick 70 = .ok (.invokevirtual 83, 3) := by decide +kernel
theorem dX8_tick_73 : decode cX8_tick 73 = .ok (.invokevirtual 87, 3) := by decide +kernel
theorem dX8_tick_76 : decode cX8_tick 76 = .ok (.istore 5, 2) := by decide +kernel
theorem dX8_tick_78 : decode cX8_tick 78 = .ok (.aload_n 0, 1) := by decide +kernel
theorem dX8_tick_79 : decode cX8_tick 79 = .ok (.iload 4, 2) := by decide +kernel
theorem dX8_tick_81 : decode cX8_tick 81 = .ok (.iload 5, 2) := by decide +kernel
theorem dX8_tick_83 : decode cX8_tick 83 = .ok (.invokevirtual 91, 3) := by decide +kernel
theorem dX8_tick_86 : decode cX8_tick 86 = .ok (.istore 6, 2) := by decide +kernel
theorem dX8_tick_88 : decode cX8_tick 88 = .ok (.iload 6, 2) := by decide +kernel
theorem dX8_tick_90 : decode cX8_tick 90 = .ok (.iconst 2, 1) := by decide +kernel
theorem dX8_tick_91 : decode cX8_tick 91 = .ok (.iand, 1) := by decide +kernel
theorem dX8_tick_92 : decode cX8_tick 92 = .ok (.ifCond .eq 6, 3) := by decide +kernel
theorem dX8_tick_95 : decode cX8_tick 95 = .ok (.iload 6, 2) := by decide +kernel
theorem dX8_tick_97 : decode cX8_tick 97 = .ok (.ireturn, 1) := by decide +kernel
theorem dX8_tick_98 : decode cX8_tick 98 = .ok (.iload 6, 2) := by decide +kernel
theorem dX8_tick_100 : decode cX8_tick 100 = .ok (.aload_n 0, 1) := by decide +kernel
theorem dX8_tick_101 : decode cX8_tick 101 = .ok (.iload 6, 2) := by decide +kernel
theorem dX8_tick_103 : decode cX8_tick 103 = .ok (.iconst 1, 1) := by decide +kernel
theorem dX8_tick_104 : decode cX8_tick 104 = .ok (.iand, 1) := by decide +kernel
theorem dX8_tick_105 : decode cX8_tick 105 = .ok (.ifCond .eq 7, 3) := by decide +kernel
theorem dX8_tick_108 : decode cX8_tick 108 = .ok (.iconst 1, 1) := by decide +kernel
theorem dX8_tick_109 : decode cX8_tick 109 = .ok (.goto 4, 3) := by decide +kernel
theorem dX8_tick_112 : decode cX8_tick 112 = .ok (.iconst 0, 1) := by decide +kernel
theorem dX8_tick_113 : decode cX8_tick 113 = .ok (.invokevirtual 95, 3) := by decide +kernel
theorem dX8_tick_116 : decode cX8_tick 116 = .ok (.ior, 1) := by decide +kernel
theorem dX8_tick_117 : decode cX8_tick 117 = .ok (.ireturn, 1) := by decide +kernel
set_option maxRecDepth 20000 in
theorem ggX8_run_X8_tick : GoodIn wsX8_run wsX8_tick := goodIn_r _ [5, 6, 7, 8, 9, 10, 11, 12, 13, 14, 15, 16, 17, 18, 19, 20, 21, 22, 23, 24, 25, 26, 27, 28, 29, 30, 4, 31, 32, 33, 34, 35, 36, 37, 38, 39, 40, 41, 42, 43, 44, 45, 46, 47, 48, 49, 50, 51, 52, 53, 54, 55, 56, 57, 58, 59, 60, 61, 62, 63, 64, 65, 66, 67, 68, 69, 70, 71, 72, 73, 74, 75, 76, 77, 78, 79, 80, 81, 82, 83, 84, 85, 86, 87, 88, 89, 90, 91, 92, 93, 94, 95, 96, 97, 98, 99, 100, 101, 102, 103, 104, 105, 106, 107, 108, 109, 110, 111, 112, 113, 114, 115, 116, 117, 118, 119, 120, 121, 122, 123, 124, 125, 126, 127, 128, 129, 130, 131, 132, 133, 134, 135, 136, 137, 138, 139, 140, 141, 142, 143, 144, 145, 146, 147, 148, 149, 150, 151, 152, 153, 154, 155, 156, 157, 158, 159, 160, 161, 162, 163, 164, 165, 166, 167, 168, 169, 170, 171, 172, 173, 174, 175, 176, 177, 178, 179, 180, 181, 182, 183, 184, 185, 186, 187, 188, 189, 190, 191, 192, 193, 194, 195, 196, 197, 205, 206, 207, 208, 209, 210, 211, 212, 213, 214, 215, 216, 217, 218, 219, 220, 221, 222, 223, 224, 225, 226, 227, 228, 229, 230, 231, 232, 233, 234, 235, 236] (by decide +kernel) (by decide +kernel)
set_option maxRecDepth 20000 in
theorem gX8_run_X8_tick : GoodIn wsX8_run (wsV RX8 99 RX8 yX8_tick wsX8_tick) := goodIn_app (goodIn_of _ (by decide +kernel)) ggX8_run_X8_tick
set_option maxRecDepth 20000 in
theorem ggX8_run_J6_bitCount_0f7a4 : GoodIn wsX8_run wsJ6_bitCount_0f7a4 := goodIn_r _ [201, 202, 203, 204] (by decide +kernel) (by decide +kernel)
set_option maxRecDepth 20000 in
theorem gX8_run_J6_bitCount_0f7a4 : GoodIn wsX8_run (va_wsS RX8 102 yJ6_bitCount_0f7a4 wsJ6_bitCount_0f7a4) := goodIn_app (goodIn_of _ (by decide +kernel)) ggX8_run_J6_bitCount_0f7a4
theorem dX8_run_0 : decode cX8_run 0 = .ok (.iload_n 1, 1) := by decide +kernel
theorem dX8_run_1 : decode cX8_run 1 = .ok (.iconst 1, 1) := by decide +kernel
theorem dX8_run_2 : decode cX8_run 2 = .ok (.if_icmp .lt 9, 3) := by decide +kernel
theorem dX8_run_5 : decode cX8_run 5 = .ok (.iload_n 1, 1) := by decide +kernel
theorem dX8_run_6 : decode cX8_run 6 = .ok (.bipush 60, 2) := by decide +kernel
theorem dX8_run_8 : decode cX8_run 8 = .ok (.if_icmp .le 5, 3) := by decide +kernel
theorem dX8_run_11 : decode cX8_run 11 = .ok (.iconst (-1), 1) := by decide +kernel
theorem dX8_run_12 : decode cX8_run 12 = .ok (.ireturn, 1) := by decide +kernel
theorem dX8_run_13 : decode cX8_run 13 = .ok (.iconst 0, 1) := by decide +kernel
theorem dX8_run_14 : decode cX8_run 14 = .ok (.istore 5, 2) := by decide +kernel
theorem dX8_run_16 : decode cX8_run 16 = .ok (.iconst 0, 1) := by decide +kernel
