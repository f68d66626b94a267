theorem dX2_init_0 : decode cX2_init 0 = .ok (.aload_n 0, 1) := by decide +kernel
theorem dX2_init_1 : decode cX2_init 1 = .ok (.invokespecial 3, 3) := by decide +kernel
theorem dX2_init_4 : decode cX2_init 4 = .ok (.aload_n 0, 1) := by decide +kernel
theorem dX2_init_5 : decode cX2_init 5 = .ok (.bipush 60, 2) := by decide +kernel
theorem dX2_init_7 : decode cX2_init 7 = .ok (.newarray .int, 2) := by decide +kernel
theorem dX2_init_9 : decode cX2_init 9 = .ok (.putfield 9, 3) := by decide +kernel
theorem dX2_init_12 : decode cX2_init 12 = .ok (.aload_n 0, 1) := by decide +kernel
theorem dX2_init_13 : decode cX2_init 13 = .ok (.bipush 60, 2) := by decide +kernel
theorem dX2_init_15 : decode cX2_init 15 = .ok (.newarray .int, 2) := by decide +kernel
theorem dX2_init_17 : decode cX2_init 17 = .ok (.putfield 15, 3) := by decide +kernel
theorem dX2_init_20 : decode cX2_init 20 = .ok (.return_, 1) := by decide +kernel
set_option maxRecDepth 20000 in
theorem ggX2_forget_J7_fill_53178 : GoodIn wsX2_forget wsJ7_fill_53178 := goodIn_r _ [6] (by decide +kernel) (by decide +kernel)
set_option maxRecDepth 20000 in
theorem gX2_forget_J7_fill_53178 : GoodIn wsX2_forget (va_wsS RX2 18 yJ7_fill_53178 wsJ7_fill_53178) := goodIn_app (goodIn_of _ (by decide +kernel)) ggX2_forget_J7_fill_53178
theorem dX2_forget_0 : decode cX2_forget 0 = .ok (.aload_n 0, 1) := by decide +kernel
theorem dX2_forget_1 : decode cX2_forget 1 = .ok (.getfield 9, 3) := by decide +kernel
theorem dX2_forget_4 : decode cX2_forget 4 = .ok (.iconst 2, 1) := by decide +kernel
theorem dX2_forget_5 : decode cX2_forget 5 = .ok (.invokestatic 18, 3) := by decide +kernel
theorem dX2_forget_8 : decode cX2_forget 8 = .ok (.aload_n 0, 1) := by decide +kernel
theorem dX2_forget_9 : decode cX2_forget 9 = .ok (.getfield 15, 3) := by decide +kernel
theorem dX2_forget_12 : decode cX2_forget 12 = .ok (.iconst (-1), 1) := by decide +kernel
theorem dX2_forget_13 : decode cX2_forget 13 = .ok (.invokestatic 18, 3) := by decide +kernel
theorem dX2_forget_16 : decode cX2_forget 16 = .ok (.return_, 1) := by decide +kernel
set_option maxRecDepth 20000 in
theorem ggX2_put_X6_isYear : GoodIn wsX2_put wsX6_isYear := goodIn_r _ [5] (by decide +kernel) (by decide +kernel)
set_option maxRecDepth 20000 in
theorem gX2_put_X6_isYear_n24 : GoodIn wsX2_put (wsX6_isYear) := ggX2_put_X6_isYear
theorem dX2_put_0 : decode cX2_put 0 = .ok (.iload_n 1, 1) := by decide +kernel
theorem dX2_put_1 : decode cX2_put 1 = .ok (.invokestatic 24, 3) := by decide +kernel
theorem dX2_put_4 : decode cX2_put 4 = .ok (.ifCond .eq 26, 3) := by decide +kernel
theorem dX2_put_7 : decode cX2_put 7 = .ok (.aload_n 0, 1) := by decide +kernel
theorem dX2_put_8 : decode cX2_put 8 = .ok (.getfield 9, 3) := by decide +kernel
theorem dX2_put_11 : decode cX2_put 11 = .ok (.iload_n 1, 1) := by decide +kernel
theorem dX2_put_12 : decode cX2_put 12 = .ok (.iload_n 2, 1) := by decide +kernel
theorem dX2_put_13 : decode cX2_put 13 = .ok (.iastore, 1) := by decide +kernel
theorem dX2_put_14 : decode cX2_put 14 = .ok (.aload_n 0, 1) := by decide +kernel
theorem dX2_put_15 : decode cX2_put 15 = .ok (.getfield 15, 3) := by decide +kernel
theorem dX2_put_18 : decode cX2_put 18 = .ok (.iload_n 1, 1) := by decide +kernel
theorem dX2_put_19 : decode cX2_put 19 = .ok (.iload_n 2, 1) := by decide +kernel
theorem dX2_put_20 : decode cX2_put 20 = .ok (.iconst 2, 1) := by decide +kernel
theorem dX2_put_21 : decode cX2_put 21 = .ok (.if_icmp .ne 7, 3) := by decide +kernel
theorem dX2_put_24 : decode cX2_put 24 = .ok (.iconst (-1), 1) := by decide +kernel
theorem dX2_put_25 : decode cX2_put 25 = .ok (.goto 4, 3) := by decide +kernel
theorem dX2_put_28 : decode cX2_put 28 = .ok (.iload_n 3, 1) := by decide +kernel
theorem dX2_put_29 : decode cX2_put 29 = .ok (.iastore, 1) := by decide +kernel
theorem dX2_put_30 : decode cX2_put 30 = .ok (.return_, 1) := by decide +kernel
theorem dX3_init_0 : decode cX3_init 0 = .ok (.aload_n 0, 1) := by decide +kernel
theorem dX3_init_1 : decode cX3_init 1 = .ok (.invokespecial 3, 3) := by decide +kernel
theorem dX3_init_4 : decode cX3_init 4 = .ok (.aload_n 0, 1) := by decide +kernel
theorem dX3_init_5 : decode cX3_init 5 = .ok (.bipush 60, 2) := by decide +kernel
theorem dX3_init_7 : decode cX3_init 7 = .ok (.newarray .int, 2) := by decide +kernel
theorem dX3_init_9 : decode cX3_init 9 = .ok (.putfield 9, 3) := by decide +kernel
theorem dX3_init_12 : decode cX3_init 12 = .ok (.aload_n 0, 1) := by decide +kernel
theorem dX3_init_13 : decode cX3_init 13 = .ok (.iconst 1, 1) := by decide +kernel
theorem dX3_init_14 : decode cX3_init 14 = .ok (.putfield 15, 3) := by decide +kernel
theorem dX3_init_17 : decode cX3_init 17 = .ok (.aload_n 0, 1) := by decide +kernel
theorem dX3_init_18 : decode cX3_init 18 = .ok (.iconst 0, 1) := by decide +kernel
theorem dX3_init_19 : decode cX3_init 19 = .ok (.putfield 19, 3) := by decide +kernel
theorem dX3_init_22 : decode cX3_init 22 = .ok (.aload_n 0, 1) := by decide +kernel
theorem dX3_init_23 : decode cX3_init 23 = .ok (.iconst 0, 1) := by decide +kernel
theorem dX3_init_24 : decode cX3_init 24 = .ok (.putfield 23, 3) := by decide +kernel
theorem dX3_init_27 : decode cX3_init 27 = .ok (.return_, 1) := by decide +kernel
set_option maxRecDepth 20000 in
theorem ggX3_renew_J7_fill_53178 : GoodIn wsX3_renew wsJ7_fill_53178 := goodIn_r _ [8] (by decide +kernel) (by decide +kernel)
set_option maxRecDepth 20000 in
theorem gX3_renew_J7_fill_53178 : GoodIn wsX3_renew (va_wsS RX3 26 yJ7_fill_53178 wsJ7_fill_53178) := goodIn_app (goodIn_of _ (by decide +kernel)) ggX3_renew_J7_fill_53178
theorem dX3_renew_0 : decode cX3_renew 0 = .ok (.aload_n 0, 1) := by decide +kernel
theorem dX3_renew_1 : decode cX3_renew 1 = .ok (.getfield 9, 3) := by decide +kernel
theorem dX3_renew_4 : decode cX3_renew 4 = .ok (.iconst 0, 1) := by decide +kernel
theorem dX3_renew_5 : decode cX3_renew 5 = .ok (.invokestatic 26, 3) := by decide +kernel
theorem dX3_renew_8 : decode cX3_renew 8 = .ok (.aload_n 0, 1) := by decide +kernel
theorem dX3_renew_9 : decode cX3_renew 9 = .ok (.iconst 0, 1) := by decide +kernel
theorem dX3_renew_10 : decode cX3_renew 10 = .ok (.putfield 15, 3) := by decide +kernel
theorem dX3_renew_13 : decode cX3_renew 13 = .ok (.aload_n 0, 1) := by decide +kernel
theorem dX3_renew_14 : decode cX3_renew 14 = .ok (.iload_n 1, 1) := by decide +kernel
theorem dX3_renew_15 : decode cX3_renew 15 = .ok (.putfield 19, 3) := by decide +kernel
theorem dX3_renew_18 : decode cX3_renew 18 = .ok (.aload_n 0, 1) := by decide +kernel
theorem dX3_renew_19 : decode cX3_renew 19 = .ok (.iload_n 2, 1) := by decide +kernel
theorem dX3_renew_20 : decode cX3_renew 20 = .ok (.putfield 23, 3) := by decide +kernel
theorem dX3_renew_23 : decode cX3_renew 23 = .ok (.return_, 1) := by decide +kernel
theorem dX3_holds_0 : decode cX3_holds 0 = .ok (.iload_n 1, 1) := by decide +kernel
theorem dX3_holds_1 : decode cX3_holds 1 = .ok (.ifCond .lt 29, 3) := by decide +kernel
theorem dX3_holds_4 : decode cX3_holds 4 = .ok (.iload_n 2, 1) := by decide +kernel
theorem dX3_holds_5 : decode cX3_holds 5 = .ok (.ifCond .lt 25, 3) := by decide +kernel
theorem dX3_holds_8 : decode cX3_holds 8 = .ok (.iload_n 2, 1) := by decide +kernel
theorem dX3_holds_9 : decode cX3_holds 9 = .ok (.aload_n 0, 1) := by decide +kernel
theorem dX3_holds_10 : decode cX3_holds 10 = .ok (.getfield 23, 3) := by decide +kernel
theorem dX3_holds_13 : decode cX3_holds 13 = .ok (.if_icmp .gt 17, 3) := by decide +kernel
theorem dX3_holds_16 : decode cX3_holds 16 = .ok (.iload_n 1, 1) := by decide +kernel
theorem dX3_holds_17 : decode cX3_holds 17 = .ok (.aload_n 0, 1) := by decide +kernel
theorem dX3_holds_18 : decode cX3_holds 18 = .ok (.getfield 23, 3) := by decide +kernel
theorem dX3_holds_21 : decode cX3_holds 21 = .ok (.iload_n 2, 1) := by decide +kernel
theorem dX3_holds_22 : decode cX3_holds 22 = .ok (.isub, 1) := by decide +kernel
theorem dX3_holds_23 : decode cX3_holds 23 = .ok (.if_icmp .gt 7, 3) := by decide +kernel
theorem dX3_holds_26 : decode cX3_holds 26 = .ok (.iconst 1, 1) := by decide +kernel
theorem dX3_holds_27 : decode cX3_holds 27 = .ok (.goto 4, 3) := by decide +kernel
theorem dX3_holds_30 : decode cX3_holds 30 = .ok (.iconst 0, 1) := by decide +kernel
theorem dX3_holds_31 : decode cX3_holds 31 = .ok (.ireturn, 1) := by decide +kernel
set_option maxRecDepth 20000 in
theorem ggX3_itemAt_X3_holds : GoodIn wsX3_itemAt wsX3_holds := goodIn_r _ [6, 7, 8, 9, 10, 11] (by decide +kernel) (by decide +kernel)
set_option maxRecDepth 20000 in
theorem gX3_itemAt_X3_holds : GoodIn wsX3_itemAt (wsV RX3 32 RX3 yX3_holds wsX3_holds) := goodIn_app (goodIn_of _ (by decide +kernel)) ggX3_itemAt_X3_holds
theorem dX3_itemAt_0 : decode cX3_itemAt 0 = .ok (.aload_n 0, 1) := by decide +kernel
theorem dX3_itemAt_1 : decode cX3_itemAt 1 = .ok (.iload_n 1, 1) := by decide +kernel
theorem dX3_itemAt_2 : decode cX3_itemAt 2 = .ok (.iconst 1, 1) := by decide +kernel
theorem dX3_itemAt_3 : decode cX3_itemAt 3 = .ok (.invokevirtual 32, 3) := by decide +kernel
theorem dX3_itemAt_6 : decode cX3_itemAt 6 = .ok (.ifCond .eq 12, 3) := by decide +kernel
theorem dX3_itemAt_9 : decode cX3_itemAt 9 = .ok (.aload_n 0, 1) := by decide +kernel
theorem dX3_itemAt_10 : decode cX3_itemAt 10 = .ok (.getfield 9, 3) := by decide +kernel
theorem dX3_itemAt_13 : decode cX3_itemAt 13 = .ok (.iload_n 1, 1) := by decide +kernel
theorem dX3_itemAt_14 : decode cX3_itemAt 14 = .ok (.iaload, 1) := by decide +kernel
theorem dX3_itemAt_15 : decode cX3_itemAt 15 = .ok (.goto 4, 3) := by decide +kernel
theorem dX3_itemAt_18 : decode cX3_itemAt 18 = .ok (.iconst 0, 1) := by decide +kernel
theorem dX3_itemAt_19 : decode cX3_itemAt 19 = .ok (.ireturn, 1) := by decide +kernel
set_option maxRecDepth 20000 in
theorem ggX3_put_X3_holds : GoodIn wsX3_put wsX3_holds := goodIn_r _ [6, 7, 13, 14, 15, 16] (by decide +kernel) (by decide +kernel)
set_option maxRecDepth 20000 in
theorem gX3_put_X3_holds : GoodIn wsX3_put (wsV RX3 32 RX3 yX3_holds wsX3_holds) := goodIn_app (goodIn_of _ (by decide +kernel)) ggX3_put_X3_holds
set_option maxRecDepth 20000 in
theorem ggX3_put_X3_narrowed : GoodIn wsX3_put wsX3_narrowed := goodIn_r _ [11, 12, 13, 14, 15, 16] (by decide +kernel) (by decide +kernel)
set_option maxRecDepth 20000 in
theorem gX3_put_X3_narrowed : GoodIn wsX3_put (wsV RX3 36 RX3 yX3_narrowed wsX3_narrowed) := goodIn_app (goodIn_of _ (by decide +kernel)) ggX3_put_X3_narrowed
theorem dX3_put_0 : decode cX3_put 0 = .ok (.aload_n 0, 1) := by decide +kernel
theorem dX3_put_1 : decode cX3_put 1 = .ok (.iload_n 1, 1) := by decide +kernel
theorem dX3_put_2 : decode cX3_put 2 = .ok (.iconst 1, 1) := by decide +kernel
theorem dX3_put_3 : decode cX3_put 3 = .ok (.invokevirtual 32, 3) := by decide +kernel
theorem dX3_put_6 : decode cX3_put 6 = .ok (.ifCond .eq 14, 3) := by decide +kernel
theorem dX3_put_9 : decode cX3_put 9 = .ok (.aload_n 0, 1) := by decide +kernel
theorem dX3_put_10 : decode cX3_put 10 = .ok (.getfield 9, 3) := by decide +kernel
theorem dX3_put_13 : decode cX3_put 13 = .ok (.iload_n 1, 1) := by decide +kernel
theorem dX3_put_14 : decode cX3_put 14 = .ok (.aload_n 0, 1) := by decide +kernel
theorem dX3_put_15 : decode cX3_put 15 = .ok (.iload_n 2, 1) := by decide +kernel
theorem dX3_put_16 : decode cX3_put 16 = .ok (.invokevirtual 36, 3) := by decide +kernel
theorem dX3_put_19 : decode cX3_put 19 = .ok (.iastore, 1) := by decide +kernel
theorem dX3_put_20 : decode cX3_put 20 = .ok (.return_, 1) := by decide +kernel
theorem dX3_narrowed_0 : decode cX3_narrowed 0 = .ok (.aload_n 0, 1) := by decide +kernel
theorem dX3_narrowed_1 : decode cX3_narrowed 1 = .ok (.getfield 19, 3) := by decide +kernel
theorem dX3_narrowed_4 : decode cX3_narrowed 4 = .ok (.ifCond .ne 6, 3) := by decide +kernel
theorem dX3_narrowed_7 : decode cX3_narrowed 7 = .ok (.iload_n 1, 1) := by decide +kernel
theorem dX3_narrowed_8 : decode cX3_narrowed 8 = .ok (.i2b, 1) := by decide +kernel
theorem dX3_narrowed_9 : decode cX3_narrowed 9 = .ok (.ireturn, 1) := by decide +kernel
theorem dX3_narrowed_10 : decode cX3_narrowed 10 = .ok (.aload_n 0, 1) := by decide +kernel
theorem dX3_narrowed_11 : decode cX3_narrowed 11 = .ok (.getfield 19, 3) := by decide +kernel
theorem dX3_narrowed_14 : decode cX3_narrowed 14 = .ok (.iconst 1, 1) := by decide +kernel
theorem dX3_narrowed_15 : decode cX3_narrowed 15 = .ok (.if_icmp .ne 8, 3) := by decide +kernel
theorem dX3_narrowed_18 : decode cX3_narrowed 18 = .ok (.iload_n 1, 1) := by decide +kernel
theorem dX3_narrowed_19 : decode cX3_narrowed 19 = .ok (.i2s, 1) := by decide +kernel
theorem dX3_narrowed_20 : decode cX3_narrowed 20 = .ok (.goto 4, 3) := by decide +kernel
theorem dX3_narrowed_23 : decode cX3_narrowed 23 = .ok (.iload_n 1, 1) := by decide +kernel
theorem dX3_narrowed_24 : decode cX3_narrowed 24 = .ok (.ireturn, 1) := by decide +kernel
theorem dX4_init_0 : decode cX4_init 0 = .ok (.aload_n 0, 1) := by decide +kernel
theorem dX4_init_1 : decode cX4_init 1 = .ok (.invokespecial 3, 3) := by decide +kernel
theorem dX4_init_4 : decode cX4_init 4 = .ok (.aload_n 0, 1) := by decide +kernel
theorem dX4_init_5 : decode cX4_init 5 = .ok (.bipush 120, 2) := by decide +kernel
theorem dX4_init_7 : decode cX4_init 7 = .ok (.newarray .int, 2) := by decide +kernel
theorem dX4_init_9 : decode cX4_init 9 = .ok (.putfield 9, 3) := by decide +kernel
theorem dX4_init_12 : decode cX4_init 12 = .ok (.aload_n 0, 1) := by decide +kernel
theorem dX4_init_13 : decode cX4_init 13 = .ok (.bipush 120, 2) := by decide +kernel
theorem dX4_init_15 : decode cX4_init 15 = .ok (.newarray .int, 2) := by decide +kernel
theorem dX4_init_17 : decode cX4_init 17 = .ok (.putfield 15, 3) := by decide +kernel
theorem dX4_init_20 : decode cX4_init 20 = .ok (.aload_n 0, 1) := by decide +kernel
theorem dX4_init_21 : decode cX4_init 21 = .ok (.bipush 120, 2) := by decide +kernel
theorem dX4_init_23 : decode cX4_init 23 = .ok (.newarray .int, 2) := by decide +kernel
theorem dX4_init_25 : decode cX4_init 25 = .ok (.putfield 18, 3) := by decide +kernel
theorem dX4_init_28 : decode cX4_init 28 = .ok (.aload_n 0, 1) := by decide +kernel
theorem dX4_init_29 : decode cX4_init 29 = .ok (.bipush 120, 2) := by decide +kernel
theorem dX4_init_31 : decode cX4_init 31 = .ok (.newarray .int, 2) := by decide +kernel
theorem dX4_init_33 : decode cX4_init 33 = .ok (.putfield 21, 3) := by decide +kernel
theorem dX4_init_36 : decode cX4_init 36 = .ok (.aload_n 0, 1) := by decide +kernel
theorem dX4_init_37 : decode cX4_init 37 = .ok (.iconst 0, 1) := by decide +kernel
theorem dX4_init_38 : decode cX4_init 38 = .ok (.putfield 24, 3) := by decide +kernel
theorem dX4_init_41 : decode cX4_init 41 = .ok (.aload_n 0, 1) := by decide +kernel
theorem dX4_init_42 : decode cX4_init 42 = .ok (.iconst 0, 1) := by decide +kernel
theorem dX4_init_43 : decode cX4_init 43 = .ok (.putfield 28, 3) := by decide +kernel
theorem dX4_init_46 : decode cX4_init 46 = .ok (.return_, 1) := by decide +kernel
theorem dX4_hasRoom_0 : decode cX4_hasRoom 0 = .ok (.aload_n 0, 1) := by decide +kernel
theorem dX4_hasRoom_1 : decode cX4_hasRoom 1 = .ok (.getfield 24, 3) := by decide +kernel
theorem dX4_hasRoom_4 : decode cX4_hasRoom 4 = .ok (.bipush 120, 2) := by decide +kernel
theorem dX4_hasRoom_6 : decode cX4_hasRoom 6 = .ok (.if_icmp .ge 7, 3) := by decide +kernel
theorem dX4_hasRoom_9 : decode cX4_hasRoom 9 = .ok (.iconst 1, 1) := by decide +kernel
theorem dX4_hasRoom_10 : decode cX4_hasRoom 10 = .ok (.goto 4, 3) := by decide +kernel
theorem dX4_hasRoom_13 : decode cX4_hasRoom 13 = .ok (.iconst 0, 1) := by decide +kernel
theorem dX4_hasRoom_14 : decode cX4_hasRoom 14 = .ok (.ireturn, 1) := by decide +kernel
set_option maxRecDepth 20000 in
theorem ggX4_add_X4_hasRoom : GoodIn wsX4_add wsX4_hasRoom := goodIn_r _ [11, 2, 12, 13, 14, 15, 16, 17] (by decide +kernel) (by decide +kernel)
set_option maxRecDepth 20000 in
theorem gX4_add_X4_hasRoom : GoodIn wsX4_add (wsV RX4 31 RX4 yX4_hasRoom wsX4_hasRoom) := goodIn_app (goodIn_of _ (by decide +kernel)) ggX4_add_X4_hasRoom
theorem dX4_add_0 : decode cX4_add 0 = .ok (.aload_n 0, 1) := by decide +kernel
theorem dX4_add_1 : decode cX4_add 1 = .ok (.invokevirtual 31, 3) := by decide +kernel
theorem dX4_add_4 : decode cX4_add 4 = .ok (.ifCond .eq 60, 3) := by decide +kernel
theorem dX4_add_7 : decode cX4_add 7 = .ok (.aload_n 0, 1) := by decide +kernel
theorem dX4_add_8 : decode cX4_add 8 = .ok (.getfield 9, 3) := by decide +kernel
theorem dX4_add_11 : decode cX4_add 11 = .ok (.aload_n 0, 1) := by decide +kernel
theorem dX4_add_12 : decode cX4_add 12 = .ok (.getfield 24, 3) := by decide +kernel
theorem dX4_add_15 : decode cX4_add 15 = .ok (.iload_n 1, 1) := by decide +kernel
theorem dX4_add_16 : decode cX4_add 16 = .ok (.iastore, 1) := by decide +kernel
theorem dX4_add_17 : decode cX4_add 17 = .ok (.aload_n 0, 1) := by decide +kernel
theorem dX4_add_18 : decode cX4_add 18 = .ok (.getfield 15, 3) := by decide +kernel
theorem dX4_add_21 : decode cX4_add 21 = .ok (.aload_n 0, 1) := by decide +kernel
theorem dX4_add_22 : decode cX4_add 22 = .ok (.getfield 24, 3) := by decide +kernel
theorem dX4_add_25 : decode cX4_add 25 = .ok (.iload_n 2, 1) := by decide +kernel
theorem dX4_add_26 : decode cX4_add 26 = .ok (.iastore, 1) := by decide +kernel
theorem dX4_add_27 : decode cX4_add 27 = .ok (.aload_n 0, 1) := by decide +kernel
theorem dX4_add_28 : decode cX4_add 28 = .ok (.getfield 18, 3) := by decide +kernel
theorem dX4_add_31 : decode cX4_add 31 = .ok (.aload_n 0, 1) := by decide +kernel
theorem dX4_add_32 : decode cX4_add 32 = .ok (.getfield 24, 3) := by decide +kernel
theorem dX4_add_35 : decode cX4_add 35 = .ok (.iload_n 3, 1) := by decide +kernel
theorem dX4_add_36 : decode cX4_add 36 = .ok (.iastore, 1) := by decide +kernel
theorem dX4_add_37 : decode cX4_add 37 = .ok (.aload_n 0, 1) := by decide +kernel
theorem dX4_add_38 : decode cX4_add 38 = .ok (.getfield 21, 3) := by decide +kernel
theorem dX4_add_41 : decode cX4_add 41 = .ok (.aload_n 0, 1) := by decide +kernel
theorem dX4_add_42 : decode cX4_add 42 = .ok (.getfield 24, 3) := by decide +kernel
theorem dX4_add_45 : decode cX4_add 45 = .ok (.iload 4, 2) := by decide +kernel
theorem dX4_add_47 : decode cX4_add 47 = .ok (.iastore, 1) := by decide +kernel
theorem dX4_add_48 : decode cX4_add 48 = .ok (.aload_n 0, 1) := by decide +kernel
theorem dX4_add_49 : decode cX4_add 49 = .ok (.dup, 1) := by decide +kernel
theorem dX4_add_50 : decode cX4_add 50 = .ok (.getfield 24, 3) := by decide +kernel
theorem dX4_add_53 : decode cX4_add 53 = .ok (.iconst 1, 1) := by decide +kernel
theorem dX4_add_54 : decode cX4_add 54 = .ok (.iadd, 1) := by decide +kernel
theorem dX4_add_55 : decode cX4_add 55 = .ok (.putfield 24, 3) := by decide +kernel
theorem dX4_add_58 : decode cX4_add 58 = .ok (.aload_n 0, 1) := by decide +kernel
theorem dX4_add_59 : decode cX4_add 59 = .ok (.iload 4, 2) := by decide +kernel
theorem dX4_add_61 : decode cX4_add 61 = .ok (.putfield 28, 3) := by decide +kernel
theorem dX4_add_64 : decode cX4_add 64 = .ok (.return_, 1) := by decide +kernel
theorem dX5_init_0 : decode cX5_init 0 = .ok (.aload_n 0, 1) := by decide +kernel
theorem dX5_init_1 : decode cX5_init 1 = .ok (.invokespecial 3, 3) := by decide +kernel
theorem dX5_init_4 : decode cX5_init 4 = .ok (.aload_n 0, 1) := by decide +kernel
theorem dX5_init_5 : decode cX5_init 5 = .ok (.bipush 6, 2) := by decide +kernel
theorem dX5_init_7 : decode cX5_init 7 = .ok (.newarray .int, 2) := by decide +kernel
theorem dX5_init_9 : decode cX5_init 9 = .ok (.putfield 9, 3) := by decide +kernel
theorem dX5_init_12 : decode cX5_init 12 = .ok (.aload_n 0, 1) := by decide +kernel
theorem dX5_init_13 : decode cX5_init 13 = .ok (.bipush 6, 2) := by decide +kernel
theorem dX5_init_15 : decode cX5_init 15 = .ok (.newarray .int, 2) := by decide +kernel
theorem dX5_init_17 : decode cX5_init 17 = .ok (.putfield 15, 3) := by decide +kernel
theorem dX5_init_20 : decode cX5_init 20 = .ok (.aload_n 0, 1) := by decide +kernel
theorem dX5_init_21 : decode cX5_init 21 = .ok (.bipush 6, 2) := by decide +kernel
theorem dX5_init_23 : decode cX5_init 23 = .ok (.newarray .int, 2) := by decide +kernel
theorem dX5_init_25 : decode cX5_init 25 = .ok (.putfield 18, 3) := by decide +kernel
theorem dX5_init_28 : decode cX5_init 28 = .ok (.aload_n 0, 1) := by decide +kernel
theorem dX5_init_29 : decode cX5_init 29 = .ok (.iconst 0, 1) := by decide +kernel
theorem dX5_init_30 : decode cX5_init 30 = .ok (.putfield 21, 3) := by decide +kernel
theorem dX5_init_33 : decode cX5_init 33 = .ok (.return_, 1) := by decide +kernel
theorem dX5_hasRoom_0 : decode cX5_hasRoom 0 = .ok (.aload_n 0, 1) := by decide +kernel
theorem dX5_hasRoom_1 : decode cX5_hasRoom 1 = .ok (.getfield 21, 3) := by decide +kernel
theorem dX5_hasRoom_4 : decode cX5_hasRoom 4 = .ok (.bipush 6, 2) := by decide +kernel
theorem dX5_hasRoom_6 : decode cX5_hasRoom 6 = .ok (.if_icmp .ge 7, 3) := by decide +kernel
theorem dX5_hasRoom_9 : decode cX5_hasRoom 9 = .ok (.iconst 1, 1) := by decide +kernel
theorem dX5_hasRoom_10 : decode cX5_hasRoom 10 = .ok (.goto 4, 3) := by decide +kernel
theorem dX5_hasRoom_13 : decode cX5_hasRoom 13 = .ok (.iconst 0, 1) := by decide +kernel
theorem dX5_hasRoom_14 : decode cX5_hasRoom 14 = .ok (.ireturn, 1) := by decide +kernel
set_option maxRecDepth 20000 in
theorem ggX5_add_X5_hasRoom : GoodIn wsX5_add wsX5_hasRoom := goodIn_r _ [9, 2, 10, 11, 12, 13] (by decide +kernel) (by decide +kernel)
set_option maxRecDepth 20000 in
theorem gX5_add_X5_hasRoom : GoodIn wsX5_add (wsV RX5 25 RX5 yX5_hasRoom wsX5_hasRoom) := goodIn_app (goodIn_of _ (by decide +kernel)) ggX5_add_X5_hasRoom
theorem dX5_add_0 : decode cX5_add 0 = .ok (.aload_n 0, 1) := by decide +kernel
theorem dX5_add_1 : decode cX5_add 1 = .ok (.invokevirtual 25, 3) := by decide +kernel
theorem dX5_add_4 : decode cX5_add 4 = .ok (.ifCond .eq 43, 3) := by decide +kernel
theorem dX5_add_7 : decode cX5_add 7 = .ok (.aload_n 0, 1) := by decide +kernel
theorem dX5_add_8 : decode cX5_add 8 = .ok (.getfield 9, 3) := by decide +kernel
theorem dX5_add_11 : decode cX5_add 11 = .ok (.aload_n 0, 1) := by decide +kernel
theorem dX5_add_12 : decode cX5_add 12 = .ok (.getfield 21, 3) := by decide +kernel
theorem dX5_add_15 : decode cX5_add 15 = .ok (.iload_n 1, 1) := by decide +kernel
theorem dX5_add_16 : decode cX5_add 16 = .ok (.iastore, 1) := by decide +kernel
theorem dX5_add_17 : decode cX5_add 17 = .ok (.aload_n 0, 1) := by decide +kernel
theorem dX5_add_18 : decode cX5_add 18 = .ok (.getfield 15, 3) := by decide +kernel
theorem dX5_add_21 : decode cX5_add 21 = .ok (.aload_n 0, 1) := by decide +kernel
theorem dX5_add_22 : decode cX5_add 22 = .ok (.getfield 21, 3) := by decide +kernel
theorem dX5_add_25 : decode cX5_add 25 = .ok (.iload_n 2, 1) := by decide +kernel
theorem dX5_add_26 : decode cX5_add 26 = .ok (.iastore, 1) := by decide +kernel
theorem dX5_add_27 : decode cX5_add 27 = .ok (.aload_n 0, 1) := by decide +kernel
theorem dX5_add_28 : decode cX5_add 28 = .ok (.getfield 18, 3) := by decide +kernel
theorem dX5_add_31 : decode cX5_add 31 = .ok (.aload_n 0, 1) := by decide +kernel
theorem dX5_add_32 : decode cX5_add 32 = .ok (.getfield 21, 3) := by decide +kernel
theorem dX5_add_35 : decode cX5_add 35 = .ok (.iload_n 3, 1) := by decide +kernel
theorem dX5_add_36 : decode cX5_add 36 = .ok (.iastore, 1) := by decide +kernel
theorem dX5_add_37 : decode cX5_add 37 = .ok (.aload_n 0, 1) := by decide +kernel
theorem dX5_add_38 : decode cX5_add 38 = .ok (.dup, 1) := by decide +kernel
theorem dX5_add_39 : decode cX5_add 39 = .ok (.getfield 21, 3) := by decide +kernel
theorem dX5_add_42 : decode cX5_add 42 = .ok (.iconst 1, 1) := by decide +kernel
theorem dX5_add_43 : decode cX5_add 43 = .ok (.iadd, 1) := by decide +kernel
theorem dX5_add_44 : decode cX5_add 44 = .ok (.putfield 21, 3) := by decide +kernel
theorem dX5_add_47 : decode cX5_add 47 = .ok (.return_, 1) := by decide +kernel
theorem dX5_leastAt_0 : decode cX5_leastAt 0 = .ok (.iconst (-1), 1) := by decide +kernel
theorem dX5_leastAt_1 : decode cX5_leastAt 1 = .ok (.istore_n 2, 1) := by decide +kernel
theorem dX5_leastAt_2 : decode cX5_leastAt 2 = .ok (.iconst 0, 1) := by decide +kernel
theorem dX5_leastAt_3 : decode cX5_leastAt 3 = .ok (.istore_n 3, 1) := by decide +kernel
theorem dX5_leastAt_4 : decode cX5_leastAt 4 = .ok (.iload_n 3, 1) := by decide +kernel
theorem dX5_leastAt_5 : decode cX5_leastAt 5 = .ok (.aload_n 0, 1) := by decide +kernel
theorem dX5_leastAt_6 : decode cX5_leastAt 6 = .ok (.getfield 21, 3) := by decide +kernel
theorem dX5_leastAt_9 : decode cX5_leastAt 9 = .ok (.if_icmp .ge 63, 3) := by decide +kernel
theorem dX5_leastAt_12 : decode cX5_leastAt 12 = .ok (.aload_n 0, 1) := by decide +kernel
theorem dX5_leastAt_13 : decode cX5_leastAt 13 = .ok (.getfield 9, 3) := by decide +kernel
theorem dX5_leastAt_16 : decode cX5_leastAt 16 = .ok (.iload_n 3, 1) := by decide +kernel
theorem dX5_leastAt_17 : decode cX5_leastAt 17 = .ok (.iaload, 1) := by decide +kernel
theorem dX5_leastAt_18 : decode cX5_leastAt 18 = .ok (.iload_n 1, 1) := by decide +kernel
theorem dX5_leastAt_19 : decode cX5_leastAt 19 = .ok (.if_icmp .gt 17, 3) := by decide +kernel
theorem dX5_leastAt_22 : decode cX5_leastAt 22 = .ok (.iload_n 1, 1) := by decide +kernel
theorem dX5_leastAt_23 : decode cX5_leastAt 23 = .ok (.aload_n 0, 1) := by decide +kernel
theorem dX5_leastAt_24 : decode cX5_leastAt 24 = .ok (.getfield 15, 3) := by decide +kernel
theorem dX5_leastAt_27 : decode cX5_leastAt 27 = .ok (.iload_n 3, 1) := by decide +kernel
theorem dX5_leastAt_28 : decode cX5_leastAt 28 = .ok (.iaload, 1) := by decide +kernel
theorem dX5_leastAt_29 : decode cX5_leastAt 29 = .ok (.if_icmp .gt 7, 3) := by decide +kernel
theorem dX5_leastAt_32 : decode cX5_leastAt 32 = .ok (.iconst 1, 1) := by decide +kernel
theorem dX5_leastAt_33 : decode cX5_leastAt 33 = .ok (.goto 4, 3) := by decide +kernel
theorem dX5_leastAt_36 : decode cX5_leastAt 36 = .ok (.iconst 0, 1) := by decide +kernel
theorem dX5_leastAt_37 : decode cX5_leastAt 37 = .ok (.istore 4, 2) := by decide +kernel
theorem dX5_leastAt_39 : decode cX5_leastAt 39 = .ok (.iload 4, 2) := by decide +kernel
theorem dX5_leastAt_41 : decode cX5_leastAt 41 = .ok (.ifCond .eq 25, 3) := by decide +kernel
theorem dX5_leastAt_44 : decode cX5_leastAt 44 = .ok (.iload_n 2, 1) := by decide +kernel
theorem dX5_leastAt_45 : decode cX5_leastAt 45 = .ok (.iconst (-1), 1) := by decide +kernel
theorem dX5_leastAt_46 : decode cX5_leastAt 46 = .ok (.if_icmp .eq 13, 3) := by decide +kernel
theorem dX5_leastAt_49 : decode cX5_leastAt 49 = .ok (.aload_n 0, 1) := by decide +kernel
theorem dX5_leastAt_50 : decode cX5_leastAt 50 = .ok (.getfield 18, 3) := by decide +kernel
theorem dX5_leastAt_53 : decode cX5_leastAt 53 = .ok (.iload_n 3, 1) := by decide +kernel
theorem dX5_leastAt_54 : decode cX5_leastAt 54 = .ok (.iaload, 1) := by decide +kernel
theorem dX5_leastAt_55 : decode cX5_leastAt 55 = .ok (.iload_n 2, 1) := by decide +kernel
theorem dX5_leastAt_56 : decode cX5_leastAt 56 = .ok (.if_icmp .ge 10, 3) := by decide +kernel
theorem dX5_leastAt_59 : decode cX5_leastAt 59 = .ok (.aload_n 0, 1) := by decide +kernel
theorem dX5_leastAt_60 : decode cX5_leastAt 60 = .ok (.getfield 18, 3) := by decide +kernel
theorem dX5_leastAt_63 : decode cX5_leastAt 63 = .ok (.iload_n 3, 1) := by decide +kernel
theorem dX5_leastAt_64 : decode cX5_leastAt 64 = .ok (.iaload, 1) := by decide +kernel
theorem dX5_leastAt_65 : decode cX5_leastAt 65 = .ok (.istore_n 2, 1) := by decide +kernel
theorem dX5_leastAt_66 : decode cX5_leastAt 66 = .ok (.iinc 3 1, 3) := by decide +kernel
theorem dX5_leastAt_69 : decode cX5_leastAt 69 = .ok (.goto (-65), 3) := by decide +kernel
theorem dX5_leastAt_72 : decode cX5_leastAt 72 = .ok (.iload_n 2, 1) := by decide +kernel
theorem dX5_leastAt_73 : decode cX5_leastAt 73 = .ok (.ireturn, 1) := by decide +kernel
set_option maxRecDepth 20000 in
theorem ggX6_init_X4_init : GoodIn wsX6_init wsX4_init := goodIn_r _ [42, 43, 2, 3, 28, 44, 45, 46, 47, 48, 49, 140, 141, 142, 143, 144, 145] (by decide +kernel) (by decide +kernel)
set_option maxRecDepth 20000 in
theorem gX6_init_X4_init_n9 : GoodIn wsX6_init (wsX4_init) := ggX6_init_X4_init
set_option maxRecDepth 20000 in
theorem ggX6_init_X5_init : GoodIn wsX6_init wsX5_init := goodIn_r _ [51, 52, 2, 3, 28, 53, 54, 55, 56, 156, 157, 158, 159] (by decide +kernel) (by decide +kernel)
set_option maxRecDepth 20000 in
theorem gX6_init_X5_init_n18 : GoodIn wsX6_init (wsX5_init) := ggX6_init_X5_init
set_option maxRecDepth 20000 in
theorem ggX6_init_X2_init : GoodIn wsX6_init wsX2_init := goodIn_r _ [58, 59, 2, 3, 28, 60, 61, 160, 161] (by decide +kernel) (by decide +kernel)
set_option maxRecDepth 20000 in
theorem gX6_init_X2_init_n25 : GoodIn wsX6_init (wsX2_init) := ggX6_init_X2_init
set_option maxRecDepth 20000 in
theorem ggX6_init_X0_init : GoodIn wsX6_init wsX0_init := goodIn_r _ [63, 64, 2, 3, 28, 65, 66, 67, 68, 69, 70, 71, 72, 73, 74, 75, 162, 163, 164, 165, 166, 167, 168, 169, 170, 171, 172] (by decide +kernel) (by decide +kernel)
set_option maxRecDepth 20000 in
theorem gX6_init_X0_init_n32 : GoodIn wsX6_init (wsX0_init) := ggX6_init_X0_init
set_option maxRecDepth 20000 in
theorem ggX6_init_J7_fill_53178 : GoodIn wsX6_init wsJ7_fill_53178 := goodIn_r _ [79] (by decide +kernel) (by decide +kernel)
set_option maxRecDepth 20000 in
theorem gX6_init_J7_fill_53178 : GoodIn wsX6_init (va_wsS RX6 52 yJ7_fill_53178 wsJ7_fill_53178) := goodIn_app (goodIn_of _ (by decide +kernel)) ggX6_init_J7_fill_53178
set_option maxRecDepth 20000 in
theorem ggX6_init_X1_init : GoodIn wsX6_init wsX1_init := goodIn_r _ [81, 82, 2, 3, 28, 83, 84, 85, 86, 87, 88, 173, 174, 175, 176, 177, 178] (by decide +kernel) (by decide +kernel)
set_option maxRecDepth 20000 in
theorem gX6_init_X1_init_n60 : GoodIn wsX6_init (wsX1_init) := ggX6_init_X1_init
set_option maxRecDepth 20000 in
theorem ggX6_init_X3_init : GoodIn wsX6_init wsX3_init := goodIn_r _ [90, 91, 2, 3, 28, 92, 93, 94, 95, 179, 180, 181, 182] (by decide +kernel) (by decide +kernel)
set_option maxRecDepth 20000 in
theorem gX6_init_X3_init_n71 : GoodIn wsX6_init (wsX3_init) := ggX6_init_X3_init
set_option maxRecDepth 20000 in
theorem ggX6_init_X6_settle : GoodIn wsX6_init wsX6_settle := goodIn_r _ [100, 15, 7, 101, 102, 27, 103, 104, 105, 11, 106, 19, 107, 108, 109, 14, 110, 60, 61, 111, 77, 78, 79, 112, 113, 114, 115, 116, 99, 117, 118, 119, 120, 10, 121, 56, 53, 54, 55, 122, 123, 124, 18, 125, 68, 69, 70, 71, 72, 73, 74, 75, 126, 127, 128, 129, 130, 131, 65, 66, 67, 132, 133, 134, 135, 136, 137, 138, 139, 146, 147, 148, 149, 150, 151, 152, 153, 154, 155, 140, 141, 142, 143, 144, 145, 160, 161, 156, 157, 158, 159, 162, 163, 164, 165, 166, 167, 168, 169, 170, 171, 172] (by decide +kernel) (by decide +kernel)
set_option maxRecDepth 20000 in
theorem gX6_init_X6_settle : GoodIn wsX6_init (wsV RX6 80 RX6 yX6_settle wsX6_settle) := goodIn_app (goodIn_of _ (by decide +kernel)) ggX6_init_X6_settle
theorem dX6_init_0 : decode cX6_init 0 = .ok (.aload_n 0, 1) := by decide +kernel
theorem dX6_init_1 : decode cX6_init 1 = .ok (.invokespecial 1, 3) := by decide +kernel
theorem dX6_init_4 : decode cX6_init 4 = .ok (.aload_n 0, 1) := by decide +kernel
theorem dX6_init_5 : decode cX6_init 5 = .ok (.new 7, 3) := by decide +kernel
theorem dX6_init_8 : decode cX6_init 8 = .ok (.dup, 1) := by decide +kernel
theorem dX6_init_9 : decode cX6_init 9 = .ok (.invokespecial 9, 3) := by decide +kernel
theorem dX6_init_12 : decode cX6_init 12 = .ok (.putfield 10, 3) := by decide +kernel
theorem dX6_init_15 : decode cX6_init 15 = .ok (.aload_n 0, 1) := by decide +kernel
theorem dX6_init_16 : decode cX6_init 16 = .ok (.new 16, 3) := by decide +kernel
theorem dX6_init_19 : decode cX6_init 19 = .ok (.dup, 1) := by decide +kernel
theorem dX6_init_20 : decode cX6_init 20 = .ok (.invokespecial 18, 3) := by decide +kernel
theorem dX6_init_23 : decode cX6_init 23 = .ok (.putfield 19, 3) := by decide +kernel
theorem dX6_init_26 : decode cX6_init 26 = .ok (.aload_n 0, 1) := by decide +kernel
theorem dX6_init_27 : decode cX6_init 27 = .ok (.new 23, 3) := by decide +kernel
theorem dX6_init_30 : decode cX6_init 30 = .ok (.dup, 1) := by decide +kernel
theorem dX6_init_31 : decode cX6_init 31 = .ok (.invokespecial 25, 3) := by decide +kernel
theorem dX6_init_34 : decode cX6_init 34 = .ok (.putfield 26, 3) := by decide +kernel
theorem dX6_init_37 : decode cX6_init 37 = .ok (.aload_n 0, 1) := by decide +kernel
theorem dX6_init_38 : decode cX6_init 38 = .ok (.new 30, 3) := by decide +kernel
theorem dX6_init_41 : decode cX6_init 41 = .ok (.dup, 1) := by decide +kernel
theorem dX6_init_42 : decode cX6_init 42 = .ok (.invokespecial 32, 3) := by decide +kernel
theorem dX6_init_45 : decode cX6_init 45 = .ok (.putfield 33, 3) := by decide +kernel
theorem dX6_init_48 : decode cX6_init 48 = .ok (.aload_n 0, 1) := by decide +kernel
theorem dX6_init_49 : decode cX6_init 49 = .ok (.getstatic 37, 3) := by decide +kernel
theorem dX6_init_52 : decode cX6_init 52 = .ok (.invokevirtual 41, 3) := by decide +kernel
theorem dX6_init_55 : decode cX6_init 55 = .ok (.checkcast 42, 3) := by decide +kernel
theorem dX6_init_58 : decode cX6_init 58 = .ok (.putfield 46, 3) := by decide +kernel
theorem dX6_init_61 : decode cX6_init 61 = .ok (.aload_n 0, 1) := by decide +kernel
theorem dX6_init_62 : decode cX6_init 62 = .ok (.bipush 60, 2) := by decide +kernel
theorem dX6_init_64 : decode cX6_init 64 = .ok (.newarray .int, 2) := by decide +kernel
theorem dX6_init_66 : decode cX6_init 66 = .ok (.putfield 49, 3) := by decide +kernel
theorem dX6_init_69 : decode cX6_init 69 = .ok (.aload_n 0, 1) := by decide +kernel
theorem dX6_init_70 : decode cX6_init 70 = .ok (.getfield 49, 3) := by decide +kernel
theorem dX6_init_73 : decode cX6_init 73 = .ok (.iconst (-1), 1) := by decide +kernel
theorem dX6_init_74 : decode cX6_init 74 = .ok (.invokestatic 52, 3) := by decide +kernel
theorem dX6_init_77 : decode cX6_init 77 = .ok (.aload_n 0, 1) := by decide +kernel
theorem dX6_init_78 : decode cX6_init 78 = .ok (.new 58, 3) := by decide +kernel
theorem dX6_init_81 : decode cX6_init 81 = .ok (.dup, 1) := by decide +kernel
theorem dX6_init_82 : decode cX6_init 82 = .ok (.invokespecial 60, 3) := by decide +kernel
theorem dX6_init_85 : decode cX6_init 85 = .ok (.putfield 61, 3) := by decide +kernel
theorem dX6_init_88 : decode cX6_init 88 = .ok (.aload_n 0, 1) := by decide +kernel
theorem dX6_init_89 : decode cX6_init 89 = .ok (.iconst 4, 1) := by decide +kernel
theorem dX6_init_90 : decode cX6_init 90 = .ok (.anewarray 65, 3) := by decide +kernel
theorem dX6_init_93 : decode cX6_init 93 = .ok (.putfield 67, 3) := by decide +kernel
theorem dX6_init_96 : decode cX6_init 96 = .ok (.iconst 0, 1) := by decide +kernel
theorem dX6_init_97 : decode cX6_init 97 = .ok (.istore_n 1, 1) := by decide +kernel
theorem dX6_init_98 : decode cX6_init 98 = .ok (.iload_n 1, 1) := by decide +kernel
theorem dX6_init_99 : decode cX6_init 99 = .ok (.iconst 4, 1) := by decide +kernel
theorem dX6_init_100 : decode cX6_init 100 = .ok (.if_icmp .ge 22, 3) := by decide +kernel
theorem dX6_init_103 : decode cX6_init 103 = .ok (.aload_n 0, 1) := by decide +kernel
theorem dX6_init_104 : decode cX6_init 104 = .ok (.getfield 67, 3) := by decide +kernel
theorem dX6_init_107 : decode cX6_init 107 = .ok (.iload_n 1, 1) := by decide +kernel
theorem dX6_init_108 : decode cX6_init 108 = .ok (.new 65, 3) := by decide +kernel
theorem dX6_init_111 : decode cX6_init 111 = .ok (.dup, 1) := by decide +kernel
theorem dX6_init_112 : decode cX6_init 112 = .ok (.invokespecial 71, 3) := by decide +kernel
theorem dX6_init_115 : decode cX6_init 115 = .ok (.aastore, 1) := by decide +kernel
theorem dX6_init_116 : decode cX6_init 116 = .ok (.iinc 1 1, 3) := by decide +kernel
theorem dX6_init_119 : decode cX6_init 119 = .ok (.goto (-21), 3) := by decide +kernel
theorem dX6_init_122 : decode cX6_init 122 = .ok (.aload_n 0, 1) := by decide +kernel
theorem dX6_init_123 : decode cX6_init 123 = .ok (.bipush 13, 2) := by decide +kernel
theorem dX6_init_125 : decode cX6_init 125 = .ok (.newarray .long, 2) := by decide +kernel
theorem dX6_init_127 : decode cX6_init 127 = .ok (.putfield 72, 3) := by decide +kernel
theorem dX6_init_130 : decode cX6_init 130 = .ok (.aload_n 0, 1) := by decide +kernel
theorem dX6_init_131 : decode cX6_init 131 = .ok (.iconst 0, 1) := by decide +kernel
theorem dX6_init_132 : decode cX6_init 132 = .ok (.putfield 76, 3) := by decide +kernel
theorem dX6_init_135 : decode cX6_init 135 = .ok (.aload_n 0, 1) := by decide +kernel
theorem dX6_init_136 : decode cX6_init 136 = .ok (.invokevirtual 80, 3) := by decide +kernel
theorem dX6_init_139 : decode cX6_init 139 = .ok (.return_, 1) := by decide +kernel
set_option maxRecDepth 20000 in
theorem ggX6_tell_X6_isYear : GoodIn wsX6_tell wsX6_isYear := goodIn_r _ [6] (by decide +kernel) (by decide +kernel)
set_option maxRecDepth 20000 in
theorem gX6_tell_X6_isYear : GoodIn wsX6_tell (va_wsS RX6 83 yX6_isYear wsX6_isYear) := goodIn_app (goodIn_of _ (by decide +kernel)) ggX6_tell_X6_isYear
set_option maxRecDepth 20000 in
theorem ggX6_tell_X6_mayBeTold : GoodIn wsX6_tell wsX6_mayBeTold := goodIn_r _ [9, 10, 11, 5, 12] (by decide +kernel) (by decide +kernel)
set_option maxRecDepth 20000 in
theorem gX6_tell_X6_mayBeTold : GoodIn wsX6_tell (va_wsS RX6 87 yX6_mayBeTold wsX6_mayBeTold) := goodIn_app (goodIn_of _ (by decide +kernel)) ggX6_tell_X6_mayBeTold
set_option maxRecDepth 20000 in
theorem ggX6_tell_X6_isTimeToTell : GoodIn wsX6_tell wsX6_isTimeToTell := goodIn_r _ [16, 1, 17, 101, 102, 103, 104, 105, 106, 107, 108, 109, 110, 111, 112, 113, 114, 115, 116] (by decide +kernel) (by decide +kernel)
set_option maxRecDepth 20000 in
theorem gX6_tell_X6_isTimeToTell : GoodIn wsX6_tell (wsV RX6 91 RX6 yX6_isTimeToTell wsX6_isTimeToTell) := goodIn_app (goodIn_of _ (by decide +kernel)) ggX6_tell_X6_isTimeToTell
set_option maxRecDepth 20000 in
theorem ggX6_tell_X4_hasRoom : GoodIn wsX6_tell wsX4_hasRoom := goodIn_r _ [22, 23, 111, 112, 113, 114, 115, 116] (by decide +kernel) (by decide +kernel)
set_option maxRecDepth 20000 in
theorem gX6_tell_X4_hasRoom : GoodIn wsX6_tell (wsV RX6 94 RX4 yX4_hasRoom wsX4_hasRoom) := goodIn_app (goodIn_of _ (by decide +kernel)) ggX6_tell_X4_hasRoom
set_option maxRecDepth 20000 in
theorem ggX6_tell_X4_add : GoodIn wsX6_tell wsX4_add := goodIn_r _ [27, 28, 23, 29, 30, 31, 32, 33, 19, 20, 21, 22, 111, 112, 113, 114, 115, 116] (by decide +kernel) (by decide +kernel)
set_option maxRecDepth 20000 in
theorem gX6_tell_X4_add : GoodIn wsX6_tell (wsV RX6 98 RX4 yX4_add wsX4_add) := goodIn_app (goodIn_of _ (by decide +kernel)) ggX6_tell_X4_add
set_option maxRecDepth 20000 in
theorem ggX6_tell_X6_settle : GoodIn wsX6_tell wsX6_settle := goodIn_r _ [37, 38, 1, 2, 39, 40, 41, 42, 43, 44, 45, 46, 47, 48, 49, 50, 51, 52, 53, 54, 55, 56, 57, 58, 59, 60, 61, 4, 5, 6, 62, 63, 64, 65, 66, 67, 68, 69, 70, 71, 72, 73, 74, 75, 76, 77, 78, 79, 80, 81, 82, 83, 84, 85, 86, 87, 88, 89, 90, 91, 92, 93, 94, 95, 96, 97, 98, 99, 100, 101, 102, 103, 104, 105, 106, 107, 108, 109, 110, 111, 112, 113, 114, 115, 116, 117, 118, 119, 120, 121, 122, 123, 124, 125, 126, 127, 128, 129, 130, 131, 132, 133] (by decide +kernel) (by decide +kernel)
set_option maxRecDepth 20000 in
theorem gX6_tell_X6_settle : GoodIn wsX6_tell (wsV RX6 80 RX6 yX6_settle wsX6_settle) := goodIn_app (goodIn_of _ (by decide +kernel)) ggX6_tell_X6_settle
theorem dX6_tell_0 : decode cX6_tell 0 = .ok (.iload_n 1, 1) := by decide +kernel
theorem dX6_tell_1 : decode cX6_tell 1 = .ok (.invokestatic 83, 3) := by decide +kernel
theorem dX6_tell_4 : decode cX6_tell 4 = .ok (.ifCond .eq 20, 3) := by decide +kernel
theorem dX6_tell_7 : decode cX6_tell 7 = .ok (.iload_n 2, 1) := by decide +kernel
theorem dX6_tell_8 : decode cX6_tell 8 = .ok (.iload_n 3, 1) := by decide +kernel
theorem dX6_tell_9 : decode cX6_tell 9 = .ok (.invokestatic 87, 3) := by decide +kernel
theorem dX6_tell_12 : decode cX6_tell 12 = .ok (.ifCond .eq 12, 3) := by decide +kernel
theorem dX6_tell_15 : decode cX6_tell 15 = .ok (.aload_n 0, 1) := by decide +kernel
theorem dX6_tell_16 : decode cX6_tell 16 = .ok (.iload 4, 2) := by decide +kernel
theorem dX6_tell_18 : decode cX6_tell 18 = .ok (.invokevirtual 91, 3) := by decide +kernel
theorem dX6_tell_21 : decode cX6_tell 21 = .ok (.ifCond .ne 6, 3) := by decide +kernel
theorem dX6_tell_24 : decode cX6_tell 24 = .ok (.bipush (-2), 2) := by decide +kernel
theorem dX6_tell_26 : decode cX6_tell 26 = .ok (.ireturn, 1) := by decide +kernel
theorem dX6_tell_27 : decode cX6_tell 27 = .ok (.aload_n 0, 1) := by decide +kernel
theorem dX6_tell_28 : decode cX6_tell 28 = .ok (.getfield 10, 3) := by decide +kernel
theorem dX6_tell_31 : decode cX6_tell 31 = .ok (.invokevirtual 94, 3) := by decide +kernel
theorem dX6_tell_34 : decode cX6_tell 34 = .ok (.ifCond .ne 6, 3) := by decide +kernel
theorem dX6_tell_37 : decode cX6_tell 37 = .ok (.bipush (-4), 2) := by decide +kernel
theorem dX6_tell_39 : decode cX6_tell 39 = .ok (.ireturn, 1) := by decide +kernel
theorem dX6_tell_40 : decode cX6_tell 40 = .ok (.aload_n 0, 1) := by decide +kernel
theorem dX6_tell_41 : decode cX6_tell 41 = .ok (.getfield 10, 3) := by decide +kernel
theorem dX6_tell_44 : decode cX6_tell 44 = .ok (.iload_n 1, 1) := by decide +kernel
theorem dX6_tell_45 : decode cX6_tell 45 = .ok (.iload_n 2, 1) := by decide +kernel
theorem dX6_tell_46 : decode cX6_tell 46 = .ok (.iload_n 3, 1) := by decide +kernel
theorem dX6_tell_47 : decode cX6_tell 47 = .ok (.iload 4, 2) := by decide +kernel
theorem dX6_tell_49 : decode cX6_tell 49 = .ok (.invokevirtual 98, 3) := by decide +kernel
theorem dX6_tell_52 : decode cX6_tell 52 = .ok (.aload_n 0, 1) := by decide +kernel
theorem dX6_tell_53 : decode cX6_tell 53 = .ok (.invokevirtual 80, 3) := by decide +kernel
theorem dX6_tell_56 : decode cX6_tell 56 = .ok (.aload_n 0, 1) := by decide +kernel
theorem dX6_tell_57 : decode cX6_tell 57 = .ok (.getfield 10, 3) := by decide +kernel
theorem dX6_tell_60 : decode cX6_tell 60 = .ok (.getfield 102, 3) := by decide +kernel
theorem dX6_tell_63 : decode cX6_tell 63 = .ok (.ireturn, 1) := by decide +kernel
set_option maxRecDepth 20000 in
theorem ggX6_read_X6_isSheet : GoodIn wsX6_read wsX6_isSheet := goodIn_r _ [8] (by decide +kernel) (by decide +kernel)
set_option maxRecDepth 20000 in
theorem gX6_read_X6_isSheet : GoodIn wsX6_read (va_wsS RX6 105 yX6_isSheet wsX6_isSheet) := goodIn_app (goodIn_of _ (by decide +kernel)) ggX6_read_X6_isSheet
set_option maxRecDepth 20000 in
theorem ggX6_read_X6_isYear : GoodIn wsX6_read wsX6_isYear := goodIn_r _ [11] (by decide +kernel) (by decide +kernel)
set_option maxRecDepth 20000 in
theorem gX6_read_X6_isYear : GoodIn wsX6_read (va_wsS RX6 83 yX6_isYear wsX6_isYear) := goodIn_app (goodIn_of _ (by decide +kernel)) ggX6_read_X6_isYear
set_option maxRecDepth 20000 in
theorem ggX6_read_X6_isTimeToTell : GoodIn wsX6_read wsX6_isTimeToTell := goodIn_r _ [15, 4, 16, 120, 121, 122, 123, 124, 125, 126, 127, 128, 129, 134, 135, 136, 137, 138, 139] (by decide +kernel) (by decide +kernel)
set_option maxRecDepth 20000 in
theorem gX6_read_X6_isTimeToTell : GoodIn wsX6_read (wsV RX6 91 RX6 yX6_isTimeToTell wsX6_isTimeToTell) := goodIn_app (goodIn_of _ (by decide +kernel)) ggX6_read_X6_isTimeToTell
set_option maxRecDepth 20000 in
theorem ggX6_read_X6_found : GoodIn wsX6_read wsX6_found := goodIn_r _ [20, 21, 120, 121, 122, 123, 124, 125, 126, 127, 128, 129] (by decide +kernel) (by decide +kernel)
set_option maxRecDepth 20000 in
theorem gX6_read_X6_found : GoodIn wsX6_read (wsV RX6 112 RX6 yX6_found wsX6_found) := goodIn_app (goodIn_of _ (by decide +kernel)) ggX6_read_X6_found
set_option maxRecDepth 20000 in
theorem ggX6_read_X4_hasRoom : GoodIn wsX6_read wsX4_hasRoom := goodIn_r _ [26, 27, 134, 135, 136, 137, 138, 139] (by decide +kernel) (by decide +kernel)
set_option maxRecDepth 20000 in
theorem gX6_read_X4_hasRoom : GoodIn wsX6_read (wsV RX6 94 RX4 yX4_hasRoom wsX4_hasRoom) := goodIn_app (goodIn_of _ (by decide +kernel)) ggX6_read_X4_hasRoom
set_option maxRecDepth 20000 in
theorem ggX6_read_X3_itemAt : GoodIn wsX6_read wsX3_itemAt := goodIn_r _ [32, 33, 34, 35, 36, 31, 37, 38, 130, 131, 132, 133] (by decide +kernel) (by decide +kernel)
set_option maxRecDepth 20000 in
theorem gX6_read_X3_itemAt : GoodIn wsX6_read (wsV RX6 117 RX3 yX3_itemAt wsX3_itemAt) := goodIn_app (goodIn_of _ (by decide +kernel)) ggX6_read_X3_itemAt
set_option maxRecDepth 20000 in
theorem ggX6_read_X6_isLevel : GoodIn wsX6_read wsX6_isLevel := goodIn_r _ [41] (by decide +kernel) (by decide +kernel)
set_option maxRecDepth 20000 in
theorem gX6_read_X6_isLevel : GoodIn wsX6_read (va_wsS RX6 120 yX6_isLevel wsX6_isLevel) := goodIn_app (goodIn_of _ (by decide +kernel)) ggX6_read_X6_isLevel
set_option maxRecDepth 20000 in
theorem ggX6_read_X4_add : GoodIn wsX6_read wsX4_add := goodIn_r _ [45, 46, 27, 47, 48, 49, 50, 51, 23, 24, 25, 26, 134, 135, 136, 137, 138, 139] (by decide +kernel) (by decide +kernel)
set_option maxRecDepth 20000 in
theorem gX6_read_X4_add : GoodIn wsX6_read (wsV RX6 98 RX4 yX4_add wsX4_add) := goodIn_app (goodIn_of _ (by decide +kernel)) ggX6_read_X4_add
set_option maxRecDepth 20000 in
theorem ggX6_read_X6_settle : GoodIn wsX6_read wsX6_settle := goodIn_r _ [55, 56, 4, 57, 58, 59, 60, 61, 62, 63, 64, 65, 66, 67, 68, 69, 70, 71, 72, 73, 74, 75, 76, 77, 78, 79, 80, 10, 7, 11, 81, 82, 83, 84, 85, 86, 87, 88, 89, 90, 91, 92, 93, 94, 95, 96, 97, 98, 99, 100, 101, 102, 103, 104, 105, 106, 107, 108, 109, 110, 111, 112, 113, 114, 115, 116, 117, 118, 119, 120, 121, 122, 123, 124, 125, 126, 127, 128, 129, 134, 135, 136, 137, 138, 139, 140, 141, 142, 143, 144, 145, 146, 147, 148, 149, 150, 151, 152, 153, 154, 155, 156] (by decide +kernel) (by decide +kernel)
set_option maxRecDepth 20000 in
theorem gX6_read_X6_settle : GoodIn wsX6_read (wsV RX6 80 RX6 yX6_settle wsX6_settle) := goodIn_app (goodIn_of _ (by decide +kernel)) ggX6_read_X6_settle
theorem dX6_read_0 : decode cX6_read 0 = .ok (.iload_n 1, 1) := by decide +kernel
theorem dX6_read_1 : decode cX6_read 1 = .ok (.invokestatic 105, 3) := by decide +kernel
theorem dX6_read_4 : decode cX6_read 4 = .ok (.ifCond .eq 18, 3) := by decide +kernel
theorem dX6_read_7 : decode cX6_read 7 = .ok (.iload_n 2, 1) := by decide +kernel
theorem dX6_read_8 : decode cX6_read 8 = .ok (.invokestatic 83, 3) := by decide +kernel
theorem dX6_read_11 : decode cX6_read 11 = .ok (.ifCond .eq 11, 3) := by decide +kernel
theorem dX6_read_14 : decode cX6_read 14 = .ok (.aload_n 0, 1) := by decide +kernel
theorem dX6_read_15 : decode cX6_read 15 = .ok (.iload_n 3, 1) := by decide +kernel
theorem dX6_read_16 : decode cX6_read 16 = .ok (.invokevirtual 91, 3) := by decide +kernel
theorem dX6_read_19 : decode cX6_read 19 = .ok (.ifCond .ne 6, 3) := by decide +kernel
theorem dX6_read_22 : decode cX6_read 22 = .ok (.bipush (-2), 2) := by decide +kernel
theorem dX6_read_24 : decode cX6_read 24 = .ok (.ireturn, 1) := by decide +kernel
theorem dX6_read_25 : decode cX6_read 25 = .ok (.aload_n 0, 1) := by decide +kernel
theorem dX6_read_26 : decode cX6_read 26 = .ok (.getfield 67, 3) := by decide +kernel
theorem dX6_read_29 : decode cX6_read 29 = .ok (.iload_n 1, 1) := by decide +kernel
theorem dX6_read_30 : decode cX6_read 30 = .ok (.aaload, 1) := by decide +kernel
theorem dX6_read_31 : decode cX6_read 31 = .ok (.astore 4, 2) := by decide +kernel
theorem dX6_read_33 : decode cX6_read 33 = .ok (.aload 4, 2) := by decide +kernel
theorem dX6_read_35 : decode cX6_read 35 = .ok (.getfield 108, 3) := by decide +kernel
theorem dX6_read_38 : decode cX6_read 38 = .ok (.ifCond .eq 9, 3) := by decide +kernel
theorem dX6_read_41 : decode cX6_read 41 = .ok (.aload_n 0, 1) := by decide +kernel
theorem dX6_read_42 : decode cX6_read 42 = .ok (.iconst 1, 1) := by decide +kernel
theorem dX6_read_43 : decode cX6_read 43 = .ok (.invokevirtual 112, 3) := by decide +kernel
theorem dX6_read_46 : decode cX6_read 46 = .ok (.ireturn, 1) := by decide +kernel
theorem dX6_read_47 : decode cX6_read 47 = .ok (.iconst 0, 1) := by decide +kernel
theorem dX6_read_48 : decode cX6_read 48 = .ok (.istore 5, 2) := by decide +kernel
theorem dX6_read_50 : decode cX6_read 50 = .ok (.iload 5, 2) := by decide +kernel
theorem dX6_read_52 : decode cX6_read 52 = .ok (.aload 4, 2) := by decide +kernel
theorem dX6_read_54 : decode cX6_read 54 = .ok (.getfield 116, 3) := by decide +kernel
theorem dX6_read_57 : decode cX6_read 57 = .ok (.if_icmp .ge 61, 3) := by decide +kernel
theorem dX6_read_60 : decode cX6_read 60 = .ok (.iload_n 2, 1) := by decide +kernel
theorem dX6_read_61 : decode cX6_read 61 = .ok (.iload 5, 2) := by decide +kernel
theorem dX6_read_63 : decode cX6_read 63 = .ok (.iadd, 1) := by decide +kernel
theorem dX6_read_64 : decode cX6_read 64 = .ok (.bipush 60, 2) := by decide +kernel
theorem dX6_read_66 : decode cX6_read 66 = .ok (.if_icmp .ge 52, 3) := by decide +kernel
theorem dX6_read_69 : decode cX6_read 69 = .ok (.aload_n 0, 1) := by decide +kernel
theorem dX6_read_70 : decode cX6_read 70 = .ok (.getfield 10, 3) := by decide +kernel
theorem dX6_read_73 : decode cX6_read 73 = .ok (.invokevirtual 94, 3) := by decide +kernel
theorem dX6_read_76 : decode cX6_read 76 = .ok (.ifCond .eq 42, 3) := by decide +kernel
theorem dX6_read_79 : decode cX6_read 79 = .ok (.aload 4, 2) := by decide +kernel
theorem dX6_read_81 : decode cX6_read 81 = .ok (.iload 5, 2) := by decide +kernel
theorem dX6_read_83 : decode cX6_read 83 = .ok (.invokevirtual 117, 3) := by decide +kernel
theorem dX6_read_86 : decode cX6_read 86 = .ok (.invokestatic 120, 3) := by decide +kernel
theorem dX6_read_89 : decode cX6_read 89 = .ok (.ifCond .eq 29, 3) := by decide +kernel
theorem dX6_read_92 : decode cX6_read 92 = .ok (.aload_n 0, 1) := by decide +kernel
theorem dX6_read_93 : decode cX6_read 93 = .ok (.getfield 10, 3) := by decide +kernel
theorem dX6_read_96 : decode cX6_read 96 = .ok (.iload_n 2, 1) := by decide +kernel
theorem dX6_read_97 : decode cX6_read 97 = .ok (.iload 5, 2) := by decide +kernel
theorem dX6_read_99 : decode cX6_read 99 = .ok (.iadd, 1) := by decide +kernel
theorem dX6_read_100 : decode cX6_read 100 = .ok (.iconst 0, 1) := by decide +kernel
theorem dX6_read_101 : decode cX6_read 101 = .ok (.aload 4, 2) := by decide +kernel
theorem dX6_read_103 : decode cX6_read 103 = .ok (.iload 5, 2) := by decide +kernel
theorem dX6_read_105 : decode cX6_read 105 = .ok (.invokevirtual 117, 3) := by decide +kernel
theorem dX6_read_108 : decode cX6_read 108 = .ok (.iload_n 3, 1) := by decide +kernel
theorem dX6_read_109 : decode cX6_read 109 = .ok (.invokevirtual 98, 3) := by decide +kernel
theorem dX6_read_112 : decode cX6_read 112 = .ok (.iinc 5 1, 3) := by decide +kernel
theorem dX6_read_115 : decode cX6_read 115 = .ok (.goto (-65), 3) := by decide +kernel
theorem dX6_read_118 : decode cX6_read 118 = .ok (.aload_n 0, 1) := by decide +kernel
theorem dX6_read_119 : decode cX6_read 119 = .ok (.invokevirtual 80, 3) := by decide +kernel
theorem dX6_read_122 : decode cX6_read 122 = .ok (.iload 5, 2) := by decide +kernel
theorem dX6_read_124 : decode cX6_read 124 = .ok (.ireturn, 1) := by decide +kernel
set_option maxRecDepth 20000 in
theorem ggX6_watch_X6_isYear : GoodIn wsX6_watch wsX6_isYear := goodIn_r _ [6] (by decide +kernel) (by decide +kernel)
set_option maxRecDepth 20000 in
theorem gX6_watch_X6_isYear : GoodIn wsX6_watch (va_wsS RX6 83 yX6_isYear wsX6_isYear) := goodIn_app (goodIn_of _ (by decide +kernel)) ggX6_watch_X6_isYear
set_option maxRecDepth 20000 in
theorem ggX6_watch_X6_isLevel : GoodIn wsX6_watch wsX6_isLevel := goodIn_r _ [9] (by decide +kernel) (by decide +kernel)
set_option maxRecDepth 20000 in
theorem gX6_watch_X6_isLevel : GoodIn wsX6_watch (va_wsS RX6 120 yX6_isLevel wsX6_isLevel) := goodIn_app (goodIn_of _ (by decide +kernel)) ggX6_watch_X6_isLevel
set_option maxRecDepth 20000 in
theorem ggX6_watch_X5_hasRoom : GoodIn wsX6_watch wsX5_hasRoom := goodIn_r _ [14, 15, 97, 98, 99, 100] (by decide +kernel) (by decide +kernel)
set_option maxRecDepth 20000 in
theorem gX6_watch_X5_hasRoom : GoodIn wsX6_watch (wsV RX6 123 RX5 yX5_hasRoom wsX5_hasRoom) := goodIn_app (goodIn_of _ (by decide +kernel)) ggX6_watch_X5_hasRoom
set_option maxRecDepth 20000 in
theorem ggX6_watch_X5_add : GoodIn wsX6_watch wsX5_add := goodIn_r _ [19, 20, 15, 21, 22, 23, 11, 12, 13, 14, 97, 98, 99, 100] (by decide +kernel) (by decide +kernel)
set_option maxRecDepth 20000 in
theorem gX6_watch_X5_add : GoodIn wsX6_watch (wsV RX6 124 RX5 yX5_add wsX5_add) := goodIn_app (goodIn_of _ (by decide +kernel)) ggX6_watch_X5_add
set_option maxRecDepth 20000 in
theorem ggX6_watch_X6_settle : GoodIn wsX6_watch wsX6_settle := goodIn_r _ [27, 28, 29, 30, 31, 32, 33, 34, 35, 1, 36, 37, 38, 39, 40, 41, 42, 43, 44, 45, 46, 47, 48, 49, 50, 51, 52, 4, 5, 6, 53, 54, 55, 13, 56, 15, 20, 21, 22, 57, 58, 59, 60, 61, 62, 63, 64, 65, 66, 67, 68, 69, 70, 71, 72, 73, 74, 75, 76, 77, 78, 79, 80, 81, 82, 83, 84, 85, 86, 87, 88, 89, 90, 91, 92, 93, 94, 95, 96, 101, 102, 103, 104, 105, 106, 107, 108, 97, 98, 99, 100, 109, 110, 111, 112, 113, 114, 115, 116, 117, 118, 119] (by decide +kernel) (by decide +kernel)
set_option maxRecDepth 20000 in
theorem gX6_watch_X6_settle : GoodIn wsX6_watch (wsV RX6 80 RX6 yX6_settle wsX6_settle) := goodIn_app (goodIn_of _ (by decide +kernel)) ggX6_watch_X6_settle
theorem dX6_watch_0 : decode cX6_watch 0 = .ok (.iload_n 1, 1) := by decide +kernel
theorem dX6_watch_1 : decode cX6_watch 1 = .ok (.invokestatic 83, 3) := by decide +kernel
theorem dX6_watch_4 : decode cX6_watch 4 = .ok (.ifCond .eq 26, 3) := by decide +kernel
theorem dX6_watch_7 : decode cX6_watch 7 = .ok (.iload_n 2, 1) := by decide +kernel
theorem dX6_watch_8 : decode cX6_watch 8 = .ok (.invokestatic 83, 3) := by decide +kernel
theorem dX6_watch_11 : decode cX6_watch 11 = .ok (.ifCond .eq 19, 3) := by decide +kernel
theorem dX6_watch_14 : decode cX6_watch 14 = .ok (.iload_n 2, 1) := by decide +kernel
theorem dX6_watch_15 : decode cX6_watch 15 = .ok (.iload_n 1, 1) := by decide +kernel
theorem dX6_watch_16 : decode cX6_watch 16 = .ok (.if_icmp .lt 14, 3) := by decide +kernel
theorem dX6_watch_19 : decode cX6_watch 19 = .ok (.iload_n 3, 1) := by decide +kernel
theorem dX6_watch_20 : decode cX6_watch 20 = .ok (.invokestatic 120, 3) := by decide +kernel
theorem dX6_watch_23 : decode cX6_watch 23 = .ok (.ifCond .eq 7, 3) := by decide +kernel
theorem dX6_watch_26 : decode cX6_watch 26 = .ok (.iload_n 3, 1) := by decide +kernel
theorem dX6_watch_27 : decode cX6_watch 27 = .ok (.ifCond .ne 6, 3) := by decide +kernel
theorem dX6_watch_30 : decode cX6_watch 30 = .ok (.bipush (-2), 2) := by decide +kernel
theorem dX6_watch_32 : decode cX6_watch 32 = .ok (.ireturn, 1) := by decide +kernel
theorem dX6_watch_33 : decode cX6_watch 33 = .ok (.aload_n 0, 1) := by decide +kernel
theorem dX6_watch_34 : decode cX6_watch 34 = .ok (.getfield 19, 3) := by decide +kernel
theorem dX6_watch_37 : decode cX6_watch 37 = .ok (.invokevirtual 123, 3) := by decide +kernel
theorem dX6_watch_40 : decode cX6_watch 40 = .ok (.ifCond .ne 6, 3) := by decide +kernel
theorem dX6_watch_43 : decode cX6_watch 43 = .ok (.bipush (-4), 2) := by decide +kernel
theorem dX6_watch_45 : decode cX6_watch 45 = .ok (.ireturn, 1) := by decide +kernel
theorem dX6_watch_46 : decode cX6_watch 46 = .ok (.aload_n 0, 1) := by decide +kernel
theorem dX6_watch_47 : decode cX6_watch 47 = .ok (.getfield 19, 3) := by decide +kernel
theorem dX6_watch_50 : decode cX6_watch 50 = .ok (.iload_n 1, 1) := by decide +kernel
theorem dX6_watch_51 : decode cX6_watch 51 = .ok (.iload_n 2, 1) := by decide +kernel
theorem dX6_watch_52 : decode cX6_watch 52 = .ok (.iload_n 3, 1) := by decide +kernel
theorem dX6_watch_53 : decode cX6_watch 53 = .ok (.invokevirtual 124, 3) := by decide +kernel
theorem dX6_watch_56 : decode cX6_watch 56 = .ok (.aload_n 0, 1) := by decide +kernel
theorem dX6_watch_57 : decode cX6_watch 57 = .ok (.invokevirtual 80, 3) := by decide +kernel
theorem dX6_watch_60 : decode cX6_watch 60 = .ok (.aload_n 0, 1) := by decide +kernel
theorem dX6_watch_61 : decode cX6_watch 61 = .ok (.getfield 19, 3) := by decide +kernel
theorem dX6_watch_64 : decode cX6_watch 64 = .ok (.getfield 127, 3) := by decide +kernel
theorem dX6_watch_67 : decode cX6_watch 67 = .ok (.iconst 1, 1) := by decide +kernel
theorem dX6_watch_68 : decode cX6_watch 68 = .ok (.isub, 1) := by decide +kernel
theorem dX6_watch_69 : decode cX6_watch 69 = .ok (.ireturn, 1) := by decide +kernel
set_option maxRecDepth 20000 in
theorem ggX6_set_X6_settle : GoodIn wsX6_set wsX6_settle := goodIn_r _ [8, 9, 10, 11, 12, 3, 13, 14, 15, 16, 17, 18, 19, 20, 21, 22, 23, 24, 25, 26, 27, 28, 29, 30, 31, 32, 33, 34, 7, 35, 36, 37, 38, 39, 40, 41, 42, 43, 44, 45, 46, 47, 48, 49, 50, 51, 52, 53, 54, 55, 56, 57, 58, 59, 60, 61, 62, 63, 64, 65, 66, 67, 68, 69, 70, 71, 72, 73, 74, 75, 76, 77, 78, 79, 80, 81, 82, 83, 84, 85, 86, 87, 88, 89, 90, 91, 92, 93, 94, 95, 96, 97, 98, 99, 100, 101, 102, 103, 104, 105, 106, 107] (by decide +kernel) (by decide +kernel)
set_option maxRecDepth 20000 in
theorem gX6_set_X6_settle : GoodIn wsX6_set (wsV RX6 80 RX6 yX6_settle wsX6_settle) := goodIn_app (goodIn_of _ (by decide +kernel)) ggX6_set_X6_settle
theorem dX6_set_0 : decode cX6_set 0 = .ok (.iload_n 1, 1) := by decide +kernel
theorem dX6_set_1 : decode cX6_set 1 = .ok (.ifCond .lt 27, 3) := by decide +kernel
theorem dX6_set_4 : decode cX6_set 4 = .ok (.iload_n 1, 1) := by decide +kernel
theorem dX6_set_5 : decode cX6_set 5 = .ok (.bipush 6, 2) := by decide +kernel
theorem dX6_set_7 : decode cX6_set 7 = .ok (.if_icmp .ge 21, 3) := by decide +kernel
theorem dX6_set_10 : decode cX6_set 10 = .ok (.iload_n 2, 1) := by decide +kernel
theorem dX6_set_11 : decode cX6_set 11 = .ok (.getstatic 128, 3) := by decide +kernel
theorem dX6_set_14 : decode cX6_set 14 = .ok (.iload_n 1, 1) := by decide +kernel
theorem dX6_set_15 : decode cX6_set 15 = .ok (.iaload, 1) := by decide +kernel
theorem dX6_set_16 : decode cX6_set 16 = .ok (.if_icmp .lt 12, 3) := by decide +kernel
theorem dX6_set_19 : decode cX6_set 19 = .ok (.iload_n 2, 1) := by decide +kernel
theorem dX6_set_20 : decode cX6_set 20 = .ok (.getstatic 131, 3) := by decide +kernel
theorem dX6_set_23 : decode cX6_set 23 = .ok (.iload_n 1, 1) := by decide +kernel
theorem dX6_set_24 : decode cX6_set 24 = .ok (.iaload, 1) := by decide +kernel
theorem dX6_set_25 : decode cX6_set 25 = .ok (.if_icmp .le 6, 3) := by decide +kernel
theorem dX6_set_28 : decode cX6_set 28 = .ok (.bipush (-2), 2) := by decide +kernel
theorem dX6_set_30 : decode cX6_set 30 = .ok (.ireturn, 1) := by decide +kernel
theorem dX6_set_31 : decode cX6_set 31 = .ok (.aload_n 0, 1) := by decide +kernel
theorem dX6_set_32 : decode cX6_set 32 = .ok (.getfield 46, 3) := by decide +kernel
theorem dX6_set_35 : decode cX6_set 35 = .ok (.iload_n 1, 1) := by decide +kernel
theorem dX6_set_36 : decode cX6_set 36 = .ok (.iaload, 1) := by decide +kernel
theorem dX6_set_37 : decode cX6_set 37 = .ok (.istore_n 3, 1) := by decide +kernel
theorem dX6_set_38 : decode cX6_set 38 = .ok (.aload_n 0, 1) := by decide +kernel
theorem dX6_set_39 : decode cX6_set 39 = .ok (.getfield 46, 3) := by decide +kernel
theorem dX6_set_42 : decode cX6_set 42 = .ok (.iload_n 1, 1) := by decide +kernel
theorem dX6_set_43 : decode cX6_set 43 = .ok (.iload_n 2, 1) := by decide +kernel
theorem dX6_set_44 : decode cX6_set 44 = .ok (.iastore, 1) := by decide +kernel
theorem dX6_set_45 : decode cX6_set 45 = .ok (.aload_n 0, 1) := by decide +kernel
theorem dX6_set_46 : decode cX6_set 46 = .ok (.invokevirtual 80, 3) := by decide +kernel
theorem dX6_set_49 : decode cX6_set 49 = .ok (.iload_n 3, 1) := by decide +kernel
theorem dX6_set_50 : decode cX6_set 50 = .ok (.ireturn, 1) := by decide +kernel
set_option maxRecDepth 20000 in
theorem ggX6_known_X6_isYear : GoodIn wsX6_known wsX6_isYear := goodIn_r _ [7] (by decide +kernel) (by decide +kernel)
set_option maxRecDepth 20000 in
theorem gX6_known_X6_isYear : GoodIn wsX6_known (va_wsS RX6 83 yX6_isYear wsX6_isYear) := goodIn_app (goodIn_of _ (by decide +kernel)) ggX6_known_X6_isYear
set_option maxRecDepth 20000 in
theorem ggX6_known_X6_isEither : GoodIn wsX6_known wsX6_isEither := goodIn_r _ [10] (by decide +kernel) (by decide +kernel)
set_option maxRecDepth 20000 in
theorem gX6_known_X6_isEither : GoodIn wsX6_known (va_wsS RX6 134 yX6_isEither wsX6_isEither) := goodIn_app (goodIn_of _ (by decide +kernel)) ggX6_known_X6_isEither
theorem dX6_known_0 : decode cX6_known 0 = .ok (.iload_n 1, 1) := by decide +kernel
theorem dX6_known_1 : decode cX6_known 1 = .ok (.invokestatic 83, 3) := by decide +kernel
theorem dX6_known_4 : decode cX6_known 4 = .ok (.ifCond .eq 10, 3) := by decide +kernel
theorem dX6_known_7 : decode cX6_known 7 = .ok (.iload_n 2, 1) := by decide +kernel
theorem dX6_known_8 : decode cX6_known 8 = .ok (.invokestatic 134, 3) := by decide +kernel
theorem dX6_known_11 : decode cX6_known 11 = .ok (.ifCond .ne 6, 3) := by decide +kernel
theorem dX6_known_14 : decode cX6_known 14 = .ok (.bipush (-2), 2) := by decide +kernel
theorem dX6_known_16 : decode cX6_known 16 = .ok (.ireturn, 1) := by decide +kernel
theorem dX6_known_17 : decode cX6_known 17 = .ok (.iload_n 2, 1) := by decide +kernel
theorem dX6_known_18 : decode cX6_known 18 = .ok (.ifCond .ne 15, 3) := by decide +kernel
theorem dX6_known_21 : decode cX6_known 21 = .ok (.aload_n 0, 1) := by decide +kernel
theorem dX6_known_22 : decode cX6_known 22 = .ok (.getfield 26, 3) := by decide +kernel
theorem dX6_known_25 : decode cX6_known 25 = .ok (.getfield 137, 3) := by decide +kernel
theorem dX6_known_28 : decode cX6_known 28 = .ok (.iload_n 1, 1) := by decide +kernel
theorem dX6_known_29 : decode cX6_known 29 = .ok (.iaload, 1) := by decide +kernel
theorem dX6_known_30 : decode cX6_known 30 = .ok (.goto 12, 3) := by decide +kernel
theorem dX6_known_33 : decode cX6_known 33 = .ok (.aload_n 0, 1) := by decide +kernel
theorem dX6_known_34 : decode cX6_known 34 = .ok (.getfield 26, 3) := by decide +kernel
theorem dX6_known_37 : decode cX6_known 37 = .ok (.getfield 140, 3) := by decide +kernel
theorem dX6_known_40 : decode cX6_known 40 = .ok (.iload_n 1, 1) := by decide +kernel
theorem dX6_known_41 : decode cX6_known 41 = .ok (.iaload, 1) := by decide +kernel
theorem dX6_known_42 : decode cX6_known 42 = .ok (.ireturn, 1) := by decide +kernel
set_option maxRecDepth 20000 in
theorem ggX6_over_X6_isLevel : GoodIn wsX6_over wsX6_isLevel := goodIn_r _ [5] (by decide +kernel) (by decide +kernel)
set_option maxRecDepth 20000 in
theorem gX6_over_X6_isLevel : GoodIn wsX6_over (va_wsS RX6 120 yX6_isLevel wsX6_isLevel) := goodIn_app (goodIn_of _ (by decide +kernel)) ggX6_over_X6_isLevel
set_option maxRecDepth 20000 in
theorem ggX6_over_X0_overs : GoodIn wsX6_over wsX0_overs := goodIn_r _ [10, 11, 12, 39, 40, 41, 42, 43, 44, 45, 46, 47, 48, 49] (by decide +kernel) (by decide +kernel)
set_option maxRecDepth 20000 in
theorem gX6_over_X0_overs : GoodIn wsX6_over (wsV RX6 143 RX0 yX0_overs wsX0_overs) := goodIn_app (goodIn_of _ (by decide +kernel)) ggX6_over_X0_overs
set_option maxRecDepth 20000 in
theorem ggX6_over_X0_unders : GoodIn wsX6_over wsX0_unders := goodIn_r _ [16, 11, 17, 7, 8, 9, 10, 12, 18, 19, 20, 21, 22, 23, 39, 40, 41, 42, 43, 44, 45, 46, 47, 48, 49] (by decide +kernel) (by decide +kernel)
set_option maxRecDepth 20000 in
theorem gX6_over_X0_unders : GoodIn wsX6_over (wsV RX6 146 RX0 yX0_unders wsX0_unders) := goodIn_app (goodIn_of _ (by decide +kernel)) ggX6_over_X0_unders
set_option maxRecDepth 20000 in
theorem ggX6_over_X0_darks : GoodIn wsX6_over wsX0_darks := goodIn_r _ [27, 28, 22, 18, 19, 20, 9, 21, 23, 39, 40, 41, 42, 43, 44, 45, 46, 47, 48, 49] (by decide +kernel) (by decide +kernel)
set_option maxRecDepth 20000 in
theorem gX6_over_X0_darks : GoodIn wsX6_over (wsV RX6 149 RX0 yX0_darks wsX0_darks) := goodIn_app (goodIn_of _ (by decide +kernel)) ggX6_over_X0_darks
theorem dX6_over_0 : decode cX6_over 0 = .ok (.iload_n 1, 1) := by decide +kernel
theorem dX6_over_1 : decode cX6_over 1 = .ok (.invokestatic 120, 3) := by decide +kernel
theorem dX6_over_4 : decode cX6_over 4 = .ok (.ifCond .eq 12, 3) := by decide +kernel
theorem dX6_over_7 : decode cX6_over 7 = .ok (.iload_n 2, 1) := by decide +kernel
theorem dX6_over_8 : decode cX6_over 8 = .ok (.ifCond .lt 8, 3) := by decide +kernel
theorem dX6_over_11 : decode cX6_over 11 = .ok (.iload_n 2, 1) := by decide +kernel
theorem dX6_over_12 : decode cX6_over 12 = .ok (.iconst 2, 1) := by decide +kernel
theorem dX6_over_13 : decode cX6_over 13 = .ok (.if_icmp .le 6, 3) := by decide +kernel
theorem dX6_over_16 : decode cX6_over 16 = .ok (.bipush (-2), 2) := by decide +kernel
theorem dX6_over_18 : decode cX6_over 18 = .ok (.ireturn, 1) := by decide +kernel
theorem dX6_over_19 : decode cX6_over 19 = .ok (.iload_n 2, 1) := by decide +kernel
theorem dX6_over_20 : decode cX6_over 20 = .ok (.ifCond .ne 12, 3) := by decide +kernel
theorem dX6_over_23 : decode cX6_over 23 = .ok (.aload_n 0, 1) := by decide +kernel
theorem dX6_over_24 : decode cX6_over 24 = .ok (.getfield 33, 3) := by decide +kernel
theorem dX6_over_27 : decode cX6_over 27 = .ok (.iload_n 1, 1) := by decide +kernel
theorem dX6_over_28 : decode cX6_over 28 = .ok (.invokevirtual 143, 3) := by decide +kernel
theorem dX6_over_31 : decode cX6_over 31 = .ok (.ireturn, 1) := by decide +kernel
theorem dX6_over_32 : decode cX6_over 32 = .ok (.iload_n 2, 1) := by decide +kernel
theorem dX6_over_33 : decode cX6_over 33 = .ok (.iconst 1, 1) := by decide +kernel
theorem dX6_over_34 : decode cX6_over 34 = .ok (.if_icmp .ne 14, 3) := by decide +kernel
theorem dX6_over_37 : decode cX6_over 37 = .ok (.aload_n 0, 1) := by decide +kernel
theorem dX6_over_38 : decode cX6_over 38 = .ok (.getfield 33, 3) := by decide +kernel
theorem dX6_over_41 : decode cX6_over 41 = .ok (.iload_n 1, 1) := by decide +kernel
theorem dX6_over_42 : decode cX6_over 42 = .ok (.invokevirtual 146, 3) := by decide +kernel
theorem dX6_over_45 : decode cX6_over 45 = .ok (.goto 11, 3) := by decide +kernel
theorem dX6_over_48 : decode cX6_over 48 = .ok (.aload_n 0, 1) := by decide +kernel
theorem dX6_over_49 : decode cX6_over 49 = .ok (.getfield 33, 3) := by decide +kernel
theorem dX6_over_52 : decode cX6_over 52 = .ok (.iload_n 1, 1) := by decide +kernel
theorem dX6_over_53 : decode cX6_over 53 = .ok (.invokevirtual 149, 3) := by decide +kernel
theorem dX6_over_56 : decode cX6_over 56 = .ok (.ireturn, 1) := by decide +kernel
set_option maxRecDepth 20000 in
theorem ggX6_rare_X6_isLevel : GoodIn wsX6_rare wsX6_isLevel := goodIn_r _ [5] (by decide +kernel) (by decide +kernel)
set_option maxRecDepth 20000 in
theorem gX6_rare_X6_isLevel : GoodIn wsX6_rare (va_wsS RX6 120 yX6_isLevel wsX6_isLevel) := goodIn_app (goodIn_of _ (by decide +kernel)) ggX6_rare_X6_isLevel
set_option maxRecDepth 20000 in
theorem ggX6_rare_X6_isEither : GoodIn wsX6_rare wsX6_isEither := goodIn_r _ [8] (by decide +kernel) (by decide +kernel)
set_option maxRecDepth 20000 in
theorem gX6_rare_X6_isEither : GoodIn wsX6_rare (va_wsS RX6 134 yX6_isEither wsX6_isEither) := goodIn_app (goodIn_of _ (by decide +kernel)) ggX6_rare_X6_isEither
set_option maxRecDepth 20000 in
theorem ggX6_rare_X6_longRefusal : GoodIn wsX6_rare wsX6_longRefusal := goodIn_r _ [11, 12] (by decide +kernel) (by decide +kernel)
set_option maxRecDepth 20000 in
theorem gX6_rare_X6_longRefusal : GoodIn wsX6_rare (va_wsS RX6 152 yX6_longRefusal wsX6_longRefusal) := goodIn_app (goodIn_of _ (by decide +kernel)) ggX6_rare_X6_longRefusal
set_option maxRecDepth 20000 in
theorem ggX6_rare_X0_overs : GoodIn wsX6_rare wsX0_overs := goodIn_r _ [17, 18, 19, 59, 60, 61, 62, 63, 64, 65, 66, 67, 68, 69] (by decide +kernel) (by decide +kernel)
set_option maxRecDepth 20000 in
theorem gX6_rare_X0_overs : GoodIn wsX6_rare (wsV RX6 143 RX0 yX0_overs wsX0_overs) := goodIn_app (goodIn_of _ (by decide +kernel)) ggX6_rare_X0_overs
set_option maxRecDepth 20000 in
theorem ggX6_rare_X0_rareBelow : GoodIn wsX6_rare wsX0_rareBelow := goodIn_r _ [23, 18, 24, 25, 26, 16, 27, 28, 29, 59, 60, 61, 62, 63, 64, 65, 66, 67, 68, 69] (by decide +kernel) (by decide +kernel)
set_option maxRecDepth 20000 in
theorem gX6_rare_X0_rareBelow : GoodIn wsX6_rare (wsV RX6 156 RX0 yX0_rareBelow wsX0_rareBelow) := goodIn_app (goodIn_of _ (by decide +kernel)) ggX6_rare_X0_rareBelow
set_option maxRecDepth 20000 in
theorem ggX6_rare_X6_fraction : GoodIn wsX6_rare wsX6_fraction := goodIn_r _ [32, 33, 34, 35, 36, 37, 38, 4, 39] (by decide +kernel) (by decide +kernel)
set_option maxRecDepth 20000 in
theorem gX6_rare_X6_fraction : GoodIn wsX6_rare (va_wsS RX6 159 yX6_fraction wsX6_fraction) := goodIn_app (goodIn_of _ (by decide +kernel)) ggX6_rare_X6_fraction
set_option maxRecDepth 20000 in
theorem ggX6_rare_X0_all : GoodIn wsX6_rare wsX0_all := goodIn_r _ [43, 18, 28, 44, 59, 60, 61, 62, 63, 64, 65, 66, 67, 68, 69] (by decide +kernel) (by decide +kernel)
set_option maxRecDepth 20000 in
theorem gX6_rare_X0_all : GoodIn wsX6_rare (wsV RX6 163 RX0 yX0_all wsX0_all) := goodIn_app (goodIn_of _ (by decide +kernel)) ggX6_rare_X0_all
set_option maxRecDepth 20000 in
theorem ggX6_rare_X0_darks : GoodIn wsX6_rare wsX0_darks := goodIn_r _ [48, 44, 28, 24, 25, 26, 16, 27, 29, 59, 60, 61, 62, 63, 64, 65, 66, 67, 68, 69] (by decide +kernel) (by decide +kernel)
set_option maxRecDepth 20000 in
theorem gX6_rare_X0_darks : GoodIn wsX6_rare (wsV RX6 149 RX0 yX0_darks wsX0_darks) := goodIn_app (goodIn_of _ (by decide +kernel)) ggX6_rare_X0_darks
theorem dX6_rare_0 : decode cX6_rare 0 = .ok (.iload_n 1, 1) := by decide +kernel
theorem dX6_rare_1 : decode cX6_rare 1 = .ok (.invokestatic 120, 3) := by decide +kernel
theorem dX6_rare_4 : decode cX6_rare 4 = .ok (.ifCond .eq 19, 3) := by decide +kernel
theorem dX6_rare_7 : decode cX6_rare 7 = .ok (.iload_n 2, 1) := by decide +kernel
theorem dX6_rare_8 : decode cX6_rare 8 = .ok (.ifCond .lt 15, 3) := by decide +kernel
theorem dX6_rare_11 : decode cX6_rare 11 = .ok (.iload_n 2, 1) := by decide +kernel
theorem dX6_rare_12 : decode cX6_rare 12 = .ok (.iconst 3, 1) := by decide +kernel
theorem dX6_rare_13 : decode cX6_rare 13 = .ok (.if_icmp .gt 10, 3) := by decide +kernel
theorem dX6_rare_16 : decode cX6_rare 16 = .ok (.iload_n 3, 1) := by decide +kernel
theorem dX6_rare_17 : decode cX6_rare 17 = .ok (.invokestatic 134, 3) := by decide +kernel
theorem dX6_rare_20 : decode cX6_rare 20 = .ok (.ifCond .ne 9, 3) := by decide +kernel
theorem dX6_rare_23 : decode cX6_rare 23 = .ok (.bipush (-2), 2) := by decide +kernel
theorem dX6_rare_25 : decode cX6_rare 25 = .ok (.invokestatic 152, 3) := by decide +kernel
theorem dX6_rare_28 : decode cX6_rare 28 = .ok (.lreturn, 1) := by decide +kernel
theorem dX6_rare_29 : decode cX6_rare 29 = .ok (.aload_n 0, 1) := by decide +kernel
theorem dX6_rare_30 : decode cX6_rare 30 = .ok (.getfield 33, 3) := by decide +kernel
theorem dX6_rare_33 : decode cX6_rare 33 = .ok (.iload_n 1, 1) := by decide +kernel
theorem dX6_rare_34 : decode cX6_rare 34 = .ok (.invokevirtual 143, 3) := by decide +kernel
theorem dX6_rare_37 : decode cX6_rare 37 = .ok (.istore 4, 2) := by decide +kernel
theorem dX6_rare_39 : decode cX6_rare 39 = .ok (.iload_n 2, 1) := by decide +kernel
theorem dX6_rare_40 : decode cX6_rare 40 = .ok (.tableswitch 90 0 2 #[28, 45, 63], 28) := by decide +kernel
theorem dX6_rare_68 : decode cX6_rare 68 = .ok (.iload 4, 2) := by decide +kernel
theorem dX6_rare_70 : decode cX6_rare 70 = .ok (.i2l, 1) := by decide +kernel
theorem dX6_rare_71 : decode cX6_rare 71 = .ok (.aload_n 0, 1) := by decide +kernel
theorem dX6_rare_72 : decode cX6_rare 72 = .ok (.getfield 33, 3) := by decide +kernel
theorem dX6_rare_75 : decode cX6_rare 75 = .ok (.iload_n 1, 1) := by decide +kernel
theorem dX6_rare_76 : decode cX6_rare 76 = .ok (.invokevirtual 156, 3) := by decide +kernel
theorem dX6_rare_79 : decode cX6_rare 79 = .ok (.i2l, 1) := by decide +kernel
theorem dX6_rare_80 : decode cX6_rare 80 = .ok (.iload_n 3, 1) := by decide +kernel
theorem dX6_rare_81 : decode cX6_rare 81 = .ok (.invokestatic 159, 3) := by decide +kernel
theorem dX6_rare_84 : decode cX6_rare 84 = .ok (.lreturn, 1) := by decide +kernel
theorem dX6_rare_85 : decode cX6_rare 85 = .ok (.iload 4, 2) := by decide +kernel
theorem dX6_rare_87 : decode cX6_rare 87 = .ok (.i2l, 1) := by decide +kernel
theorem dX6_rare_88 : decode cX6_rare 88 = .ok (.aload_n 0, 1) := by decide +kernel
theorem dX6_rare_89 : decode cX6_rare 89 = .ok (.getfield 33, 3) := by decide +kernel
theorem dX6_rare_92 : decode cX6_rare 92 = .ok (.invokevirtual 163, 3) := by decide +kernel
theorem dX6_rare_95 : decode cX6_rare 95 = .ok (.iconst 1, 1) := by decide +kernel
theorem dX6_rare_96 : decode cX6_rare 96 = .ok (.iadd, 1) := by decide +kernel
theorem dX6_rare_97 : decode cX6_rare 97 = .ok (.i2l, 1) := by decide +kernel
theorem dX6_rare_98 : decode cX6_rare 98 = .ok (.iload_n 3, 1) := by decide +kernel
theorem dX6_rare_99 : decode cX6_rare 99 = .ok (.invokestatic 159, 3) := by decide +kernel
theorem dX6_rare_102 : decode cX6_rare 102 = .ok (.lreturn, 1) := by decide +kernel
theorem dX6_rare_103 : decode cX6_rare 103 = .ok (.iload 4, 2) := by decide +kernel
theorem dX6_rare_105 : decode cX6_rare 105 = .ok (.aload_n 0, 1) := by decide +kernel
theorem dX6_rare_106 : decode cX6_rare 106 = .ok (.getfield 33, 3) := by decide +kernel
theorem dX6_rare_109 : decode cX6_rare 109 = .ok (.iload_n 1, 1) := by decide +kernel
theorem dX6_rare_110 : decode cX6_rare 110 = .ok (.invokevirtual 149, 3) := by decide +kernel
theorem dX6_rare_113 : decode cX6_rare 113 = .ok (.iadd, 1) := by decide +kernel
theorem dX6_rare_114 : decode cX6_rare 114 = .ok (.i2l, 1) := by decide +kernel
theorem dX6_rare_115 : decode cX6_rare 115 = .ok (.aload_n 0, 1) := by decide +kernel
theorem dX6_rare_116 : decode cX6_rare 116 = .ok (.getfield 33, 3) := by decide +kernel
theorem dX6_rare_119 : decode cX6_rare 119 = .ok (.invokevirtual 163, 3) := by decide +kernel
theorem dX6_rare_122 : decode cX6_rare 122 = .ok (.iconst 1, 1) := by decide +kernel
theorem dX6_rare_123 : decode cX6_rare 123 = .ok (.iadd, 1) := by decide +kernel
theorem dX6_rare_124 : decode cX6_rare 124 = .ok (.i2l, 1) := by decide +kernel
theorem dX6_rare_125 : decode cX6_rare 125 = .ok (.iload_n 3, 1) := by decide +kernel
theorem dX6_rare_126 : decode cX6_rare 126 = .ok (.invokestatic 159, 3) := by decide +kernel
theorem dX6_rare_129 : decode cX6_rare 129 = .ok (.lreturn, 1) := by decide +kernel
theorem dX6_rare_130 : decode cX6_rare 130 = .ok (.iload 4, 2) := by decide +kernel
theorem dX6_rare_132 : decode cX6_rare 132 = .ok (.ifCond .ne 11, 3) := by decide +kernel
theorem dX6_rare_135 : decode cX6_rare 135 = .ok (.bipush (-3), 2) := by decide +kernel
theorem dX6_rare_137 : decode cX6_rare 137 = .ok (.invokestatic 152, 3) := by decide +kernel
theorem dX6_rare_140 : decode cX6_rare 140 = .ok (.goto 19, 3) := by decide +kernel
theorem dX6_rare_143 : decode cX6_rare 143 = .ok (.aload_n 0, 1) := by decide +kernel
theorem dX6_rare_144 : decode cX6_rare 144 = .ok (.getfield 33, 3) := by decide +kernel
theorem dX6_rare_147 : decode cX6_rare 147 = .ok (.iload_n 1, 1) := by decide +kernel
theorem dX6_rare_148 : decode cX6_rare 148 = .ok (.invokevirtual 156, 3) := by decide +kernel
theorem dX6_rare_151 : decode cX6_rare 151 = .ok (.i2l, 1) := by decide +kernel
theorem dX6_rare_152 : decode cX6_rare 152 = .ok (.iload 4, 2) := by decide +kernel
theorem dX6_rare_154 : decode cX6_rare 154 = .ok (.i2l, 1) := by decide +kernel
theorem dX6_rare_155 : decode cX6_rare 155 = .ok (.iload_n 3, 1) := by decide +kernel
theorem dX6_rare_156 : decode cX6_rare 156 = .ok (.invokestatic 159, 3) := by decide +kernel
theorem dX6_rare_159 : decode cX6_rare 159 = .ok (.lreturn, 1) := by decide +kernel
set_option maxRecDepth 20000 in
theorem ggX6_soRare_X6_isHundredths : GoodIn wsX6_soRare wsX6_isHundredths := goodIn_r _ [7] (by decide +kernel) (by decide +kernel)
set_option maxRecDepth 20000 in
theorem gX6_soRare_X6_isHundredths : GoodIn wsX6_soRare (va_wsS RX6 167 yX6_isHundredths wsX6_isHundredths) := goodIn_app (goodIn_of _ (by decide +kernel)) ggX6_soRare_X6_isHundredths
set_option maxRecDepth 20000 in
theorem ggX6_soRare_X0_overs : GoodIn wsX6_soRare wsX0_overs := goodIn_r _ [12, 13, 14, 35, 36, 37, 38, 39, 40, 41, 42, 43, 44, 45] (by decide +kernel) (by decide +kernel)
set_option maxRecDepth 20000 in
theorem gX6_soRare_X0_overs : GoodIn wsX6_soRare (wsV RX6 143 RX0 yX0_overs wsX0_overs) := goodIn_app (goodIn_of _ (by decide +kernel)) ggX6_soRare_X0_overs
set_option maxRecDepth 20000 in
theorem ggX6_soRare_X0_rareBelow : GoodIn wsX6_soRare wsX0_rareBelow := goodIn_r _ [18, 13, 19, 20, 21, 11, 22, 23, 24, 35, 36, 37, 38, 39, 40, 41, 42, 43, 44, 45] (by decide +kernel) (by decide +kernel)
set_option maxRecDepth 20000 in
theorem gX6_soRare_X0_rareBelow : GoodIn wsX6_soRare (wsV RX6 156 RX0 yX0_rareBelow wsX0_rareBelow) := goodIn_app (goodIn_of _ (by decide +kernel)) ggX6_soRare_X0_rareBelow
theorem dX6_soRare_0 : decode cX6_soRare 0 = .ok (.iload_n 1, 1) := by decide +kernel
theorem dX6_soRare_1 : decode cX6_soRare 1 = .ok (.invokestatic 167, 3) := by decide +kernel
theorem dX6_soRare_4 : decode cX6_soRare 4 = .ok (.ifCond .ne 6, 3) := by decide +kernel
theorem dX6_soRare_7 : decode cX6_soRare 7 = .ok (.bipush (-2), 2) := by decide +kernel
theorem dX6_soRare_9 : decode cX6_soRare 9 = .ok (.ireturn, 1) := by decide +kernel
theorem dX6_soRare_10 : decode cX6_soRare 10 = .ok (.iconst (-1), 1) := by decide +kernel
theorem dX6_soRare_11 : decode cX6_soRare 11 = .ok (.istore_n 2, 1) := by decide +kernel
theorem dX6_soRare_12 : decode cX6_soRare 12 = .ok (.iconst 0, 1) := by decide +kernel
theorem dX6_soRare_13 : decode cX6_soRare 13 = .ok (.istore_n 3, 1) := by decide +kernel
theorem dX6_soRare_14 : decode cX6_soRare 14 = .ok (.iload_n 3, 1) := by decide +kernel
theorem dX6_soRare_15 : decode cX6_soRare 15 = .ok (.aload_n 0, 1) := by decide +kernel
theorem dX6_soRare_16 : decode cX6_soRare 16 = .ok (.getfield 33, 3) := by decide +kernel
theorem dX6_soRare_19 : decode cX6_soRare 19 = .ok (.getfield 170, 3) := by decide +kernel
theorem dX6_soRare_22 : decode cX6_soRare 22 = .ok (.if_icmp .ge 55, 3) := by decide +kernel
theorem dX6_soRare_25 : decode cX6_soRare 25 = .ok (.aload_n 0, 1) := by decide +kernel
theorem dX6_soRare_26 : decode cX6_soRare 26 = .ok (.getfield 33, 3) := by decide +kernel
theorem dX6_soRare_29 : decode cX6_soRare 29 = .ok (.getfield 173, 3) := by decide +kernel
theorem dX6_soRare_32 : decode cX6_soRare 32 = .ok (.iload_n 3, 1) := by decide +kernel
theorem dX6_soRare_33 : decode cX6_soRare 33 = .ok (.iaload, 1) := by decide +kernel
theorem dX6_soRare_34 : decode cX6_soRare 34 = .ok (.istore 4, 2) := by decide +kernel
theorem dX6_soRare_36 : decode cX6_soRare 36 = .ok (.iload 4, 2) := by decide +kernel
theorem dX6_soRare_38 : decode cX6_soRare 38 = .ok (.iload_n 2, 1) := by decide +kernel
theorem dX6_soRare_39 : decode cX6_soRare 39 = .ok (.if_icmp .le 32, 3) := by decide +kernel
theorem dX6_soRare_42 : decode cX6_soRare 42 = .ok (.bipush 100, 2) := by decide +kernel
theorem dX6_soRare_44 : decode cX6_soRare 44 = .ok (.aload_n 0, 1) := by decide +kernel
theorem dX6_soRare_45 : decode cX6_soRare 45 = .ok (.getfield 33, 3) := by decide +kernel
theorem dX6_soRare_48 : decode cX6_soRare 48 = .ok (.iload 4, 2) := by decide +kernel
theorem dX6_soRare_50 : decode cX6_soRare 50 = .ok (.invokevirtual 143, 3) := by decide +kernel
theorem dX6_soRare_53 : decode cX6_soRare 53 = .ok (.imul, 1) := by decide +kernel
theorem dX6_soRare_54 : decode cX6_soRare 54 = .ok (.iload_n 1, 1) := by decide +kernel
theorem dX6_soRare_55 : decode cX6_soRare 55 = .ok (.aload_n 0, 1) := by decide +kernel
theorem dX6_soRare_56 : decode cX6_soRare 56 = .ok (.getfield 33, 3) := by decide +kernel
theorem dX6_soRare_59 : decode cX6_soRare 59 = .ok (.iload 4, 2) := by decide +kernel
theorem dX6_soRare_61 : decode cX6_soRare 61 = .ok (.invokevirtual 156, 3) := by decide +kernel
theorem dX6_soRare_64 : decode cX6_soRare 64 = .ok (.imul, 1) := by decide +kernel
theorem dX6_soRare_65 : decode cX6_soRare 65 = .ok (.if_icmp .lt 6, 3) := by decide +kernel
theorem dX6_soRare_68 : decode cX6_soRare 68 = .ok (.iload 4, 2) := by decide +kernel
theorem dX6_soRare_70 : decode cX6_soRare 70 = .ok (.istore_n 2, 1) := by decide +kernel
theorem dX6_soRare_71 : decode cX6_soRare 71 = .ok (.iinc 3 1, 3) := by decide +kernel
theorem dX6_soRare_74 : decode cX6_soRare 74 = .ok (.goto (-60), 3) := by decide +kernel
theorem dX6_soRare_77 : decode cX6_soRare 77 = .ok (.iload_n 2, 1) := by decide +kernel
theorem dX6_soRare_78 : decode cX6_soRare 78 = .ok (.ireturn, 1) := by decide +kernel
set_option maxRecDepth 20000 in
theorem ggX6_rank_X6_isYear : GoodIn wsX6_rank wsX6_isYear := goodIn_r _ [8] (by decide +kernel) (by decide +kernel)
set_option maxRecDepth 20000 in
theorem gX6_rank_X6_isYear : GoodIn wsX6_rank (va_wsS RX6 83 yX6_isYear wsX6_isYear) := goodIn_app (goodIn_of _ (by decide +kernel)) ggX6_rank_X6_isYear
set_option maxRecDepth 20000 in
theorem ggX6_rank_X6_counts : GoodIn wsX6_rank wsX6_counts := goodIn_r _ [12, 13, 21, 22, 23, 24, 25, 26, 27, 28, 29, 30] (by decide +kernel) (by decide +kernel)
set_option maxRecDepth 20000 in
theorem gX6_rank_X6_counts : GoodIn wsX6_rank (wsV RX6 176 RX6 yX6_counts wsX6_counts) := goodIn_app (goodIn_of _ (by decide +kernel)) ggX6_rank_X6_counts
set_option maxRecDepth 20000 in
theorem ggX6_rank_X0_overs : GoodIn wsX6_rank wsX0_overs := goodIn_r _ [18, 19, 20, 33, 34, 35, 36, 37, 38, 39, 40, 41, 42, 43] (by decide +kernel) (by decide +kernel)
set_option maxRecDepth 20000 in
theorem gX6_rank_X0_overs : GoodIn wsX6_rank (wsV RX6 143 RX0 yX0_overs wsX0_overs) := goodIn_app (goodIn_of _ (by decide +kernel)) ggX6_rank_X0_overs
theorem dX6_rank_0 : decode cX6_rank 0 = .ok (.iload_n 1, 1) := by decide +kernel
theorem dX6_rank_1 : decode cX6_rank 1 = .ok (.invokestatic 83, 3) := by decide +kernel
theorem dX6_rank_4 : decode cX6_rank 4 = .ok (.ifCond .ne 6, 3) := by decide +kernel
theorem dX6_rank_7 : decode cX6_rank 7 = .ok (.bipush (-2), 2) := by decide +kernel
theorem dX6_rank_9 : decode cX6_rank 9 = .ok (.ireturn, 1) := by decide +kernel
theorem dX6_rank_10 : decode cX6_rank 10 = .ok (.aload_n 0, 1) := by decide +kernel
theorem dX6_rank_11 : decode cX6_rank 11 = .ok (.iload_n 1, 1) := by decide +kernel
theorem dX6_rank_12 : decode cX6_rank 12 = .ok (.invokevirtual 176, 3) := by decide +kernel
theorem dX6_rank_15 : decode cX6_rank 15 = .ok (.ifCond .eq 15, 3) := by decide +kernel
theorem dX6_rank_18 : decode cX6_rank 18 = .ok (.aload_n 0, 1) := by decide +kernel
theorem dX6_rank_19 : decode cX6_rank 19 = .ok (.getfield 26, 3) := by decide +kernel
theorem dX6_rank_22 : decode cX6_rank 22 = .ok (.getfield 137, 3) := by decide +kernel
theorem dX6_rank_25 : decode cX6_rank 25 = .ok (.iload_n 1, 1) := by decide +kernel
theorem dX6_rank_26 : decode cX6_rank 26 = .ok (.iaload, 1) := by decide +kernel
theorem dX6_rank_27 : decode cX6_rank 27 = .ok (.ifCond .eq 6, 3) := by decide +kernel
theorem dX6_rank_30 : decode cX6_rank 30 = .ok (.bipush (-3), 2) := by decide +kernel
theorem dX6_rank_32 : decode cX6_rank 32 = .ok (.ireturn, 1) := by decide +kernel
theorem dX6_rank_33 : decode cX6_rank 33 = .ok (.iconst 1, 1) := by decide +kernel
theorem dX6_rank_34 : decode cX6_rank 34 = .ok (.aload_n 0, 1) := by decide +kernel
theorem dX6_rank_35 : decode cX6_rank 35 = .ok (.getfield 33, 3) := by decide +kernel
theorem dX6_rank_38 : decode cX6_rank 38 = .ok (.aload_n 0, 1) := by decide +kernel
theorem dX6_rank_39 : decode cX6_rank 39 = .ok (.getfield 26, 3) := by decide +kernel
theorem dX6_rank_42 : decode cX6_rank 42 = .ok (.getfield 140, 3) := by decide +kernel
theorem dX6_rank_45 : decode cX6_rank 45 = .ok (.iload_n 1, 1) := by decide +kernel
theorem dX6_rank_46 : decode cX6_rank 46 = .ok (.iaload, 1) := by decide +kernel
theorem dX6_rank_47 : decode cX6_rank 47 = .ok (.iconst 1, 1) := by decide +kernel
theorem dX6_rank_48 : decode cX6_rank 48 = .ok (.iadd, 1) := by decide +kernel
theorem dX6_rank_49 : decode cX6_rank 49 = .ok (.invokevirtual 143, 3) := by decide +kernel
theorem dX6_rank_52 : decode cX6_rank 52 = .ok (.iadd, 1) := by decide +kernel
theorem dX6_rank_53 : decode cX6_rank 53 = .ok (.ireturn, 1) := by decide +kernel
set_option maxRecDepth 20000 in
theorem ggX6_again_X6_isSixteenths : GoodIn wsX6_again wsX6_isSixteenths := goodIn_r _ [5] (by decide +kernel) (by decide +kernel)
set_option maxRecDepth 20000 in
theorem gX6_again_X6_isSixteenths : GoodIn wsX6_again (va_wsS RX6 179 yX6_isSixteenths wsX6_isSixteenths) := goodIn_app (goodIn_of _ (by decide +kernel)) ggX6_again_X6_isSixteenths
set_option maxRecDepth 20000 in
theorem ggX6_again_X6_isEither : GoodIn wsX6_again wsX6_isEither := goodIn_r _ [8] (by decide +kernel) (by decide +kernel)
set_option maxRecDepth 20000 in
theorem gX6_again_X6_isEither : GoodIn wsX6_again (va_wsS RX6 134 yX6_isEither wsX6_isEither) := goodIn_app (goodIn_of _ (by decide +kernel)) ggX6_again_X6_isEither
set_option maxRecDepth 20000 in
theorem ggX6_again_X6_longRefusal : GoodIn wsX6_again wsX6_longRefusal := goodIn_r _ [11, 12] (by decide +kernel) (by decide +kernel)
set_option maxRecDepth 20000 in
theorem gX6_again_X6_longRefusal : GoodIn wsX6_again (va_wsS RX6 152 yX6_longRefusal wsX6_longRefusal) := goodIn_app (goodIn_of _ (by decide +kernel)) ggX6_again_X6_longRefusal
set_option maxRecDepth 20000 in
theorem ggX6_again_X6_timesOver : GoodIn wsX6_again wsX6_timesOver := goodIn_r _ [15, 16, 17, 4, 18, 19, 20, 21] (by decide +kernel) (by decide +kernel)
set_option maxRecDepth 20000 in
theorem gX6_again_X6_timesOver : GoodIn wsX6_again (va_wsS RX6 182 yX6_timesOver wsX6_timesOver) := goodIn_app (goodIn_of _ (by decide +kernel)) ggX6_again_X6_timesOver
set_option maxRecDepth 20000 in
theorem ggX6_again_X6_power : GoodIn wsX6_again wsX6_power := goodIn_r _ [21] (by decide +kernel) (by decide +kernel)
set_option maxRecDepth 20000 in
theorem gX6_again_X6_power : GoodIn wsX6_again (va_wsS RX6 188 yX6_power wsX6_power) := goodIn_app (goodIn_of _ (by decide +kernel)) ggX6_again_X6_power
set_option maxRecDepth 20000 in
theorem ggX6_again_X6_fraction : GoodIn wsX6_again wsX6_fraction := goodIn_r _ [24, 25, 26, 27, 28, 29, 30, 4, 31] (by decide +kernel) (by decide +kernel)
set_option maxRecDepth 20000 in
theorem gX6_again_X6_fraction : GoodIn wsX6_again (va_wsS RX6 159 yX6_fraction wsX6_fraction) := goodIn_app (goodIn_of _ (by decide +kernel)) ggX6_again_X6_fraction
