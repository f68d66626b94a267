theorem dX6_again_0 : decode cX6_again 0 = .ok (.iload_n 1, 1) := by decide +kernel
theorem dX6_again_1 : decode cX6_again 1 = .ok (.iconst 1, 1) := by decide +kernel
theorem dX6_again_2 : decode cX6_again 2 = .ok (.if_icmp .lt 34, 3) := by decide +kernel
theorem dX6_again_5 : decode cX6_again 5 = .ok (.iload_n 1, 1) := by decide +kernel
theorem dX6_again_6 : decode cX6_again 6 = .ok (.bipush 15, 2) := by decide +kernel
theorem dX6_again_8 : decode cX6_again 8 = .ok (.if_icmp .gt 28, 3) := by decide +kernel
theorem dX6_again_11 : decode cX6_again 11 = .ok (.iload_n 2, 1) := by decide +kernel
theorem dX6_again_12 : decode cX6_again 12 = .ok (.invokestatic 179, 3) := by decide +kernel
theorem dX6_again_15 : decode cX6_again 15 = .ok (.ifCond .eq 21, 3) := by decide +kernel
theorem dX6_again_18 : decode cX6_again 18 = .ok (.iload_n 3, 1) := by decide +kernel
theorem dX6_again_19 : decode cX6_again 19 = .ok (.ifCond .lt 17, 3) := by decide +kernel
theorem dX6_again_22 : decode cX6_again 22 = .ok (.iload_n 3, 1) := by decide +kernel
theorem dX6_again_23 : decode cX6_again 23 = .ok (.bipush 15, 2) := by decide +kernel
theorem dX6_again_25 : decode cX6_again 25 = .ok (.if_icmp .gt 11, 3) := by decide +kernel
theorem dX6_again_28 : decode cX6_again 28 = .ok (.iload 4, 2) := by decide +kernel
theorem dX6_again_30 : decode cX6_again 30 = .ok (.invokestatic 134, 3) := by decide +kernel
theorem dX6_again_33 : decode cX6_again 33 = .ok (.ifCond .ne 9, 3) := by decide +kernel
theorem dX6_again_36 : decode cX6_again 36 = .ok (.bipush (-2), 2) := by decide +kernel
theorem dX6_again_38 : decode cX6_again 38 = .ok (.invokestatic 152, 3) := by decide +kernel
theorem dX6_again_41 : decode cX6_again 41 = .ok (.lreturn, 1) := by decide +kernel
theorem dX6_again_42 : decode cX6_again 42 = .ok (.iload_n 1, 1) := by decide +kernel
theorem dX6_again_43 : decode cX6_again 43 = .ok (.iload_n 2, 1) := by decide +kernel
theorem dX6_again_44 : decode cX6_again 44 = .ok (.iload_n 3, 1) := by decide +kernel
theorem dX6_again_45 : decode cX6_again 45 = .ok (.iload_n 1, 1) := by decide +kernel
theorem dX6_again_46 : decode cX6_again 46 = .ok (.iconst 1, 1) := by decide +kernel
theorem dX6_again_47 : decode cX6_again 47 = .ok (.iadd, 1) := by decide +kernel
theorem dX6_again_48 : decode cX6_again 48 = .ok (.invokestatic 182, 3) := by decide +kernel
theorem dX6_again_51 : decode cX6_again 51 = .ok (.ldc2_w 186, 3) := by decide +kernel
theorem dX6_again_54 : decode cX6_again 54 = .ok (.iload_n 1, 1) := by decide +kernel
theorem dX6_again_55 : decode cX6_again 55 = .ok (.invokestatic 188, 3) := by decide +kernel
theorem dX6_again_58 : decode cX6_again 58 = .ok (.iload 4, 2) := by decide +kernel
theorem dX6_again_60 : decode cX6_again 60 = .ok (.invokestatic 159, 3) := by decide +kernel
theorem dX6_again_63 : decode cX6_again 63 = .ok (.lreturn, 1) := by decide +kernel
set_option maxRecDepth 20000 in
theorem ggX6_lasts_X6_isSixteenths : GoodIn wsX6_lasts wsX6_isSixteenths := goodIn_r _ [4] (by decide +kernel) (by decide +kernel)
set_option maxRecDepth 20000 in
theorem gX6_lasts_X6_isSixteenths : GoodIn wsX6_lasts (va_wsS RX6 179 yX6_isSixteenths wsX6_isSixteenths) := goodIn_app (goodIn_of _ (by decide +kernel)) ggX6_lasts_X6_isSixteenths
set_option maxRecDepth 20000 in
theorem ggX6_lasts_X6_staysWithin : GoodIn wsX6_lasts wsX6_staysWithin := goodIn_r _ [7, 8, 9, 10, 3, 11] (by decide +kernel) (by decide +kernel)
set_option maxRecDepth 20000 in
theorem gX6_lasts_X6_staysWithin : GoodIn wsX6_lasts (va_wsS RX6 192 yX6_staysWithin wsX6_staysWithin) := goodIn_app (goodIn_of _ (by decide +kernel)) ggX6_lasts_X6_staysWithin
theorem dX6_lasts_0 : decode cX6_lasts 0 = .ok (.iload_n 1, 1) := by decide +kernel
theorem dX6_lasts_1 : decode cX6_lasts 1 = .ok (.invokestatic 179, 3) := by decide +kernel
theorem dX6_lasts_4 : decode cX6_lasts 4 = .ok (.ifCond .eq 14, 3) := by decide +kernel
theorem dX6_lasts_7 : decode cX6_lasts 7 = .ok (.iload_n 2, 1) := by decide +kernel
theorem dX6_lasts_8 : decode cX6_lasts 8 = .ok (.ifCond .lt 10, 3) := by decide +kernel
theorem dX6_lasts_11 : decode cX6_lasts 11 = .ok (.iload_n 2, 1) := by decide +kernel
theorem dX6_lasts_12 : decode cX6_lasts 12 = .ok (.sipush 256, 3) := by decide +kernel
theorem dX6_lasts_15 : decode cX6_lasts 15 = .ok (.if_icmp .le 6, 3) := by decide +kernel
theorem dX6_lasts_18 : decode cX6_lasts 18 = .ok (.bipush (-2), 2) := by decide +kernel
theorem dX6_lasts_20 : decode cX6_lasts 20 = .ok (.ireturn, 1) := by decide +kernel
theorem dX6_lasts_21 : decode cX6_lasts 21 = .ok (.iconst 0, 1) := by decide +kernel
theorem dX6_lasts_22 : decode cX6_lasts 22 = .ok (.istore_n 3, 1) := by decide +kernel
theorem dX6_lasts_23 : decode cX6_lasts 23 = .ok (.iconst 1, 1) := by decide +kernel
theorem dX6_lasts_24 : decode cX6_lasts 24 = .ok (.istore 4, 2) := by decide +kernel
theorem dX6_lasts_26 : decode cX6_lasts 26 = .ok (.iload 4, 2) := by decide +kernel
theorem dX6_lasts_28 : decode cX6_lasts 28 = .ok (.bipush 15, 2) := by decide +kernel
theorem dX6_lasts_30 : decode cX6_lasts 30 = .ok (.if_icmp .gt 22, 3) := by decide +kernel
theorem dX6_lasts_33 : decode cX6_lasts 33 = .ok (.iload 4, 2) := by decide +kernel
theorem dX6_lasts_35 : decode cX6_lasts 35 = .ok (.iload_n 1, 1) := by decide +kernel
theorem dX6_lasts_36 : decode cX6_lasts 36 = .ok (.iload_n 2, 1) := by decide +kernel
theorem dX6_lasts_37 : decode cX6_lasts 37 = .ok (.invokestatic 192, 3) := by decide +kernel
theorem dX6_lasts_40 : decode cX6_lasts 40 = .ok (.ifCond .eq 6, 3) := by decide +kernel
theorem dX6_lasts_43 : decode cX6_lasts 43 = .ok (.iload 4, 2) := by decide +kernel
theorem dX6_lasts_45 : decode cX6_lasts 45 = .ok (.istore_n 3, 1) := by decide +kernel
theorem dX6_lasts_46 : decode cX6_lasts 46 = .ok (.iinc 4 1, 3) := by decide +kernel
theorem dX6_lasts_49 : decode cX6_lasts 49 = .ok (.goto (-23), 3) := by decide +kernel
theorem dX6_lasts_52 : decode cX6_lasts 52 = .ok (.iload_n 3, 1) := by decide +kernel
theorem dX6_lasts_53 : decode cX6_lasts 53 = .ok (.ireturn, 1) := by decide +kernel
set_option maxRecDepth 20000 in
theorem ggX6_next_X6_isEither : GoodIn wsX6_next wsX6_isEither := goodIn_r _ [6] (by decide +kernel) (by decide +kernel)
set_option maxRecDepth 20000 in
theorem gX6_next_X6_isEither : GoodIn wsX6_next (va_wsS RX6 134 yX6_isEither wsX6_isEither) := goodIn_app (goodIn_of _ (by decide +kernel)) ggX6_next_X6_isEither
set_option maxRecDepth 20000 in
theorem ggX6_next_X6_longRefusal : GoodIn wsX6_next wsX6_longRefusal := goodIn_r _ [9, 10] (by decide +kernel) (by decide +kernel)
set_option maxRecDepth 20000 in
theorem gX6_next_X6_longRefusal : GoodIn wsX6_next (va_wsS RX6 152 yX6_longRefusal wsX6_longRefusal) := goodIn_app (goodIn_of _ (by decide +kernel)) ggX6_next_X6_longRefusal
set_option maxRecDepth 20000 in
theorem ggX6_next_X6_choices : GoodIn wsX6_next wsX6_choices := goodIn_r _ [13] (by decide +kernel) (by decide +kernel)
set_option maxRecDepth 20000 in
theorem gX6_next_X6_choices : GoodIn wsX6_next (va_wsS RX6 196 yX6_choices wsX6_choices) := goodIn_app (goodIn_of _ (by decide +kernel)) ggX6_next_X6_choices
set_option maxRecDepth 20000 in
theorem ggX6_next_X6_fraction : GoodIn wsX6_next wsX6_fraction := goodIn_r _ [16, 17, 18, 19, 20, 21, 22, 5, 23] (by decide +kernel) (by decide +kernel)
set_option maxRecDepth 20000 in
theorem gX6_next_X6_fraction : GoodIn wsX6_next (va_wsS RX6 159 yX6_fraction wsX6_fraction) := goodIn_app (goodIn_of _ (by decide +kernel)) ggX6_next_X6_fraction
theorem dX6_next_0 : decode cX6_next 0 = .ok (.iload_n 1, 1) := by decide +kernel
theorem dX6_next_1 : decode cX6_next 1 = .ok (.iconst 1, 1) := by decide +kernel
theorem dX6_next_2 : decode cX6_next 2 = .ok (.if_icmp .lt 37, 3) := by decide +kernel
theorem dX6_next_5 : decode cX6_next 5 = .ok (.iload_n 1, 1) := by decide +kernel
theorem dX6_next_6 : decode cX6_next 6 = .ok (.bipush 20, 2) := by decide +kernel
theorem dX6_next_8 : decode cX6_next 8 = .ok (.if_icmp .gt 31, 3) := by decide +kernel
theorem dX6_next_11 : decode cX6_next 11 = .ok (.iload_n 2, 1) := by decide +kernel
theorem dX6_next_12 : decode cX6_next 12 = .ok (.iconst 1, 1) := by decide +kernel
theorem dX6_next_13 : decode cX6_next 13 = .ok (.if_icmp .lt 26, 3) := by decide +kernel
theorem dX6_next_16 : decode cX6_next 16 = .ok (.iload_n 2, 1) := by decide +kernel
theorem dX6_next_17 : decode cX6_next 17 = .ok (.bipush 60, 2) := by decide +kernel
theorem dX6_next_19 : decode cX6_next 19 = .ok (.if_icmp .gt 20, 3) := by decide +kernel
theorem dX6_next_22 : decode cX6_next 22 = .ok (.iload_n 3, 1) := by decide +kernel
theorem dX6_next_23 : decode cX6_next 23 = .ok (.ifCond .lt 16, 3) := by decide +kernel
theorem dX6_next_26 : decode cX6_next 26 = .ok (.iload_n 3, 1) := by decide +kernel
theorem dX6_next_27 : decode cX6_next 27 = .ok (.iload_n 1, 1) := by decide +kernel
theorem dX6_next_28 : decode cX6_next 28 = .ok (.if_icmp .gt 11, 3) := by decide +kernel
theorem dX6_next_31 : decode cX6_next 31 = .ok (.iload 4, 2) := by decide +kernel
theorem dX6_next_33 : decode cX6_next 33 = .ok (.invokestatic 134, 3) := by decide +kernel
theorem dX6_next_36 : decode cX6_next 36 = .ok (.ifCond .ne 9, 3) := by decide +kernel
theorem dX6_next_39 : decode cX6_next 39 = .ok (.bipush (-2), 2) := by decide +kernel
theorem dX6_next_41 : decode cX6_next 41 = .ok (.invokestatic 152, 3) := by decide +kernel
theorem dX6_next_44 : decode cX6_next 44 = .ok (.lreturn, 1) := by decide +kernel
theorem dX6_next_45 : decode cX6_next 45 = .ok (.aload_n 0, 1) := by decide +kernel
theorem dX6_next_46 : decode cX6_next 46 = .ok (.getfield 33, 3) := by decide +kernel
theorem dX6_next_49 : decode cX6_next 49 = .ok (.getfield 170, 3) := by decide +kernel
theorem dX6_next_52 : decode cX6_next 52 = .ok (.istore 5, 2) := by decide +kernel
theorem dX6_next_54 : decode cX6_next 54 = .ok (.iload 5, 2) := by decide +kernel
theorem dX6_next_56 : decode cX6_next 56 = .ok (.iload_n 2, 1) := by decide +kernel
theorem dX6_next_57 : decode cX6_next 57 = .ok (.if_icmp .ge 9, 3) := by decide +kernel
theorem dX6_next_60 : decode cX6_next 60 = .ok (.bipush (-3), 2) := by decide +kernel
theorem dX6_next_62 : decode cX6_next 62 = .ok (.invokestatic 152, 3) := by decide +kernel
theorem dX6_next_65 : decode cX6_next 65 = .ok (.lreturn, 1) := by decide +kernel
theorem dX6_next_66 : decode cX6_next 66 = .ok (.iload 5, 2) := by decide +kernel
theorem dX6_next_68 : decode cX6_next 68 = .ok (.bipush 20, 2) := by decide +kernel
theorem dX6_next_70 : decode cX6_next 70 = .ok (.if_icmp .le 9, 3) := by decide +kernel
theorem dX6_next_73 : decode cX6_next 73 = .ok (.bipush (-4), 2) := by decide +kernel
theorem dX6_next_75 : decode cX6_next 75 = .ok (.invokestatic 152, 3) := by decide +kernel
theorem dX6_next_78 : decode cX6_next 78 = .ok (.lreturn, 1) := by decide +kernel
theorem dX6_next_79 : decode cX6_next 79 = .ok (.iload_n 2, 1) := by decide +kernel
theorem dX6_next_80 : decode cX6_next 80 = .ok (.iconst 1, 1) := by decide +kernel
theorem dX6_next_81 : decode cX6_next 81 = .ok (.isub, 1) := by decide +kernel
theorem dX6_next_82 : decode cX6_next 82 = .ok (.iload_n 3, 1) := by decide +kernel
theorem dX6_next_83 : decode cX6_next 83 = .ok (.iadd, 1) := by decide +kernel
theorem dX6_next_84 : decode cX6_next 84 = .ok (.iload_n 3, 1) := by decide +kernel
theorem dX6_next_85 : decode cX6_next 85 = .ok (.invokestatic 196, 3) := by decide +kernel
theorem dX6_next_88 : decode cX6_next 88 = .ok (.iload 5, 2) := by decide +kernel
theorem dX6_next_90 : decode cX6_next 90 = .ok (.iload_n 2, 1) := by decide +kernel
theorem dX6_next_91 : decode cX6_next 91 = .ok (.isub, 1) := by decide +kernel
theorem dX6_next_92 : decode cX6_next 92 = .ok (.iload_n 1, 1) := by decide +kernel
theorem dX6_next_93 : decode cX6_next 93 = .ok (.iadd, 1) := by decide +kernel
theorem dX6_next_94 : decode cX6_next 94 = .ok (.iload_n 3, 1) := by decide +kernel
theorem dX6_next_95 : decode cX6_next 95 = .ok (.isub, 1) := by decide +kernel
theorem dX6_next_96 : decode cX6_next 96 = .ok (.iload_n 1, 1) := by decide +kernel
theorem dX6_next_97 : decode cX6_next 97 = .ok (.iload_n 3, 1) := by decide +kernel
theorem dX6_next_98 : decode cX6_next 98 = .ok (.isub, 1) := by decide +kernel
theorem dX6_next_99 : decode cX6_next 99 = .ok (.invokestatic 196, 3) := by decide +kernel
theorem dX6_next_102 : decode cX6_next 102 = .ok (.lmul, 1) := by decide +kernel
theorem dX6_next_103 : decode cX6_next 103 = .ok (.lstore 6, 2) := by decide +kernel
theorem dX6_next_105 : decode cX6_next 105 = .ok (.lload 6, 2) := by decide +kernel
theorem dX6_next_107 : decode cX6_next 107 = .ok (.iload 5, 2) := by decide +kernel
theorem dX6_next_109 : decode cX6_next 109 = .ok (.iload_n 1, 1) := by decide +kernel
theorem dX6_next_110 : decode cX6_next 110 = .ok (.iadd, 1) := by decide +kernel
theorem dX6_next_111 : decode cX6_next 111 = .ok (.iload_n 1, 1) := by decide +kernel
theorem dX6_next_112 : decode cX6_next 112 = .ok (.invokestatic 196, 3) := by decide +kernel
theorem dX6_next_115 : decode cX6_next 115 = .ok (.iload 4, 2) := by decide +kernel
theorem dX6_next_117 : decode cX6_next 117 = .ok (.invokestatic 159, 3) := by decide +kernel
theorem dX6_next_120 : decode cX6_next 120 = .ok (.lreturn, 1) := by decide +kernel
set_option maxRecDepth 20000 in
theorem ggX6_between_X6_isSixteenths : GoodIn wsX6_between wsX6_isSixteenths := goodIn_r _ [7] (by decide +kernel) (by decide +kernel)
set_option maxRecDepth 20000 in
theorem gX6_between_X6_isSixteenths : GoodIn wsX6_between (va_wsS RX6 179 yX6_isSixteenths wsX6_isSixteenths) := goodIn_app (goodIn_of _ (by decide +kernel)) ggX6_between_X6_isSixteenths
set_option maxRecDepth 20000 in
theorem ggX6_between_X6_isEither : GoodIn wsX6_between wsX6_isEither := goodIn_r _ [10] (by decide +kernel) (by decide +kernel)
set_option maxRecDepth 20000 in
theorem gX6_between_X6_isEither : GoodIn wsX6_between (va_wsS RX6 134 yX6_isEither wsX6_isEither) := goodIn_app (goodIn_of _ (by decide +kernel)) ggX6_between_X6_isEither
set_option maxRecDepth 20000 in
theorem ggX6_between_X6_longRefusal : GoodIn wsX6_between wsX6_longRefusal := goodIn_r _ [13, 14] (by decide +kernel) (by decide +kernel)
set_option maxRecDepth 20000 in
theorem gX6_between_X6_longRefusal : GoodIn wsX6_between (va_wsS RX6 152 yX6_longRefusal wsX6_longRefusal) := goodIn_app (goodIn_of _ (by decide +kernel)) ggX6_between_X6_longRefusal
set_option maxRecDepth 20000 in
theorem ggX6_between_X6_timesOver : GoodIn wsX6_between wsX6_timesOver := goodIn_r _ [17, 18, 19, 6, 20, 21, 22, 23] (by decide +kernel) (by decide +kernel)
set_option maxRecDepth 20000 in
theorem gX6_between_X6_timesOver : GoodIn wsX6_between (va_wsS RX6 182 yX6_timesOver wsX6_timesOver) := goodIn_app (goodIn_of _ (by decide +kernel)) ggX6_between_X6_timesOver
set_option maxRecDepth 20000 in
theorem ggX6_between_X6_power : GoodIn wsX6_between wsX6_power := goodIn_r _ [23] (by decide +kernel) (by decide +kernel)
set_option maxRecDepth 20000 in
theorem gX6_between_X6_power : GoodIn wsX6_between (va_wsS RX6 188 yX6_power wsX6_power) := goodIn_app (goodIn_of _ (by decide +kernel)) ggX6_between_X6_power
set_option maxRecDepth 20000 in
theorem ggX6_between_X6_fraction : GoodIn wsX6_between wsX6_fraction := goodIn_r _ [26, 27, 28, 29, 30, 31, 32, 6, 33] (by decide +kernel) (by decide +kernel)
set_option maxRecDepth 20000 in
theorem gX6_between_X6_fraction : GoodIn wsX6_between (va_wsS RX6 159 yX6_fraction wsX6_fraction) := goodIn_app (goodIn_of _ (by decide +kernel)) ggX6_between_X6_fraction
theorem dX6_between_0 : decode cX6_between 0 = .ok (.iload_n 1, 1) := by decide +kernel
theorem dX6_between_1 : decode cX6_between 1 = .ok (.invokestatic 179, 3) := by decide +kernel
theorem dX6_between_4 : decode cX6_between 4 = .ok (.ifCond .eq 33, 3) := by decide +kernel
theorem dX6_between_7 : decode cX6_between 7 = .ok (.iload_n 2, 1) := by decide +kernel
theorem dX6_between_8 : decode cX6_between 8 = .ok (.iconst 1, 1) := by decide +kernel
theorem dX6_between_9 : decode cX6_between 9 = .ok (.if_icmp .lt 28, 3) := by decide +kernel
theorem dX6_between_12 : decode cX6_between 12 = .ok (.iload_n 2, 1) := by decide +kernel
theorem dX6_between_13 : decode cX6_between 13 = .ok (.bipush 60, 2) := by decide +kernel
theorem dX6_between_15 : decode cX6_between 15 = .ok (.if_icmp .gt 22, 3) := by decide +kernel
theorem dX6_between_18 : decode cX6_between 18 = .ok (.iload_n 3, 1) := by decide +kernel
theorem dX6_between_19 : decode cX6_between 19 = .ok (.iload_n 2, 1) := by decide +kernel
theorem dX6_between_20 : decode cX6_between 20 = .ok (.if_icmp .le 17, 3) := by decide +kernel
theorem dX6_between_23 : decode cX6_between 23 = .ok (.iload_n 3, 1) := by decide +kernel
theorem dX6_between_24 : decode cX6_between 24 = .ok (.bipush 60, 2) := by decide +kernel
theorem dX6_between_26 : decode cX6_between 26 = .ok (.if_icmp .gt 11, 3) := by decide +kernel
theorem dX6_between_29 : decode cX6_between 29 = .ok (.iload 4, 2) := by decide +kernel
theorem dX6_between_31 : decode cX6_between 31 = .ok (.invokestatic 134, 3) := by decide +kernel
theorem dX6_between_34 : decode cX6_between 34 = .ok (.ifCond .ne 9, 3) := by decide +kernel
theorem dX6_between_37 : decode cX6_between 37 = .ok (.bipush (-2), 2) := by decide +kernel
theorem dX6_between_39 : decode cX6_between 39 = .ok (.invokestatic 152, 3) := by decide +kernel
theorem dX6_between_42 : decode cX6_between 42 = .ok (.lreturn, 1) := by decide +kernel
theorem dX6_between_43 : decode cX6_between 43 = .ok (.aload_n 0, 1) := by decide +kernel
theorem dX6_between_44 : decode cX6_between 44 = .ok (.getfield 33, 3) := by decide +kernel
theorem dX6_between_47 : decode cX6_between 47 = .ok (.getfield 170, 3) := by decide +kernel
theorem dX6_between_50 : decode cX6_between 50 = .ok (.istore 5, 2) := by decide +kernel
theorem dX6_between_52 : decode cX6_between 52 = .ok (.iload 5, 2) := by decide +kernel
theorem dX6_between_54 : decode cX6_between 54 = .ok (.iload_n 3, 1) := by decide +kernel
theorem dX6_between_55 : decode cX6_between 55 = .ok (.if_icmp .ge 9, 3) := by decide +kernel
theorem dX6_between_58 : decode cX6_between 58 = .ok (.bipush (-3), 2) := by decide +kernel
theorem dX6_between_60 : decode cX6_between 60 = .ok (.invokestatic 152, 3) := by decide +kernel
theorem dX6_between_63 : decode cX6_between 63 = .ok (.lreturn, 1) := by decide +kernel
theorem dX6_between_64 : decode cX6_between 64 = .ok (.iload 5, 2) := by decide +kernel
theorem dX6_between_66 : decode cX6_between 66 = .ok (.bipush 15, 2) := by decide +kernel
theorem dX6_between_68 : decode cX6_between 68 = .ok (.if_icmp .le 9, 3) := by decide +kernel
theorem dX6_between_71 : decode cX6_between 71 = .ok (.bipush (-4), 2) := by decide +kernel
theorem dX6_between_73 : decode cX6_between 73 = .ok (.invokestatic 152, 3) := by decide +kernel
theorem dX6_between_76 : decode cX6_between 76 = .ok (.lreturn, 1) := by decide +kernel
theorem dX6_between_77 : decode cX6_between 77 = .ok (.iload 5, 2) := by decide +kernel
theorem dX6_between_79 : decode cX6_between 79 = .ok (.iload_n 1, 1) := by decide +kernel
theorem dX6_between_80 : decode cX6_between 80 = .ok (.iload_n 2, 1) := by decide +kernel
theorem dX6_between_81 : decode cX6_between 81 = .ok (.iload_n 3, 1) := by decide +kernel
theorem dX6_between_82 : decode cX6_between 82 = .ok (.invokestatic 182, 3) := by decide +kernel
theorem dX6_between_85 : decode cX6_between 85 = .ok (.ldc2_w 186, 3) := by decide +kernel
theorem dX6_between_88 : decode cX6_between 88 = .ok (.iload 5, 2) := by decide +kernel
theorem dX6_between_90 : decode cX6_between 90 = .ok (.invokestatic 188, 3) := by decide +kernel
theorem dX6_between_93 : decode cX6_between 93 = .ok (.iload 4, 2) := by decide +kernel
theorem dX6_between_95 : decode cX6_between 95 = .ok (.invokestatic 159, 3) := by decide +kernel
theorem dX6_between_98 : decode cX6_between 98 = .ok (.lreturn, 1) := by decide +kernel
set_option maxRecDepth 20000 in
theorem ggX6_records_X6_should : GoodIn wsX6_records wsX6_should := goodIn_r _ [10, 1, 2, 11, 3, 12, 13, 14, 15, 9, 16, 17, 18, 19, 20, 21, 22, 23, 24, 25, 26, 27, 28, 29, 30, 31, 32, 33, 34, 35, 36, 37, 38, 39, 40, 41] (by decide +kernel) (by decide +kernel)
set_option maxRecDepth 20000 in
theorem gX6_records_X6_should : GoodIn wsX6_records (wsV RX6 200 RX6 yX6_should wsX6_should) := goodIn_app (goodIn_of _ (by decide +kernel)) ggX6_records_X6_should
theorem dX6_records_0 : decode cX6_records 0 = .ok (.iload_n 1, 1) := by decide +kernel
theorem dX6_records_1 : decode cX6_records 1 = .ok (.ifCond .lt 8, 3) := by decide +kernel
theorem dX6_records_4 : decode cX6_records 4 = .ok (.iload_n 1, 1) := by decide +kernel
theorem dX6_records_5 : decode cX6_records 5 = .ok (.iconst 3, 1) := by decide +kernel
theorem dX6_records_6 : decode cX6_records 6 = .ok (.if_icmp .le 6, 3) := by decide +kernel
theorem dX6_records_9 : decode cX6_records 9 = .ok (.bipush (-2), 2) := by decide +kernel
theorem dX6_records_11 : decode cX6_records 11 = .ok (.ireturn, 1) := by decide +kernel
theorem dX6_records_12 : decode cX6_records 12 = .ok (.iload_n 1, 1) := by decide +kernel
theorem dX6_records_13 : decode cX6_records 13 = .ok (.iconst 3, 1) := by decide +kernel
theorem dX6_records_14 : decode cX6_records 14 = .ok (.if_icmp .ne 25, 3) := by decide +kernel
theorem dX6_records_17 : decode cX6_records 17 = .ok (.aload_n 0, 1) := by decide +kernel
theorem dX6_records_18 : decode cX6_records 18 = .ok (.getfield 33, 3) := by decide +kernel
theorem dX6_records_21 : decode cX6_records 21 = .ok (.getfield 170, 3) := by decide +kernel
theorem dX6_records_24 : decode cX6_records 24 = .ok (.bipush 12, 2) := by decide +kernel
theorem dX6_records_26 : decode cX6_records 26 = .ok (.if_icmp .le 8, 3) := by decide +kernel
theorem dX6_records_29 : decode cX6_records 29 = .ok (.bipush (-4), 2) := by decide +kernel
theorem dX6_records_31 : decode cX6_records 31 = .ok (.goto 7, 3) := by decide +kernel
theorem dX6_records_34 : decode cX6_records 34 = .ok (.aload_n 0, 1) := by decide +kernel
theorem dX6_records_35 : decode cX6_records 35 = .ok (.invokevirtual 200, 3) := by decide +kernel
theorem dX6_records_38 : decode cX6_records 38 = .ok (.ireturn, 1) := by decide +kernel
theorem dX6_records_39 : decode cX6_records 39 = .ok (.iload_n 1, 1) := by decide +kernel
theorem dX6_records_40 : decode cX6_records 40 = .ok (.ifCond .ne 11, 3) := by decide +kernel
theorem dX6_records_43 : decode cX6_records 43 = .ok (.aload_n 0, 1) := by decide +kernel
theorem dX6_records_44 : decode cX6_records 44 = .ok (.getfield 33, 3) := by decide +kernel
theorem dX6_records_47 : decode cX6_records 47 = .ok (.getfield 203, 3) := by decide +kernel
theorem dX6_records_50 : decode cX6_records 50 = .ok (.ireturn, 1) := by decide +kernel
theorem dX6_records_51 : decode cX6_records 51 = .ok (.iload_n 1, 1) := by decide +kernel
theorem dX6_records_52 : decode cX6_records 52 = .ok (.iconst 1, 1) := by decide +kernel
theorem dX6_records_53 : decode cX6_records 53 = .ok (.if_icmp .ne 13, 3) := by decide +kernel
theorem dX6_records_56 : decode cX6_records 56 = .ok (.aload_n 0, 1) := by decide +kernel
theorem dX6_records_57 : decode cX6_records 57 = .ok (.getfield 33, 3) := by decide +kernel
theorem dX6_records_60 : decode cX6_records 60 = .ok (.getfield 206, 3) := by decide +kernel
theorem dX6_records_63 : decode cX6_records 63 = .ok (.goto 10, 3) := by decide +kernel
theorem dX6_records_66 : decode cX6_records 66 = .ok (.aload_n 0, 1) := by decide +kernel
theorem dX6_records_67 : decode cX6_records 67 = .ok (.getfield 33, 3) := by decide +kernel
theorem dX6_records_70 : decode cX6_records 70 = .ok (.getfield 209, 3) := by decide +kernel
theorem dX6_records_73 : decode cX6_records 73 = .ok (.ireturn, 1) := by decide +kernel
set_option maxRecDepth 20000 in
theorem ggX6_rises_X6_direction : GoodIn wsX6_rises wsX6_direction := goodIn_r _ [7] (by decide +kernel) (by decide +kernel)
set_option maxRecDepth 20000 in
theorem gX6_rises_X6_direction : GoodIn wsX6_rises (va_wsS RX6 212 yX6_direction wsX6_direction) := goodIn_app (goodIn_of _ (by decide +kernel)) ggX6_rises_X6_direction
theorem dX6_rises_0 : decode cX6_rises 0 = .ok (.iconst 0, 1) := by decide +kernel
theorem dX6_rises_1 : decode cX6_rises 1 = .ok (.istore_n 1, 1) := by decide +kernel
theorem dX6_rises_2 : decode cX6_rises 2 = .ok (.iconst 1, 1) := by decide +kernel
theorem dX6_rises_3 : decode cX6_rises 3 = .ok (.istore_n 2, 1) := by decide +kernel
theorem dX6_rises_4 : decode cX6_rises 4 = .ok (.iload_n 2, 1) := by decide +kernel
theorem dX6_rises_5 : decode cX6_rises 5 = .ok (.aload_n 0, 1) := by decide +kernel
theorem dX6_rises_6 : decode cX6_rises 6 = .ok (.getfield 33, 3) := by decide +kernel
theorem dX6_rises_9 : decode cX6_rises 9 = .ok (.getfield 170, 3) := by decide +kernel
theorem dX6_rises_12 : decode cX6_rises 12 = .ok (.if_icmp .ge 46, 3) := by decide +kernel
theorem dX6_rises_15 : decode cX6_rises 15 = .ok (.iconst 0, 1) := by decide +kernel
theorem dX6_rises_16 : decode cX6_rises 16 = .ok (.istore_n 3, 1) := by decide +kernel
theorem dX6_rises_17 : decode cX6_rises 17 = .ok (.iload_n 3, 1) := by decide +kernel
theorem dX6_rises_18 : decode cX6_rises 18 = .ok (.iload_n 2, 1) := by decide +kernel
theorem dX6_rises_19 : decode cX6_rises 19 = .ok (.if_icmp .ge 33, 3) := by decide +kernel
theorem dX6_rises_22 : decode cX6_rises 22 = .ok (.iload_n 1, 1) := by decide +kernel
theorem dX6_rises_23 : decode cX6_rises 23 = .ok (.aload_n 0, 1) := by decide +kernel
theorem dX6_rises_24 : decode cX6_rises 24 = .ok (.getfield 33, 3) := by decide +kernel
theorem dX6_rises_27 : decode cX6_rises 27 = .ok (.getfield 173, 3) := by decide +kernel
theorem dX6_rises_30 : decode cX6_rises 30 = .ok (.iload_n 3, 1) := by decide +kernel
theorem dX6_rises_31 : decode cX6_rises 31 = .ok (.iaload, 1) := by decide +kernel
theorem dX6_rises_32 : decode cX6_rises 32 = .ok (.aload_n 0, 1) := by decide +kernel
theorem dX6_rises_33 : decode cX6_rises 33 = .ok (.getfield 33, 3) := by decide +kernel
theorem dX6_rises_36 : decode cX6_rises 36 = .ok (.getfield 173, 3) := by decide +kernel
theorem dX6_rises_39 : decode cX6_rises 39 = .ok (.iload_n 2, 1) := by decide +kernel
theorem dX6_rises_40 : decode cX6_rises 40 = .ok (.iaload, 1) := by decide +kernel
theorem dX6_rises_41 : decode cX6_rises 41 = .ok (.invokestatic 212, 3) := by decide +kernel
theorem dX6_rises_44 : decode cX6_rises 44 = .ok (.iadd, 1) := by decide +kernel
theorem dX6_rises_45 : decode cX6_rises 45 = .ok (.istore_n 1, 1) := by decide +kernel
theorem dX6_rises_46 : decode cX6_rises 46 = .ok (.iinc 3 1, 3) := by decide +kernel
theorem dX6_rises_49 : decode cX6_rises 49 = .ok (.goto (-32), 3) := by decide +kernel
theorem dX6_rises_52 : decode cX6_rises 52 = .ok (.iinc 2 1, 3) := by decide +kernel
theorem dX6_rises_55 : decode cX6_rises 55 = .ok (.goto (-51), 3) := by decide +kernel
theorem dX6_rises_58 : decode cX6_rises 58 = .ok (.iload_n 1, 1) := by decide +kernel
theorem dX6_rises_59 : decode cX6_rises 59 = .ok (.ireturn, 1) := by decide +kernel
set_option maxRecDepth 20000 in
theorem ggX6_change_X6_isYear : GoodIn wsX6_change wsX6_isYear := goodIn_r _ [5] (by decide +kernel) (by decide +kernel)
set_option maxRecDepth 20000 in
theorem gX6_change_X6_isYear : GoodIn wsX6_change (va_wsS RX6 83 yX6_isYear wsX6_isYear) := goodIn_app (goodIn_of _ (by decide +kernel)) ggX6_change_X6_isYear
set_option maxRecDepth 20000 in
theorem ggX6_change_X6_isEither : GoodIn wsX6_change wsX6_isEither := goodIn_r _ [8] (by decide +kernel) (by decide +kernel)
set_option maxRecDepth 20000 in
theorem gX6_change_X6_isEither : GoodIn wsX6_change (va_wsS RX6 134 yX6_isEither wsX6_isEither) := goodIn_app (goodIn_of _ (by decide +kernel)) ggX6_change_X6_isEither
set_option maxRecDepth 20000 in
theorem ggX6_change_X6_longRefusal : GoodIn wsX6_change wsX6_longRefusal := goodIn_r _ [11, 12] (by decide +kernel) (by decide +kernel)
set_option maxRecDepth 20000 in
theorem gX6_change_X6_longRefusal : GoodIn wsX6_change (va_wsS RX6 152 yX6_longRefusal wsX6_longRefusal) := goodIn_app (goodIn_of _ (by decide +kernel)) ggX6_change_X6_longRefusal
set_option maxRecDepth 20000 in
theorem ggX6_change_X0_meansBelow : GoodIn wsX6_change wsX0_meansBelow := goodIn_r _ [17, 18, 19, 20, 21, 16, 22, 23, 58, 59, 60, 61, 62, 63, 64, 65, 66, 67, 68] (by decide +kernel) (by decide +kernel)
set_option maxRecDepth 20000 in
theorem gX6_change_X0_meansBelow : GoodIn wsX6_change (wsV RX6 216 RX0 yX0_meansBelow wsX0_meansBelow) := goodIn_app (goodIn_of _ (by decide +kernel)) ggX6_change_X0_meansBelow
set_option maxRecDepth 20000 in
theorem ggX6_change_X0_meansAbove : GoodIn wsX6_change wsX0_meansAbove := goodIn_r _ [27, 19, 20, 21, 16, 22, 18, 23, 28, 29, 30, 31, 32, 33, 34, 35, 36, 37, 58, 59, 60, 61, 62, 63, 64, 65, 66, 67, 68] (by decide +kernel) (by decide +kernel)
set_option maxRecDepth 20000 in
theorem gX6_change_X0_meansAbove : GoodIn wsX6_change (wsV RX6 219 RX0 yX0_meansAbove wsX0_meansAbove) := goodIn_app (goodIn_of _ (by decide +kernel)) ggX6_change_X0_meansAbove
set_option maxRecDepth 20000 in
theorem ggX6_change_X6_fraction : GoodIn wsX6_change wsX6_fraction := goodIn_r _ [40, 41, 42, 43, 44, 45, 46, 4, 47] (by decide +kernel) (by decide +kernel)
set_option maxRecDepth 20000 in
theorem gX6_change_X6_fraction : GoodIn wsX6_change (va_wsS RX6 159 yX6_fraction wsX6_fraction) := goodIn_app (goodIn_of _ (by decide +kernel)) ggX6_change_X6_fraction
theorem dX6_change_0 : decode cX6_change 0 = .ok (.iload_n 1, 1) := by decide +kernel
theorem dX6_change_1 : decode cX6_change 1 = .ok (.invokestatic 83, 3) := by decide +kernel
theorem dX6_change_4 : decode cX6_change 4 = .ok (.ifCond .eq 10, 3) := by decide +kernel
theorem dX6_change_7 : decode cX6_change 7 = .ok (.iload_n 2, 1) := by decide +kernel
theorem dX6_change_8 : decode cX6_change 8 = .ok (.invokestatic 134, 3) := by decide +kernel
theorem dX6_change_11 : decode cX6_change 11 = .ok (.ifCond .ne 9, 3) := by decide +kernel
theorem dX6_change_14 : decode cX6_change 14 = .ok (.bipush (-2), 2) := by decide +kernel
theorem dX6_change_16 : decode cX6_change 16 = .ok (.invokestatic 152, 3) := by decide +kernel
theorem dX6_change_19 : decode cX6_change 19 = .ok (.lreturn, 1) := by decide +kernel
theorem dX6_change_20 : decode cX6_change 20 = .ok (.aload_n 0, 1) := by decide +kernel
theorem dX6_change_21 : decode cX6_change 21 = .ok (.getfield 33, 3) := by decide +kernel
theorem dX6_change_24 : decode cX6_change 24 = .ok (.iload_n 1, 1) := by decide +kernel
theorem dX6_change_25 : decode cX6_change 25 = .ok (.invokevirtual 216, 3) := by decide +kernel
theorem dX6_change_28 : decode cX6_change 28 = .ok (.lstore_n 3, 1) := by decide +kernel
theorem dX6_change_29 : decode cX6_change 29 = .ok (.lload_n 3, 1) := by decide +kernel
theorem dX6_change_30 : decode cX6_change 30 = .ok (.lconst 0, 1) := by decide +kernel
theorem dX6_change_31 : decode cX6_change 31 = .ok (.lcmp, 1) := by decide +kernel
theorem dX6_change_32 : decode cX6_change 32 = .ok (.ifCond .ne 9, 3) := by decide +kernel
theorem dX6_change_35 : decode cX6_change 35 = .ok (.bipush (-3), 2) := by decide +kernel
theorem dX6_change_37 : decode cX6_change 37 = .ok (.invokestatic 152, 3) := by decide +kernel
theorem dX6_change_40 : decode cX6_change 40 = .ok (.lreturn, 1) := by decide +kernel
theorem dX6_change_41 : decode cX6_change 41 = .ok (.aload_n 0, 1) := by decide +kernel
theorem dX6_change_42 : decode cX6_change 42 = .ok (.getfield 33, 3) := by decide +kernel
theorem dX6_change_45 : decode cX6_change 45 = .ok (.iload_n 1, 1) := by decide +kernel
theorem dX6_change_46 : decode cX6_change 46 = .ok (.invokevirtual 219, 3) := by decide +kernel
theorem dX6_change_49 : decode cX6_change 49 = .ok (.lload_n 3, 1) := by decide +kernel
theorem dX6_change_50 : decode cX6_change 50 = .ok (.iload_n 2, 1) := by decide +kernel
theorem dX6_change_51 : decode cX6_change 51 = .ok (.invokestatic 159, 3) := by decide +kernel
theorem dX6_change_54 : decode cX6_change 54 = .ok (.lreturn, 1) := by decide +kernel
set_option maxRecDepth 20000 in
theorem ggX6_changed_X6_isEither : GoodIn wsX6_changed wsX6_isEither := goodIn_r _ [6] (by decide +kernel) (by decide +kernel)
set_option maxRecDepth 20000 in
theorem gX6_changed_X6_isEither : GoodIn wsX6_changed (va_wsS RX6 134 yX6_isEither wsX6_isEither) := goodIn_app (goodIn_of _ (by decide +kernel)) ggX6_changed_X6_isEither
set_option maxRecDepth 20000 in
theorem ggX6_changed_X6_greatestChange : GoodIn wsX6_changed wsX6_greatestChange := goodIn_r _ [10, 1, 11, 12, 13, 14, 15, 16, 17, 18, 19, 20, 21, 22, 23, 24, 25, 26, 27, 28, 29, 30, 31, 32, 33, 34, 35, 36, 37, 38, 39, 54, 55, 56, 57, 58, 59, 60, 61, 62, 63, 64, 65, 66, 67, 68, 69, 70, 71, 72, 73, 74] (by decide +kernel) (by decide +kernel)
set_option maxRecDepth 20000 in
theorem gX6_changed_X6_greatestChange : GoodIn wsX6_changed (wsV RX6 222 RX6 yX6_greatestChange wsX6_greatestChange) := goodIn_app (goodIn_of _ (by decide +kernel)) ggX6_changed_X6_greatestChange
set_option maxRecDepth 20000 in
theorem ggX6_changed_X6_howLikely : GoodIn wsX6_changed wsX6_howLikely := goodIn_r _ [43, 1, 11, 12, 13, 14, 2, 44, 45, 22, 23, 18, 24, 20, 25, 26, 27, 28, 29, 21, 30, 31, 32, 33, 34, 35, 36, 37, 38, 39, 46, 47, 5, 48, 49, 50, 51, 52, 53, 54, 55, 56, 57, 58, 59, 60, 61, 62, 63, 64, 65, 66, 67, 68, 69, 70, 71, 72, 73, 74] (by decide +kernel) (by decide +kernel)
set_option maxRecDepth 20000 in
theorem gX6_changed_X6_howLikely : GoodIn wsX6_changed (wsV RX6 225 RX6 yX6_howLikely wsX6_howLikely) := goodIn_app (goodIn_of _ (by decide +kernel)) ggX6_changed_X6_howLikely
theorem dX6_changed_0 : decode cX6_changed 0 = .ok (.iload_n 1, 1) := by decide +kernel
theorem dX6_changed_1 : decode cX6_changed 1 = .ok (.invokestatic 134, 3) := by decide +kernel
theorem dX6_changed_4 : decode cX6_changed 4 = .ok (.ifCond .ne 6, 3) := by decide +kernel
theorem dX6_changed_7 : decode cX6_changed 7 = .ok (.bipush (-2), 2) := by decide +kernel
theorem dX6_changed_9 : decode cX6_changed 9 = .ok (.ireturn, 1) := by decide +kernel
theorem dX6_changed_10 : decode cX6_changed 10 = .ok (.aload_n 0, 1) := by decide +kernel
theorem dX6_changed_11 : decode cX6_changed 11 = .ok (.invokevirtual 222, 3) := by decide +kernel
theorem dX6_changed_14 : decode cX6_changed 14 = .ok (.istore_n 2, 1) := by decide +kernel
theorem dX6_changed_15 : decode cX6_changed 15 = .ok (.iload_n 1, 1) := by decide +kernel
theorem dX6_changed_16 : decode cX6_changed 16 = .ok (.ifCond .ne 5, 3) := by decide +kernel
theorem dX6_changed_19 : decode cX6_changed 19 = .ok (.iload_n 2, 1) := by decide +kernel
theorem dX6_changed_20 : decode cX6_changed 20 = .ok (.ireturn, 1) := by decide +kernel
theorem dX6_changed_21 : decode cX6_changed 21 = .ok (.iload_n 2, 1) := by decide +kernel
theorem dX6_changed_22 : decode cX6_changed 22 = .ok (.iconst (-1), 1) := by decide +kernel
theorem dX6_changed_23 : decode cX6_changed 23 = .ok (.if_icmp .ne 6, 3) := by decide +kernel
theorem dX6_changed_26 : decode cX6_changed 26 = .ok (.bipush (-3), 2) := by decide +kernel
theorem dX6_changed_28 : decode cX6_changed 28 = .ok (.ireturn, 1) := by decide +kernel
theorem dX6_changed_29 : decode cX6_changed 29 = .ok (.aload_n 0, 1) := by decide +kernel
theorem dX6_changed_30 : decode cX6_changed 30 = .ok (.getfield 33, 3) := by decide +kernel
theorem dX6_changed_33 : decode cX6_changed 33 = .ok (.getfield 170, 3) := by decide +kernel
theorem dX6_changed_36 : decode cX6_changed 36 = .ok (.bipush 14, 2) := by decide +kernel
theorem dX6_changed_38 : decode cX6_changed 38 = .ok (.if_icmp .le 8, 3) := by decide +kernel
theorem dX6_changed_41 : decode cX6_changed 41 = .ok (.bipush (-4), 2) := by decide +kernel
theorem dX6_changed_43 : decode cX6_changed 43 = .ok (.goto 8, 3) := by decide +kernel
theorem dX6_changed_46 : decode cX6_changed 46 = .ok (.aload_n 0, 1) := by decide +kernel
theorem dX6_changed_47 : decode cX6_changed 47 = .ok (.iload_n 2, 1) := by decide +kernel
theorem dX6_changed_48 : decode cX6_changed 48 = .ok (.invokevirtual 225, 3) := by decide +kernel
theorem dX6_changed_51 : decode cX6_changed 51 = .ok (.ireturn, 1) := by decide +kernel
set_option maxRecDepth 20000 in
theorem ggX6_sister_X6_isYear : GoodIn wsX6_sister wsX6_isYear := goodIn_r _ [5] (by decide +kernel) (by decide +kernel)
set_option maxRecDepth 20000 in
theorem gX6_sister_X6_isYear : GoodIn wsX6_sister (va_wsS RX6 83 yX6_isYear wsX6_isYear) := goodIn_app (goodIn_of _ (by decide +kernel)) ggX6_sister_X6_isYear
set_option maxRecDepth 20000 in
theorem ggX6_sister_X6_isLevel : GoodIn wsX6_sister wsX6_isLevel := goodIn_r _ [8] (by decide +kernel) (by decide +kernel)
set_option maxRecDepth 20000 in
theorem gX6_sister_X6_isLevel : GoodIn wsX6_sister (va_wsS RX6 120 yX6_isLevel wsX6_isLevel) := goodIn_app (goodIn_of _ (by decide +kernel)) ggX6_sister_X6_isLevel
theorem dX6_sister_0 : decode cX6_sister 0 = .ok (.iload_n 1, 1) := by decide +kernel
theorem dX6_sister_1 : decode cX6_sister 1 = .ok (.invokestatic 83, 3) := by decide +kernel
theorem dX6_sister_4 : decode cX6_sister 4 = .ok (.ifCond .eq 15, 3) := by decide +kernel
theorem dX6_sister_7 : decode cX6_sister 7 = .ok (.iload_n 2, 1) := by decide +kernel
theorem dX6_sister_8 : decode cX6_sister 8 = .ok (.iconst (-1), 1) := by decide +kernel
theorem dX6_sister_9 : decode cX6_sister 9 = .ok (.if_icmp .eq 13, 3) := by decide +kernel
theorem dX6_sister_12 : decode cX6_sister 12 = .ok (.iload_n 2, 1) := by decide +kernel
theorem dX6_sister_13 : decode cX6_sister 13 = .ok (.invokestatic 120, 3) := by decide +kernel
theorem dX6_sister_16 : decode cX6_sister 16 = .ok (.ifCond .ne 6, 3) := by decide +kernel
theorem dX6_sister_19 : decode cX6_sister 19 = .ok (.bipush (-5), 2) := by decide +kernel
theorem dX6_sister_21 : decode cX6_sister 21 = .ok (.ireturn, 1) := by decide +kernel
theorem dX6_sister_22 : decode cX6_sister 22 = .ok (.aload_n 0, 1) := by decide +kernel
theorem dX6_sister_23 : decode cX6_sister 23 = .ok (.getfield 49, 3) := by decide +kernel
theorem dX6_sister_26 : decode cX6_sister 26 = .ok (.iload_n 1, 1) := by decide +kernel
theorem dX6_sister_27 : decode cX6_sister 27 = .ok (.iaload, 1) := by decide +kernel
theorem dX6_sister_28 : decode cX6_sister 28 = .ok (.istore_n 3, 1) := by decide +kernel
theorem dX6_sister_29 : decode cX6_sister 29 = .ok (.aload_n 0, 1) := by decide +kernel
theorem dX6_sister_30 : decode cX6_sister 30 = .ok (.getfield 49, 3) := by decide +kernel
theorem dX6_sister_33 : decode cX6_sister 33 = .ok (.iload_n 1, 1) := by decide +kernel
theorem dX6_sister_34 : decode cX6_sister 34 = .ok (.iload_n 2, 1) := by decide +kernel
theorem dX6_sister_35 : decode cX6_sister 35 = .ok (.iastore, 1) := by decide +kernel
theorem dX6_sister_36 : decode cX6_sister 36 = .ok (.iload_n 3, 1) := by decide +kernel
theorem dX6_sister_37 : decode cX6_sister 37 = .ok (.ireturn, 1) := by decide +kernel
set_option maxRecDepth 20000 in
theorem ggX6_common_X6_isEither : GoodIn wsX6_common wsX6_isEither := goodIn_r _ [4] (by decide +kernel) (by decide +kernel)
set_option maxRecDepth 20000 in
theorem gX6_common_X6_isEither : GoodIn wsX6_common (va_wsS RX6 134 yX6_isEither wsX6_isEither) := goodIn_app (goodIn_of _ (by decide +kernel)) ggX6_common_X6_isEither
set_option maxRecDepth 20000 in
theorem ggX6_common_X6_commonYears : GoodIn wsX6_common wsX6_commonYears := goodIn_r _ [8, 9, 10, 11, 12, 13, 3, 14, 15, 16, 29, 30, 31, 32, 33, 34, 35, 36, 37, 38, 39, 40, 41, 42, 43, 44, 45, 46, 47, 48, 49] (by decide +kernel) (by decide +kernel)
set_option maxRecDepth 20000 in
theorem gX6_common_X6_commonYears : GoodIn wsX6_common (wsV RX6 228 RX6 yX6_commonYears wsX6_commonYears) := goodIn_app (goodIn_of _ (by decide +kernel)) ggX6_common_X6_commonYears
set_option maxRecDepth 20000 in
theorem ggX6_common_X6_ties : GoodIn wsX6_common wsX6_ties := goodIn_r _ [20, 9, 10, 21, 22, 23, 3, 24, 25, 11, 12, 13, 14, 15, 16, 26, 27, 28, 29, 30, 31, 32, 33, 34, 35, 36, 37, 38, 39, 40, 41, 42, 43, 44, 45, 46, 47, 48, 49] (by decide +kernel) (by decide +kernel)
set_option maxRecDepth 20000 in
theorem gX6_common_X6_ties : GoodIn wsX6_common (wsV RX6 231 RX6 yX6_ties wsX6_ties) := goodIn_app (goodIn_of _ (by decide +kernel)) ggX6_common_X6_ties
theorem dX6_common_0 : decode cX6_common 0 = .ok (.iload_n 1, 1) := by decide +kernel
theorem dX6_common_1 : decode cX6_common 1 = .ok (.invokestatic 134, 3) := by decide +kernel
theorem dX6_common_4 : decode cX6_common 4 = .ok (.ifCond .ne 7, 3) := by decide +kernel
theorem dX6_common_7 : decode cX6_common 7 = .ok (.sipush (-10002), 3) := by decide +kernel
theorem dX6_common_10 : decode cX6_common 10 = .ok (.ireturn, 1) := by decide +kernel
theorem dX6_common_11 : decode cX6_common 11 = .ok (.iload_n 1, 1) := by decide +kernel
theorem dX6_common_12 : decode cX6_common 12 = .ok (.ifCond .ne 10, 3) := by decide +kernel
theorem dX6_common_15 : decode cX6_common 15 = .ok (.aload_n 0, 1) := by decide +kernel
theorem dX6_common_16 : decode cX6_common 16 = .ok (.invokevirtual 228, 3) := by decide +kernel
theorem dX6_common_19 : decode cX6_common 19 = .ok (.goto 7, 3) := by decide +kernel
theorem dX6_common_22 : decode cX6_common 22 = .ok (.aload_n 0, 1) := by decide +kernel
theorem dX6_common_23 : decode cX6_common 23 = .ok (.invokevirtual 231, 3) := by decide +kernel
theorem dX6_common_26 : decode cX6_common 26 = .ok (.ireturn, 1) := by decide +kernel
set_option maxRecDepth 20000 in
theorem ggX6_filled_X6_isYear : GoodIn wsX6_filled wsX6_isYear := goodIn_r _ [7] (by decide +kernel) (by decide +kernel)
set_option maxRecDepth 20000 in
theorem gX6_filled_X6_isYear : GoodIn wsX6_filled (va_wsS RX6 83 yX6_isYear wsX6_isYear) := goodIn_app (goodIn_of _ (by decide +kernel)) ggX6_filled_X6_isYear
set_option maxRecDepth 20000 in
theorem ggX6_filled_X6_filledBySums : GoodIn wsX6_filled wsX6_filledBySums := goodIn_r _ [11, 12, 13, 14, 15, 16, 17, 6, 18, 1, 19, 24, 25, 26, 27, 28, 29, 30, 31, 32, 33, 36, 37, 38, 39, 40, 41, 42, 43, 44, 45, 46] (by decide +kernel) (by decide +kernel)
set_option maxRecDepth 20000 in
theorem gX6_filled_X6_filledBySums : GoodIn wsX6_filled (wsV RX6 234 RX6 yX6_filledBySums wsX6_filledBySums) := goodIn_app (goodIn_of _ (by decide +kernel)) ggX6_filled_X6_filledBySums
set_option maxRecDepth 20000 in
theorem ggX6_filled_X6_filledByOne : GoodIn wsX6_filled wsX6_filledByOne := goodIn_r _ [23, 12, 13, 14, 15, 16, 17, 6, 18, 1, 19, 24, 25, 26, 27, 28, 29, 30, 31, 32, 33, 36, 37, 38, 39, 40, 41, 42, 43, 44, 45, 46] (by decide +kernel) (by decide +kernel)
set_option maxRecDepth 20000 in
theorem gX6_filled_X6_filledByOne : GoodIn wsX6_filled (wsV RX6 237 RX6 yX6_filledByOne wsX6_filledByOne) := goodIn_app (goodIn_of _ (by decide +kernel)) ggX6_filled_X6_filledByOne
theorem dX6_filled_0 : decode cX6_filled 0 = .ok (.iload_n 1, 1) := by decide +kernel
theorem dX6_filled_1 : decode cX6_filled 1 = .ok (.invokestatic 83, 3) := by decide +kernel
theorem dX6_filled_4 : decode cX6_filled 4 = .ok (.ifCond .eq 12, 3) := by decide +kernel
theorem dX6_filled_7 : decode cX6_filled 7 = .ok (.iload_n 2, 1) := by decide +kernel
theorem dX6_filled_8 : decode cX6_filled 8 = .ok (.ifCond .lt 8, 3) := by decide +kernel
theorem dX6_filled_11 : decode cX6_filled 11 = .ok (.iload_n 2, 1) := by decide +kernel
theorem dX6_filled_12 : decode cX6_filled 12 = .ok (.iconst 2, 1) := by decide +kernel
theorem dX6_filled_13 : decode cX6_filled 13 = .ok (.if_icmp .le 6, 3) := by decide +kernel
theorem dX6_filled_16 : decode cX6_filled 16 = .ok (.bipush (-2), 2) := by decide +kernel
theorem dX6_filled_18 : decode cX6_filled 18 = .ok (.ireturn, 1) := by decide +kernel
theorem dX6_filled_19 : decode cX6_filled 19 = .ok (.aload_n 0, 1) := by decide +kernel
theorem dX6_filled_20 : decode cX6_filled 20 = .ok (.getfield 49, 3) := by decide +kernel
theorem dX6_filled_23 : decode cX6_filled 23 = .ok (.iload_n 1, 1) := by decide +kernel
theorem dX6_filled_24 : decode cX6_filled 24 = .ok (.iaload, 1) := by decide +kernel
theorem dX6_filled_25 : decode cX6_filled 25 = .ok (.istore_n 3, 1) := by decide +kernel
theorem dX6_filled_26 : decode cX6_filled 26 = .ok (.aload_n 0, 1) := by decide +kernel
theorem dX6_filled_27 : decode cX6_filled 27 = .ok (.getfield 26, 3) := by decide +kernel
theorem dX6_filled_30 : decode cX6_filled 30 = .ok (.getfield 137, 3) := by decide +kernel
theorem dX6_filled_33 : decode cX6_filled 33 = .ok (.iload_n 1, 1) := by decide +kernel
theorem dX6_filled_34 : decode cX6_filled 34 = .ok (.iaload, 1) := by decide +kernel
theorem dX6_filled_35 : decode cX6_filled 35 = .ok (.ifCond .eq 8, 3) := by decide +kernel
theorem dX6_filled_38 : decode cX6_filled 38 = .ok (.iload_n 3, 1) := by decide +kernel
theorem dX6_filled_39 : decode cX6_filled 39 = .ok (.iconst (-1), 1) := by decide +kernel
theorem dX6_filled_40 : decode cX6_filled 40 = .ok (.if_icmp .ne 6, 3) := by decide +kernel
theorem dX6_filled_43 : decode cX6_filled 43 = .ok (.bipush (-3), 2) := by decide +kernel
theorem dX6_filled_45 : decode cX6_filled 45 = .ok (.ireturn, 1) := by decide +kernel
theorem dX6_filled_46 : decode cX6_filled 46 = .ok (.iload_n 2, 1) := by decide +kernel
theorem dX6_filled_47 : decode cX6_filled 47 = .ok (.ifCond .ne 11, 3) := by decide +kernel
theorem dX6_filled_50 : decode cX6_filled 50 = .ok (.aload_n 0, 1) := by decide +kernel
theorem dX6_filled_51 : decode cX6_filled 51 = .ok (.iload_n 3, 1) := by decide +kernel
theorem dX6_filled_52 : decode cX6_filled 52 = .ok (.invokevirtual 234, 3) := by decide +kernel
theorem dX6_filled_55 : decode cX6_filled 55 = .ok (.goto 18, 3) := by decide +kernel
theorem dX6_filled_58 : decode cX6_filled 58 = .ok (.aload_n 0, 1) := by decide +kernel
theorem dX6_filled_59 : decode cX6_filled 59 = .ok (.iload_n 3, 1) := by decide +kernel
theorem dX6_filled_60 : decode cX6_filled 60 = .ok (.iload_n 2, 1) := by decide +kernel
theorem dX6_filled_61 : decode cX6_filled 61 = .ok (.iconst 1, 1) := by decide +kernel
theorem dX6_filled_62 : decode cX6_filled 62 = .ok (.if_icmp .ne 7, 3) := by decide +kernel
theorem dX6_filled_65 : decode cX6_filled 65 = .ok (.iconst 1, 1) := by decide +kernel
theorem dX6_filled_66 : decode cX6_filled 66 = .ok (.goto 4, 3) := by decide +kernel
theorem dX6_filled_69 : decode cX6_filled 69 = .ok (.iconst 0, 1) := by decide +kernel
theorem dX6_filled_70 : decode cX6_filled 70 = .ok (.invokevirtual 237, 3) := by decide +kernel
theorem dX6_filled_73 : decode cX6_filled 73 = .ok (.ireturn, 1) := by decide +kernel
set_option maxRecDepth 20000 in
theorem ggX6_type_X1_hasRoom : GoodIn wsX6_type wsX1_hasRoom := goodIn_r _ [7, 8, 25, 26, 27, 28, 29, 30] (by decide +kernel) (by decide +kernel)
set_option maxRecDepth 20000 in
theorem gX6_type_X1_hasRoom : GoodIn wsX6_type (wsV RX6 241 RX1 yX1_hasRoom wsX1_hasRoom) := goodIn_app (goodIn_of _ (by decide +kernel)) ggX6_type_X1_hasRoom
set_option maxRecDepth 20000 in
theorem ggX6_type_X1_add : GoodIn wsX6_type wsX1_add := goodIn_r _ [12, 13, 8, 14, 4, 5, 6, 7, 25, 26, 27, 28, 29, 30] (by decide +kernel) (by decide +kernel)
set_option maxRecDepth 20000 in
theorem gX6_type_X1_add : GoodIn wsX6_type (wsV RX6 242 RX1 yX1_add wsX1_add) := goodIn_app (goodIn_of _ (by decide +kernel)) ggX6_type_X1_add
theorem dX6_type_0 : decode cX6_type 0 = .ok (.iload_n 1, 1) := by decide +kernel
theorem dX6_type_1 : decode cX6_type 1 = .ok (.ifCond .lt 10, 3) := by decide +kernel
theorem dX6_type_4 : decode cX6_type 4 = .ok (.iload_n 1, 1) := by decide +kernel
theorem dX6_type_5 : decode cX6_type 5 = .ok (.sipush 255, 3) := by decide +kernel
theorem dX6_type_8 : decode cX6_type 8 = .ok (.if_icmp .le 6, 3) := by decide +kernel
theorem dX6_type_11 : decode cX6_type 11 = .ok (.bipush (-2), 2) := by decide +kernel
theorem dX6_type_13 : decode cX6_type 13 = .ok (.ireturn, 1) := by decide +kernel
theorem dX6_type_14 : decode cX6_type 14 = .ok (.aload_n 0, 1) := by decide +kernel
theorem dX6_type_15 : decode cX6_type 15 = .ok (.getfield 61, 3) := by decide +kernel
theorem dX6_type_18 : decode cX6_type 18 = .ok (.invokevirtual 241, 3) := by decide +kernel
theorem dX6_type_21 : decode cX6_type 21 = .ok (.ifCond .ne 6, 3) := by decide +kernel
theorem dX6_type_24 : decode cX6_type 24 = .ok (.bipush (-4), 2) := by decide +kernel
theorem dX6_type_26 : decode cX6_type 26 = .ok (.ireturn, 1) := by decide +kernel
theorem dX6_type_27 : decode cX6_type 27 = .ok (.aload_n 0, 1) := by decide +kernel
theorem dX6_type_28 : decode cX6_type 28 = .ok (.getfield 61, 3) := by decide +kernel
theorem dX6_type_31 : decode cX6_type 31 = .ok (.iload_n 1, 1) := by decide +kernel
theorem dX6_type_32 : decode cX6_type 32 = .ok (.invokevirtual 242, 3) := by decide +kernel
theorem dX6_type_35 : decode cX6_type 35 = .ok (.aload_n 0, 1) := by decide +kernel
theorem dX6_type_36 : decode cX6_type 36 = .ok (.getfield 61, 3) := by decide +kernel
theorem dX6_type_39 : decode cX6_type 39 = .ok (.getfield 245, 3) := by decide +kernel
theorem dX6_type_42 : decode cX6_type 42 = .ok (.ireturn, 1) := by decide +kernel
theorem dX6_wipe_0 : decode cX6_wipe 0 = .ok (.aload_n 0, 1) := by decide +kernel
theorem dX6_wipe_1 : decode cX6_wipe 1 = .ok (.getfield 61, 3) := by decide +kernel
theorem dX6_wipe_4 : decode cX6_wipe 4 = .ok (.getfield 245, 3) := by decide +kernel
theorem dX6_wipe_7 : decode cX6_wipe 7 = .ok (.istore_n 1, 1) := by decide +kernel
theorem dX6_wipe_8 : decode cX6_wipe 8 = .ok (.aload_n 0, 1) := by decide +kernel
theorem dX6_wipe_9 : decode cX6_wipe 9 = .ok (.getfield 61, 3) := by decide +kernel
theorem dX6_wipe_12 : decode cX6_wipe 12 = .ok (.iconst 0, 1) := by decide +kernel
theorem dX6_wipe_13 : decode cX6_wipe 13 = .ok (.putfield 245, 3) := by decide +kernel
theorem dX6_wipe_16 : decode cX6_wipe 16 = .ok (.iload_n 1, 1) := by decide +kernel
theorem dX6_wipe_17 : decode cX6_wipe 17 = .ok (.ireturn, 1) := by decide +kernel
set_option maxRecDepth 20000 in
theorem ggX6_fault_X1_parse : GoodIn wsX6_fault wsX1_parse := goodIn_r _ [6, 7, 8, 9, 10, 11, 12, 5, 13, 14, 15, 16, 17, 18, 19, 20, 21, 22, 23, 24, 25, 26, 27, 28, 29, 30, 31, 32, 43, 44, 45, 46, 47, 48] (by decide +kernel) (by decide +kernel)
set_option maxRecDepth 20000 in
theorem gX6_fault_X1_parse : GoodIn wsX6_fault (wsV RX6 246 RX1 yX1_parse wsX1_parse) := goodIn_app (goodIn_of _ (by decide +kernel)) ggX6_fault_X1_parse
theorem dX6_fault_0 : decode cX6_fault 0 = .ok (.aload_n 0, 1) := by decide +kernel
theorem dX6_fault_1 : decode cX6_fault 1 = .ok (.getfield 61, 3) := by decide +kernel
theorem dX6_fault_4 : decode cX6_fault 4 = .ok (.invokevirtual 246, 3) := by decide +kernel
theorem dX6_fault_7 : decode cX6_fault 7 = .ok (.ireturn, 1) := by decide +kernel
set_option maxRecDepth 20000 in
theorem ggX6_flow_X6_isLevel : GoodIn wsX6_flow wsX6_isLevel := goodIn_r _ [5] (by decide +kernel) (by decide +kernel)
set_option maxRecDepth 20000 in
theorem gX6_flow_X6_isLevel : GoodIn wsX6_flow (va_wsS RX6 120 yX6_isLevel wsX6_isLevel) := goodIn_app (goodIn_of _ (by decide +kernel)) ggX6_flow_X6_isLevel
set_option maxRecDepth 20000 in
theorem ggX6_flow_X6_isEither : GoodIn wsX6_flow wsX6_isEither := goodIn_r _ [8] (by decide +kernel) (by decide +kernel)
set_option maxRecDepth 20000 in
theorem gX6_flow_X6_isEither : GoodIn wsX6_flow (va_wsS RX6 134 yX6_isEither wsX6_isEither) := goodIn_app (goodIn_of _ (by decide +kernel)) ggX6_flow_X6_isEither
set_option maxRecDepth 20000 in
theorem ggX6_flow_X6_longRefusal : GoodIn wsX6_flow wsX6_longRefusal := goodIn_r _ [11, 12] (by decide +kernel) (by decide +kernel)
set_option maxRecDepth 20000 in
theorem gX6_flow_X6_longRefusal : GoodIn wsX6_flow (va_wsS RX6 152 yX6_longRefusal wsX6_longRefusal) := goodIn_app (goodIn_of _ (by decide +kernel)) ggX6_flow_X6_longRefusal
set_option maxRecDepth 20000 in
theorem ggX6_flow_X1_parse : GoodIn wsX6_flow wsX1_parse := goodIn_r _ [17, 18, 19, 20, 21, 22, 23, 16, 24, 25, 26, 27, 28, 29, 30, 31, 32, 33, 34, 35, 36, 37, 38, 39, 40, 41, 42, 43, 79, 80, 81, 82, 83, 84] (by decide +kernel) (by decide +kernel)
set_option maxRecDepth 20000 in
theorem gX6_flow_X1_parse : GoodIn wsX6_flow (wsV RX6 246 RX1 yX1_parse wsX1_parse) := goodIn_app (goodIn_of _ (by decide +kernel)) ggX6_flow_X1_parse
set_option maxRecDepth 20000 in
theorem ggX6_flow_X1_pairBeside : GoodIn wsX6_flow wsX1_pairBeside := goodIn_r _ [47, 19, 30, 79, 80, 81, 82, 83, 84] (by decide +kernel) (by decide +kernel)
set_option maxRecDepth 20000 in
theorem gX6_flow_X1_pairBeside : GoodIn wsX6_flow (wsV RX6 249 RX1 yX1_pairBeside wsX1_pairBeside) := goodIn_app (goodIn_of _ (by decide +kernel)) ggX6_flow_X1_pairBeside
set_option maxRecDepth 20000 in
theorem ggX6_flow_X1_lineAbove : GoodIn wsX6_flow wsX1_lineAbove := goodIn_r _ [51, 31, 30, 52, 53, 38, 54, 55, 56, 57, 16, 58, 79, 80, 81, 82, 83, 84] (by decide +kernel) (by decide +kernel)
set_option maxRecDepth 20000 in
theorem gX6_flow_X1_lineAbove : GoodIn wsX6_flow (wsV RX6 252 RX1 yX1_lineAbove wsX1_lineAbove) := goodIn_app (goodIn_of _ (by decide +kernel)) ggX6_flow_X1_lineAbove
set_option maxRecDepth 20000 in
theorem ggX6_flow_X1_lineBelow : GoodIn wsX6_flow wsX1_lineBelow := goodIn_r _ [58, 30, 79, 80, 81, 82, 83, 84] (by decide +kernel) (by decide +kernel)
set_option maxRecDepth 20000 in
theorem gX6_flow_X1_lineBelow : GoodIn wsX6_flow (wsV RX6 255 RX1 yX1_lineBelow wsX1_lineBelow) := goodIn_app (goodIn_of _ (by decide +kernel)) ggX6_flow_X1_lineBelow
set_option maxRecDepth 20000 in
theorem ggX6_flow_X6_fraction : GoodIn wsX6_flow wsX6_fraction := goodIn_r _ [62, 63, 64, 38, 65, 66, 67, 4, 68] (by decide +kernel) (by decide +kernel)
set_option maxRecDepth 20000 in
theorem gX6_flow_X6_fraction : GoodIn wsX6_flow (va_wsS RX6 159 yX6_fraction wsX6_fraction) := goodIn_app (goodIn_of _ (by decide +kernel)) ggX6_flow_X6_fraction
theorem dX6_flow_0 : decode cX6_flow 0 = .ok (.iload_n 1, 1) := by decide +kernel
theorem dX6_flow_1 : decode cX6_flow 1 = .ok (.invokestatic 120, 3) := by decide +kernel
theorem dX6_flow_4 : decode cX6_flow 4 = .ok (.ifCond .eq 10, 3) := by decide +kernel
theorem dX6_flow_7 : decode cX6_flow 7 = .ok (.iload_n 2, 1) := by decide +kernel
theorem dX6_flow_8 : decode cX6_flow 8 = .ok (.invokestatic 134, 3) := by decide +kernel
theorem dX6_flow_11 : decode cX6_flow 11 = .ok (.ifCond .ne 9, 3) := by decide +kernel
theorem dX6_flow_14 : decode cX6_flow 14 = .ok (.bipush (-2), 2) := by decide +kernel
theorem dX6_flow_16 : decode cX6_flow 16 = .ok (.invokestatic 152, 3) := by decide +kernel
theorem dX6_flow_19 : decode cX6_flow 19 = .ok (.lreturn, 1) := by decide +kernel
theorem dX6_flow_20 : decode cX6_flow 20 = .ok (.aload_n 0, 1) := by decide +kernel
theorem dX6_flow_21 : decode cX6_flow 21 = .ok (.getfield 61, 3) := by decide +kernel
theorem dX6_flow_24 : decode cX6_flow 24 = .ok (.invokevirtual 246, 3) := by decide +kernel
theorem dX6_flow_27 : decode cX6_flow 27 = .ok (.iconst (-1), 1) := by decide +kernel
theorem dX6_flow_28 : decode cX6_flow 28 = .ok (.if_icmp .eq 9, 3) := by decide +kernel
theorem dX6_flow_31 : decode cX6_flow 31 = .ok (.bipush (-3), 2) := by decide +kernel
theorem dX6_flow_33 : decode cX6_flow 33 = .ok (.invokestatic 152, 3) := by decide +kernel
theorem dX6_flow_36 : decode cX6_flow 36 = .ok (.lreturn, 1) := by decide +kernel
theorem dX6_flow_37 : decode cX6_flow 37 = .ok (.aload_n 0, 1) := by decide +kernel
theorem dX6_flow_38 : decode cX6_flow 38 = .ok (.getfield 61, 3) := by decide +kernel
theorem dX6_flow_41 : decode cX6_flow 41 = .ok (.iload_n 1, 1) := by decide +kernel
theorem dX6_flow_42 : decode cX6_flow 42 = .ok (.invokevirtual 249, 3) := by decide +kernel
theorem dX6_flow_45 : decode cX6_flow 45 = .ok (.istore_n 3, 1) := by decide +kernel
theorem dX6_flow_46 : decode cX6_flow 46 = .ok (.aload_n 0, 1) := by decide +kernel
theorem dX6_flow_47 : decode cX6_flow 47 = .ok (.getfield 61, 3) := by decide +kernel
theorem dX6_flow_50 : decode cX6_flow 50 = .ok (.iload_n 3, 1) := by decide +kernel
theorem dX6_flow_51 : decode cX6_flow 51 = .ok (.iload_n 1, 1) := by decide +kernel
theorem dX6_flow_52 : decode cX6_flow 52 = .ok (.invokevirtual 252, 3) := by decide +kernel
theorem dX6_flow_55 : decode cX6_flow 55 = .ok (.aload_n 0, 1) := by decide +kernel
theorem dX6_flow_56 : decode cX6_flow 56 = .ok (.getfield 61, 3) := by decide +kernel
theorem dX6_flow_59 : decode cX6_flow 59 = .ok (.iload_n 3, 1) := by decide +kernel
theorem dX6_flow_60 : decode cX6_flow 60 = .ok (.invokevirtual 255, 3) := by decide +kernel
theorem dX6_flow_63 : decode cX6_flow 63 = .ok (.iload_n 2, 1) := by decide +kernel
theorem dX6_flow_64 : decode cX6_flow 64 = .ok (.invokestatic 159, 3) := by decide +kernel
theorem dX6_flow_67 : decode cX6_flow 67 = .ok (.lreturn, 1) := by decide +kernel
set_option maxRecDepth 20000 in
theorem ggX6_dyke_X6_isLevel : GoodIn wsX6_dyke wsX6_isLevel := goodIn_r _ [5] (by decide +kernel) (by decide +kernel)
set_option maxRecDepth 20000 in
theorem gX6_dyke_X6_isLevel : GoodIn wsX6_dyke (va_wsS RX6 120 yX6_isLevel wsX6_isLevel) := goodIn_app (goodIn_of _ (by decide +kernel)) ggX6_dyke_X6_isLevel
set_option maxRecDepth 20000 in
theorem ggX6_dyke_X6_isEither : GoodIn wsX6_dyke wsX6_isEither := goodIn_r _ [8] (by decide +kernel) (by decide +kernel)
set_option maxRecDepth 20000 in
theorem gX6_dyke_X6_isEither : GoodIn wsX6_dyke (va_wsS RX6 134 yX6_isEither wsX6_isEither) := goodIn_app (goodIn_of _ (by decide +kernel)) ggX6_dyke_X6_isEither
set_option maxRecDepth 20000 in
theorem ggX6_dyke_X6_longRefusal : GoodIn wsX6_dyke wsX6_longRefusal := goodIn_r _ [11, 12] (by decide +kernel) (by decide +kernel)
set_option maxRecDepth 20000 in
theorem gX6_dyke_X6_longRefusal : GoodIn wsX6_dyke (va_wsS RX6 152 yX6_longRefusal wsX6_longRefusal) := goodIn_app (goodIn_of _ (by decide +kernel)) ggX6_dyke_X6_longRefusal
set_option maxRecDepth 20000 in
theorem ggX6_dyke_X6_dykeAbove : GoodIn wsX6_dyke wsX6_dykeAbove := goodIn_r _ [16, 17, 1, 18, 19, 20, 21, 22, 23, 24, 25, 26, 27, 28, 29, 30, 31, 32, 33, 34, 45, 46, 47, 48, 49, 50, 51, 52, 53, 54, 55, 56, 57, 58, 59, 60, 61, 62, 63, 64, 65] (by decide +kernel) (by decide +kernel)
set_option maxRecDepth 20000 in
theorem gX6_dyke_X6_dykeAbove : GoodIn wsX6_dyke (wsV RX6 258 RX6 yX6_dykeAbove wsX6_dykeAbove) := goodIn_app (goodIn_of _ (by decide +kernel)) ggX6_dyke_X6_dykeAbove
set_option maxRecDepth 20000 in
theorem ggX6_dyke_X0_rareBelow : GoodIn wsX6_dyke wsX0_rareBelow := goodIn_r _ [22, 23, 24, 25, 26, 21, 27, 28, 29, 55, 56, 57, 58, 59, 60, 61, 62, 63, 64, 65] (by decide +kernel) (by decide +kernel)
set_option maxRecDepth 20000 in
theorem gX6_dyke_X0_rareBelow : GoodIn wsX6_dyke (wsV RX6 156 RX0 yX0_rareBelow wsX0_rareBelow) := goodIn_app (goodIn_of _ (by decide +kernel)) ggX6_dyke_X0_rareBelow
set_option maxRecDepth 20000 in
theorem ggX6_dyke_X6_fraction : GoodIn wsX6_dyke wsX6_fraction := goodIn_r _ [37, 38, 39, 40, 41, 42, 43, 4, 44] (by decide +kernel) (by decide +kernel)
set_option maxRecDepth 20000 in
theorem gX6_dyke_X6_fraction : GoodIn wsX6_dyke (va_wsS RX6 159 yX6_fraction wsX6_fraction) := goodIn_app (goodIn_of _ (by decide +kernel)) ggX6_dyke_X6_fraction
theorem dX6_dyke_0 : decode cX6_dyke 0 = .ok (.iload_n 1, 1) := by decide +kernel
theorem dX6_dyke_1 : decode cX6_dyke 1 = .ok (.invokestatic 120, 3) := by decide +kernel
theorem dX6_dyke_4 : decode cX6_dyke 4 = .ok (.ifCond .eq 10, 3) := by decide +kernel
theorem dX6_dyke_7 : decode cX6_dyke 7 = .ok (.iload_n 2, 1) := by decide +kernel
theorem dX6_dyke_8 : decode cX6_dyke 8 = .ok (.invokestatic 134, 3) := by decide +kernel
theorem dX6_dyke_11 : decode cX6_dyke 11 = .ok (.ifCond .ne 9, 3) := by decide +kernel
theorem dX6_dyke_14 : decode cX6_dyke 14 = .ok (.bipush (-2), 2) := by decide +kernel
theorem dX6_dyke_16 : decode cX6_dyke 16 = .ok (.invokestatic 152, 3) := by decide +kernel
theorem dX6_dyke_19 : decode cX6_dyke 19 = .ok (.lreturn, 1) := by decide +kernel
theorem dX6_dyke_20 : decode cX6_dyke 20 = .ok (.aload_n 0, 1) := by decide +kernel
theorem dX6_dyke_21 : decode cX6_dyke 21 = .ok (.iload_n 1, 1) := by decide +kernel
theorem dX6_dyke_22 : decode cX6_dyke 22 = .ok (.invokevirtual 258, 3) := by decide +kernel
theorem dX6_dyke_25 : decode cX6_dyke 25 = .ok (.aload_n 0, 1) := by decide +kernel
theorem dX6_dyke_26 : decode cX6_dyke 26 = .ok (.getfield 33, 3) := by decide +kernel
theorem dX6_dyke_29 : decode cX6_dyke 29 = .ok (.iload_n 1, 1) := by decide +kernel
theorem dX6_dyke_30 : decode cX6_dyke 30 = .ok (.invokevirtual 156, 3) := by decide +kernel
theorem dX6_dyke_33 : decode cX6_dyke 33 = .ok (.i2l, 1) := by decide +kernel
theorem dX6_dyke_34 : decode cX6_dyke 34 = .ok (.iload_n 2, 1) := by decide +kernel
theorem dX6_dyke_35 : decode cX6_dyke 35 = .ok (.invokestatic 159, 3) := by decide +kernel
theorem dX6_dyke_38 : decode cX6_dyke 38 = .ok (.lreturn, 1) := by decide +kernel
set_option maxRecDepth 20000 in
theorem ggX6_best_X0_steps : GoodIn wsX6_best wsX0_steps := goodIn_r _ [6, 7, 8, 48, 49, 50, 51, 52, 53, 54, 55, 56, 57, 58] (by decide +kernel) (by decide +kernel)
set_option maxRecDepth 20000 in
theorem gX6_best_X0_steps : GoodIn wsX6_best (wsV RX6 261 RX0 yX0_steps wsX0_steps) := goodIn_app (goodIn_of _ (by decide +kernel)) ggX6_best_X0_steps
set_option maxRecDepth 20000 in
theorem ggX6_best_X0_stepAt : GoodIn wsX6_best wsX0_stepAt := goodIn_r _ [12, 7, 13, 14, 15, 3, 4, 5, 6, 8, 48, 49, 50, 51, 52, 53, 54, 55, 56, 57, 58] (by decide +kernel) (by decide +kernel)
set_option maxRecDepth 20000 in
theorem gX6_best_X0_stepAt : GoodIn wsX6_best (wsV RX6 264 RX0 yX0_stepAt wsX0_stepAt) := goodIn_app (goodIn_of _ (by decide +kernel)) ggX6_best_X0_stepAt
set_option maxRecDepth 20000 in
theorem ggX6_best_X6_isBetter : GoodIn wsX6_best wsX6_isBetter := goodIn_r _ [20, 1, 21, 22, 23, 19, 24, 25, 26, 27, 28, 5, 29, 7, 30, 31, 32, 33, 8, 14, 34, 35, 36, 37, 13, 38, 39, 40, 41, 42, 43, 44, 45, 46, 47, 48, 49, 50, 51, 52, 53, 54, 55, 56, 57, 58] (by decide +kernel) (by decide +kernel)
set_option maxRecDepth 20000 in
theorem gX6_best_X6_isBetter : GoodIn wsX6_best (wsV RX6 267 RX6 yX6_isBetter wsX6_isBetter) := goodIn_app (goodIn_of _ (by decide +kernel)) ggX6_best_X6_isBetter
theorem dX6_best_0 : decode cX6_best 0 = .ok (.iconst 0, 1) := by decide +kernel
theorem dX6_best_1 : decode cX6_best 1 = .ok (.istore_n 1, 1) := by decide +kernel
theorem dX6_best_2 : decode cX6_best 2 = .ok (.iconst 0, 1) := by decide +kernel
theorem dX6_best_3 : decode cX6_best 3 = .ok (.istore_n 2, 1) := by decide +kernel
theorem dX6_best_4 : decode cX6_best 4 = .ok (.iload_n 2, 1) := by decide +kernel
theorem dX6_best_5 : decode cX6_best 5 = .ok (.aload_n 0, 1) := by decide +kernel
theorem dX6_best_6 : decode cX6_best 6 = .ok (.getfield 33, 3) := by decide +kernel
theorem dX6_best_9 : decode cX6_best 9 = .ok (.invokevirtual 261, 3) := by decide +kernel
theorem dX6_best_12 : decode cX6_best 12 = .ok (.if_icmp .ge 36, 3) := by decide +kernel
theorem dX6_best_15 : decode cX6_best 15 = .ok (.aload_n 0, 1) := by decide +kernel
theorem dX6_best_16 : decode cX6_best 16 = .ok (.getfield 33, 3) := by decide +kernel
theorem dX6_best_19 : decode cX6_best 19 = .ok (.iload_n 2, 1) := by decide +kernel
theorem dX6_best_20 : decode cX6_best 20 = .ok (.invokevirtual 264, 3) := by decide +kernel
theorem dX6_best_23 : decode cX6_best 23 = .ok (.istore_n 3, 1) := by decide +kernel
theorem dX6_best_24 : decode cX6_best 24 = .ok (.iload_n 3, 1) := by decide +kernel
theorem dX6_best_25 : decode cX6_best 25 = .ok (.sipush 999, 3) := by decide +kernel
theorem dX6_best_28 : decode cX6_best 28 = .ok (.if_icmp .gt 14, 3) := by decide +kernel
theorem dX6_best_31 : decode cX6_best 31 = .ok (.aload_n 0, 1) := by decide +kernel
theorem dX6_best_32 : decode cX6_best 32 = .ok (.iload_n 3, 1) := by decide +kernel
theorem dX6_best_33 : decode cX6_best 33 = .ok (.iload_n 1, 1) := by decide +kernel
theorem dX6_best_34 : decode cX6_best 34 = .ok (.invokevirtual 267, 3) := by decide +kernel
theorem dX6_best_37 : decode cX6_best 37 = .ok (.ifCond .eq 5, 3) := by decide +kernel
theorem dX6_best_40 : decode cX6_best 40 = .ok (.iload_n 3, 1) := by decide +kernel
theorem dX6_best_41 : decode cX6_best 41 = .ok (.istore_n 1, 1) := by decide +kernel
theorem dX6_best_42 : decode cX6_best 42 = .ok (.iinc 2 1, 3) := by decide +kernel
theorem dX6_best_45 : decode cX6_best 45 = .ok (.goto (-41), 3) := by decide +kernel
theorem dX6_best_48 : decode cX6_best 48 = .ok (.iload_n 1, 1) := by decide +kernel
theorem dX6_best_49 : decode cX6_best 49 = .ok (.ireturn, 1) := by decide +kernel
set_option maxRecDepth 20000 in
theorem ggX6_sure_X6_isHundredths : GoodIn wsX6_sure wsX6_isHundredths := goodIn_r _ [5] (by decide +kernel) (by decide +kernel)
set_option maxRecDepth 20000 in
theorem gX6_sure_X6_isHundredths : GoodIn wsX6_sure (va_wsS RX6 167 yX6_isHundredths wsX6_isHundredths) := goodIn_app (goodIn_of _ (by decide +kernel)) ggX6_sure_X6_isHundredths
set_option maxRecDepth 20000 in
theorem ggX6_sure_X6_isSure : GoodIn wsX6_sure wsX6_isSure := goodIn_r _ [9, 1, 10, 11, 12, 13, 14, 15, 16, 17, 18, 19, 20, 21, 22, 23, 24, 25, 26, 27, 28, 29, 30, 31, 41, 42, 43, 44, 45, 46, 47, 48, 49, 50, 51, 52, 53, 54, 55, 56, 57, 58, 59, 60, 61] (by decide +kernel) (by decide +kernel)
set_option maxRecDepth 20000 in
theorem gX6_sure_X6_isSure : GoodIn wsX6_sure (wsV RX6 270 RX6 yX6_isSure wsX6_isSure) := goodIn_app (goodIn_of _ (by decide +kernel)) ggX6_sure_X6_isSure
set_option maxRecDepth 20000 in
theorem ggX6_sure_X0_steps : GoodIn wsX6_sure wsX0_steps := goodIn_r _ [35, 15, 22, 51, 52, 53, 54, 55, 56, 57, 58, 59, 60, 61] (by decide +kernel) (by decide +kernel)
set_option maxRecDepth 20000 in
theorem gX6_sure_X0_steps : GoodIn wsX6_sure (wsV RX6 261 RX0 yX0_steps wsX0_steps) := goodIn_app (goodIn_of _ (by decide +kernel)) ggX6_sure_X0_steps
set_option maxRecDepth 20000 in
theorem ggX6_sure_X0_stepAt : GoodIn wsX6_sure wsX0_stepAt := goodIn_r _ [39, 15, 16, 27, 40, 33, 34, 13, 35, 22, 51, 52, 53, 54, 55, 56, 57, 58, 59, 60, 61] (by decide +kernel) (by decide +kernel)
set_option maxRecDepth 20000 in
theorem gX6_sure_X0_stepAt : GoodIn wsX6_sure (wsV RX6 264 RX0 yX0_stepAt wsX0_stepAt) := goodIn_app (goodIn_of _ (by decide +kernel)) ggX6_sure_X0_stepAt
theorem dX6_sure_0 : decode cX6_sure 0 = .ok (.iload_n 1, 1) := by decide +kernel
theorem dX6_sure_1 : decode cX6_sure 1 = .ok (.invokestatic 167, 3) := by decide +kernel
theorem dX6_sure_4 : decode cX6_sure 4 = .ok (.ifCond .ne 6, 3) := by decide +kernel
theorem dX6_sure_7 : decode cX6_sure 7 = .ok (.bipush (-2), 2) := by decide +kernel
theorem dX6_sure_9 : decode cX6_sure 9 = .ok (.ireturn, 1) := by decide +kernel
theorem dX6_sure_10 : decode cX6_sure 10 = .ok (.aload_n 0, 1) := by decide +kernel
theorem dX6_sure_11 : decode cX6_sure 11 = .ok (.iconst 0, 1) := by decide +kernel
theorem dX6_sure_12 : decode cX6_sure 12 = .ok (.iload_n 1, 1) := by decide +kernel
theorem dX6_sure_13 : decode cX6_sure 13 = .ok (.invokevirtual 270, 3) := by decide +kernel
theorem dX6_sure_16 : decode cX6_sure 16 = .ok (.ifCond .eq 7, 3) := by decide +kernel
theorem dX6_sure_19 : decode cX6_sure 19 = .ok (.iconst 0, 1) := by decide +kernel
theorem dX6_sure_20 : decode cX6_sure 20 = .ok (.goto 4, 3) := by decide +kernel
theorem dX6_sure_23 : decode cX6_sure 23 = .ok (.iconst (-1), 1) := by decide +kernel
theorem dX6_sure_24 : decode cX6_sure 24 = .ok (.istore_n 2, 1) := by decide +kernel
theorem dX6_sure_25 : decode cX6_sure 25 = .ok (.iconst 0, 1) := by decide +kernel
theorem dX6_sure_26 : decode cX6_sure 26 = .ok (.istore_n 3, 1) := by decide +kernel
theorem dX6_sure_27 : decode cX6_sure 27 = .ok (.iload_n 3, 1) := by decide +kernel
theorem dX6_sure_28 : decode cX6_sure 28 = .ok (.aload_n 0, 1) := by decide +kernel
theorem dX6_sure_29 : decode cX6_sure 29 = .ok (.getfield 33, 3) := by decide +kernel
theorem dX6_sure_32 : decode cX6_sure 32 = .ok (.invokevirtual 261, 3) := by decide +kernel
theorem dX6_sure_35 : decode cX6_sure 35 = .ok (.if_icmp .ge 51, 3) := by decide +kernel
theorem dX6_sure_38 : decode cX6_sure 38 = .ok (.aload_n 0, 1) := by decide +kernel
theorem dX6_sure_39 : decode cX6_sure 39 = .ok (.getfield 33, 3) := by decide +kernel
theorem dX6_sure_42 : decode cX6_sure 42 = .ok (.iload_n 3, 1) := by decide +kernel
theorem dX6_sure_43 : decode cX6_sure 43 = .ok (.invokevirtual 264, 3) := by decide +kernel
theorem dX6_sure_46 : decode cX6_sure 46 = .ok (.istore 4, 2) := by decide +kernel
theorem dX6_sure_48 : decode cX6_sure 48 = .ok (.iload 4, 2) := by decide +kernel
theorem dX6_sure_50 : decode cX6_sure 50 = .ok (.sipush 999, 3) := by decide +kernel
theorem dX6_sure_53 : decode cX6_sure 53 = .ok (.if_icmp .gt 27, 3) := by decide +kernel
theorem dX6_sure_56 : decode cX6_sure 56 = .ok (.iload_n 2, 1) := by decide +kernel
theorem dX6_sure_57 : decode cX6_sure 57 = .ok (.iconst (-1), 1) := by decide +kernel
theorem dX6_sure_58 : decode cX6_sure 58 = .ok (.if_icmp .eq 9, 3) := by decide +kernel
theorem dX6_sure_61 : decode cX6_sure 61 = .ok (.iload 4, 2) := by decide +kernel
theorem dX6_sure_63 : decode cX6_sure 63 = .ok (.iload_n 2, 1) := by decide +kernel
theorem dX6_sure_64 : decode cX6_sure 64 = .ok (.if_icmp .ge 16, 3) := by decide +kernel
theorem dX6_sure_67 : decode cX6_sure 67 = .ok (.aload_n 0, 1) := by decide +kernel
theorem dX6_sure_68 : decode cX6_sure 68 = .ok (.iload 4, 2) := by decide +kernel
theorem dX6_sure_70 : decode cX6_sure 70 = .ok (.iload_n 1, 1) := by decide +kernel
theorem dX6_sure_71 : decode cX6_sure 71 = .ok (.invokevirtual 270, 3) := by decide +kernel
theorem dX6_sure_74 : decode cX6_sure 74 = .ok (.ifCond .eq 6, 3) := by decide +kernel
theorem dX6_sure_77 : decode cX6_sure 77 = .ok (.iload 4, 2) := by decide +kernel
theorem dX6_sure_79 : decode cX6_sure 79 = .ok (.istore_n 2, 1) := by decide +kernel
theorem dX6_sure_80 : decode cX6_sure 80 = .ok (.iinc 3 1, 3) := by decide +kernel
theorem dX6_sure_83 : decode cX6_sure 83 = .ok (.goto (-56), 3) := by decide +kernel
theorem dX6_sure_86 : decode cX6_sure 86 = .ok (.iload_n 2, 1) := by decide +kernel
theorem dX6_sure_87 : decode cX6_sure 87 = .ok (.ireturn, 1) := by decide +kernel
set_option maxRecDepth 20000 in
theorem ggX6_sheet_X6_isSheet : GoodIn wsX6_sheet wsX6_isSheet := goodIn_r _ [5] (by decide +kernel) (by decide +kernel)
set_option maxRecDepth 20000 in
theorem gX6_sheet_X6_isSheet : GoodIn wsX6_sheet (va_wsS RX6 105 yX6_isSheet wsX6_isSheet) := goodIn_app (goodIn_of _ (by decide +kernel)) ggX6_sheet_X6_isSheet
set_option maxRecDepth 20000 in
theorem ggX6_sheet_X6_isForm : GoodIn wsX6_sheet wsX6_isForm := goodIn_r _ [8] (by decide +kernel) (by decide +kernel)
set_option maxRecDepth 20000 in
theorem gX6_sheet_X6_isForm : GoodIn wsX6_sheet (va_wsS RX6 273 yX6_isForm wsX6_isForm) := goodIn_app (goodIn_of _ (by decide +kernel)) ggX6_sheet_X6_isForm
set_option maxRecDepth 20000 in
theorem ggX6_sheet_X6_found : GoodIn wsX6_sheet wsX6_found := goodIn_r _ [12, 13, 27, 28, 29, 30, 31, 32, 33, 34, 35, 36] (by decide +kernel) (by decide +kernel)
set_option maxRecDepth 20000 in
theorem gX6_sheet_X6_found : GoodIn wsX6_sheet (wsV RX6 112 RX6 yX6_found wsX6_found) := goodIn_app (goodIn_of _ (by decide +kernel)) ggX6_sheet_X6_found
set_option maxRecDepth 20000 in
theorem ggX6_sheet_X3_renew : GoodIn wsX6_sheet wsX3_renew := goodIn_r _ [18, 19, 20, 21, 22, 23, 24, 25, 26, 37, 38, 39, 40] (by decide +kernel) (by decide +kernel)
set_option maxRecDepth 20000 in
theorem gX6_sheet_X3_renew : GoodIn wsX6_sheet (wsV RX6 276 RX3 yX3_renew wsX3_renew) := goodIn_app (goodIn_of _ (by decide +kernel)) ggX6_sheet_X3_renew
theorem dX6_sheet_0 : decode cX6_sheet 0 = .ok (.iload_n 1, 1) := by decide +kernel
theorem dX6_sheet_1 : decode cX6_sheet 1 = .ok (.invokestatic 105, 3) := by decide +kernel
theorem dX6_sheet_4 : decode cX6_sheet 4 = .ok (.ifCond .eq 16, 3) := by decide +kernel
theorem dX6_sheet_7 : decode cX6_sheet 7 = .ok (.iload_n 2, 1) := by decide +kernel
theorem dX6_sheet_8 : decode cX6_sheet 8 = .ok (.invokestatic 273, 3) := by decide +kernel
theorem dX6_sheet_11 : decode cX6_sheet 11 = .ok (.ifCond .eq 9, 3) := by decide +kernel
theorem dX6_sheet_14 : decode cX6_sheet 14 = .ok (.iload_n 3, 1) := by decide +kernel
theorem dX6_sheet_15 : decode cX6_sheet 15 = .ok (.bipush 60, 2) := by decide +kernel
theorem dX6_sheet_17 : decode cX6_sheet 17 = .ok (.if_icmp .le 6, 3) := by decide +kernel
theorem dX6_sheet_20 : decode cX6_sheet 20 = .ok (.bipush (-2), 2) := by decide +kernel
theorem dX6_sheet_22 : decode cX6_sheet 22 = .ok (.ireturn, 1) := by decide +kernel
theorem dX6_sheet_23 : decode cX6_sheet 23 = .ok (.iload_n 3, 1) := by decide +kernel
theorem dX6_sheet_24 : decode cX6_sheet 24 = .ok (.ifCond .ge 9, 3) := by decide +kernel
theorem dX6_sheet_27 : decode cX6_sheet 27 = .ok (.aload_n 0, 1) := by decide +kernel
theorem dX6_sheet_28 : decode cX6_sheet 28 = .ok (.iconst 5, 1) := by decide +kernel
theorem dX6_sheet_29 : decode cX6_sheet 29 = .ok (.invokevirtual 112, 3) := by decide +kernel
theorem dX6_sheet_32 : decode cX6_sheet 32 = .ok (.ireturn, 1) := by decide +kernel
theorem dX6_sheet_33 : decode cX6_sheet 33 = .ok (.aload_n 0, 1) := by decide +kernel
theorem dX6_sheet_34 : decode cX6_sheet 34 = .ok (.getfield 67, 3) := by decide +kernel
theorem dX6_sheet_37 : decode cX6_sheet 37 = .ok (.iload_n 1, 1) := by decide +kernel
theorem dX6_sheet_38 : decode cX6_sheet 38 = .ok (.aaload, 1) := by decide +kernel
theorem dX6_sheet_39 : decode cX6_sheet 39 = .ok (.iload_n 2, 1) := by decide +kernel
theorem dX6_sheet_40 : decode cX6_sheet 40 = .ok (.iload_n 3, 1) := by decide +kernel
theorem dX6_sheet_41 : decode cX6_sheet 41 = .ok (.invokevirtual 276, 3) := by decide +kernel
theorem dX6_sheet_44 : decode cX6_sheet 44 = .ok (.iload_n 3, 1) := by decide +kernel
theorem dX6_sheet_45 : decode cX6_sheet 45 = .ok (.ireturn, 1) := by decide +kernel
set_option maxRecDepth 20000 in
theorem ggX6_lose_X6_isSheet : GoodIn wsX6_lose wsX6_isSheet := goodIn_r _ [7] (by decide +kernel) (by decide +kernel)
set_option maxRecDepth 20000 in
theorem gX6_lose_X6_isSheet : GoodIn wsX6_lose (va_wsS RX6 105 yX6_isSheet wsX6_isSheet) := goodIn_app (goodIn_of _ (by decide +kernel)) ggX6_lose_X6_isSheet
set_option maxRecDepth 20000 in
theorem ggX6_lose_X6_found : GoodIn wsX6_lose wsX6_found := goodIn_r _ [11, 12, 13, 14, 15, 16, 17, 18, 19, 20, 21, 22] (by decide +kernel) (by decide +kernel)
set_option maxRecDepth 20000 in
theorem gX6_lose_X6_found : GoodIn wsX6_lose (wsV RX6 112 RX6 yX6_found wsX6_found) := goodIn_app (goodIn_of _ (by decide +kernel)) ggX6_lose_X6_found
theorem dX6_lose_0 : decode cX6_lose 0 = .ok (.iload_n 1, 1) := by decide +kernel
theorem dX6_lose_1 : decode cX6_lose 1 = .ok (.invokestatic 105, 3) := by decide +kernel
theorem dX6_lose_4 : decode cX6_lose 4 = .ok (.ifCond .ne 6, 3) := by decide +kernel
theorem dX6_lose_7 : decode cX6_lose 7 = .ok (.bipush (-2), 2) := by decide +kernel
theorem dX6_lose_9 : decode cX6_lose 9 = .ok (.ireturn, 1) := by decide +kernel
theorem dX6_lose_10 : decode cX6_lose 10 = .ok (.aload_n 0, 1) := by decide +kernel
theorem dX6_lose_11 : decode cX6_lose 11 = .ok (.getfield 67, 3) := by decide +kernel
theorem dX6_lose_14 : decode cX6_lose 14 = .ok (.iload_n 1, 1) := by decide +kernel
theorem dX6_lose_15 : decode cX6_lose 15 = .ok (.aaload, 1) := by decide +kernel
theorem dX6_lose_16 : decode cX6_lose 16 = .ok (.astore_n 2, 1) := by decide +kernel
theorem dX6_lose_17 : decode cX6_lose 17 = .ok (.aload_n 2, 1) := by decide +kernel
theorem dX6_lose_18 : decode cX6_lose 18 = .ok (.getfield 108, 3) := by decide +kernel
theorem dX6_lose_21 : decode cX6_lose 21 = .ok (.ifCond .eq 9, 3) := by decide +kernel
theorem dX6_lose_24 : decode cX6_lose 24 = .ok (.aload_n 0, 1) := by decide +kernel
theorem dX6_lose_25 : decode cX6_lose 25 = .ok (.iconst 1, 1) := by decide +kernel
theorem dX6_lose_26 : decode cX6_lose 26 = .ok (.invokevirtual 112, 3) := by decide +kernel
theorem dX6_lose_29 : decode cX6_lose 29 = .ok (.ireturn, 1) := by decide +kernel
theorem dX6_lose_30 : decode cX6_lose 30 = .ok (.aload_n 2, 1) := by decide +kernel
theorem dX6_lose_31 : decode cX6_lose 31 = .ok (.iconst 1, 1) := by decide +kernel
theorem dX6_lose_32 : decode cX6_lose 32 = .ok (.putfield 108, 3) := by decide +kernel
theorem dX6_lose_35 : decode cX6_lose 35 = .ok (.aload_n 2, 1) := by decide +kernel
theorem dX6_lose_36 : decode cX6_lose 36 = .ok (.getfield 116, 3) := by decide +kernel
theorem dX6_lose_39 : decode cX6_lose 39 = .ok (.ireturn, 1) := by decide +kernel
set_option maxRecDepth 20000 in
theorem ggX6_lay_X6_isSheet : GoodIn wsX6_lay wsX6_isSheet := goodIn_r _ [5] (by decide +kernel) (by decide +kernel)
set_option maxRecDepth 20000 in
theorem gX6_lay_X6_isSheet : GoodIn wsX6_lay (va_wsS RX6 105 yX6_isSheet wsX6_isSheet) := goodIn_app (goodIn_of _ (by decide +kernel)) ggX6_lay_X6_isSheet
set_option maxRecDepth 20000 in
theorem ggX6_lay_X6_isForm : GoodIn wsX6_lay wsX6_isForm := goodIn_r _ [8] (by decide +kernel) (by decide +kernel)
set_option maxRecDepth 20000 in
theorem gX6_lay_X6_isForm : GoodIn wsX6_lay (va_wsS RX6 273 yX6_isForm wsX6_isForm) := goodIn_app (goodIn_of _ (by decide +kernel)) ggX6_lay_X6_isForm
set_option maxRecDepth 20000 in
theorem ggX6_lay_X6_findingAt : GoodIn wsX6_lay wsX6_findingAt := goodIn_r _ [11, 12, 13, 14, 15, 16, 17, 18, 19, 46, 47, 48, 49] (by decide +kernel) (by decide +kernel)
set_option maxRecDepth 20000 in
theorem gX6_lay_X6_findingAt : GoodIn wsX6_lay (va_wsS RX6 280 yX6_findingAt wsX6_findingAt) := goodIn_app (goodIn_of _ (by decide +kernel)) ggX6_lay_X6_findingAt
set_option maxRecDepth 20000 in
theorem ggX6_lay_X6_found : GoodIn wsX6_lay wsX6_found := goodIn_r _ [23, 24, 36, 37, 38, 39, 40, 41, 42, 43, 44, 45] (by decide +kernel) (by decide +kernel)
set_option maxRecDepth 20000 in
theorem gX6_lay_X6_found : GoodIn wsX6_lay (wsV RX6 112 RX6 yX6_found wsX6_found) := goodIn_app (goodIn_of _ (by decide +kernel)) ggX6_lay_X6_found
set_option maxRecDepth 20000 in
theorem ggX6_lay_X3_put : GoodIn wsX6_lay wsX3_put := goodIn_r _ [28, 29, 30, 15, 16, 17, 18, 19, 31, 32, 33, 34, 35, 46, 47, 48, 49] (by decide +kernel) (by decide +kernel)
set_option maxRecDepth 20000 in
theorem gX6_lay_X3_put : GoodIn wsX6_lay (wsV RX6 284 RX3 yX3_put wsX3_put) := goodIn_app (goodIn_of _ (by decide +kernel)) ggX6_lay_X3_put
theorem dX6_lay_0 : decode cX6_lay 0 = .ok (.iload_n 1, 1) := by decide +kernel
theorem dX6_lay_1 : decode cX6_lay 1 = .ok (.invokestatic 105, 3) := by decide +kernel
theorem dX6_lay_4 : decode cX6_lay 4 = .ok (.ifCond .eq 10, 3) := by decide +kernel
theorem dX6_lay_7 : decode cX6_lay 7 = .ok (.iload_n 2, 1) := by decide +kernel
theorem dX6_lay_8 : decode cX6_lay 8 = .ok (.invokestatic 273, 3) := by decide +kernel
theorem dX6_lay_11 : decode cX6_lay 11 = .ok (.ifCond .ne 6, 3) := by decide +kernel
theorem dX6_lay_14 : decode cX6_lay 14 = .ok (.bipush (-2), 2) := by decide +kernel
theorem dX6_lay_16 : decode cX6_lay 16 = .ok (.ireturn, 1) := by decide +kernel
theorem dX6_lay_17 : decode cX6_lay 17 = .ok (.aload_n 0, 1) := by decide +kernel
theorem dX6_lay_18 : decode cX6_lay 18 = .ok (.getfield 67, 3) := by decide +kernel
theorem dX6_lay_21 : decode cX6_lay 21 = .ok (.iload_n 1, 1) := by decide +kernel
theorem dX6_lay_22 : decode cX6_lay 22 = .ok (.aaload, 1) := by decide +kernel
theorem dX6_lay_23 : decode cX6_lay 23 = .ok (.iload_n 2, 1) := by decide +kernel
theorem dX6_lay_24 : decode cX6_lay 24 = .ok (.iload_n 3, 1) := by decide +kernel
theorem dX6_lay_25 : decode cX6_lay 25 = .ok (.invokestatic 280, 3) := by decide +kernel
theorem dX6_lay_28 : decode cX6_lay 28 = .ok (.istore 5, 2) := by decide +kernel
theorem dX6_lay_30 : decode cX6_lay 30 = .ok (.iload 5, 2) := by decide +kernel
theorem dX6_lay_32 : decode cX6_lay 32 = .ok (.ifCond .eq 10, 3) := by decide +kernel
theorem dX6_lay_35 : decode cX6_lay 35 = .ok (.aload_n 0, 1) := by decide +kernel
theorem dX6_lay_36 : decode cX6_lay 36 = .ok (.iload 5, 2) := by decide +kernel
theorem dX6_lay_38 : decode cX6_lay 38 = .ok (.invokevirtual 112, 3) := by decide +kernel
theorem dX6_lay_41 : decode cX6_lay 41 = .ok (.ireturn, 1) := by decide +kernel
theorem dX6_lay_42 : decode cX6_lay 42 = .ok (.aload_n 0, 1) := by decide +kernel
theorem dX6_lay_43 : decode cX6_lay 43 = .ok (.getfield 67, 3) := by decide +kernel
theorem dX6_lay_46 : decode cX6_lay 46 = .ok (.iload_n 1, 1) := by decide +kernel
theorem dX6_lay_47 : decode cX6_lay 47 = .ok (.aaload, 1) := by decide +kernel
theorem dX6_lay_48 : decode cX6_lay 48 = .ok (.iload_n 3, 1) := by decide +kernel
theorem dX6_lay_49 : decode cX6_lay 49 = .ok (.iload 4, 2) := by decide +kernel
theorem dX6_lay_51 : decode cX6_lay 51 = .ok (.invokevirtual 284, 3) := by decide +kernel
theorem dX6_lay_54 : decode cX6_lay 54 = .ok (.iconst 1, 1) := by decide +kernel
theorem dX6_lay_55 : decode cX6_lay 55 = .ok (.ireturn, 1) := by decide +kernel
set_option maxRecDepth 20000 in
theorem ggX6_get_X6_isSheet : GoodIn wsX6_get wsX6_isSheet := goodIn_r _ [6] (by decide +kernel) (by decide +kernel)
set_option maxRecDepth 20000 in
theorem gX6_get_X6_isSheet : GoodIn wsX6_get (va_wsS RX6 105 yX6_isSheet wsX6_isSheet) := goodIn_app (goodIn_of _ (by decide +kernel)) ggX6_get_X6_isSheet
set_option maxRecDepth 20000 in
theorem ggX6_get_X6_isForm : GoodIn wsX6_get wsX6_isForm := goodIn_r _ [9] (by decide +kernel) (by decide +kernel)
set_option maxRecDepth 20000 in
theorem gX6_get_X6_isForm : GoodIn wsX6_get (va_wsS RX6 273 yX6_isForm wsX6_isForm) := goodIn_app (goodIn_of _ (by decide +kernel)) ggX6_get_X6_isForm
set_option maxRecDepth 20000 in
theorem ggX6_get_X6_findingAt : GoodIn wsX6_get wsX6_findingAt := goodIn_r _ [12, 13, 14, 15, 16, 17, 18, 19, 20, 42, 43, 44, 45] (by decide +kernel) (by decide +kernel)
set_option maxRecDepth 20000 in
theorem gX6_get_X6_findingAt : GoodIn wsX6_get (va_wsS RX6 280 yX6_findingAt wsX6_findingAt) := goodIn_app (goodIn_of _ (by decide +kernel)) ggX6_get_X6_findingAt
set_option maxRecDepth 20000 in
theorem ggX6_get_X6_found : GoodIn wsX6_get wsX6_found := goodIn_r _ [24, 25, 32, 33, 34, 35, 36, 37, 38, 39, 40, 41] (by decide +kernel) (by decide +kernel)
set_option maxRecDepth 20000 in
theorem gX6_get_X6_found : GoodIn wsX6_get (wsV RX6 112 RX6 yX6_found wsX6_found) := goodIn_app (goodIn_of _ (by decide +kernel)) ggX6_get_X6_found
set_option maxRecDepth 20000 in
theorem ggX6_get_X3_itemAt : GoodIn wsX6_get wsX3_itemAt := goodIn_r _ [29, 30, 31, 16, 17, 18, 19, 20, 42, 43, 44, 45] (by decide +kernel) (by decide +kernel)
set_option maxRecDepth 20000 in
theorem gX6_get_X3_itemAt : GoodIn wsX6_get (wsV RX6 117 RX3 yX3_itemAt wsX3_itemAt) := goodIn_app (goodIn_of _ (by decide +kernel)) ggX6_get_X3_itemAt
theorem dX6_get_0 : decode cX6_get 0 = .ok (.iload_n 1, 1) := by decide +kernel
theorem dX6_get_1 : decode cX6_get 1 = .ok (.invokestatic 105, 3) := by decide +kernel
theorem dX6_get_4 : decode cX6_get 4 = .ok (.ifCond .eq 10, 3) := by decide +kernel
theorem dX6_get_7 : decode cX6_get 7 = .ok (.iload_n 2, 1) := by decide +kernel
theorem dX6_get_8 : decode cX6_get 8 = .ok (.invokestatic 273, 3) := by decide +kernel
theorem dX6_get_11 : decode cX6_get 11 = .ok (.ifCond .ne 7, 3) := by decide +kernel
theorem dX6_get_14 : decode cX6_get 14 = .ok (.ldc_w 287, 3) := by decide +kernel
theorem dX6_get_17 : decode cX6_get 17 = .ok (.ireturn, 1) := by decide +kernel
theorem dX6_get_18 : decode cX6_get 18 = .ok (.aload_n 0, 1) := by decide +kernel
theorem dX6_get_19 : decode cX6_get 19 = .ok (.getfield 67, 3) := by decide +kernel
theorem dX6_get_22 : decode cX6_get 22 = .ok (.iload_n 1, 1) := by decide +kernel
theorem dX6_get_23 : decode cX6_get 23 = .ok (.aaload, 1) := by decide +kernel
theorem dX6_get_24 : decode cX6_get 24 = .ok (.iload_n 2, 1) := by decide +kernel
theorem dX6_get_25 : decode cX6_get 25 = .ok (.iload_n 3, 1) := by decide +kernel
theorem dX6_get_26 : decode cX6_get 26 = .ok (.invokestatic 280, 3) := by decide +kernel
theorem dX6_get_29 : decode cX6_get 29 = .ok (.istore 4, 2) := by decide +kernel
theorem dX6_get_31 : decode cX6_get 31 = .ok (.iload 4, 2) := by decide +kernel
theorem dX6_get_33 : decode cX6_get 33 = .ok (.ifCond .eq 14, 3) := by decide +kernel
theorem dX6_get_36 : decode cX6_get 36 = .ok (.aload_n 0, 1) := by decide +kernel
theorem dX6_get_37 : decode cX6_get 37 = .ok (.iload 4, 2) := by decide +kernel
theorem dX6_get_39 : decode cX6_get 39 = .ok (.invokevirtual 112, 3) := by decide +kernel
theorem dX6_get_42 : decode cX6_get 42 = .ok (.pop, 1) := by decide +kernel
theorem dX6_get_43 : decode cX6_get 43 = .ok (.ldc_w 287, 3) := by decide +kernel
theorem dX6_get_46 : decode cX6_get 46 = .ok (.ireturn, 1) := by decide +kernel
theorem dX6_get_47 : decode cX6_get 47 = .ok (.aload_n 0, 1) := by decide +kernel
theorem dX6_get_48 : decode cX6_get 48 = .ok (.getfield 67, 3) := by decide +kernel
theorem dX6_get_51 : decode cX6_get 51 = .ok (.iload_n 1, 1) := by decide +kernel
theorem dX6_get_52 : decode cX6_get 52 = .ok (.aaload, 1) := by decide +kernel
theorem dX6_get_53 : decode cX6_get 53 = .ok (.iload_n 3, 1) := by decide +kernel
theorem dX6_get_54 : decode cX6_get 54 = .ok (.invokevirtual 117, 3) := by decide +kernel
theorem dX6_get_57 : decode cX6_get 57 = .ok (.ireturn, 1) := by decide +kernel
set_option maxRecDepth 20000 in
theorem ggX6_copy_X6_isSheet : GoodIn wsX6_copy wsX6_isSheet := goodIn_r _ [12] (by decide +kernel) (by decide +kernel)
set_option maxRecDepth 20000 in
theorem gX6_copy_X6_isSheet : GoodIn wsX6_copy (va_wsS RX6 105 yX6_isSheet wsX6_isSheet) := goodIn_app (goodIn_of _ (by decide +kernel)) ggX6_copy_X6_isSheet
set_option maxRecDepth 20000 in
theorem ggX6_copy_X6_found : GoodIn wsX6_copy wsX6_found := goodIn_r _ [16, 17, 24, 25, 26, 27, 28, 29, 30, 31, 32, 33] (by decide +kernel) (by decide +kernel)
set_option maxRecDepth 20000 in
theorem gX6_copy_X6_found : GoodIn wsX6_copy (wsV RX6 112 RX6 yX6_found wsX6_found) := goodIn_app (goodIn_of _ (by decide +kernel)) ggX6_copy_X6_found
set_option maxRecDepth 20000 in
theorem ggX6_copy_X3_holds : GoodIn wsX6_copy wsX3_holds := goodIn_r _ [22, 23, 34, 35, 36, 37] (by decide +kernel) (by decide +kernel)
set_option maxRecDepth 20000 in
theorem gX6_copy_X3_holds : GoodIn wsX6_copy (wsV RX6 291 RX3 yX3_holds wsX3_holds) := goodIn_app (goodIn_of _ (by decide +kernel)) ggX6_copy_X3_holds
theorem dX6_copy_0 : decode cX6_copy 0 = .ok (.iload_n 1, 1) := by decide +kernel
theorem dX6_copy_1 : decode cX6_copy 1 = .ok (.invokestatic 105, 3) := by decide +kernel
theorem dX6_copy_4 : decode cX6_copy 4 = .ok (.ifCond .eq 10, 3) := by decide +kernel
theorem dX6_copy_7 : decode cX6_copy 7 = .ok (.iload_n 3, 1) := by decide +kernel
theorem dX6_copy_8 : decode cX6_copy 8 = .ok (.invokestatic 105, 3) := by decide +kernel
theorem dX6_copy_11 : decode cX6_copy 11 = .ok (.ifCond .ne 6, 3) := by decide +kernel
theorem dX6_copy_14 : decode cX6_copy 14 = .ok (.bipush (-2), 2) := by decide +kernel
theorem dX6_copy_16 : decode cX6_copy 16 = .ok (.ireturn, 1) := by decide +kernel
theorem dX6_copy_17 : decode cX6_copy 17 = .ok (.aload_n 0, 1) := by decide +kernel
theorem dX6_copy_18 : decode cX6_copy 18 = .ok (.getfield 67, 3) := by decide +kernel
theorem dX6_copy_21 : decode cX6_copy 21 = .ok (.iload_n 1, 1) := by decide +kernel
theorem dX6_copy_22 : decode cX6_copy 22 = .ok (.aaload, 1) := by decide +kernel
theorem dX6_copy_23 : decode cX6_copy 23 = .ok (.astore 6, 2) := by decide +kernel
theorem dX6_copy_25 : decode cX6_copy 25 = .ok (.aload_n 0, 1) := by decide +kernel
theorem dX6_copy_26 : decode cX6_copy 26 = .ok (.getfield 67, 3) := by decide +kernel
theorem dX6_copy_29 : decode cX6_copy 29 = .ok (.iload_n 3, 1) := by decide +kernel
theorem dX6_copy_30 : decode cX6_copy 30 = .ok (.aaload, 1) := by decide +kernel
theorem dX6_copy_31 : decode cX6_copy 31 = .ok (.astore 7, 2) := by decide +kernel
theorem dX6_copy_33 : decode cX6_copy 33 = .ok (.aload 6, 2) := by decide +kernel
theorem dX6_copy_35 : decode cX6_copy 35 = .ok (.getfield 108, 3) := by decide +kernel
theorem dX6_copy_38 : decode cX6_copy 38 = .ok (.ifCond .ne 11, 3) := by decide +kernel
theorem dX6_copy_41 : decode cX6_copy 41 = .ok (.aload 7, 2) := by decide +kernel
theorem dX6_copy_43 : decode cX6_copy 43 = .ok (.getfield 108, 3) := by decide +kernel
theorem dX6_copy_46 : decode cX6_copy 46 = .ok (.ifCond .eq 9, 3) := by decide +kernel
theorem dX6_copy_49 : decode cX6_copy 49 = .ok (.aload_n 0, 1) := by decide +kernel
theorem dX6_copy_50 : decode cX6_copy 50 = .ok (.iconst 1, 1) := by decide +kernel
theorem dX6_copy_51 : decode cX6_copy 51 = .ok (.invokevirtual 112, 3) := by decide +kernel
theorem dX6_copy_54 : decode cX6_copy 54 = .ok (.ireturn, 1) := by decide +kernel
theorem dX6_copy_55 : decode cX6_copy 55 = .ok (.aload 6, 2) := by decide +kernel
theorem dX6_copy_57 : decode cX6_copy 57 = .ok (.getfield 288, 3) := by decide +kernel
theorem dX6_copy_60 : decode cX6_copy 60 = .ok (.aload 7, 2) := by decide +kernel
theorem dX6_copy_62 : decode cX6_copy 62 = .ok (.getfield 288, 3) := by decide +kernel
theorem dX6_copy_65 : decode cX6_copy 65 = .ok (.if_icmp .eq 9, 3) := by decide +kernel
theorem dX6_copy_68 : decode cX6_copy 68 = .ok (.aload_n 0, 1) := by decide +kernel
theorem dX6_copy_69 : decode cX6_copy 69 = .ok (.iconst 4, 1) := by decide +kernel
theorem dX6_copy_70 : decode cX6_copy 70 = .ok (.invokevirtual 112, 3) := by decide +kernel
theorem dX6_copy_73 : decode cX6_copy 73 = .ok (.ireturn, 1) := by decide +kernel
theorem dX6_copy_74 : decode cX6_copy 74 = .ok (.aload 6, 2) := by decide +kernel
theorem dX6_copy_76 : decode cX6_copy 76 = .ok (.iload_n 2, 1) := by decide +kernel
theorem dX6_copy_77 : decode cX6_copy 77 = .ok (.iload 5, 2) := by decide +kernel
theorem dX6_copy_79 : decode cX6_copy 79 = .ok (.invokevirtual 291, 3) := by decide +kernel
theorem dX6_copy_82 : decode cX6_copy 82 = .ok (.ifCond .eq 15, 3) := by decide +kernel
theorem dX6_copy_85 : decode cX6_copy 85 = .ok (.aload 7, 2) := by decide +kernel
theorem dX6_copy_87 : decode cX6_copy 87 = .ok (.iload 4, 2) := by decide +kernel
theorem dX6_copy_89 : decode cX6_copy 89 = .ok (.iload 5, 2) := by decide +kernel
theorem dX6_copy_91 : decode cX6_copy 91 = .ok (.invokevirtual 291, 3) := by decide +kernel
theorem dX6_copy_94 : decode cX6_copy 94 = .ok (.ifCond .ne 9, 3) := by decide +kernel
theorem dX6_copy_97 : decode cX6_copy 97 = .ok (.aload_n 0, 1) := by decide +kernel
theorem dX6_copy_98 : decode cX6_copy 98 = .ok (.iconst 2, 1) := by decide +kernel
theorem dX6_copy_99 : decode cX6_copy 99 = .ok (.invokevirtual 112, 3) := by decide +kernel
theorem dX6_copy_102 : decode cX6_copy 102 = .ok (.ireturn, 1) := by decide +kernel
theorem dX6_copy_103 : decode cX6_copy 103 = .ok (.aload 6, 2) := by decide +kernel
theorem dX6_copy_105 : decode cX6_copy 105 = .ok (.getfield 294, 3) := by decide +kernel
theorem dX6_copy_108 : decode cX6_copy 108 = .ok (.iload_n 2, 1) := by decide +kernel
theorem dX6_copy_109 : decode cX6_copy 109 = .ok (.aload 7, 2) := by decide +kernel
theorem dX6_copy_111 : decode cX6_copy 111 = .ok (.getfield 294, 3) := by decide +kernel
theorem dX6_copy_114 : decode cX6_copy 114 = .ok (.iload 4, 2) := by decide +kernel
theorem dX6_copy_116 : decode cX6_copy 116 = .ok (.iload 5, 2) := by decide +kernel
theorem dX6_copy_118 : decode cX6_copy 118 = .ok (.invokestatic 297, 3) := by decide +kernel
theorem dX6_copy_121 : decode cX6_copy 121 = .ok (.iconst 1, 1) := by decide +kernel
theorem dX6_copy_122 : decode cX6_copy 122 = .ok (.ireturn, 1) := by decide +kernel
set_option maxRecDepth 20000 in
theorem ggX6_write_X6_isYear : GoodIn wsX6_write wsX6_isYear := goodIn_r _ [14] (by decide +kernel) (by decide +kernel)
set_option maxRecDepth 20000 in
theorem gX6_write_X6_isYear : GoodIn wsX6_write (va_wsS RX6 83 yX6_isYear wsX6_isYear) := goodIn_app (goodIn_of _ (by decide +kernel)) ggX6_write_X6_isYear
set_option maxRecDepth 20000 in
theorem ggX6_write_X6_isSheet : GoodIn wsX6_write wsX6_isSheet := goodIn_r _ [17] (by decide +kernel) (by decide +kernel)
set_option maxRecDepth 20000 in
theorem gX6_write_X6_isSheet : GoodIn wsX6_write (va_wsS RX6 105 yX6_isSheet wsX6_isSheet) := goodIn_app (goodIn_of _ (by decide +kernel)) ggX6_write_X6_isSheet
set_option maxRecDepth 20000 in
theorem ggX6_write_X6_found : GoodIn wsX6_write wsX6_found := goodIn_r _ [21, 22, 39, 40, 41, 42, 43, 44, 45, 46, 47, 48] (by decide +kernel) (by decide +kernel)
set_option maxRecDepth 20000 in
theorem gX6_write_X6_found : GoodIn wsX6_write (wsV RX6 112 RX6 yX6_found wsX6_found) := goodIn_app (goodIn_of _ (by decide +kernel)) ggX6_write_X6_found
set_option maxRecDepth 20000 in
theorem ggX6_write_X3_put : GoodIn wsX6_write wsX3_put := goodIn_r _ [27, 28, 29, 30, 31, 26, 32, 33, 34, 35, 36, 37, 38, 49, 50, 51, 52] (by decide +kernel) (by decide +kernel)
set_option maxRecDepth 20000 in
theorem gX6_write_X3_put : GoodIn wsX6_write (wsV RX6 284 RX3 yX3_put wsX3_put) := goodIn_app (goodIn_of _ (by decide +kernel)) ggX6_write_X3_put
theorem dX6_write_0 : decode cX6_write 0 = .ok (.iload_n 1, 1) := by decide +kernel
theorem dX6_write_1 : decode cX6_write 1 = .ok (.invokestatic 83, 3) := by decide +kernel
theorem dX6_write_4 : decode cX6_write 4 = .ok (.ifCond .eq 10, 3) := by decide +kernel
theorem dX6_write_7 : decode cX6_write 7 = .ok (.iload_n 2, 1) := by decide +kernel
theorem dX6_write_8 : decode cX6_write 8 = .ok (.invokestatic 105, 3) := by decide +kernel
theorem dX6_write_11 : decode cX6_write 11 = .ok (.ifCond .ne 6, 3) := by decide +kernel
theorem dX6_write_14 : decode cX6_write 14 = .ok (.bipush (-2), 2) := by decide +kernel
theorem dX6_write_16 : decode cX6_write 16 = .ok (.ireturn, 1) := by decide +kernel
theorem dX6_write_17 : decode cX6_write 17 = .ok (.aload_n 0, 1) := by decide +kernel
theorem dX6_write_18 : decode cX6_write 18 = .ok (.getfield 67, 3) := by decide +kernel
theorem dX6_write_21 : decode cX6_write 21 = .ok (.iload_n 2, 1) := by decide +kernel
theorem dX6_write_22 : decode cX6_write 22 = .ok (.aaload, 1) := by decide +kernel
theorem dX6_write_23 : decode cX6_write 23 = .ok (.astore_n 3, 1) := by decide +kernel
theorem dX6_write_24 : decode cX6_write 24 = .ok (.aload_n 3, 1) := by decide +kernel
theorem dX6_write_25 : decode cX6_write 25 = .ok (.getfield 108, 3) := by decide +kernel
theorem dX6_write_28 : decode cX6_write 28 = .ok (.ifCond .eq 9, 3) := by decide +kernel
theorem dX6_write_31 : decode cX6_write 31 = .ok (.aload_n 0, 1) := by decide +kernel
theorem dX6_write_32 : decode cX6_write 32 = .ok (.iconst 1, 1) := by decide +kernel
theorem dX6_write_33 : decode cX6_write 33 = .ok (.invokevirtual 112, 3) := by decide +kernel
theorem dX6_write_36 : decode cX6_write 36 = .ok (.ireturn, 1) := by decide +kernel
theorem dX6_write_37 : decode cX6_write 37 = .ok (.aload_n 3, 1) := by decide +kernel
theorem dX6_write_38 : decode cX6_write 38 = .ok (.getfield 116, 3) := by decide +kernel
theorem dX6_write_41 : decode cX6_write 41 = .ok (.bipush 60, 2) := by decide +kernel
theorem dX6_write_43 : decode cX6_write 43 = .ok (.iload_n 1, 1) := by decide +kernel
theorem dX6_write_44 : decode cX6_write 44 = .ok (.isub, 1) := by decide +kernel
theorem dX6_write_45 : decode cX6_write 45 = .ok (.invokestatic 303, 3) := by decide +kernel
theorem dX6_write_48 : decode cX6_write 48 = .ok (.istore 4, 2) := by decide +kernel
theorem dX6_write_50 : decode cX6_write 50 = .ok (.iconst 0, 1) := by decide +kernel
theorem dX6_write_51 : decode cX6_write 51 = .ok (.istore 5, 2) := by decide +kernel
theorem dX6_write_53 : decode cX6_write 53 = .ok (.iload 5, 2) := by decide +kernel
theorem dX6_write_55 : decode cX6_write 55 = .ok (.iload 4, 2) := by decide +kernel
theorem dX6_write_57 : decode cX6_write 57 = .ok (.if_icmp .ge 58, 3) := by decide +kernel
theorem dX6_write_60 : decode cX6_write 60 = .ok (.aload_n 0, 1) := by decide +kernel
theorem dX6_write_61 : decode cX6_write 61 = .ok (.getfield 26, 3) := by decide +kernel
theorem dX6_write_64 : decode cX6_write 64 = .ok (.getfield 137, 3) := by decide +kernel
theorem dX6_write_67 : decode cX6_write 67 = .ok (.iload_n 1, 1) := by decide +kernel
theorem dX6_write_68 : decode cX6_write 68 = .ok (.iload 5, 2) := by decide +kernel
theorem dX6_write_70 : decode cX6_write 70 = .ok (.iadd, 1) := by decide +kernel
theorem dX6_write_71 : decode cX6_write 71 = .ok (.iaload, 1) := by decide +kernel
theorem dX6_write_72 : decode cX6_write 72 = .ok (.ifCond .ne 7, 3) := by decide +kernel
theorem dX6_write_75 : decode cX6_write 75 = .ok (.iconst 1, 1) := by decide +kernel
theorem dX6_write_76 : decode cX6_write 76 = .ok (.goto 4, 3) := by decide +kernel
theorem dX6_write_79 : decode cX6_write 79 = .ok (.iconst 0, 1) := by decide +kernel
theorem dX6_write_80 : decode cX6_write 80 = .ok (.istore 6, 2) := by decide +kernel
theorem dX6_write_82 : decode cX6_write 82 = .ok (.aload_n 3, 1) := by decide +kernel
theorem dX6_write_83 : decode cX6_write 83 = .ok (.iload 5, 2) := by decide +kernel
theorem dX6_write_85 : decode cX6_write 85 = .ok (.iload 6, 2) := by decide +kernel
theorem dX6_write_87 : decode cX6_write 87 = .ok (.ifCond .eq 18, 3) := by decide +kernel
theorem dX6_write_90 : decode cX6_write 90 = .ok (.aload_n 0, 1) := by decide +kernel
theorem dX6_write_91 : decode cX6_write 91 = .ok (.getfield 26, 3) := by decide +kernel
theorem dX6_write_94 : decode cX6_write 94 = .ok (.getfield 140, 3) := by decide +kernel
theorem dX6_write_97 : decode cX6_write 97 = .ok (.iload_n 1, 1) := by decide +kernel
theorem dX6_write_98 : decode cX6_write 98 = .ok (.iload 5, 2) := by decide +kernel
theorem dX6_write_100 : decode cX6_write 100 = .ok (.iadd, 1) := by decide +kernel
theorem dX6_write_101 : decode cX6_write 101 = .ok (.iaload, 1) := by decide +kernel
theorem dX6_write_102 : decode cX6_write 102 = .ok (.goto 4, 3) := by decide +kernel
theorem dX6_write_105 : decode cX6_write 105 = .ok (.iconst (-1), 1) := by decide +kernel
theorem dX6_write_106 : decode cX6_write 106 = .ok (.invokevirtual 284, 3) := by decide +kernel
theorem dX6_write_109 : decode cX6_write 109 = .ok (.iinc 5 1, 3) := by decide +kernel
theorem dX6_write_112 : decode cX6_write 112 = .ok (.goto (-59), 3) := by decide +kernel
theorem dX6_write_115 : decode cX6_write 115 = .ok (.iload 4, 2) := by decide +kernel
theorem dX6_write_117 : decode cX6_write 117 = .ok (.ireturn, 1) := by decide +kernel
set_option maxRecDepth 20000 in
theorem ggX6_count_X6_sisterYears : GoodIn wsX6_count wsX6_sisterYears := goodIn_r _ [17, 18, 19, 20, 21, 22, 23, 24, 25, 26, 27, 28] (by decide +kernel) (by decide +kernel)
set_option maxRecDepth 20000 in
theorem gX6_count_X6_sisterYears : GoodIn wsX6_count (wsV RX6 317 RX6 yX6_sisterYears wsX6_sisterYears) := goodIn_app (goodIn_of _ (by decide +kernel)) ggX6_count_X6_sisterYears
theorem dX6_count_0 : decode cX6_count 0 = .ok (.iload_n 1, 1) := by decide +kernel
theorem dX6_count_1 : decode cX6_count 1 = .ok (.tableswitch 117 0 8 #[51, 59, 67, 75, 83, 91, 99, 104, 112], 51) := by decide +kernel
theorem dX6_count_52 : decode cX6_count 52 = .ok (.aload_n 0, 1) := by decide +kernel
theorem dX6_count_53 : decode cX6_count 53 = .ok (.getfield 10, 3) := by decide +kernel
theorem dX6_count_56 : decode cX6_count 56 = .ok (.getfield 102, 3) := by decide +kernel
theorem dX6_count_59 : decode cX6_count 59 = .ok (.ireturn, 1) := by decide +kernel
theorem dX6_count_60 : decode cX6_count 60 = .ok (.aload_n 0, 1) := by decide +kernel
theorem dX6_count_61 : decode cX6_count 61 = .ok (.getfield 19, 3) := by decide +kernel
theorem dX6_count_64 : decode cX6_count 64 = .ok (.getfield 127, 3) := by decide +kernel
theorem dX6_count_67 : decode cX6_count 67 = .ok (.ireturn, 1) := by decide +kernel
theorem dX6_count_68 : decode cX6_count 68 = .ok (.aload_n 0, 1) := by decide +kernel
theorem dX6_count_69 : decode cX6_count 69 = .ok (.getfield 33, 3) := by decide +kernel
theorem dX6_count_72 : decode cX6_count 72 = .ok (.getfield 170, 3) := by decide +kernel
theorem dX6_count_75 : decode cX6_count 75 = .ok (.ireturn, 1) := by decide +kernel
theorem dX6_count_76 : decode cX6_count 76 = .ok (.aload_n 0, 1) := by decide +kernel
theorem dX6_count_77 : decode cX6_count 77 = .ok (.getfield 33, 3) := by decide +kernel
theorem dX6_count_80 : decode cX6_count 80 = .ok (.getfield 308, 3) := by decide +kernel
theorem dX6_count_83 : decode cX6_count 83 = .ok (.ireturn, 1) := by decide +kernel
theorem dX6_count_84 : decode cX6_count 84 = .ok (.aload_n 0, 1) := by decide +kernel
theorem dX6_count_85 : decode cX6_count 85 = .ok (.getfield 33, 3) := by decide +kernel
theorem dX6_count_88 : decode cX6_count 88 = .ok (.getfield 311, 3) := by decide +kernel
theorem dX6_count_91 : decode cX6_count 91 = .ok (.ireturn, 1) := by decide +kernel
theorem dX6_count_92 : decode cX6_count 92 = .ok (.aload_n 0, 1) := by decide +kernel
theorem dX6_count_93 : decode cX6_count 93 = .ok (.getfield 33, 3) := by decide +kernel
theorem dX6_count_96 : decode cX6_count 96 = .ok (.getfield 314, 3) := by decide +kernel
theorem dX6_count_99 : decode cX6_count 99 = .ok (.ireturn, 1) := by decide +kernel
theorem dX6_count_100 : decode cX6_count 100 = .ok (.aload_n 0, 1) := by decide +kernel
theorem dX6_count_101 : decode cX6_count 101 = .ok (.invokevirtual 317, 3) := by decide +kernel
theorem dX6_count_104 : decode cX6_count 104 = .ok (.ireturn, 1) := by decide +kernel
theorem dX6_count_105 : decode cX6_count 105 = .ok (.aload_n 0, 1) := by decide +kernel
theorem dX6_count_106 : decode cX6_count 106 = .ok (.getfield 61, 3) := by decide +kernel
theorem dX6_count_109 : decode cX6_count 109 = .ok (.getfield 245, 3) := by decide +kernel
theorem dX6_count_112 : decode cX6_count 112 = .ok (.ireturn, 1) := by decide +kernel
theorem dX6_count_113 : decode cX6_count 113 = .ok (.aload_n 0, 1) := by decide +kernel
theorem dX6_count_114 : decode cX6_count 114 = .ok (.getfield 76, 3) := by decide +kernel
theorem dX6_count_117 : decode cX6_count 117 = .ok (.ireturn, 1) := by decide +kernel
theorem dX6_count_118 : decode cX6_count 118 = .ok (.bipush (-2), 2) := by decide +kernel
theorem dX6_count_120 : decode cX6_count 120 = .ok (.ireturn, 1) := by decide +kernel
set_option maxRecDepth 20000 in
theorem ggX6_digest_X6_count : GoodIn wsX6_digest wsX6_count := goodIn_r _ [6, 7, 8, 9, 10, 11, 12, 13, 14, 15, 16, 17, 18, 19, 20, 21, 5, 22, 23, 272, 273, 274, 275, 276, 277, 278, 279, 280, 281, 282, 283, 284, 285, 286, 287, 288, 289, 290, 291, 292, 293, 294, 295, 296, 297, 298, 299, 300, 301, 302, 303, 304, 305, 306, 307, 308] (by decide +kernel) (by decide +kernel)
set_option maxRecDepth 20000 in
theorem gX6_digest_X6_count : GoodIn wsX6_digest (wsV RX6 322 RX6 yX6_count wsX6_count) := goodIn_app (goodIn_of _ (by decide +kernel)) ggX6_digest_X6_count
set_option maxRecDepth 20000 in
theorem ggX6_digest_X6_mixed : GoodIn wsX6_digest wsX6_mixed := goodIn_r _ [26, 27] (by decide +kernel) (by decide +kernel)
set_option maxRecDepth 20000 in
theorem gX6_digest_X6_mixed : GoodIn wsX6_digest (va_wsS RX6 325 yX6_mixed wsX6_mixed) := goodIn_app (goodIn_of _ (by decide +kernel)) ggX6_digest_X6_mixed
set_option maxRecDepth 20000 in
theorem ggX6_digest_X6_known : GoodIn wsX6_digest wsX6_known := goodIn_r _ [31, 32, 33, 34, 35, 36, 5, 37, 38, 39, 40, 272, 273, 274, 275, 276, 277, 278, 279, 280, 281, 309, 310] (by decide +kernel) (by decide +kernel)
set_option maxRecDepth 20000 in
theorem gX6_digest_X6_known : GoodIn wsX6_digest (wsV RX6 329 RX6 yX6_known wsX6_known) := goodIn_app (goodIn_of _ (by decide +kernel)) ggX6_digest_X6_known
set_option maxRecDepth 20000 in
theorem ggX6_digest_X6_filled : GoodIn wsX6_digest wsX6_filled := goodIn_r _ [44, 23, 32, 33, 35, 36, 5, 37, 45, 46, 47, 48, 11, 12, 49, 50, 51, 52, 53, 54, 55, 56, 57, 58, 272, 273, 274, 275, 276, 277, 278, 279, 280, 281, 309, 310, 292, 293, 294, 295, 296, 297, 298, 299, 300, 301, 302] (by decide +kernel) (by decide +kernel)
set_option maxRecDepth 20000 in
theorem gX6_digest_X6_filled : GoodIn wsX6_digest (wsV RX6 332 RX6 yX6_filled wsX6_filled) := goodIn_app (goodIn_of _ (by decide +kernel)) ggX6_digest_X6_filled
set_option maxRecDepth 20000 in
theorem ggX6_digest_X6_over : GoodIn wsX6_digest wsX6_over := goodIn_r _ [62, 11, 63, 64, 5, 65, 66, 67, 68, 69, 70, 71, 72, 73, 74, 75, 76, 77, 78, 79, 80, 81, 82, 83, 84, 85, 86, 87, 88, 272, 273, 274, 275, 276, 277, 278, 279, 280, 281, 292, 293, 294, 295, 296, 297, 298, 299, 300, 301, 302] (by decide +kernel) (by decide +kernel)
set_option maxRecDepth 20000 in
theorem gX6_digest_X6_over : GoodIn wsX6_digest (wsV RX6 335 RX6 yX6_over wsX6_over) := goodIn_app (goodIn_of _ (by decide +kernel)) ggX6_digest_X6_over
set_option maxRecDepth 20000 in
theorem ggX6_digest_X6_rare : GoodIn wsX6_digest wsX6_rare := goodIn_r _ [92, 11, 63, 64, 5, 65, 38, 39, 40, 93, 94, 95, 96, 66, 67, 68, 69, 70, 71, 72, 97, 98, 99, 100, 78, 79, 80, 81, 82, 83, 101, 102, 103, 104, 105, 106, 107, 108, 109, 110, 111, 112, 113, 114, 88, 84, 85, 86, 87, 272, 273, 274, 275, 276, 277, 278, 279, 280, 281, 292, 293, 294, 295, 296, 297, 298, 299, 300, 301, 302] (by decide +kernel) (by decide +kernel)
set_option maxRecDepth 20000 in
theorem gX6_digest_X6_rare : GoodIn wsX6_digest (wsV RX6 338 RX6 yX6_rare wsX6_rare) := goodIn_app (goodIn_of _ (by decide +kernel)) ggX6_digest_X6_rare
set_option maxRecDepth 20000 in
theorem ggX6_digest_X6_soRare : GoodIn wsX6_digest wsX6_soRare := goodIn_r _ [118, 11, 12, 49, 119, 120, 5, 121, 66, 67, 68, 69, 70, 71, 72, 97, 98, 99, 100, 78, 79, 80, 81, 82, 83, 272, 273, 274, 275, 276, 277, 278, 279, 280, 281, 292, 293, 294, 295, 296, 297, 298, 299, 300, 301, 302] (by decide +kernel) (by decide +kernel)
set_option maxRecDepth 20000 in
theorem gX6_digest_X6_soRare : GoodIn wsX6_digest (wsV RX6 342 RX6 yX6_soRare wsX6_soRare) := goodIn_app (goodIn_of _ (by decide +kernel)) ggX6_digest_X6_soRare
set_option maxRecDepth 20000 in
theorem ggX6_digest_X6_records : GoodIn wsX6_digest wsX6_records := goodIn_r _ [125, 11, 12, 126, 127, 128, 129, 130, 131, 5, 132, 133, 134, 135, 136, 137, 138, 139, 140, 141, 142, 272, 273, 274, 275, 276, 277, 278, 279, 280, 281, 292, 293, 294, 295, 296, 297, 298, 299, 300, 301, 302] (by decide +kernel) (by decide +kernel)
set_option maxRecDepth 20000 in
theorem gX6_digest_X6_records : GoodIn wsX6_digest (wsV RX6 345 RX6 yX6_records wsX6_records) := goodIn_app (goodIn_of _ (by decide +kernel)) ggX6_digest_X6_records
set_option maxRecDepth 20000 in
theorem ggX6_digest_X6_rises : GoodIn wsX6_digest wsX6_rises := goodIn_r _ [146, 11, 12, 49, 147, 148, 5, 149, 272, 273, 274, 275, 276, 277, 278, 279, 280, 281, 292, 293, 294, 295, 296, 297, 298, 299, 300, 301, 302] (by decide +kernel) (by decide +kernel)
set_option maxRecDepth 20000 in
theorem gX6_digest_X6_rises : GoodIn wsX6_digest (wsV RX6 347 RX6 yX6_rises wsX6_rises) := goodIn_app (goodIn_of _ (by decide +kernel)) ggX6_digest_X6_rises
set_option maxRecDepth 20000 in
theorem ggX6_digest_X6_changed : GoodIn wsX6_digest wsX6_changed := goodIn_r _ [153, 11, 12, 38, 39, 5, 40, 154, 155, 156, 157, 104, 105, 106, 107, 158, 159, 160, 69, 161, 71, 162, 163, 164, 165, 166, 167, 168, 169, 170, 171, 172, 173, 174, 72, 175, 176, 177, 178, 179, 180, 181, 182, 183, 134, 184, 185, 186, 187, 188, 189, 190, 49, 191, 272, 273, 274, 275, 276, 277, 278, 279, 280, 281, 292, 293, 294, 295, 296, 297, 298, 299, 300, 301, 302] (by decide +kernel) (by decide +kernel)
set_option maxRecDepth 20000 in
theorem gX6_digest_X6_changed : GoodIn wsX6_digest (wsV RX6 350 RX6 yX6_changed wsX6_changed) := goodIn_app (goodIn_of _ (by decide +kernel)) ggX6_digest_X6_changed
set_option maxRecDepth 20000 in
theorem ggX6_digest_X6_common : GoodIn wsX6_digest wsX6_common := goodIn_r _ [195, 38, 39, 5, 40, 196, 197, 198, 199, 11, 12, 50, 51, 52, 53, 23, 54, 200, 201, 202, 203, 204, 205, 206, 207, 49, 147, 148, 149, 272, 273, 274, 275, 276, 277, 278, 279, 280, 281, 292, 293, 294, 295, 296, 297, 298, 299, 300, 301, 302] (by decide +kernel) (by decide +kernel)
set_option maxRecDepth 20000 in
theorem gX6_digest_X6_common : GoodIn wsX6_digest (wsV RX6 353 RX6 yX6_common wsX6_common) := goodIn_app (goodIn_of _ (by decide +kernel)) ggX6_digest_X6_common
set_option maxRecDepth 20000 in
theorem ggX6_digest_X6_fault : GoodIn wsX6_digest wsX6_fault := goodIn_r _ [211, 16, 212, 213, 214, 215, 216, 217, 218, 219, 220, 221, 222, 223, 224, 225, 226, 227, 228, 229, 230, 231, 232, 233, 234, 235, 236, 106, 237, 238, 239, 240, 241, 272, 273, 274, 275, 276, 277, 278, 279, 280, 281, 303, 304, 305, 306, 307, 308] (by decide +kernel) (by decide +kernel)
set_option maxRecDepth 20000 in
theorem gX6_digest_X6_fault : GoodIn wsX6_digest (wsV RX6 356 RX6 yX6_fault wsX6_fault) := goodIn_app (goodIn_of _ (by decide +kernel)) ggX6_digest_X6_fault
set_option maxRecDepth 20000 in
theorem ggX6_digest_X6_best : GoodIn wsX6_digest wsX6_best := goodIn_r _ [245, 11, 246, 247, 248, 69, 249, 71, 82, 250, 251, 252, 253, 72, 83, 254, 255, 256, 257, 5, 258, 259, 260, 261, 262, 263, 97, 98, 99, 100, 78, 79, 80, 81, 66, 67, 68, 70, 272, 273, 274, 275, 276, 277, 278, 279, 280, 281, 292, 293, 294, 295, 296, 297, 298, 299, 300, 301, 302] (by decide +kernel) (by decide +kernel)
set_option maxRecDepth 20000 in
theorem gX6_digest_X6_best : GoodIn wsX6_digest (wsV RX6 359 RX6 yX6_best wsX6_best) := goodIn_app (goodIn_of _ (by decide +kernel)) ggX6_digest_X6_best
set_option maxRecDepth 20000 in
theorem ggX6_digest_X6_sure : GoodIn wsX6_digest wsX6_sure := goodIn_r _ [267, 11, 119, 120, 5, 121, 268, 269, 270, 271, 66, 67, 68, 69, 70, 71, 72, 84, 85, 86, 87, 88, 82, 78, 79, 80, 81, 83, 111, 112, 113, 114, 246, 247, 248, 249, 250, 251, 252, 253, 254, 272, 273, 274, 275, 276, 277, 278, 279, 280, 281, 292, 293, 294, 295, 296, 297, 298, 299, 300, 301, 302] (by decide +kernel) (by decide +kernel)
set_option maxRecDepth 20000 in
theorem gX6_digest_X6_sure : GoodIn wsX6_digest (wsV RX6 362 RX6 yX6_sure wsX6_sure) := goodIn_app (goodIn_of _ (by decide +kernel)) ggX6_digest_X6_sure
theorem dX6_digest_0 : decode cX6_digest 0 = .ok (.ldc2_w 320, 3) := by decide +kernel
theorem dX6_digest_3 : decode cX6_digest 3 = .ok (.lstore_n 1, 1) := by decide +kernel
theorem dX6_digest_4 : decode cX6_digest 4 = .ok (.iconst 0, 1) := by decide +kernel
theorem dX6_digest_5 : decode cX6_digest 5 = .ok (.istore_n 3, 1) := by decide +kernel
theorem dX6_digest_6 : decode cX6_digest 6 = .ok (.iload_n 3, 1) := by decide +kernel
theorem dX6_digest_7 : decode cX6_digest 7 = .ok (.bipush 7, 2) := by decide +kernel
theorem dX6_digest_9 : decode cX6_digest 9 = .ok (.if_icmp .gt 20, 3) := by decide +kernel
theorem dX6_digest_12 : decode cX6_digest 12 = .ok (.lload_n 1, 1) := by decide +kernel
theorem dX6_digest_13 : decode cX6_digest 13 = .ok (.aload_n 0, 1) := by decide +kernel
theorem dX6_digest_14 : decode cX6_digest 14 = .ok (.iload_n 3, 1) := by decide +kernel
theorem dX6_digest_15 : decode cX6_digest 15 = .ok (.invokevirtual 322, 3) := by decide +kernel
theorem dX6_digest_18 : decode cX6_digest 18 = .ok (.i2l, 1) := by decide +kernel
theorem dX6_digest_19 : decode cX6_digest 19 = .ok (.invokestatic 325, 3) := by decide +kernel
theorem dX6_digest_22 : decode cX6_digest 22 = .ok (.lstore_n 1, 1) := by decide +kernel
theorem dX6_digest_23 : decode cX6_digest 23 = .ok (.iinc 3 1, 3) := by decide +kernel
theorem dX6_digest_26 : decode cX6_digest 26 = .ok (.goto (-20), 3) := by decide +kernel
theorem dX6_digest_29 : decode cX6_digest 29 = .ok (.iconst 0, 1) := by decide +kernel
theorem dX6_digest_30 : decode cX6_digest 30 = .ok (.istore_n 3, 1) := by decide +kernel
theorem dX6_digest_31 : decode cX6_digest 31 = .ok (.iload_n 3, 1) := by decide +kernel
theorem dX6_digest_32 : decode cX6_digest 32 = .ok (.bipush 60, 2) := by decide +kernel
theorem dX6_digest_34 : decode cX6_digest 34 = .ok (.if_icmp .ge 45, 3) := by decide +kernel
theorem dX6_digest_37 : decode cX6_digest 37 = .ok (.lload_n 1, 1) := by decide +kernel
theorem dX6_digest_38 : decode cX6_digest 38 = .ok (.aload_n 0, 1) := by decide +kernel
theorem dX6_digest_39 : decode cX6_digest 39 = .ok (.iload_n 3, 1) := by decide +kernel
theorem dX6_digest_40 : decode cX6_digest 40 = .ok (.iconst 0, 1) := by decide +kernel
theorem dX6_digest_41 : decode cX6_digest 41 = .ok (.invokevirtual 329, 3) := by decide +kernel
theorem dX6_digest_44 : decode cX6_digest 44 = .ok (.i2l, 1) := by decide +kernel
theorem dX6_digest_45 : decode cX6_digest 45 = .ok (.invokestatic 325, 3) := by decide +kernel
theorem dX6_digest_48 : decode cX6_digest 48 = .ok (.lstore_n 1, 1) := by decide +kernel
theorem dX6_digest_49 : decode cX6_digest 49 = .ok (.lload_n 1, 1) := by decide +kernel
theorem dX6_digest_50 : decode cX6_digest 50 = .ok (.aload_n 0, 1) := by decide +kernel
theorem dX6_digest_51 : decode cX6_digest 51 = .ok (.iload_n 3, 1) := by decide +kernel
theorem dX6_digest_52 : decode cX6_digest 52 = .ok (.iconst 1, 1) := by decide +kernel
theorem dX6_digest_53 : decode cX6_digest 53 = .ok (.invokevirtual 329, 3) := by decide +kernel
theorem dX6_digest_56 : decode cX6_digest 56 = .ok (.i2l, 1) := by decide +kernel
theorem dX6_digest_57 : decode cX6_digest 57 = .ok (.invokestatic 325, 3) := by decide +kernel
theorem dX6_digest_60 : decode cX6_digest 60 = .ok (.lstore_n 1, 1) := by decide +kernel
theorem dX6_digest_61 : decode cX6_digest 61 = .ok (.lload_n 1, 1) := by decide +kernel
theorem dX6_digest_62 : decode cX6_digest 62 = .ok (.aload_n 0, 1) := by decide +kernel
theorem dX6_digest_63 : decode cX6_digest 63 = .ok (.iload_n 3, 1) := by decide +kernel
theorem dX6_digest_64 : decode cX6_digest 64 = .ok (.iconst 0, 1) := by decide +kernel
theorem dX6_digest_65 : decode cX6_digest 65 = .ok (.invokevirtual 332, 3) := by decide +kernel
theorem dX6_digest_68 : decode cX6_digest 68 = .ok (.i2l, 1) := by decide +kernel
theorem dX6_digest_69 : decode cX6_digest 69 = .ok (.invokestatic 325, 3) := by decide +kernel
theorem dX6_digest_72 : decode cX6_digest 72 = .ok (.lstore_n 1, 1) := by decide +kernel
theorem dX6_digest_73 : decode cX6_digest 73 = .ok (.iinc 3 1, 3) := by decide +kernel
theorem dX6_digest_76 : decode cX6_digest 76 = .ok (.goto (-45), 3) := by decide +kernel
theorem dX6_digest_79 : decode cX6_digest 79 = .ok (.bipush 100, 2) := by decide +kernel
theorem dX6_digest_81 : decode cX6_digest 81 = .ok (.istore_n 3, 1) := by decide +kernel
theorem dX6_digest_82 : decode cX6_digest 82 = .ok (.iload_n 3, 1) := by decide +kernel
theorem dX6_digest_83 : decode cX6_digest 83 = .ok (.sipush 500, 3) := by decide +kernel
theorem dX6_digest_86 : decode cX6_digest 86 = .ok (.if_icmp .gt 64, 3) := by decide +kernel
theorem dX6_digest_89 : decode cX6_digest 89 = .ok (.iconst 0, 1) := by decide +kernel
theorem dX6_digest_90 : decode cX6_digest 90 = .ok (.istore 4, 2) := by decide +kernel
theorem dX6_digest_92 : decode cX6_digest 92 = .ok (.iload 4, 2) := by decide +kernel
theorem dX6_digest_94 : decode cX6_digest 94 = .ok (.iconst 2, 1) := by decide +kernel
theorem dX6_digest_95 : decode cX6_digest 95 = .ok (.if_icmp .gt 22, 3) := by decide +kernel
theorem dX6_digest_98 : decode cX6_digest 98 = .ok (.lload_n 1, 1) := by decide +kernel
theorem dX6_digest_99 : decode cX6_digest 99 = .ok (.aload_n 0, 1) := by decide +kernel
theorem dX6_digest_100 : decode cX6_digest 100 = .ok (.iload_n 3, 1) := by decide +kernel
theorem dX6_digest_101 : decode cX6_digest 101 = .ok (.iload 4, 2) := by decide +kernel
theorem dX6_digest_103 : decode cX6_digest 103 = .ok (.invokevirtual 335, 3) := by decide +kernel
theorem dX6_digest_106 : decode cX6_digest 106 = .ok (.i2l, 1) := by decide +kernel
theorem dX6_digest_107 : decode cX6_digest 107 = .ok (.invokestatic 325, 3) := by decide +kernel
theorem dX6_digest_110 : decode cX6_digest 110 = .ok (.lstore_n 1, 1) := by decide +kernel
theorem dX6_digest_111 : decode cX6_digest 111 = .ok (.iinc 4 1, 3) := by decide +kernel
theorem dX6_digest_114 : decode cX6_digest 114 = .ok (.goto (-22), 3) := by decide +kernel
theorem dX6_digest_117 : decode cX6_digest 117 = .ok (.lload_n 1, 1) := by decide +kernel
theorem dX6_digest_118 : decode cX6_digest 118 = .ok (.aload_n 0, 1) := by decide +kernel
theorem dX6_digest_119 : decode cX6_digest 119 = .ok (.iload_n 3, 1) := by decide +kernel
theorem dX6_digest_120 : decode cX6_digest 120 = .ok (.iconst 0, 1) := by decide +kernel
theorem dX6_digest_121 : decode cX6_digest 121 = .ok (.iconst 0, 1) := by decide +kernel
theorem dX6_digest_122 : decode cX6_digest 122 = .ok (.invokevirtual 338, 3) := by decide +kernel
theorem dX6_digest_125 : decode cX6_digest 125 = .ok (.invokestatic 325, 3) := by decide +kernel
theorem dX6_digest_128 : decode cX6_digest 128 = .ok (.lstore_n 1, 1) := by decide +kernel
theorem dX6_digest_129 : decode cX6_digest 129 = .ok (.lload_n 1, 1) := by decide +kernel
theorem dX6_digest_130 : decode cX6_digest 130 = .ok (.aload_n 0, 1) := by decide +kernel
theorem dX6_digest_131 : decode cX6_digest 131 = .ok (.iload_n 3, 1) := by decide +kernel
theorem dX6_digest_132 : decode cX6_digest 132 = .ok (.iconst 0, 1) := by decide +kernel
theorem dX6_digest_133 : decode cX6_digest 133 = .ok (.iconst 1, 1) := by decide +kernel
theorem dX6_digest_134 : decode cX6_digest 134 = .ok (.invokevirtual 338, 3) := by decide +kernel
theorem dX6_digest_137 : decode cX6_digest 137 = .ok (.invokestatic 325, 3) := by decide +kernel
theorem dX6_digest_140 : decode cX6_digest 140 = .ok (.lstore_n 1, 1) := by decide +kernel
theorem dX6_digest_141 : decode cX6_digest 141 = .ok (.iinc 3 200, 6) := by decide +kernel
theorem dX6_digest_147 : decode cX6_digest 147 = .ok (.goto (-65), 3) := by decide +kernel
theorem dX6_digest_150 : decode cX6_digest 150 = .ok (.lload_n 1, 1) := by decide +kernel
theorem dX6_digest_151 : decode cX6_digest 151 = .ok (.aload_n 0, 1) := by decide +kernel
theorem dX6_digest_152 : decode cX6_digest 152 = .ok (.bipush 10, 2) := by decide +kernel
theorem dX6_digest_154 : decode cX6_digest 154 = .ok (.invokevirtual 342, 3) := by decide +kernel
theorem dX6_digest_157 : decode cX6_digest 157 = .ok (.i2l, 1) := by decide +kernel
theorem dX6_digest_158 : decode cX6_digest 158 = .ok (.invokestatic 325, 3) := by decide +kernel
theorem dX6_digest_161 : decode cX6_digest 161 = .ok (.lstore_n 1, 1) := by decide +kernel
theorem dX6_digest_162 : decode cX6_digest 162 = .ok (.iconst 0, 1) := by decide +kernel
theorem dX6_digest_163 : decode cX6_digest 163 = .ok (.istore_n 3, 1) := by decide +kernel
theorem dX6_digest_164 : decode cX6_digest 164 = .ok (.iload_n 3, 1) := by decide +kernel
theorem dX6_digest_165 : decode cX6_digest 165 = .ok (.iconst 2, 1) := by decide +kernel
theorem dX6_digest_166 : decode cX6_digest 166 = .ok (.if_icmp .gt 20, 3) := by decide +kernel
theorem dX6_digest_169 : decode cX6_digest 169 = .ok (.lload_n 1, 1) := by decide +kernel
theorem dX6_digest_170 : decode cX6_digest 170 = .ok (.aload_n 0, 1) := by decide +kernel
theorem dX6_digest_171 : decode cX6_digest 171 = .ok (.iload_n 3, 1) := by decide +kernel
theorem dX6_digest_172 : decode cX6_digest 172 = .ok (.invokevirtual 345, 3) := by decide +kernel
theorem dX6_digest_175 : decode cX6_digest 175 = .ok (.i2l, 1) := by decide +kernel
theorem dX6_digest_176 : decode cX6_digest 176 = .ok (.invokestatic 325, 3) := by decide +kernel
theorem dX6_digest_179 : decode cX6_digest 179 = .ok (.lstore_n 1, 1) := by decide +kernel
theorem dX6_digest_180 : decode cX6_digest 180 = .ok (.iinc 3 1, 3) := by decide +kernel
theorem dX6_digest_183 : decode cX6_digest 183 = .ok (.goto (-19), 3) := by decide +kernel
theorem dX6_digest_186 : decode cX6_digest 186 = .ok (.lload_n 1, 1) := by decide +kernel
theorem dX6_digest_187 : decode cX6_digest 187 = .ok (.aload_n 0, 1) := by decide +kernel
theorem dX6_digest_188 : decode cX6_digest 188 = .ok (.invokevirtual 347, 3) := by decide +kernel
theorem dX6_digest_191 : decode cX6_digest 191 = .ok (.i2l, 1) := by decide +kernel
theorem dX6_digest_192 : decode cX6_digest 192 = .ok (.invokestatic 325, 3) := by decide +kernel
theorem dX6_digest_195 : decode cX6_digest 195 = .ok (.lstore_n 1, 1) := by decide +kernel
theorem dX6_digest_196 : decode cX6_digest 196 = .ok (.lload_n 1, 1) := by decide +kernel
theorem dX6_digest_197 : decode cX6_digest 197 = .ok (.aload_n 0, 1) := by decide +kernel
theorem dX6_digest_198 : decode cX6_digest 198 = .ok (.iconst 0, 1) := by decide +kernel
theorem dX6_digest_199 : decode cX6_digest 199 = .ok (.invokevirtual 350, 3) := by decide +kernel
theorem dX6_digest_202 : decode cX6_digest 202 = .ok (.i2l, 1) := by decide +kernel
theorem dX6_digest_203 : decode cX6_digest 203 = .ok (.invokestatic 325, 3) := by decide +kernel
theorem dX6_digest_206 : decode cX6_digest 206 = .ok (.lstore_n 1, 1) := by decide +kernel
theorem dX6_digest_207 : decode cX6_digest 207 = .ok (.lload_n 1, 1) := by decide +kernel
theorem dX6_digest_208 : decode cX6_digest 208 = .ok (.aload_n 0, 1) := by decide +kernel
theorem dX6_digest_209 : decode cX6_digest 209 = .ok (.iconst 0, 1) := by decide +kernel
theorem dX6_digest_210 : decode cX6_digest 210 = .ok (.invokevirtual 353, 3) := by decide +kernel
theorem dX6_digest_213 : decode cX6_digest 213 = .ok (.i2l, 1) := by decide +kernel
theorem dX6_digest_214 : decode cX6_digest 214 = .ok (.invokestatic 325, 3) := by decide +kernel
theorem dX6_digest_217 : decode cX6_digest 217 = .ok (.lstore_n 1, 1) := by decide +kernel
theorem dX6_digest_218 : decode cX6_digest 218 = .ok (.lload_n 1, 1) := by decide +kernel
theorem dX6_digest_219 : decode cX6_digest 219 = .ok (.aload_n 0, 1) := by decide +kernel
theorem dX6_digest_220 : decode cX6_digest 220 = .ok (.iconst 1, 1) := by decide +kernel
theorem dX6_digest_221 : decode cX6_digest 221 = .ok (.invokevirtual 353, 3) := by decide +kernel
theorem dX6_digest_224 : decode cX6_digest 224 = .ok (.i2l, 1) := by decide +kernel
theorem dX6_digest_225 : decode cX6_digest 225 = .ok (.invokestatic 325, 3) := by decide +kernel
theorem dX6_digest_228 : decode cX6_digest 228 = .ok (.lstore_n 1, 1) := by decide +kernel
theorem dX6_digest_229 : decode cX6_digest 229 = .ok (.lload_n 1, 1) := by decide +kernel
theorem dX6_digest_230 : decode cX6_digest 230 = .ok (.aload_n 0, 1) := by decide +kernel
theorem dX6_digest_231 : decode cX6_digest 231 = .ok (.invokevirtual 356, 3) := by decide +kernel
theorem dX6_digest_234 : decode cX6_digest 234 = .ok (.i2l, 1) := by decide +kernel
theorem dX6_digest_235 : decode cX6_digest 235 = .ok (.invokestatic 325, 3) := by decide +kernel
theorem dX6_digest_238 : decode cX6_digest 238 = .ok (.lstore_n 1, 1) := by decide +kernel
theorem dX6_digest_239 : decode cX6_digest 239 = .ok (.lload_n 1, 1) := by decide +kernel
theorem dX6_digest_240 : decode cX6_digest 240 = .ok (.aload_n 0, 1) := by decide +kernel
theorem dX6_digest_241 : decode cX6_digest 241 = .ok (.invokevirtual 359, 3) := by decide +kernel
theorem dX6_digest_244 : decode cX6_digest 244 = .ok (.i2l, 1) := by decide +kernel
theorem dX6_digest_245 : decode cX6_digest 245 = .ok (.invokestatic 325, 3) := by decide +kernel
theorem dX6_digest_248 : decode cX6_digest 248 = .ok (.lstore_n 1, 1) := by decide +kernel
theorem dX6_digest_249 : decode cX6_digest 249 = .ok (.lload_n 1, 1) := by decide +kernel
theorem dX6_digest_250 : decode cX6_digest 250 = .ok (.aload_n 0, 1) := by decide +kernel
theorem dX6_digest_251 : decode cX6_digest 251 = .ok (.bipush 20, 2) := by decide +kernel
theorem dX6_digest_253 : decode cX6_digest 253 = .ok (.invokevirtual 362, 3) := by decide +kernel
theorem dX6_digest_256 : decode cX6_digest 256 = .ok (.i2l, 1) := by decide +kernel
theorem dX6_digest_257 : decode cX6_digest 257 = .ok (.invokestatic 325, 3) := by decide +kernel
theorem dX6_digest_260 : decode cX6_digest 260 = .ok (.lreturn, 1) := by decide +kernel
theorem dX6_isYear_0 : decode cX6_isYear 0 = .ok (.iload_n 0, 1) := by decide +kernel
theorem dX6_isYear_1 : decode cX6_isYear 1 = .ok (.ifCond .lt 13, 3) := by decide +kernel
theorem dX6_isYear_4 : decode cX6_isYear 4 = .ok (.iload_n 0, 1) := by decide +kernel
theorem dX6_isYear_5 : decode cX6_isYear 5 = .ok (.bipush 60, 2) := by decide +kernel
theorem dX6_isYear_7 : decode cX6_isYear 7 = .ok (.if_icmp .ge 7, 3) := by decide +kernel
theorem dX6_isYear_10 : decode cX6_isYear 10 = .ok (.iconst 1, 1) := by decide +kernel
theorem dX6_isYear_11 : decode cX6_isYear 11 = .ok (.goto 4, 3) := by decide +kernel
theorem dX6_isYear_14 : decode cX6_isYear 14 = .ok (.iconst 0, 1) := by decide +kernel
theorem dX6_isYear_15 : decode cX6_isYear 15 = .ok (.ireturn, 1) := by decide +kernel
theorem dX6_isLevel_0 : decode cX6_isLevel 0 = .ok (.iload_n 0, 1) := by decide +kernel
theorem dX6_isLevel_1 : decode cX6_isLevel 1 = .ok (.ifCond .lt 14, 3) := by decide +kernel
theorem dX6_isLevel_4 : decode cX6_isLevel 4 = .ok (.iload_n 0, 1) := by decide +kernel
theorem dX6_isLevel_5 : decode cX6_isLevel 5 = .ok (.sipush 999, 3) := by decide +kernel
theorem dX6_isLevel_8 : decode cX6_isLevel 8 = .ok (.if_icmp .gt 7, 3) := by decide +kernel
theorem dX6_isLevel_11 : decode cX6_isLevel 11 = .ok (.iconst 1, 1) := by decide +kernel
theorem dX6_isLevel_12 : decode cX6_isLevel 12 = .ok (.goto 4, 3) := by decide +kernel
theorem dX6_isLevel_15 : decode cX6_isLevel 15 = .ok (.iconst 0, 1) := by decide +kernel
theorem dX6_isLevel_16 : decode cX6_isLevel 16 = .ok (.ireturn, 1) := by decide +kernel
theorem dX6_isEither_0 : decode cX6_isEither 0 = .ok (.iload_n 0, 1) := by decide +kernel
theorem dX6_isEither_1 : decode cX6_isEither 1 = .ok (.ifCond .eq 8, 3) := by decide +kernel
theorem dX6_isEither_4 : decode cX6_isEither 4 = .ok (.iload_n 0, 1) := by decide +kernel
theorem dX6_isEither_5 : decode cX6_isEither 5 = .ok (.iconst 1, 1) := by decide +kernel
theorem dX6_isEither_6 : decode cX6_isEither 6 = .ok (.if_icmp .ne 7, 3) := by decide +kernel
theorem dX6_isEither_9 : decode cX6_isEither 9 = .ok (.iconst 1, 1) := by decide +kernel
theorem dX6_isEither_10 : decode cX6_isEither 10 = .ok (.goto 4, 3) := by decide +kernel
theorem dX6_isEither_13 : decode cX6_isEither 13 = .ok (.iconst 0, 1) := by decide +kernel
theorem dX6_isEither_14 : decode cX6_isEither 14 = .ok (.ireturn, 1) := by decide +kernel
theorem dX6_isHundredths_0 : decode cX6_isHundredths 0 = .ok (.iload_n 0, 1) := by decide +kernel
theorem dX6_isHundredths_1 : decode cX6_isHundredths 1 = .ok (.ifCond .lt 13, 3) := by decide +kernel
theorem dX6_isHundredths_4 : decode cX6_isHundredths 4 = .ok (.iload_n 0, 1) := by decide +kernel
theorem dX6_isHundredths_5 : decode cX6_isHundredths 5 = .ok (.bipush 100, 2) := by decide +kernel
theorem dX6_isHundredths_7 : decode cX6_isHundredths 7 = .ok (.if_icmp .gt 7, 3) := by decide +kernel
theorem dX6_isHundredths_10 : decode cX6_isHundredths 10 = .ok (.iconst 1, 1) := by decide +kernel
theorem dX6_isHundredths_11 : decode cX6_isHundredths 11 = .ok (.goto 4, 3) := by decide +kernel
theorem dX6_isHundredths_14 : decode cX6_isHundredths 14 = .ok (.iconst 0, 1) := by decide +kernel
theorem dX6_isHundredths_15 : decode cX6_isHundredths 15 = .ok (.ireturn, 1) := by decide +kernel
theorem dX6_isSixteenths_0 : decode cX6_isSixteenths 0 = .ok (.iload_n 0, 1) := by decide +kernel
theorem dX6_isSixteenths_1 : decode cX6_isSixteenths 1 = .ok (.ifCond .lt 13, 3) := by decide +kernel
theorem dX6_isSixteenths_4 : decode cX6_isSixteenths 4 = .ok (.iload_n 0, 1) := by decide +kernel
theorem dX6_isSixteenths_5 : decode cX6_isSixteenths 5 = .ok (.bipush 16, 2) := by decide +kernel
theorem dX6_isSixteenths_7 : decode cX6_isSixteenths 7 = .ok (.if_icmp .gt 7, 3) := by decide +kernel
theorem dX6_isSixteenths_10 : decode cX6_isSixteenths 10 = .ok (.iconst 1, 1) := by decide +kernel
theorem dX6_isSixteenths_11 : decode cX6_isSixteenths 11 = .ok (.goto 4, 3) := by decide +kernel
theorem dX6_isSixteenths_14 : decode cX6_isSixteenths 14 = .ok (.iconst 0, 1) := by decide +kernel
theorem dX6_isSixteenths_15 : decode cX6_isSixteenths 15 = .ok (.ireturn, 1) := by decide +kernel
theorem dX6_isSheet_0 : decode cX6_isSheet 0 = .ok (.iload_n 0, 1) := by decide +kernel
theorem dX6_isSheet_1 : decode cX6_isSheet 1 = .ok (.ifCond .lt 12, 3) := by decide +kernel
theorem dX6_isSheet_4 : decode cX6_isSheet 4 = .ok (.iload_n 0, 1) := by decide +kernel
theorem dX6_isSheet_5 : decode cX6_isSheet 5 = .ok (.iconst 4, 1) := by decide +kernel
theorem dX6_isSheet_6 : decode cX6_isSheet 6 = .ok (.if_icmp .ge 7, 3) := by decide +kernel
theorem dX6_isSheet_9 : decode cX6_isSheet 9 = .ok (.iconst 1, 1) := by decide +kernel
theorem dX6_isSheet_10 : decode cX6_isSheet 10 = .ok (.goto 4, 3) := by decide +kernel
theorem dX6_isSheet_13 : decode cX6_isSheet 13 = .ok (.iconst 0, 1) := by decide +kernel
theorem dX6_isSheet_14 : decode cX6_isSheet 14 = .ok (.ireturn, 1) := by decide +kernel
theorem dX6_isForm_0 : decode cX6_isForm 0 = .ok (.iload_n 0, 1) := by decide +kernel
theorem dX6_isForm_1 : decode cX6_isForm 1 = .ok (.ifCond .lt 12, 3) := by decide +kernel
theorem dX6_isForm_4 : decode cX6_isForm 4 = .ok (.iload_n 0, 1) := by decide +kernel
theorem dX6_isForm_5 : decode cX6_isForm 5 = .ok (.iconst 2, 1) := by decide +kernel
theorem dX6_isForm_6 : decode cX6_isForm 6 = .ok (.if_icmp .gt 7, 3) := by decide +kernel
theorem dX6_isForm_9 : decode cX6_isForm 9 = .ok (.iconst 1, 1) := by decide +kernel
theorem dX6_isForm_10 : decode cX6_isForm 10 = .ok (.goto 4, 3) := by decide +kernel
theorem dX6_isForm_13 : decode cX6_isForm 13 = .ok (.iconst 0, 1) := by decide +kernel
theorem dX6_isForm_14 : decode cX6_isForm 14 = .ok (.ireturn, 1) := by decide +kernel
set_option maxRecDepth 20000 in
theorem ggX6_mayBeTold_X6_isLevel : GoodIn wsX6_mayBeTold wsX6_isLevel := goodIn_r _ [4] (by decide +kernel) (by decide +kernel)
set_option maxRecDepth 20000 in
theorem gX6_mayBeTold_X6_isLevel : GoodIn wsX6_mayBeTold (va_wsS RX6 120 yX6_isLevel wsX6_isLevel) := goodIn_app (goodIn_of _ (by decide +kernel)) ggX6_mayBeTold_X6_isLevel
theorem dX6_mayBeTold_0 : decode cX6_mayBeTold 0 = .ok (.iload_n 0, 1) := by decide +kernel
theorem dX6_mayBeTold_1 : decode cX6_mayBeTold 1 = .ok (.ifCond .ne 8, 3) := by decide +kernel
theorem dX6_mayBeTold_4 : decode cX6_mayBeTold 4 = .ok (.iload_n 1, 1) := by decide +kernel
theorem dX6_mayBeTold_5 : decode cX6_mayBeTold 5 = .ok (.invokestatic 120, 3) := by decide +kernel
theorem dX6_mayBeTold_8 : decode cX6_mayBeTold 8 = .ok (.ireturn, 1) := by decide +kernel
theorem dX6_mayBeTold_9 : decode cX6_mayBeTold 9 = .ok (.iload_n 0, 1) := by decide +kernel
theorem dX6_mayBeTold_10 : decode cX6_mayBeTold 10 = .ok (.iconst 1, 1) := by decide +kernel
theorem dX6_mayBeTold_11 : decode cX6_mayBeTold 11 = .ok (.if_icmp .ne 20, 3) := by decide +kernel
theorem dX6_mayBeTold_14 : decode cX6_mayBeTold 14 = .ok (.iload_n 1, 1) := by decide +kernel
theorem dX6_mayBeTold_15 : decode cX6_mayBeTold 15 = .ok (.invokestatic 120, 3) := by decide +kernel
theorem dX6_mayBeTold_18 : decode cX6_mayBeTold 18 = .ok (.ifCond .eq 11, 3) := by decide +kernel
theorem dX6_mayBeTold_21 : decode cX6_mayBeTold 21 = .ok (.iload_n 1, 1) := by decide +kernel
theorem dX6_mayBeTold_22 : decode cX6_mayBeTold 22 = .ok (.ifCond .le 7, 3) := by decide +kernel
theorem dX6_mayBeTold_25 : decode cX6_mayBeTold 25 = .ok (.iconst 1, 1) := by decide +kernel
theorem dX6_mayBeTold_26 : decode cX6_mayBeTold 26 = .ok (.goto 4, 3) := by decide +kernel
theorem dX6_mayBeTold_29 : decode cX6_mayBeTold 29 = .ok (.iconst 0, 1) := by decide +kernel
theorem dX6_mayBeTold_30 : decode cX6_mayBeTold 30 = .ok (.ireturn, 1) := by decide +kernel
theorem dX6_mayBeTold_31 : decode cX6_mayBeTold 31 = .ok (.iload_n 0, 1) := by decide +kernel
theorem dX6_mayBeTold_32 : decode cX6_mayBeTold 32 = .ok (.iconst 2, 1) := by decide +kernel
theorem dX6_mayBeTold_33 : decode cX6_mayBeTold 33 = .ok (.if_icmp .ne 7, 3) := by decide +kernel
theorem dX6_mayBeTold_36 : decode cX6_mayBeTold 36 = .ok (.iconst 1, 1) := by decide +kernel
theorem dX6_mayBeTold_37 : decode cX6_mayBeTold 37 = .ok (.goto 4, 3) := by decide +kernel
theorem dX6_mayBeTold_40 : decode cX6_mayBeTold 40 = .ok (.iconst 0, 1) := by decide +kernel
theorem dX6_mayBeTold_41 : decode cX6_mayBeTold 41 = .ok (.ireturn, 1) := by decide +kernel
theorem dX6_isTimeToTell_0 : decode cX6_isTimeToTell 0 = .ok (.iload_n 1, 1) := by decide +kernel
theorem dX6_isTimeToTell_1 : decode cX6_isTimeToTell 1 = .ok (.aload_n 0, 1) := by decide +kernel
theorem dX6_isTimeToTell_2 : decode cX6_isTimeToTell 2 = .ok (.getfield 10, 3) := by decide +kernel
theorem dX6_isTimeToTell_5 : decode cX6_isTimeToTell 5 = .ok (.getfield 365, 3) := by decide +kernel
theorem dX6_isTimeToTell_8 : decode cX6_isTimeToTell 8 = .ok (.if_icmp .lt 14, 3) := by decide +kernel
theorem dX6_isTimeToTell_11 : decode cX6_isTimeToTell 11 = .ok (.iload_n 1, 1) := by decide +kernel
theorem dX6_isTimeToTell_12 : decode cX6_isTimeToTell 12 = .ok (.sipush 999, 3) := by decide +kernel
theorem dX6_isTimeToTell_15 : decode cX6_isTimeToTell 15 = .ok (.if_icmp .gt 7, 3) := by decide +kernel
theorem dX6_isTimeToTell_18 : decode cX6_isTimeToTell 18 = .ok (.iconst 1, 1) := by decide +kernel
theorem dX6_isTimeToTell_19 : decode cX6_isTimeToTell 19 = .ok (.goto 4, 3) := by decide +kernel
theorem dX6_isTimeToTell_22 : decode cX6_isTimeToTell 22 = .ok (.iconst 0, 1) := by decide +kernel
theorem dX6_isTimeToTell_23 : decode cX6_isTimeToTell 23 = .ok (.ireturn, 1) := by decide +kernel
theorem dX6_counts_0 : decode cX6_counts 0 = .ok (.iload_n 1, 1) := by decide +kernel
theorem dX6_counts_1 : decode cX6_counts 1 = .ok (.aload_n 0, 1) := by decide +kernel
theorem dX6_counts_2 : decode cX6_counts 2 = .ok (.getfield 46, 3) := by decide +kernel
theorem dX6_counts_5 : decode cX6_counts 5 = .ok (.iconst 1, 1) := by decide +kernel
theorem dX6_counts_6 : decode cX6_counts 6 = .ok (.iaload, 1) := by decide +kernel
theorem dX6_counts_7 : decode cX6_counts 7 = .ok (.if_icmp .lt 17, 3) := by decide +kernel
theorem dX6_counts_10 : decode cX6_counts 10 = .ok (.iload_n 1, 1) := by decide +kernel
theorem dX6_counts_11 : decode cX6_counts 11 = .ok (.aload_n 0, 1) := by decide +kernel
theorem dX6_counts_12 : decode cX6_counts 12 = .ok (.getfield 46, 3) := by decide +kernel
theorem dX6_counts_15 : decode cX6_counts 15 = .ok (.iconst 2, 1) := by decide +kernel
theorem dX6_counts_16 : decode cX6_counts 16 = .ok (.iaload, 1) := by decide +kernel
theorem dX6_counts_17 : decode cX6_counts 17 = .ok (.if_icmp .gt 7, 3) := by decide +kernel
theorem dX6_counts_20 : decode cX6_counts 20 = .ok (.iconst 1, 1) := by decide +kernel
theorem dX6_counts_21 : decode cX6_counts 21 = .ok (.goto 4, 3) := by decide +kernel
theorem dX6_counts_24 : decode cX6_counts 24 = .ok (.iconst 0, 1) := by decide +kernel
theorem dX6_counts_25 : decode cX6_counts 25 = .ok (.ireturn, 1) := by decide +kernel
theorem dX6_longRefusal_0 : decode cX6_longRefusal 0 = .ok (.ldc2_w 368, 3) := by decide +kernel
theorem dX6_longRefusal_3 : decode cX6_longRefusal 3 = .ok (.iload_n 0, 1) := by decide +kernel
theorem dX6_longRefusal_4 : decode cX6_longRefusal 4 = .ok (.i2l, 1) := by decide +kernel
theorem dX6_longRefusal_5 : decode cX6_longRefusal 5 = .ok (.lsub, 1) := by decide +kernel
theorem dX6_longRefusal_6 : decode cX6_longRefusal 6 = .ok (.lreturn, 1) := by decide +kernel
theorem dX6_found_0 : decode cX6_found 0 = .ok (.aload_n 0, 1) := by decide +kernel
theorem dX6_found_1 : decode cX6_found 1 = .ok (.iload_n 1, 1) := by decide +kernel
theorem dX6_found_2 : decode cX6_found 2 = .ok (.putfield 76, 3) := by decide +kernel
theorem dX6_found_5 : decode cX6_found 5 = .ok (.bipush (-10), 2) := by decide +kernel
theorem dX6_found_7 : decode cX6_found 7 = .ok (.iload_n 1, 1) := by decide +kernel
theorem dX6_found_8 : decode cX6_found 8 = .ok (.isub, 1) := by decide +kernel
theorem dX6_found_9 : decode cX6_found 9 = .ok (.ireturn, 1) := by decide +kernel
set_option maxRecDepth 20000 in
theorem ggX6_findingAt_X3_holds : GoodIn wsX6_findingAt wsX3_holds := goodIn_r _ [7, 8, 9, 10, 11, 12] (by decide +kernel) (by decide +kernel)
set_option maxRecDepth 20000 in
theorem gX6_findingAt_X3_holds : GoodIn wsX6_findingAt (wsV RX6 291 RX3 yX3_holds wsX3_holds) := goodIn_app (goodIn_of _ (by decide +kernel)) ggX6_findingAt_X3_holds
theorem dX6_findingAt_0 : decode cX6_findingAt 0 = .ok (.aload_n 0, 1) := by decide +kernel
theorem dX6_findingAt_1 : decode cX6_findingAt 1 = .ok (.getfield 108, 3) := by decide +kernel
theorem dX6_findingAt_4 : decode cX6_findingAt 4 = .ok (.ifCond .eq 5, 3) := by decide +kernel
theorem dX6_findingAt_7 : decode cX6_findingAt 7 = .ok (.iconst 1, 1) := by decide +kernel
theorem dX6_findingAt_8 : decode cX6_findingAt 8 = .ok (.ireturn, 1) := by decide +kernel
theorem dX6_findingAt_9 : decode cX6_findingAt 9 = .ok (.aload_n 0, 1) := by decide +kernel
theorem dX6_findingAt_10 : decode cX6_findingAt 10 = .ok (.getfield 288, 3) := by decide +kernel
theorem dX6_findingAt_13 : decode cX6_findingAt 13 = .ok (.iload_n 1, 1) := by decide +kernel
theorem dX6_findingAt_14 : decode cX6_findingAt 14 = .ok (.if_icmp .eq 5, 3) := by decide +kernel
theorem dX6_findingAt_17 : decode cX6_findingAt 17 = .ok (.iconst 3, 1) := by decide +kernel
theorem dX6_findingAt_18 : decode cX6_findingAt 18 = .ok (.ireturn, 1) := by decide +kernel
theorem dX6_findingAt_19 : decode cX6_findingAt 19 = .ok (.aload_n 0, 1) := by decide +kernel
theorem dX6_findingAt_20 : decode cX6_findingAt 20 = .ok (.iload_n 2, 1) := by decide +kernel
theorem dX6_findingAt_21 : decode cX6_findingAt 21 = .ok (.iconst 1, 1) := by decide +kernel
theorem dX6_findingAt_22 : decode cX6_findingAt 22 = .ok (.invokevirtual 291, 3) := by decide +kernel
theorem dX6_findingAt_25 : decode cX6_findingAt 25 = .ok (.ifCond .eq 7, 3) := by decide +kernel
theorem dX6_findingAt_28 : decode cX6_findingAt 28 = .ok (.iconst 0, 1) := by decide +kernel
theorem dX6_findingAt_29 : decode cX6_findingAt 29 = .ok (.goto 4, 3) := by decide +kernel
theorem dX6_findingAt_32 : decode cX6_findingAt 32 = .ok (.iconst 2, 1) := by decide +kernel
theorem dX6_findingAt_33 : decode cX6_findingAt 33 = .ok (.ireturn, 1) := by decide +kernel
set_option maxRecDepth 20000 in
theorem ggX6_settle_X2_forget : GoodIn wsX6_settle wsX2_forget := goodIn_r _ [16, 17, 18, 19, 20, 21, 22, 85, 86] (by decide +kernel) (by decide +kernel)
set_option maxRecDepth 20000 in
theorem gX6_settle_X2_forget : GoodIn wsX6_settle (wsV RX6 370 RX2 yX2_forget wsX2_forget) := goodIn_app (goodIn_of _ (by decide +kernel)) ggX6_settle_X2_forget
set_option maxRecDepth 20000 in
theorem ggX6_settle_X2_put : GoodIn wsX6_settle wsX2_put := goodIn_r _ [26, 17, 18, 27, 28, 29, 85, 86] (by decide +kernel) (by decide +kernel)
set_option maxRecDepth 20000 in
theorem gX6_settle_X2_put : GoodIn wsX6_settle (wsV RX6 381 RX2 yX2_put wsX2_put) := goodIn_app (goodIn_of _ (by decide +kernel)) ggX6_settle_X2_put
set_option maxRecDepth 20000 in
theorem ggX6_settle_X5_leastAt : GoodIn wsX6_settle wsX5_leastAt := goodIn_r _ [34, 35, 36, 37, 38, 87, 88, 89, 90] (by decide +kernel) (by decide +kernel)
set_option maxRecDepth 20000 in
theorem gX6_settle_X5_leastAt : GoodIn wsX6_settle (wsV RX6 383 RX5 yX5_leastAt wsX5_leastAt) := goodIn_app (goodIn_of _ (by decide +kernel)) ggX6_settle_X5_leastAt
set_option maxRecDepth 20000 in
theorem ggX6_settle_X0_gather : GoodIn wsX6_settle wsX0_gather := goodIn_r _ [43, 44, 45, 46, 47, 48, 49, 50, 51, 52, 53, 54, 55, 56, 42, 57, 58, 59, 60, 61, 62, 63, 64, 65, 66, 67, 68, 91, 92, 93, 94, 95, 96, 97, 98, 99, 100, 101, 85, 86] (by decide +kernel) (by decide +kernel)
set_option maxRecDepth 20000 in
theorem gX6_settle_X0_gather : GoodIn wsX6_settle (wsV RX6 386 RX0 yX0_gather wsX0_gather) := goodIn_app (goodIn_of _ (by decide +kernel)) ggX6_settle_X0_gather
