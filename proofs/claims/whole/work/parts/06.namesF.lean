theorem dX7_recordsOf_0 : decode cX7_recordsOf 0 = .ok (.aload_n 0, 1) := by decide +kernel
theorem dX7_recordsOf_1 : decode cX7_recordsOf 1 = .ok (.invokevirtual 151, 3) := by decide +kernel
theorem dX7_recordsOf_4 : decode cX7_recordsOf 4 = .ok (.iconst 0, 1) := by decide +kernel
theorem dX7_recordsOf_5 : decode cX7_recordsOf 5 = .ok (.istore_n 2, 1) := by decide +kernel
theorem dX7_recordsOf_6 : decode cX7_recordsOf 6 = .ok (.iconst (-1), 1) := by decide +kernel
theorem dX7_recordsOf_7 : decode cX7_recordsOf 7 = .ok (.istore_n 3, 1) := by decide +kernel
theorem dX7_recordsOf_8 : decode cX7_recordsOf 8 = .ok (.iconst 0, 1) := by decide +kernel
theorem dX7_recordsOf_9 : decode cX7_recordsOf 9 = .ok (.istore 4, 2) := by decide +kernel
theorem dX7_recordsOf_11 : decode cX7_recordsOf 11 = .ok (.iconst (-1), 1) := by decide +kernel
theorem dX7_recordsOf_12 : decode cX7_recordsOf 12 = .ok (.istore 5, 2) := by decide +kernel
theorem dX7_recordsOf_14 : decode cX7_recordsOf 14 = .ok (.iconst 0, 1) := by decide +kernel
theorem dX7_recordsOf_15 : decode cX7_recordsOf 15 = .ok (.istore 6, 2) := by decide +kernel
theorem dX7_recordsOf_17 : decode cX7_recordsOf 17 = .ok (.iload 6, 2) := by decide +kernel
theorem dX7_recordsOf_19 : decode cX7_recordsOf 19 = .ok (.aload_n 0, 1) := by decide +kernel
theorem dX7_recordsOf_20 : decode cX7_recordsOf 20 = .ok (.getfield 139, 3) := by decide +kernel
theorem dX7_recordsOf_23 : decode cX7_recordsOf 23 = .ok (.if_icmp .ge 72, 3) := by decide +kernel
theorem dX7_recordsOf_26 : decode cX7_recordsOf 26 = .ok (.aload_n 0, 1) := by decide +kernel
theorem dX7_recordsOf_27 : decode cX7_recordsOf 27 = .ok (.getfield 58, 3) := by decide +kernel
theorem dX7_recordsOf_30 : decode cX7_recordsOf 30 = .ok (.iload 6, 2) := by decide +kernel
theorem dX7_recordsOf_32 : decode cX7_recordsOf 32 = .ok (.iaload, 1) := by decide +kernel
theorem dX7_recordsOf_33 : decode cX7_recordsOf 33 = .ok (.iload 5, 2) := by decide +kernel
theorem dX7_recordsOf_35 : decode cX7_recordsOf 35 = .ok (.if_icmp .le 54, 3) := by decide +kernel
theorem dX7_recordsOf_38 : decode cX7_recordsOf 38 = .ok (.aload_n 0, 1) := by decide +kernel
theorem dX7_recordsOf_39 : decode cX7_recordsOf 39 = .ok (.getfield 55, 3) := by decide +kernel
theorem dX7_recordsOf_42 : decode cX7_recordsOf 42 = .ok (.iload 6, 2) := by decide +kernel
theorem dX7_recordsOf_44 : decode cX7_recordsOf 44 = .ok (.iaload, 1) := by decide +kernel
theorem dX7_recordsOf_45 : decode cX7_recordsOf 45 = .ok (.iload_n 3, 1) := by decide +kernel
theorem dX7_recordsOf_46 : decode cX7_recordsOf 46 = .ok (.isub, 1) := by decide +kernel
theorem dX7_recordsOf_47 : decode cX7_recordsOf 47 = .ok (.istore 7, 2) := by decide +kernel
theorem dX7_recordsOf_49 : decode cX7_recordsOf 49 = .ok (.iload_n 2, 1) := by decide +kernel
theorem dX7_recordsOf_50 : decode cX7_recordsOf 50 = .ok (.ifCond .le 15, 3) := by decide +kernel
theorem dX7_recordsOf_53 : decode cX7_recordsOf 53 = .ok (.iload 7, 2) := by decide +kernel
theorem dX7_recordsOf_55 : decode cX7_recordsOf 55 = .ok (.iload 4, 2) := by decide +kernel
theorem dX7_recordsOf_57 : decode cX7_recordsOf 57 = .ok (.if_icmp .le 8, 3) := by decide +kernel
theorem dX7_recordsOf_60 : decode cX7_recordsOf 60 = .ok (.iload 7, 2) := by decide +kernel
theorem dX7_recordsOf_62 : decode cX7_recordsOf 62 = .ok (.goto 5, 3) := by decide +kernel
theorem dX7_recordsOf_65 : decode cX7_recordsOf 65 = .ok (.iload 4, 2) := by decide +kernel
theorem dX7_recordsOf_67 : decode cX7_recordsOf 67 = .ok (.istore 4, 2) := by decide +kernel
theorem dX7_recordsOf_69 : decode cX7_recordsOf 69 = .ok (.aload_n 0, 1) := by decide +kernel
theorem dX7_recordsOf_70 : decode cX7_recordsOf 70 = .ok (.getfield 58, 3) := by decide +kernel
theorem dX7_recordsOf_73 : decode cX7_recordsOf 73 = .ok (.iload 6, 2) := by decide +kernel
theorem dX7_recordsOf_75 : decode cX7_recordsOf 75 = .ok (.iaload, 1) := by decide +kernel
theorem dX7_recordsOf_76 : decode cX7_recordsOf 76 = .ok (.istore 5, 2) := by decide +kernel
theorem dX7_recordsOf_78 : decode cX7_recordsOf 78 = .ok (.aload_n 0, 1) := by decide +kernel
theorem dX7_recordsOf_79 : decode cX7_recordsOf 79 = .ok (.getfield 55, 3) := by decide +kernel
theorem dX7_recordsOf_82 : decode cX7_recordsOf 82 = .ok (.iload 6, 2) := by decide +kernel
theorem dX7_recordsOf_84 : decode cX7_recordsOf 84 = .ok (.iaload, 1) := by decide +kernel
theorem dX7_recordsOf_85 : decode cX7_recordsOf 85 = .ok (.istore_n 3, 1) := by decide +kernel
theorem dX7_recordsOf_86 : decode cX7_recordsOf 86 = .ok (.iinc 2 1, 3) := by decide +kernel
theorem dX7_recordsOf_89 : decode cX7_recordsOf 89 = .ok (.iinc 6 1, 3) := by decide +kernel
theorem dX7_recordsOf_92 : decode cX7_recordsOf 92 = .ok (.goto (-75), 3) := by decide +kernel
theorem dX7_recordsOf_95 : decode cX7_recordsOf 95 = .ok (.iload_n 1, 1) := by decide +kernel
theorem dX7_recordsOf_96 : decode cX7_recordsOf 96 = .ok (.iconst 3, 1) := by decide +kernel
theorem dX7_recordsOf_97 : decode cX7_recordsOf 97 = .ok (.if_icmp .ne 23, 3) := by decide +kernel
theorem dX7_recordsOf_100 : decode cX7_recordsOf 100 = .ok (.aload_n 0, 1) := by decide +kernel
theorem dX7_recordsOf_101 : decode cX7_recordsOf 101 = .ok (.getfield 139, 3) := by decide +kernel
theorem dX7_recordsOf_104 : decode cX7_recordsOf 104 = .ok (.bipush 12, 2) := by decide +kernel
theorem dX7_recordsOf_106 : decode cX7_recordsOf 106 = .ok (.if_icmp .le 8, 3) := by decide +kernel
theorem dX7_recordsOf_109 : decode cX7_recordsOf 109 = .ok (.bipush (-4), 2) := by decide +kernel
theorem dX7_recordsOf_111 : decode cX7_recordsOf 111 = .ok (.goto 8, 3) := by decide +kernel
theorem dX7_recordsOf_114 : decode cX7_recordsOf 114 = .ok (.aload_n 0, 1) := by decide +kernel
theorem dX7_recordsOf_115 : decode cX7_recordsOf 115 = .ok (.iload_n 2, 1) := by decide +kernel
theorem dX7_recordsOf_116 : decode cX7_recordsOf 116 = .ok (.invokevirtual 215, 3) := by decide +kernel
theorem dX7_recordsOf_119 : decode cX7_recordsOf 119 = .ok (.ireturn, 1) := by decide +kernel
theorem dX7_recordsOf_120 : decode cX7_recordsOf 120 = .ok (.iload_n 1, 1) := by decide +kernel
theorem dX7_recordsOf_121 : decode cX7_recordsOf 121 = .ok (.ifCond .ne 7, 3) := by decide +kernel
theorem dX7_recordsOf_124 : decode cX7_recordsOf 124 = .ok (.iload_n 2, 1) := by decide +kernel
theorem dX7_recordsOf_125 : decode cX7_recordsOf 125 = .ok (.goto 14, 3) := by decide +kernel
theorem dX7_recordsOf_128 : decode cX7_recordsOf 128 = .ok (.iload_n 1, 1) := by decide +kernel
theorem dX7_recordsOf_129 : decode cX7_recordsOf 129 = .ok (.iconst 1, 1) := by decide +kernel
theorem dX7_recordsOf_130 : decode cX7_recordsOf 130 = .ok (.if_icmp .ne 7, 3) := by decide +kernel
theorem dX7_recordsOf_133 : decode cX7_recordsOf 133 = .ok (.iload_n 3, 1) := by decide +kernel
theorem dX7_recordsOf_134 : decode cX7_recordsOf 134 = .ok (.goto 5, 3) := by decide +kernel
theorem dX7_recordsOf_137 : decode cX7_recordsOf 137 = .ok (.iload 4, 2) := by decide +kernel
theorem dX7_recordsOf_139 : decode cX7_recordsOf 139 = .ok (.ireturn, 1) := by decide +kernel
set_option maxRecDepth 20000 in
theorem ggX7_records_X7_in : GoodIn wsX7_records wsX7_in := goodIn_r _ [5] (by decide +kernel) (by decide +kernel)
set_option maxRecDepth 20000 in
theorem gX7_records_X7_in : GoodIn wsX7_records (va_wsS RX7 76 yX7_in wsX7_in) := goodIn_app (goodIn_of _ (by decide +kernel)) ggX7_records_X7_in
set_option maxRecDepth 20000 in
theorem ggX7_records_X7_recordsOf : GoodIn wsX7_records wsX7_recordsOf := goodIn_r _ [9, 10, 11, 12, 13, 14, 15, 4, 16, 17, 18, 19, 20, 21, 22, 23, 24, 25, 26, 27, 28, 29, 30, 31, 32, 2, 3, 5, 33, 34, 35, 36, 37, 38, 39, 40, 41, 42, 43, 44, 45, 46, 47, 48, 49, 50, 51, 52, 53, 54, 55, 56, 57, 58, 59, 60, 61, 62, 63, 64, 65, 66, 67, 68, 69, 70, 71, 72, 73] (by decide +kernel) (by decide +kernel)
set_option maxRecDepth 20000 in
theorem gX7_records_X7_recordsOf : GoodIn wsX7_records (wsV RX7 218 RX7 yX7_recordsOf wsX7_recordsOf) := goodIn_app (goodIn_of _ (by decide +kernel)) ggX7_records_X7_recordsOf
theorem dX7_records_0 : decode cX7_records 0 = .ok (.iload_n 1, 1) := by decide +kernel
theorem dX7_records_1 : decode cX7_records 1 = .ok (.i2l, 1) := by decide +kernel
theorem dX7_records_2 : decode cX7_records 2 = .ok (.lconst 0, 1) := by decide +kernel
theorem dX7_records_3 : decode cX7_records 3 = .ok (.ldc2_w 84, 3) := by decide +kernel
theorem dX7_records_6 : decode cX7_records 6 = .ok (.invokestatic 76, 3) := by decide +kernel
theorem dX7_records_9 : decode cX7_records 9 = .ok (.ifCond .eq 11, 3) := by decide +kernel
theorem dX7_records_12 : decode cX7_records 12 = .ok (.aload_n 0, 1) := by decide +kernel
theorem dX7_records_13 : decode cX7_records 13 = .ok (.iload_n 1, 1) := by decide +kernel
theorem dX7_records_14 : decode cX7_records 14 = .ok (.invokevirtual 218, 3) := by decide +kernel
theorem dX7_records_17 : decode cX7_records 17 = .ok (.goto 5, 3) := by decide +kernel
theorem dX7_records_20 : decode cX7_records 20 = .ok (.bipush (-2), 2) := by decide +kernel
theorem dX7_records_22 : decode cX7_records 22 = .ok (.ireturn, 1) := by decide +kernel
theorem dX7_sign_0 : decode cX7_sign 0 = .ok (.iload_n 0, 1) := by decide +kernel
theorem dX7_sign_1 : decode cX7_sign 1 = .ok (.ifCond .le 7, 3) := by decide +kernel
theorem dX7_sign_4 : decode cX7_sign 4 = .ok (.iconst 1, 1) := by decide +kernel
theorem dX7_sign_5 : decode cX7_sign 5 = .ok (.goto 12, 3) := by decide +kernel
theorem dX7_sign_8 : decode cX7_sign 8 = .ok (.iload_n 0, 1) := by decide +kernel
theorem dX7_sign_9 : decode cX7_sign 9 = .ok (.ifCond .ge 7, 3) := by decide +kernel
theorem dX7_sign_12 : decode cX7_sign 12 = .ok (.iconst (-1), 1) := by decide +kernel
theorem dX7_sign_13 : decode cX7_sign 13 = .ok (.goto 4, 3) := by decide +kernel
theorem dX7_sign_16 : decode cX7_sign 16 = .ok (.iconst 0, 1) := by decide +kernel
theorem dX7_sign_17 : decode cX7_sign 17 = .ok (.ireturn, 1) := by decide +kernel
set_option maxRecDepth 20000 in
theorem ggX7_risesNow_X7_find : GoodIn wsX7_risesNow wsX7_find := goodIn_r _ [7, 8, 9, 10, 11, 12, 13, 14, 15, 1, 16, 2, 17, 18, 19, 6, 20, 21, 22, 23, 24, 25, 26, 27, 28, 29, 30, 31, 35, 36, 37, 38, 39, 40, 41, 42, 43, 44, 45, 46, 47, 48, 49, 50, 51, 52, 53, 54, 55, 56, 57, 58, 59, 60, 61, 62] (by decide +kernel) (by decide +kernel)
set_option maxRecDepth 20000 in
theorem gX7_risesNow_X7_find : GoodIn wsX7_risesNow (wsV RX7 151 RX7 yX7_find wsX7_find) := goodIn_app (goodIn_of _ (by decide +kernel)) ggX7_risesNow_X7_find
set_option maxRecDepth 20000 in
theorem ggX7_risesNow_X7_sign : GoodIn wsX7_risesNow wsX7_sign := goodIn_r _ [34] (by decide +kernel) (by decide +kernel)
set_option maxRecDepth 20000 in
theorem gX7_risesNow_X7_sign : GoodIn wsX7_risesNow (va_wsS RX7 221 yX7_sign wsX7_sign) := goodIn_app (goodIn_of _ (by decide +kernel)) ggX7_risesNow_X7_sign
theorem dX7_risesNow_0 : decode cX7_risesNow 0 = .ok (.aload_n 0, 1) := by decide +kernel
theorem dX7_risesNow_1 : decode cX7_risesNow 1 = .ok (.invokevirtual 151, 3) := by decide +kernel
theorem dX7_risesNow_4 : decode cX7_risesNow 4 = .ok (.iconst 0, 1) := by decide +kernel
theorem dX7_risesNow_5 : decode cX7_risesNow 5 = .ok (.istore_n 1, 1) := by decide +kernel
theorem dX7_risesNow_6 : decode cX7_risesNow 6 = .ok (.iconst 0, 1) := by decide +kernel
theorem dX7_risesNow_7 : decode cX7_risesNow 7 = .ok (.istore_n 2, 1) := by decide +kernel
theorem dX7_risesNow_8 : decode cX7_risesNow 8 = .ok (.iload_n 2, 1) := by decide +kernel
theorem dX7_risesNow_9 : decode cX7_risesNow 9 = .ok (.aload_n 0, 1) := by decide +kernel
theorem dX7_risesNow_10 : decode cX7_risesNow 10 = .ok (.getfield 139, 3) := by decide +kernel
theorem dX7_risesNow_13 : decode cX7_risesNow 13 = .ok (.if_icmp .ge 41, 3) := by decide +kernel
theorem dX7_risesNow_16 : decode cX7_risesNow 16 = .ok (.iconst 0, 1) := by decide +kernel
theorem dX7_risesNow_17 : decode cX7_risesNow 17 = .ok (.istore_n 3, 1) := by decide +kernel
theorem dX7_risesNow_18 : decode cX7_risesNow 18 = .ok (.iload_n 3, 1) := by decide +kernel
theorem dX7_risesNow_19 : decode cX7_risesNow 19 = .ok (.iload_n 2, 1) := by decide +kernel
theorem dX7_risesNow_20 : decode cX7_risesNow 20 = .ok (.if_icmp .ge 28, 3) := by decide +kernel
theorem dX7_risesNow_23 : decode cX7_risesNow 23 = .ok (.iload_n 1, 1) := by decide +kernel
theorem dX7_risesNow_24 : decode cX7_risesNow 24 = .ok (.aload_n 0, 1) := by decide +kernel
theorem dX7_risesNow_25 : decode cX7_risesNow 25 = .ok (.getfield 58, 3) := by decide +kernel
theorem dX7_risesNow_28 : decode cX7_risesNow 28 = .ok (.iload_n 2, 1) := by decide +kernel
theorem dX7_risesNow_29 : decode cX7_risesNow 29 = .ok (.iaload, 1) := by decide +kernel
theorem dX7_risesNow_30 : decode cX7_risesNow 30 = .ok (.aload_n 0, 1) := by decide +kernel
theorem dX7_risesNow_31 : decode cX7_risesNow 31 = .ok (.getfield 58, 3) := by decide +kernel
theorem dX7_risesNow_34 : decode cX7_risesNow 34 = .ok (.iload_n 3, 1) := by decide +kernel
theorem dX7_risesNow_35 : decode cX7_risesNow 35 = .ok (.iaload, 1) := by decide +kernel
theorem dX7_risesNow_36 : decode cX7_risesNow 36 = .ok (.isub, 1) := by decide +kernel
theorem dX7_risesNow_37 : decode cX7_risesNow 37 = .ok (.invokestatic 221, 3) := by decide +kernel
theorem dX7_risesNow_40 : decode cX7_risesNow 40 = .ok (.iadd, 1) := by decide +kernel
theorem dX7_risesNow_41 : decode cX7_risesNow 41 = .ok (.istore_n 1, 1) := by decide +kernel
theorem dX7_risesNow_42 : decode cX7_risesNow 42 = .ok (.iinc 3 1, 3) := by decide +kernel
theorem dX7_risesNow_45 : decode cX7_risesNow 45 = .ok (.goto (-27), 3) := by decide +kernel
theorem dX7_risesNow_48 : decode cX7_risesNow 48 = .ok (.iinc 2 1, 3) := by decide +kernel
theorem dX7_risesNow_51 : decode cX7_risesNow 51 = .ok (.goto (-43), 3) := by decide +kernel
theorem dX7_risesNow_54 : decode cX7_risesNow 54 = .ok (.iload_n 1, 1) := by decide +kernel
theorem dX7_risesNow_55 : decode cX7_risesNow 55 = .ok (.ireturn, 1) := by decide +kernel
set_option maxRecDepth 20000 in
theorem ggX7_rises_X7_risesNow : GoodIn wsX7_rises wsX7_risesNow := goodIn_r _ [5, 6, 7, 8, 9, 10, 4, 11, 12, 13, 14, 15, 16, 17, 18, 19, 20, 21, 22, 23, 24, 25, 26, 27, 28, 29, 30, 31, 32, 33, 34, 35, 36, 37, 38, 39, 40, 41, 42, 43, 44, 45, 46, 47, 48, 49, 50, 51, 52, 53, 54, 55, 56, 57, 58, 59, 60, 61, 62, 63, 64, 65, 66] (by decide +kernel) (by decide +kernel)
set_option maxRecDepth 20000 in
theorem gX7_rises_X7_risesNow : GoodIn wsX7_rises (wsV RX7 224 RX7 yX7_risesNow wsX7_risesNow) := goodIn_app (goodIn_of _ (by decide +kernel)) ggX7_rises_X7_risesNow
theorem dX7_rises_0 : decode cX7_rises 0 = .ok (.aload_n 0, 1) := by decide +kernel
theorem dX7_rises_1 : decode cX7_rises 1 = .ok (.invokevirtual 224, 3) := by decide +kernel
theorem dX7_rises_4 : decode cX7_rises 4 = .ok (.ireturn, 1) := by decide +kernel
theorem dX7_aheadOf_0 : decode cX7_aheadOf 0 = .ok (.iconst 0, 1) := by decide +kernel
theorem dX7_aheadOf_1 : decode cX7_aheadOf 1 = .ok (.istore_n 2, 1) := by decide +kernel
theorem dX7_aheadOf_2 : decode cX7_aheadOf 2 = .ok (.iconst 0, 1) := by decide +kernel
theorem dX7_aheadOf_3 : decode cX7_aheadOf 3 = .ok (.istore_n 3, 1) := by decide +kernel
theorem dX7_aheadOf_4 : decode cX7_aheadOf 4 = .ok (.iload_n 3, 1) := by decide +kernel
theorem dX7_aheadOf_5 : decode cX7_aheadOf 5 = .ok (.aload_n 0, 1) := by decide +kernel
theorem dX7_aheadOf_6 : decode cX7_aheadOf 6 = .ok (.getfield 139, 3) := by decide +kernel
theorem dX7_aheadOf_9 : decode cX7_aheadOf 9 = .ok (.if_icmp .ge 27, 3) := by decide +kernel
theorem dX7_aheadOf_12 : decode cX7_aheadOf 12 = .ok (.iload_n 2, 1) := by decide +kernel
theorem dX7_aheadOf_13 : decode cX7_aheadOf 13 = .ok (.aload_n 0, 1) := by decide +kernel
theorem dX7_aheadOf_14 : decode cX7_aheadOf 14 = .ok (.getfield 55, 3) := by decide +kernel
theorem dX7_aheadOf_17 : decode cX7_aheadOf 17 = .ok (.iload_n 3, 1) := by decide +kernel
theorem dX7_aheadOf_18 : decode cX7_aheadOf 18 = .ok (.iaload, 1) := by decide +kernel
theorem dX7_aheadOf_19 : decode cX7_aheadOf 19 = .ok (.iload_n 1, 1) := by decide +kernel
theorem dX7_aheadOf_20 : decode cX7_aheadOf 20 = .ok (.if_icmp .ge 7, 3) := by decide +kernel
theorem dX7_aheadOf_23 : decode cX7_aheadOf 23 = .ok (.iconst 1, 1) := by decide +kernel
theorem dX7_aheadOf_24 : decode cX7_aheadOf 24 = .ok (.goto 4, 3) := by decide +kernel
theorem dX7_aheadOf_27 : decode cX7_aheadOf 27 = .ok (.iconst 0, 1) := by decide +kernel
theorem dX7_aheadOf_28 : decode cX7_aheadOf 28 = .ok (.iadd, 1) := by decide +kernel
theorem dX7_aheadOf_29 : decode cX7_aheadOf 29 = .ok (.istore_n 2, 1) := by decide +kernel
theorem dX7_aheadOf_30 : decode cX7_aheadOf 30 = .ok (.iinc 3 1, 3) := by decide +kernel
theorem dX7_aheadOf_33 : decode cX7_aheadOf 33 = .ok (.goto (-29), 3) := by decide +kernel
theorem dX7_aheadOf_36 : decode cX7_aheadOf 36 = .ok (.iload_n 2, 1) := by decide +kernel
theorem dX7_aheadOf_37 : decode cX7_aheadOf 37 = .ok (.ireturn, 1) := by decide +kernel
theorem dX7_differs_0 : decode cX7_differs 0 = .ok (.lconst 0, 1) := by decide +kernel
theorem dX7_differs_1 : decode cX7_differs 1 = .ok (.lstore_n 2, 1) := by decide +kernel
theorem dX7_differs_2 : decode cX7_differs 2 = .ok (.lconst 0, 1) := by decide +kernel
theorem dX7_differs_3 : decode cX7_differs 3 = .ok (.lstore 4, 2) := by decide +kernel
theorem dX7_differs_5 : decode cX7_differs 5 = .ok (.iconst 0, 1) := by decide +kernel
theorem dX7_differs_6 : decode cX7_differs 6 = .ok (.istore 6, 2) := by decide +kernel
theorem dX7_differs_8 : decode cX7_differs 8 = .ok (.iload 6, 2) := by decide +kernel
theorem dX7_differs_10 : decode cX7_differs 10 = .ok (.aload_n 0, 1) := by decide +kernel
theorem dX7_differs_11 : decode cX7_differs 11 = .ok (.getfield 139, 3) := by decide +kernel
theorem dX7_differs_14 : decode cX7_differs 14 = .ok (.if_icmp .ge 53, 3) := by decide +kernel
theorem dX7_differs_17 : decode cX7_differs 17 = .ok (.lload_n 2, 1) := by decide +kernel
theorem dX7_differs_18 : decode cX7_differs 18 = .ok (.iload 6, 2) := by decide +kernel
theorem dX7_differs_20 : decode cX7_differs 20 = .ok (.iload_n 1, 1) := by decide +kernel
theorem dX7_differs_21 : decode cX7_differs 21 = .ok (.if_icmp .ge 14, 3) := by decide +kernel
theorem dX7_differs_24 : decode cX7_differs 24 = .ok (.aload_n 0, 1) := by decide +kernel
theorem dX7_differs_25 : decode cX7_differs 25 = .ok (.getfield 58, 3) := by decide +kernel
theorem dX7_differs_28 : decode cX7_differs 28 = .ok (.iload 6, 2) := by decide +kernel
theorem dX7_differs_30 : decode cX7_differs 30 = .ok (.iaload, 1) := by decide +kernel
theorem dX7_differs_31 : decode cX7_differs 31 = .ok (.i2l, 1) := by decide +kernel
theorem dX7_differs_32 : decode cX7_differs 32 = .ok (.goto 4, 3) := by decide +kernel
theorem dX7_differs_35 : decode cX7_differs 35 = .ok (.lconst 0, 1) := by decide +kernel
theorem dX7_differs_36 : decode cX7_differs 36 = .ok (.ladd, 1) := by decide +kernel
theorem dX7_differs_37 : decode cX7_differs 37 = .ok (.lstore_n 2, 1) := by decide +kernel
theorem dX7_differs_38 : decode cX7_differs 38 = .ok (.lload 4, 2) := by decide +kernel
theorem dX7_differs_40 : decode cX7_differs 40 = .ok (.iload 6, 2) := by decide +kernel
theorem dX7_differs_42 : decode cX7_differs 42 = .ok (.iload_n 1, 1) := by decide +kernel
theorem dX7_differs_43 : decode cX7_differs 43 = .ok (.if_icmp .ge 7, 3) := by decide +kernel
theorem dX7_differs_46 : decode cX7_differs 46 = .ok (.lconst 0, 1) := by decide +kernel
theorem dX7_differs_47 : decode cX7_differs 47 = .ok (.goto 11, 3) := by decide +kernel
theorem dX7_differs_50 : decode cX7_differs 50 = .ok (.aload_n 0, 1) := by decide +kernel
theorem dX7_differs_51 : decode cX7_differs 51 = .ok (.getfield 58, 3) := by decide +kernel
theorem dX7_differs_54 : decode cX7_differs 54 = .ok (.iload 6, 2) := by decide +kernel
theorem dX7_differs_56 : decode cX7_differs 56 = .ok (.iaload, 1) := by decide +kernel
theorem dX7_differs_57 : decode cX7_differs 57 = .ok (.i2l, 1) := by decide +kernel
theorem dX7_differs_58 : decode cX7_differs 58 = .ok (.ladd, 1) := by decide +kernel
theorem dX7_differs_59 : decode cX7_differs 59 = .ok (.lstore 4, 2) := by decide +kernel
theorem dX7_differs_61 : decode cX7_differs 61 = .ok (.iinc 6 1, 3) := by decide +kernel
theorem dX7_differs_64 : decode cX7_differs 64 = .ok (.goto (-56), 3) := by decide +kernel
theorem dX7_differs_67 : decode cX7_differs 67 = .ok (.lload 4, 2) := by decide +kernel
theorem dX7_differs_69 : decode cX7_differs 69 = .ok (.iload_n 1, 1) := by decide +kernel
theorem dX7_differs_70 : decode cX7_differs 70 = .ok (.i2l, 1) := by decide +kernel
theorem dX7_differs_71 : decode cX7_differs 71 = .ok (.lmul, 1) := by decide +kernel
theorem dX7_differs_72 : decode cX7_differs 72 = .ok (.lload_n 2, 1) := by decide +kernel
theorem dX7_differs_73 : decode cX7_differs 73 = .ok (.aload_n 0, 1) := by decide +kernel
theorem dX7_differs_74 : decode cX7_differs 74 = .ok (.getfield 139, 3) := by decide +kernel
theorem dX7_differs_77 : decode cX7_differs 77 = .ok (.iload_n 1, 1) := by decide +kernel
theorem dX7_differs_78 : decode cX7_differs 78 = .ok (.isub, 1) := by decide +kernel
theorem dX7_differs_79 : decode cX7_differs 79 = .ok (.i2l, 1) := by decide +kernel
theorem dX7_differs_80 : decode cX7_differs 80 = .ok (.lmul, 1) := by decide +kernel
theorem dX7_differs_81 : decode cX7_differs 81 = .ok (.lsub, 1) := by decide +kernel
theorem dX7_differs_82 : decode cX7_differs 82 = .ok (.lreturn, 1) := by decide +kernel
theorem dX7_isParted_0 : decode cX7_isParted 0 = .ok (.iload_n 1, 1) := by decide +kernel
theorem dX7_isParted_1 : decode cX7_isParted 1 = .ok (.ifCond .le 15, 3) := by decide +kernel
theorem dX7_isParted_4 : decode cX7_isParted 4 = .ok (.iload_n 1, 1) := by decide +kernel
theorem dX7_isParted_5 : decode cX7_isParted 5 = .ok (.aload_n 0, 1) := by decide +kernel
theorem dX7_isParted_6 : decode cX7_isParted 6 = .ok (.getfield 139, 3) := by decide +kernel
theorem dX7_isParted_9 : decode cX7_isParted 9 = .ok (.if_icmp .ge 7, 3) := by decide +kernel
theorem dX7_isParted_12 : decode cX7_isParted 12 = .ok (.iconst 1, 1) := by decide +kernel
theorem dX7_isParted_13 : decode cX7_isParted 13 = .ok (.goto 4, 3) := by decide +kernel
theorem dX7_isParted_16 : decode cX7_isParted 16 = .ok (.iconst 0, 1) := by decide +kernel
theorem dX7_isParted_17 : decode cX7_isParted 17 = .ok (.ireturn, 1) := by decide +kernel
set_option maxRecDepth 20000 in
theorem ggX7_change_X7_isYear : GoodIn wsX7_change wsX7_isYear := goodIn_r _ [5, 6, 7, 8, 4, 9] (by decide +kernel) (by decide +kernel)
set_option maxRecDepth 20000 in
theorem gX7_change_X7_isYear : GoodIn wsX7_change (va_wsS RX7 121 yX7_isYear wsX7_isYear) := goodIn_app (goodIn_of _ (by decide +kernel)) ggX7_change_X7_isYear
set_option maxRecDepth 20000 in
theorem ggX7_change_X7_isTwo : GoodIn wsX7_change wsX7_isTwo := goodIn_r _ [12, 7, 8, 4, 9] (by decide +kernel) (by decide +kernel)
set_option maxRecDepth 20000 in
theorem gX7_change_X7_isTwo : GoodIn wsX7_change (va_wsS RX7 148 yX7_isTwo wsX7_isTwo) := goodIn_app (goodIn_of _ (by decide +kernel)) ggX7_change_X7_isTwo
set_option maxRecDepth 20000 in
theorem ggX7_change_X7_no : GoodIn wsX7_change wsX7_no := goodIn_r _ [15, 16] (by decide +kernel) (by decide +kernel)
set_option maxRecDepth 20000 in
theorem gX7_change_X7_no : GoodIn wsX7_change (va_wsS RX7 171 yX7_no wsX7_no) := goodIn_app (goodIn_of _ (by decide +kernel)) ggX7_change_X7_no
set_option maxRecDepth 20000 in
theorem ggX7_change_X7_find : GoodIn wsX7_change wsX7_find := goodIn_r _ [20, 21, 22, 23, 24, 25, 26, 27, 28, 1, 29, 30, 31, 32, 33, 4, 34, 35, 36, 37, 38, 7, 8, 9, 39, 40, 41, 42, 61, 62, 63, 64, 65, 66, 67, 68, 69, 70, 71, 72, 73, 74, 75, 76, 77, 78, 79, 80, 81, 82, 83, 84, 85, 86, 87, 88] (by decide +kernel) (by decide +kernel)
set_option maxRecDepth 20000 in
theorem gX7_change_X7_find : GoodIn wsX7_change (wsV RX7 151 RX7 yX7_find wsX7_find) := goodIn_app (goodIn_of _ (by decide +kernel)) ggX7_change_X7_find
set_option maxRecDepth 20000 in
theorem ggX7_change_X7_aheadOf : GoodIn wsX7_change wsX7_aheadOf := goodIn_r _ [46, 1, 29, 61, 62, 63, 64, 65, 66, 67, 68, 69, 70, 71, 72, 73, 74, 75, 76, 77, 78, 79, 80, 81, 82, 83, 84, 85, 86, 87, 88] (by decide +kernel) (by decide +kernel)
set_option maxRecDepth 20000 in
theorem gX7_change_X7_aheadOf : GoodIn wsX7_change (wsV RX7 227 RX7 yX7_aheadOf wsX7_aheadOf) := goodIn_app (goodIn_of _ (by decide +kernel)) ggX7_change_X7_aheadOf
set_option maxRecDepth 20000 in
theorem ggX7_change_X7_isParted : GoodIn wsX7_change wsX7_isParted := goodIn_r _ [50, 1, 61, 62, 63, 64, 65, 66, 67, 68, 69, 70, 71, 72, 73, 74, 75, 76, 77, 78, 79, 80, 81, 82, 83, 84, 85, 86, 87, 88] (by decide +kernel) (by decide +kernel)
set_option maxRecDepth 20000 in
theorem gX7_change_X7_isParted : GoodIn wsX7_change (wsV RX7 230 RX7 yX7_isParted wsX7_isParted) := goodIn_app (goodIn_of _ (by decide +kernel)) ggX7_change_X7_isParted
set_option maxRecDepth 20000 in
theorem ggX7_change_X7_differs : GoodIn wsX7_change wsX7_differs := goodIn_r _ [54, 1, 30, 61, 62, 63, 64, 65, 66, 67, 68, 69, 70, 71, 72, 73, 74, 75, 76, 77, 78, 79, 80, 81, 82, 83, 84, 85, 86, 87, 88] (by decide +kernel) (by decide +kernel)
set_option maxRecDepth 20000 in
theorem gX7_change_X7_differs : GoodIn wsX7_change (wsV RX7 233 RX7 yX7_differs wsX7_differs) := goodIn_app (goodIn_of _ (by decide +kernel)) ggX7_change_X7_differs
set_option maxRecDepth 20000 in
theorem ggX7_change_X7_part : GoodIn wsX7_change wsX7_part := goodIn_r _ [57, 58, 59, 4, 60] (by decide +kernel) (by decide +kernel)
set_option maxRecDepth 20000 in
theorem gX7_change_X7_part : GoodIn wsX7_change (va_wsS RX7 167 yX7_part wsX7_part) := goodIn_app (goodIn_of _ (by decide +kernel)) ggX7_change_X7_part
theorem dX7_change_0 : decode cX7_change 0 = .ok (.iload_n 1, 1) := by decide +kernel
theorem dX7_change_1 : decode cX7_change 1 = .ok (.invokestatic 121, 3) := by decide +kernel
theorem dX7_change_4 : decode cX7_change 4 = .ok (.ifCond .eq 10, 3) := by decide +kernel
theorem dX7_change_7 : decode cX7_change 7 = .ok (.iload_n 2, 1) := by decide +kernel
theorem dX7_change_8 : decode cX7_change 8 = .ok (.invokestatic 148, 3) := by decide +kernel
theorem dX7_change_11 : decode cX7_change 11 = .ok (.ifCond .ne 9, 3) := by decide +kernel
theorem dX7_change_14 : decode cX7_change 14 = .ok (.bipush (-2), 2) := by decide +kernel
theorem dX7_change_16 : decode cX7_change 16 = .ok (.invokestatic 171, 3) := by decide +kernel
theorem dX7_change_19 : decode cX7_change 19 = .ok (.lreturn, 1) := by decide +kernel
theorem dX7_change_20 : decode cX7_change 20 = .ok (.aload_n 0, 1) := by decide +kernel
theorem dX7_change_21 : decode cX7_change 21 = .ok (.invokevirtual 151, 3) := by decide +kernel
theorem dX7_change_24 : decode cX7_change 24 = .ok (.aload_n 0, 1) := by decide +kernel
theorem dX7_change_25 : decode cX7_change 25 = .ok (.iload_n 1, 1) := by decide +kernel
theorem dX7_change_26 : decode cX7_change 26 = .ok (.invokevirtual 227, 3) := by decide +kernel
theorem dX7_change_29 : decode cX7_change 29 = .ok (.istore_n 3, 1) := by decide +kernel
theorem dX7_change_30 : decode cX7_change 30 = .ok (.aload_n 0, 1) := by decide +kernel
theorem dX7_change_31 : decode cX7_change 31 = .ok (.iload_n 3, 1) := by decide +kernel
theorem dX7_change_32 : decode cX7_change 32 = .ok (.invokevirtual 230, 3) := by decide +kernel
theorem dX7_change_35 : decode cX7_change 35 = .ok (.ifCond .eq 25, 3) := by decide +kernel
theorem dX7_change_38 : decode cX7_change 38 = .ok (.aload_n 0, 1) := by decide +kernel
theorem dX7_change_39 : decode cX7_change 39 = .ok (.iload_n 3, 1) := by decide +kernel
theorem dX7_change_40 : decode cX7_change 40 = .ok (.invokevirtual 233, 3) := by decide +kernel
theorem dX7_change_43 : decode cX7_change 43 = .ok (.iload_n 3, 1) := by decide +kernel
theorem dX7_change_44 : decode cX7_change 44 = .ok (.i2l, 1) := by decide +kernel
theorem dX7_change_45 : decode cX7_change 45 = .ok (.aload_n 0, 1) := by decide +kernel
theorem dX7_change_46 : decode cX7_change 46 = .ok (.getfield 139, 3) := by decide +kernel
theorem dX7_change_49 : decode cX7_change 49 = .ok (.iload_n 3, 1) := by decide +kernel
theorem dX7_change_50 : decode cX7_change 50 = .ok (.isub, 1) := by decide +kernel
theorem dX7_change_51 : decode cX7_change 51 = .ok (.i2l, 1) := by decide +kernel
theorem dX7_change_52 : decode cX7_change 52 = .ok (.lmul, 1) := by decide +kernel
theorem dX7_change_53 : decode cX7_change 53 = .ok (.iload_n 2, 1) := by decide +kernel
theorem dX7_change_54 : decode cX7_change 54 = .ok (.invokestatic 167, 3) := by decide +kernel
theorem dX7_change_57 : decode cX7_change 57 = .ok (.goto 8, 3) := by decide +kernel
theorem dX7_change_60 : decode cX7_change 60 = .ok (.bipush (-3), 2) := by decide +kernel
theorem dX7_change_62 : decode cX7_change 62 = .ok (.invokestatic 171, 3) := by decide +kernel
theorem dX7_change_65 : decode cX7_change 65 = .ok (.lreturn, 1) := by decide +kernel
theorem dX7_amount_0 : decode cX7_amount 0 = .ok (.lload_n 0, 1) := by decide +kernel
theorem dX7_amount_1 : decode cX7_amount 1 = .ok (.lconst 0, 1) := by decide +kernel
theorem dX7_amount_2 : decode cX7_amount 2 = .ok (.lcmp, 1) := by decide +kernel
theorem dX7_amount_3 : decode cX7_amount 3 = .ok (.ifCond .ge 8, 3) := by decide +kernel
theorem dX7_amount_6 : decode cX7_amount 6 = .ok (.lload_n 0, 1) := by decide +kernel
theorem dX7_amount_7 : decode cX7_amount 7 = .ok (.lneg, 1) := by decide +kernel
theorem dX7_amount_8 : decode cX7_amount 8 = .ok (.goto 4, 3) := by decide +kernel
theorem dX7_amount_11 : decode cX7_amount 11 = .ok (.lload_n 0, 1) := by decide +kernel
theorem dX7_amount_12 : decode cX7_amount 12 = .ok (.lreturn, 1) := by decide +kernel
set_option maxRecDepth 20000 in
theorem ggX7_changedYear_X7_find : GoodIn wsX7_changedYear wsX7_find := goodIn_r _ [6, 7, 8, 9, 10, 11, 12, 13, 14, 1, 15, 16, 17, 18, 19, 5, 20, 21, 22, 23, 24, 25, 26, 27, 28, 29, 30, 31, 47, 48, 49, 50, 51, 52, 53, 54, 55, 56, 57, 58, 59, 60, 61, 62, 63, 64, 65, 66, 67, 68, 69, 70, 71, 72, 73, 74] (by decide +kernel) (by decide +kernel)
set_option maxRecDepth 20000 in
theorem gX7_changedYear_X7_find : GoodIn wsX7_changedYear (wsV RX7 151 RX7 yX7_find wsX7_find) := goodIn_app (goodIn_of _ (by decide +kernel)) ggX7_changedYear_X7_find
set_option maxRecDepth 20000 in
theorem ggX7_changedYear_X7_aheadOf : GoodIn wsX7_changedYear wsX7_aheadOf := goodIn_r _ [35, 1, 15, 47, 48, 49, 50, 51, 52, 53, 54, 55, 56, 57, 58, 59, 60, 61, 62, 63, 64, 65, 66, 67, 68, 69, 70, 71, 72, 73, 74] (by decide +kernel) (by decide +kernel)
set_option maxRecDepth 20000 in
theorem gX7_changedYear_X7_aheadOf : GoodIn wsX7_changedYear (wsV RX7 227 RX7 yX7_aheadOf wsX7_aheadOf) := goodIn_app (goodIn_of _ (by decide +kernel)) ggX7_changedYear_X7_aheadOf
set_option maxRecDepth 20000 in
theorem ggX7_changedYear_X7_isParted : GoodIn wsX7_changedYear wsX7_isParted := goodIn_r _ [39, 1, 47, 48, 49, 50, 51, 52, 53, 54, 55, 56, 57, 58, 59, 60, 61, 62, 63, 64, 65, 66, 67, 68, 69, 70, 71, 72, 73, 74] (by decide +kernel) (by decide +kernel)
set_option maxRecDepth 20000 in
theorem gX7_changedYear_X7_isParted : GoodIn wsX7_changedYear (wsV RX7 230 RX7 yX7_isParted wsX7_isParted) := goodIn_app (goodIn_of _ (by decide +kernel)) ggX7_changedYear_X7_isParted
set_option maxRecDepth 20000 in
theorem ggX7_changedYear_X7_differs : GoodIn wsX7_changedYear wsX7_differs := goodIn_r _ [43, 1, 16, 47, 48, 49, 50, 51, 52, 53, 54, 55, 56, 57, 58, 59, 60, 61, 62, 63, 64, 65, 66, 67, 68, 69, 70, 71, 72, 73, 74] (by decide +kernel) (by decide +kernel)
set_option maxRecDepth 20000 in
theorem gX7_changedYear_X7_differs : GoodIn wsX7_changedYear (wsV RX7 233 RX7 yX7_differs wsX7_differs) := goodIn_app (goodIn_of _ (by decide +kernel)) ggX7_changedYear_X7_differs
set_option maxRecDepth 20000 in
theorem ggX7_changedYear_X7_amount : GoodIn wsX7_changedYear wsX7_amount := goodIn_r _ [46] (by decide +kernel) (by decide +kernel)
set_option maxRecDepth 20000 in
theorem gX7_changedYear_X7_amount : GoodIn wsX7_changedYear (va_wsS RX7 236 yX7_amount wsX7_amount) := goodIn_app (goodIn_of _ (by decide +kernel)) ggX7_changedYear_X7_amount
theorem dX7_changedYear_0 : decode cX7_changedYear 0 = .ok (.aload_n 0, 1) := by decide +kernel
theorem dX7_changedYear_1 : decode cX7_changedYear 1 = .ok (.invokevirtual 151, 3) := by decide +kernel
theorem dX7_changedYear_4 : decode cX7_changedYear 4 = .ok (.iconst (-1), 1) := by decide +kernel
theorem dX7_changedYear_5 : decode cX7_changedYear 5 = .ok (.istore_n 1, 1) := by decide +kernel
theorem dX7_changedYear_6 : decode cX7_changedYear 6 = .ok (.lconst 0, 1) := by decide +kernel
theorem dX7_changedYear_7 : decode cX7_changedYear 7 = .ok (.lstore_n 2, 1) := by decide +kernel
theorem dX7_changedYear_8 : decode cX7_changedYear 8 = .ok (.lconst 1, 1) := by decide +kernel
theorem dX7_changedYear_9 : decode cX7_changedYear 9 = .ok (.lstore 4, 2) := by decide +kernel
theorem dX7_changedYear_11 : decode cX7_changedYear 11 = .ok (.iconst 0, 1) := by decide +kernel
theorem dX7_changedYear_12 : decode cX7_changedYear 12 = .ok (.istore 6, 2) := by decide +kernel
theorem dX7_changedYear_14 : decode cX7_changedYear 14 = .ok (.iload 6, 2) := by decide +kernel
theorem dX7_changedYear_16 : decode cX7_changedYear 16 = .ok (.bipush 60, 2) := by decide +kernel
theorem dX7_changedYear_18 : decode cX7_changedYear 18 = .ok (.if_icmp .ge 79, 3) := by decide +kernel
theorem dX7_changedYear_21 : decode cX7_changedYear 21 = .ok (.aload_n 0, 1) := by decide +kernel
theorem dX7_changedYear_22 : decode cX7_changedYear 22 = .ok (.iload 6, 2) := by decide +kernel
theorem dX7_changedYear_24 : decode cX7_changedYear 24 = .ok (.invokevirtual 227, 3) := by decide +kernel
theorem dX7_changedYear_27 : decode cX7_changedYear 27 = .ok (.istore 7, 2) := by decide +kernel
theorem dX7_changedYear_29 : decode cX7_changedYear 29 = .ok (.aload_n 0, 1) := by decide +kernel
theorem dX7_changedYear_30 : decode cX7_changedYear 30 = .ok (.iload 7, 2) := by decide +kernel
theorem dX7_changedYear_32 : decode cX7_changedYear 32 = .ok (.invokevirtual 230, 3) := by decide +kernel
theorem dX7_changedYear_35 : decode cX7_changedYear 35 = .ok (.ifCond .eq 56, 3) := by decide +kernel
theorem dX7_changedYear_38 : decode cX7_changedYear 38 = .ok (.aload_n 0, 1) := by decide +kernel
theorem dX7_changedYear_39 : decode cX7_changedYear 39 = .ok (.iload 7, 2) := by decide +kernel
theorem dX7_changedYear_41 : decode cX7_changedYear 41 = .ok (.invokevirtual 233, 3) := by decide +kernel
theorem dX7_changedYear_44 : decode cX7_changedYear 44 = .ok (.invokestatic 236, 3) := by decide +kernel
theorem dX7_changedYear_47 : decode cX7_changedYear 47 = .ok (.lstore 8, 2) := by decide +kernel
theorem dX7_changedYear_49 : decode cX7_changedYear 49 = .ok (.iload 7, 2) := by decide +kernel
theorem dX7_changedYear_51 : decode cX7_changedYear 51 = .ok (.i2l, 1) := by decide +kernel
theorem dX7_changedYear_52 : decode cX7_changedYear 52 = .ok (.aload_n 0, 1) := by decide +kernel
theorem dX7_changedYear_53 : decode cX7_changedYear 53 = .ok (.getfield 139, 3) := by decide +kernel
theorem dX7_changedYear_56 : decode cX7_changedYear 56 = .ok (.iload 7, 2) := by decide +kernel
theorem dX7_changedYear_58 : decode cX7_changedYear 58 = .ok (.isub, 1) := by decide +kernel
theorem dX7_changedYear_59 : decode cX7_changedYear 59 = .ok (.i2l, 1) := by decide +kernel
theorem dX7_changedYear_60 : decode cX7_changedYear 60 = .ok (.lmul, 1) := by decide +kernel
theorem dX7_changedYear_61 : decode cX7_changedYear 61 = .ok (.lstore 10, 2) := by decide +kernel
theorem dX7_changedYear_63 : decode cX7_changedYear 63 = .ok (.iload_n 1, 1) := by decide +kernel
theorem dX7_changedYear_64 : decode cX7_changedYear 64 = .ok (.iconst (-1), 1) := by decide +kernel
theorem dX7_changedYear_65 : decode cX7_changedYear 65 = .ok (.if_icmp .eq 16, 3) := by decide +kernel
theorem dX7_changedYear_68 : decode cX7_changedYear 68 = .ok (.lload 8, 2) := by decide +kernel
theorem dX7_changedYear_70 : decode cX7_changedYear 70 = .ok (.lload 4, 2) := by decide +kernel
theorem dX7_changedYear_72 : decode cX7_changedYear 72 = .ok (.lmul, 1) := by decide +kernel
theorem dX7_changedYear_73 : decode cX7_changedYear 73 = .ok (.lload_n 2, 1) := by decide +kernel
theorem dX7_changedYear_74 : decode cX7_changedYear 74 = .ok (.lload 10, 2) := by decide +kernel
theorem dX7_changedYear_76 : decode cX7_changedYear 76 = .ok (.lmul, 1) := by decide +kernel
theorem dX7_changedYear_77 : decode cX7_changedYear 77 = .ok (.lcmp, 1) := by decide +kernel
theorem dX7_changedYear_78 : decode cX7_changedYear 78 = .ok (.ifCond .le 13, 3) := by decide +kernel
theorem dX7_changedYear_81 : decode cX7_changedYear 81 = .ok (.iload 6, 2) := by decide +kernel
theorem dX7_changedYear_83 : decode cX7_changedYear 83 = .ok (.istore_n 1, 1) := by decide +kernel
theorem dX7_changedYear_84 : decode cX7_changedYear 84 = .ok (.lload 8, 2) := by decide +kernel
theorem dX7_changedYear_86 : decode cX7_changedYear 86 = .ok (.lstore_n 2, 1) := by decide +kernel
theorem dX7_changedYear_87 : decode cX7_changedYear 87 = .ok (.lload 10, 2) := by decide +kernel
theorem dX7_changedYear_89 : decode cX7_changedYear 89 = .ok (.lstore 4, 2) := by decide +kernel
theorem dX7_changedYear_91 : decode cX7_changedYear 91 = .ok (.iinc 6 1, 3) := by decide +kernel
theorem dX7_changedYear_94 : decode cX7_changedYear 94 = .ok (.goto (-80), 3) := by decide +kernel
theorem dX7_changedYear_97 : decode cX7_changedYear 97 = .ok (.iload_n 1, 1) := by decide +kernel
theorem dX7_changedYear_98 : decode cX7_changedYear 98 = .ok (.ireturn, 1) := by decide +kernel
set_option maxRecDepth 20000 in
theorem ggX7_likelyOf_X7_aheadOf : GoodIn wsX7_likelyOf wsX7_aheadOf := goodIn_r _ [7, 1, 8, 20, 21, 22, 23, 24, 25, 26, 27, 28, 29, 30, 31, 32, 33, 34, 35, 36, 37, 38, 39, 40, 41, 42, 43, 44, 45, 46, 47] (by decide +kernel) (by decide +kernel)
set_option maxRecDepth 20000 in
theorem gX7_likelyOf_X7_aheadOf : GoodIn wsX7_likelyOf (wsV RX7 227 RX7 yX7_aheadOf wsX7_aheadOf) := goodIn_app (goodIn_of _ (by decide +kernel)) ggX7_likelyOf_X7_aheadOf
set_option maxRecDepth 20000 in
theorem ggX7_likelyOf_X7_differs : GoodIn wsX7_likelyOf wsX7_differs := goodIn_r _ [12, 1, 2, 20, 21, 22, 23, 24, 25, 26, 27, 28, 29, 30, 31, 32, 33, 34, 35, 36, 37, 38, 39, 40, 41, 42, 43, 44, 45, 46, 47] (by decide +kernel) (by decide +kernel)
set_option maxRecDepth 20000 in
theorem gX7_likelyOf_X7_differs : GoodIn wsX7_likelyOf (wsV RX7 233 RX7 yX7_differs wsX7_differs) := goodIn_app (goodIn_of _ (by decide +kernel)) ggX7_likelyOf_X7_differs
set_option maxRecDepth 20000 in
theorem ggX7_likelyOf_X7_amount : GoodIn wsX7_likelyOf wsX7_amount := goodIn_r _ [15] (by decide +kernel) (by decide +kernel)
set_option maxRecDepth 20000 in
theorem gX7_likelyOf_X7_amount : GoodIn wsX7_likelyOf (va_wsS RX7 236 yX7_amount wsX7_amount) := goodIn_app (goodIn_of _ (by decide +kernel)) ggX7_likelyOf_X7_amount
set_option maxRecDepth 20000 in
theorem ggX7_likelyOf_X7_millionths : GoodIn wsX7_likelyOf wsX7_millionths := goodIn_r _ [18, 19] (by decide +kernel) (by decide +kernel)
set_option maxRecDepth 20000 in
theorem gX7_likelyOf_X7_millionths : GoodIn wsX7_likelyOf (va_wsS RX7 211 yX7_millionths wsX7_millionths) := goodIn_app (goodIn_of _ (by decide +kernel)) ggX7_likelyOf_X7_millionths
theorem dX7_likelyOf_0 : decode cX7_likelyOf 0 = .ok (.iload_n 1, 1) := by decide +kernel
theorem dX7_likelyOf_1 : decode cX7_likelyOf 1 = .ok (.iconst (-1), 1) := by decide +kernel
theorem dX7_likelyOf_2 : decode cX7_likelyOf 2 = .ok (.if_icmp .ne 6, 3) := by decide +kernel
theorem dX7_likelyOf_5 : decode cX7_likelyOf 5 = .ok (.bipush (-3), 2) := by decide +kernel
theorem dX7_likelyOf_7 : decode cX7_likelyOf 7 = .ok (.ireturn, 1) := by decide +kernel
theorem dX7_likelyOf_8 : decode cX7_likelyOf 8 = .ok (.aload_n 0, 1) := by decide +kernel
theorem dX7_likelyOf_9 : decode cX7_likelyOf 9 = .ok (.getfield 139, 3) := by decide +kernel
theorem dX7_likelyOf_12 : decode cX7_likelyOf 12 = .ok (.bipush 14, 2) := by decide +kernel
theorem dX7_likelyOf_14 : decode cX7_likelyOf 14 = .ok (.if_icmp .le 6, 3) := by decide +kernel
theorem dX7_likelyOf_17 : decode cX7_likelyOf 17 = .ok (.bipush (-4), 2) := by decide +kernel
theorem dX7_likelyOf_19 : decode cX7_likelyOf 19 = .ok (.ireturn, 1) := by decide +kernel
theorem dX7_likelyOf_20 : decode cX7_likelyOf 20 = .ok (.aload_n 0, 1) := by decide +kernel
theorem dX7_likelyOf_21 : decode cX7_likelyOf 21 = .ok (.iload_n 1, 1) := by decide +kernel
theorem dX7_likelyOf_22 : decode cX7_likelyOf 22 = .ok (.invokevirtual 227, 3) := by decide +kernel
theorem dX7_likelyOf_25 : decode cX7_likelyOf 25 = .ok (.istore_n 2, 1) := by decide +kernel
theorem dX7_likelyOf_26 : decode cX7_likelyOf 26 = .ok (.aload_n 0, 1) := by decide +kernel
theorem dX7_likelyOf_27 : decode cX7_likelyOf 27 = .ok (.iload_n 2, 1) := by decide +kernel
theorem dX7_likelyOf_28 : decode cX7_likelyOf 28 = .ok (.invokevirtual 233, 3) := by decide +kernel
theorem dX7_likelyOf_31 : decode cX7_likelyOf 31 = .ok (.invokestatic 236, 3) := by decide +kernel
theorem dX7_likelyOf_34 : decode cX7_likelyOf 34 = .ok (.lstore_n 3, 1) := by decide +kernel
theorem dX7_likelyOf_35 : decode cX7_likelyOf 35 = .ok (.lconst 0, 1) := by decide +kernel
theorem dX7_likelyOf_36 : decode cX7_likelyOf 36 = .ok (.lstore 5, 2) := by decide +kernel
theorem dX7_likelyOf_38 : decode cX7_likelyOf 38 = .ok (.iconst 0, 1) := by decide +kernel
theorem dX7_likelyOf_39 : decode cX7_likelyOf 39 = .ok (.istore 7, 2) := by decide +kernel
theorem dX7_likelyOf_41 : decode cX7_likelyOf 41 = .ok (.iload 7, 2) := by decide +kernel
theorem dX7_likelyOf_43 : decode cX7_likelyOf 43 = .ok (.aload_n 0, 1) := by decide +kernel
theorem dX7_likelyOf_44 : decode cX7_likelyOf 44 = .ok (.getfield 139, 3) := by decide +kernel
theorem dX7_likelyOf_47 : decode cX7_likelyOf 47 = .ok (.if_icmp .ge 22, 3) := by decide +kernel
theorem dX7_likelyOf_50 : decode cX7_likelyOf 50 = .ok (.lload 5, 2) := by decide +kernel
theorem dX7_likelyOf_52 : decode cX7_likelyOf 52 = .ok (.aload_n 0, 1) := by decide +kernel
theorem dX7_likelyOf_53 : decode cX7_likelyOf 53 = .ok (.getfield 58, 3) := by decide +kernel
theorem dX7_likelyOf_56 : decode cX7_likelyOf 56 = .ok (.iload 7, 2) := by decide +kernel
theorem dX7_likelyOf_58 : decode cX7_likelyOf 58 = .ok (.iaload, 1) := by decide +kernel
theorem dX7_likelyOf_59 : decode cX7_likelyOf 59 = .ok (.i2l, 1) := by decide +kernel
theorem dX7_likelyOf_60 : decode cX7_likelyOf 60 = .ok (.ladd, 1) := by decide +kernel
theorem dX7_likelyOf_61 : decode cX7_likelyOf 61 = .ok (.lstore 5, 2) := by decide +kernel
theorem dX7_likelyOf_63 : decode cX7_likelyOf 63 = .ok (.iinc 7 1, 3) := by decide +kernel
theorem dX7_likelyOf_66 : decode cX7_likelyOf 66 = .ok (.goto (-25), 3) := by decide +kernel
theorem dX7_likelyOf_69 : decode cX7_likelyOf 69 = .ok (.iconst 0, 1) := by decide +kernel
theorem dX7_likelyOf_70 : decode cX7_likelyOf 70 = .ok (.istore 7, 2) := by decide +kernel
theorem dX7_likelyOf_72 : decode cX7_likelyOf 72 = .ok (.iconst 0, 1) := by decide +kernel
theorem dX7_likelyOf_73 : decode cX7_likelyOf 73 = .ok (.istore 8, 2) := by decide +kernel
theorem dX7_likelyOf_75 : decode cX7_likelyOf 75 = .ok (.iconst 0, 1) := by decide +kernel
theorem dX7_likelyOf_76 : decode cX7_likelyOf 76 = .ok (.istore 9, 2) := by decide +kernel
theorem dX7_likelyOf_78 : decode cX7_likelyOf 78 = .ok (.iload 9, 2) := by decide +kernel
theorem dX7_likelyOf_80 : decode cX7_likelyOf 80 = .ok (.iconst 1, 1) := by decide +kernel
theorem dX7_likelyOf_81 : decode cX7_likelyOf 81 = .ok (.aload_n 0, 1) := by decide +kernel
theorem dX7_likelyOf_82 : decode cX7_likelyOf 82 = .ok (.getfield 139, 3) := by decide +kernel
theorem dX7_likelyOf_85 : decode cX7_likelyOf 85 = .ok (.ishl, 1) := by decide +kernel
theorem dX7_likelyOf_86 : decode cX7_likelyOf 86 = .ok (.if_icmp .ge 134, 3) := by decide +kernel
theorem dX7_likelyOf_89 : decode cX7_likelyOf 89 = .ok (.iconst 0, 1) := by decide +kernel
theorem dX7_likelyOf_90 : decode cX7_likelyOf 90 = .ok (.istore 10, 2) := by decide +kernel
theorem dX7_likelyOf_92 : decode cX7_likelyOf 92 = .ok (.lconst 0, 1) := by decide +kernel
theorem dX7_likelyOf_93 : decode cX7_likelyOf 93 = .ok (.lstore 11, 2) := by decide +kernel
theorem dX7_likelyOf_95 : decode cX7_likelyOf 95 = .ok (.iconst 0, 1) := by decide +kernel
theorem dX7_likelyOf_96 : decode cX7_likelyOf 96 = .ok (.istore 13, 2) := by decide +kernel
theorem dX7_likelyOf_98 : decode cX7_likelyOf 98 = .ok (.iload 13, 2) := by decide +kernel
theorem dX7_likelyOf_100 : decode cX7_likelyOf 100 = .ok (.aload_n 0, 1) := by decide +kernel
theorem dX7_likelyOf_101 : decode cX7_likelyOf 101 = .ok (.getfield 139, 3) := by decide +kernel
theorem dX7_likelyOf_104 : decode cX7_likelyOf 104 = .ok (.if_icmp .ge 64, 3) := by decide +kernel
theorem dX7_likelyOf_107 : decode cX7_likelyOf 107 = .ok (.iload 9, 2) := by decide +kernel
theorem dX7_likelyOf_109 : decode cX7_likelyOf 109 = .ok (.iload 13, 2) := by decide +kernel
theorem dX7_likelyOf_111 : decode cX7_likelyOf 111 = .ok (.ishr, 1) := by decide +kernel
theorem dX7_likelyOf_112 : decode cX7_likelyOf 112 = .ok (.iconst 1, 1) := by decide +kernel
theorem dX7_likelyOf_113 : decode cX7_likelyOf 113 = .ok (.iand, 1) := by decide +kernel
theorem dX7_likelyOf_114 : decode cX7_likelyOf 114 = .ok (.iconst 1, 1) := by decide +kernel
theorem dX7_likelyOf_115 : decode cX7_likelyOf 115 = .ok (.if_icmp .ne 7, 3) := by decide +kernel
theorem dX7_likelyOf_118 : decode cX7_likelyOf 118 = .ok (.iconst 1, 1) := by decide +kernel
theorem dX7_likelyOf_119 : decode cX7_likelyOf 119 = .ok (.goto 4, 3) := by decide +kernel
theorem dX7_likelyOf_122 : decode cX7_likelyOf 122 = .ok (.iconst 0, 1) := by decide +kernel
theorem dX7_likelyOf_123 : decode cX7_likelyOf 123 = .ok (.istore 14, 2) := by decide +kernel
theorem dX7_likelyOf_125 : decode cX7_likelyOf 125 = .ok (.iload 10, 2) := by decide +kernel
theorem dX7_likelyOf_127 : decode cX7_likelyOf 127 = .ok (.iload 14, 2) := by decide +kernel
theorem dX7_likelyOf_129 : decode cX7_likelyOf 129 = .ok (.ifCond .eq 7, 3) := by decide +kernel
theorem dX7_likelyOf_132 : decode cX7_likelyOf 132 = .ok (.iconst 1, 1) := by decide +kernel
theorem dX7_likelyOf_133 : decode cX7_likelyOf 133 = .ok (.goto 4, 3) := by decide +kernel
theorem dX7_likelyOf_136 : decode cX7_likelyOf 136 = .ok (.iconst 0, 1) := by decide +kernel
theorem dX7_likelyOf_137 : decode cX7_likelyOf 137 = .ok (.iadd, 1) := by decide +kernel
theorem dX7_likelyOf_138 : decode cX7_likelyOf 138 = .ok (.istore 10, 2) := by decide +kernel
theorem dX7_likelyOf_140 : decode cX7_likelyOf 140 = .ok (.lload 11, 2) := by decide +kernel
theorem dX7_likelyOf_142 : decode cX7_likelyOf 142 = .ok (.iload 14, 2) := by decide +kernel
theorem dX7_likelyOf_144 : decode cX7_likelyOf 144 = .ok (.ifCond .eq 14, 3) := by decide +kernel
theorem dX7_likelyOf_147 : decode cX7_likelyOf 147 = .ok (.aload_n 0, 1) := by decide +kernel
theorem dX7_likelyOf_148 : decode cX7_likelyOf 148 = .ok (.getfield 58, 3) := by decide +kernel
theorem dX7_likelyOf_151 : decode cX7_likelyOf 151 = .ok (.iload 13, 2) := by decide +kernel
theorem dX7_likelyOf_153 : decode cX7_likelyOf 153 = .ok (.iaload, 1) := by decide +kernel
theorem dX7_likelyOf_154 : decode cX7_likelyOf 154 = .ok (.i2l, 1) := by decide +kernel
theorem dX7_likelyOf_155 : decode cX7_likelyOf 155 = .ok (.goto 4, 3) := by decide +kernel
theorem dX7_likelyOf_158 : decode cX7_likelyOf 158 = .ok (.lconst 0, 1) := by decide +kernel
theorem dX7_likelyOf_159 : decode cX7_likelyOf 159 = .ok (.ladd, 1) := by decide +kernel
theorem dX7_likelyOf_160 : decode cX7_likelyOf 160 = .ok (.lstore 11, 2) := by decide +kernel
theorem dX7_likelyOf_162 : decode cX7_likelyOf 162 = .ok (.iinc 13 1, 3) := by decide +kernel
theorem dX7_likelyOf_165 : decode cX7_likelyOf 165 = .ok (.goto (-67), 3) := by decide +kernel
theorem dX7_likelyOf_168 : decode cX7_likelyOf 168 = .ok (.iload 10, 2) := by decide +kernel
theorem dX7_likelyOf_170 : decode cX7_likelyOf 170 = .ok (.iload_n 2, 1) := by decide +kernel
theorem dX7_likelyOf_171 : decode cX7_likelyOf 171 = .ok (.if_icmp .ne 43, 3) := by decide +kernel
theorem dX7_likelyOf_174 : decode cX7_likelyOf 174 = .ok (.iinc 7 1, 3) := by decide +kernel
theorem dX7_likelyOf_177 : decode cX7_likelyOf 177 = .ok (.iload 8, 2) := by decide +kernel
theorem dX7_likelyOf_179 : decode cX7_likelyOf 179 = .ok (.lload 5, 2) := by decide +kernel
theorem dX7_likelyOf_181 : decode cX7_likelyOf 181 = .ok (.lload 11, 2) := by decide +kernel
theorem dX7_likelyOf_183 : decode cX7_likelyOf 183 = .ok (.lsub, 1) := by decide +kernel
theorem dX7_likelyOf_184 : decode cX7_likelyOf 184 = .ok (.iload_n 2, 1) := by decide +kernel
theorem dX7_likelyOf_185 : decode cX7_likelyOf 185 = .ok (.i2l, 1) := by decide +kernel
theorem dX7_likelyOf_186 : decode cX7_likelyOf 186 = .ok (.lmul, 1) := by decide +kernel
theorem dX7_likelyOf_187 : decode cX7_likelyOf 187 = .ok (.lload 11, 2) := by decide +kernel
theorem dX7_likelyOf_189 : decode cX7_likelyOf 189 = .ok (.aload_n 0, 1) := by decide +kernel
theorem dX7_likelyOf_190 : decode cX7_likelyOf 190 = .ok (.getfield 139, 3) := by decide +kernel
theorem dX7_likelyOf_193 : decode cX7_likelyOf 193 = .ok (.iload_n 2, 1) := by decide +kernel
theorem dX7_likelyOf_194 : decode cX7_likelyOf 194 = .ok (.isub, 1) := by decide +kernel
theorem dX7_likelyOf_195 : decode cX7_likelyOf 195 = .ok (.i2l, 1) := by decide +kernel
theorem dX7_likelyOf_196 : decode cX7_likelyOf 196 = .ok (.lmul, 1) := by decide +kernel
theorem dX7_likelyOf_197 : decode cX7_likelyOf 197 = .ok (.lsub, 1) := by decide +kernel
theorem dX7_likelyOf_198 : decode cX7_likelyOf 198 = .ok (.invokestatic 236, 3) := by decide +kernel
theorem dX7_likelyOf_201 : decode cX7_likelyOf 201 = .ok (.lload_n 3, 1) := by decide +kernel
theorem dX7_likelyOf_202 : decode cX7_likelyOf 202 = .ok (.lcmp, 1) := by decide +kernel
theorem dX7_likelyOf_203 : decode cX7_likelyOf 203 = .ok (.ifCond .lt 7, 3) := by decide +kernel
theorem dX7_likelyOf_206 : decode cX7_likelyOf 206 = .ok (.iconst 1, 1) := by decide +kernel
theorem dX7_likelyOf_207 : decode cX7_likelyOf 207 = .ok (.goto 4, 3) := by decide +kernel
theorem dX7_likelyOf_210 : decode cX7_likelyOf 210 = .ok (.iconst 0, 1) := by decide +kernel
theorem dX7_likelyOf_211 : decode cX7_likelyOf 211 = .ok (.iadd, 1) := by decide +kernel
theorem dX7_likelyOf_212 : decode cX7_likelyOf 212 = .ok (.istore 8, 2) := by decide +kernel
theorem dX7_likelyOf_214 : decode cX7_likelyOf 214 = .ok (.iinc 9 1, 3) := by decide +kernel
theorem dX7_likelyOf_217 : decode cX7_likelyOf 217 = .ok (.goto (-139), 3) := by decide +kernel
theorem dX7_likelyOf_220 : decode cX7_likelyOf 220 = .ok (.iload 8, 2) := by decide +kernel
theorem dX7_likelyOf_222 : decode cX7_likelyOf 222 = .ok (.i2l, 1) := by decide +kernel
theorem dX7_likelyOf_223 : decode cX7_likelyOf 223 = .ok (.iload 7, 2) := by decide +kernel
theorem dX7_likelyOf_225 : decode cX7_likelyOf 225 = .ok (.i2l, 1) := by decide +kernel
theorem dX7_likelyOf_226 : decode cX7_likelyOf 226 = .ok (.invokestatic 211, 3) := by decide +kernel
theorem dX7_likelyOf_229 : decode cX7_likelyOf 229 = .ok (.ireturn, 1) := by decide +kernel
set_option maxRecDepth 20000 in
theorem ggX7_changedOf_X7_changedYear : GoodIn wsX7_changedOf wsX7_changedYear := goodIn_r _ [5, 6, 7, 8, 9, 4, 10, 11, 12, 13, 14, 15, 16, 17, 18, 19, 20, 21, 22, 23, 24, 25, 26, 27, 28, 29, 30, 31, 32, 33, 34, 35, 36, 37, 38, 39, 40, 41, 42, 43, 44, 45, 46, 47, 48, 49, 50, 59, 60, 61, 62, 63, 64, 65, 66, 67, 68, 69, 70, 71, 72, 73, 74, 75, 76, 77, 78, 79, 80, 81, 82, 83, 84, 85, 86] (by decide +kernel) (by decide +kernel)
set_option maxRecDepth 20000 in
theorem gX7_changedOf_X7_changedYear : GoodIn wsX7_changedOf (wsV RX7 240 RX7 yX7_changedYear wsX7_changedYear) := goodIn_app (goodIn_of _ (by decide +kernel)) ggX7_changedOf_X7_changedYear
set_option maxRecDepth 20000 in
theorem ggX7_changedOf_X7_likelyOf : GoodIn wsX7_changedOf wsX7_likelyOf := goodIn_r _ [54, 6, 20, 36, 37, 38, 4, 39, 19, 44, 45, 46, 47, 48, 49, 50, 55, 56, 57, 58, 59, 60, 61, 62, 63, 64, 65, 66, 67, 68, 69, 70, 71, 72, 73, 74, 75, 76, 77, 78, 79, 80, 81, 82, 83, 84, 85, 86] (by decide +kernel) (by decide +kernel)
set_option maxRecDepth 20000 in
theorem gX7_changedOf_X7_likelyOf : GoodIn wsX7_changedOf (wsV RX7 243 RX7 yX7_likelyOf wsX7_likelyOf) := goodIn_app (goodIn_of _ (by decide +kernel)) ggX7_changedOf_X7_likelyOf
theorem dX7_changedOf_0 : decode cX7_changedOf 0 = .ok (.aload_n 0, 1) := by decide +kernel
theorem dX7_changedOf_1 : decode cX7_changedOf 1 = .ok (.invokevirtual 240, 3) := by decide +kernel
theorem dX7_changedOf_4 : decode cX7_changedOf 4 = .ok (.istore_n 2, 1) := by decide +kernel
theorem dX7_changedOf_5 : decode cX7_changedOf 5 = .ok (.iload_n 1, 1) := by decide +kernel
theorem dX7_changedOf_6 : decode cX7_changedOf 6 = .ok (.ifCond .ne 7, 3) := by decide +kernel
theorem dX7_changedOf_9 : decode cX7_changedOf 9 = .ok (.iload_n 2, 1) := by decide +kernel
theorem dX7_changedOf_10 : decode cX7_changedOf 10 = .ok (.goto 8, 3) := by decide +kernel
theorem dX7_changedOf_13 : decode cX7_changedOf 13 = .ok (.aload_n 0, 1) := by decide +kernel
theorem dX7_changedOf_14 : decode cX7_changedOf 14 = .ok (.iload_n 2, 1) := by decide +kernel
theorem dX7_changedOf_15 : decode cX7_changedOf 15 = .ok (.invokevirtual 243, 3) := by decide +kernel
theorem dX7_changedOf_18 : decode cX7_changedOf 18 = .ok (.ireturn, 1) := by decide +kernel
set_option maxRecDepth 20000 in
theorem ggX7_changed_X7_isTwo : GoodIn wsX7_changed wsX7_isTwo := goodIn_r _ [4, 5, 6, 3, 7] (by decide +kernel) (by decide +kernel)
set_option maxRecDepth 20000 in
theorem gX7_changed_X7_isTwo : GoodIn wsX7_changed (va_wsS RX7 148 yX7_isTwo wsX7_isTwo) := goodIn_app (goodIn_of _ (by decide +kernel)) ggX7_changed_X7_isTwo
set_option maxRecDepth 20000 in
theorem ggX7_changed_X7_changedOf : GoodIn wsX7_changed wsX7_changedOf := goodIn_r _ [11, 12, 13, 14, 3, 15, 16, 17, 18, 19, 20, 21, 22, 23, 24, 25, 26, 27, 28, 29, 30, 31, 32, 33, 34, 35, 36, 37, 38, 5, 6, 7, 39, 40, 41, 42, 43, 44, 45, 46, 47, 48, 49, 50, 51, 52, 53, 54, 55, 56, 57, 58, 59, 60, 61, 62, 63, 64, 65, 66, 67, 68, 69, 70, 71, 72, 73, 74, 75, 76, 77, 78, 79, 80, 81, 82, 83, 84, 85, 86, 87, 88, 89, 90, 91, 92, 93] (by decide +kernel) (by decide +kernel)
set_option maxRecDepth 20000 in
theorem gX7_changed_X7_changedOf : GoodIn wsX7_changed (wsV RX7 246 RX7 yX7_changedOf wsX7_changedOf) := goodIn_app (goodIn_of _ (by decide +kernel)) ggX7_changed_X7_changedOf
theorem dX7_changed_0 : decode cX7_changed 0 = .ok (.iload_n 1, 1) := by decide +kernel
theorem dX7_changed_1 : decode cX7_changed 1 = .ok (.invokestatic 148, 3) := by decide +kernel
theorem dX7_changed_4 : decode cX7_changed 4 = .ok (.ifCond .eq 11, 3) := by decide +kernel
theorem dX7_changed_7 : decode cX7_changed 7 = .ok (.aload_n 0, 1) := by decide +kernel
theorem dX7_changed_8 : decode cX7_changed 8 = .ok (.iload_n 1, 1) := by decide +kernel
theorem dX7_changed_9 : decode cX7_changed 9 = .ok (.invokevirtual 246, 3) := by decide +kernel
theorem dX7_changed_12 : decode cX7_changed 12 = .ok (.goto 5, 3) := by decide +kernel
theorem dX7_changed_15 : decode cX7_changed 15 = .ok (.bipush (-2), 2) := by decide +kernel
theorem dX7_changed_17 : decode cX7_changed 17 = .ok (.ireturn, 1) := by decide +kernel
set_option maxRecDepth 20000 in
theorem ggX7_sister_X7_isYear : GoodIn wsX7_sister wsX7_isYear := goodIn_r _ [7, 8, 9, 10, 6, 11] (by decide +kernel) (by decide +kernel)
set_option maxRecDepth 20000 in
theorem gX7_sister_X7_isYear : GoodIn wsX7_sister (va_wsS RX7 121 yX7_isYear wsX7_isYear) := goodIn_app (goodIn_of _ (by decide +kernel)) ggX7_sister_X7_isYear
set_option maxRecDepth 20000 in
theorem ggX7_sister_X7_in : GoodIn wsX7_sister wsX7_in := goodIn_r _ [11] (by decide +kernel) (by decide +kernel)
set_option maxRecDepth 20000 in
theorem gX7_sister_X7_in : GoodIn wsX7_sister (va_wsS RX7 76 yX7_in wsX7_in) := goodIn_app (goodIn_of _ (by decide +kernel)) ggX7_sister_X7_in
theorem dX7_sister_0 : decode cX7_sister 0 = .ok (.iload_n 1, 1) := by decide +kernel
theorem dX7_sister_1 : decode cX7_sister 1 = .ok (.invokestatic 121, 3) := by decide +kernel
theorem dX7_sister_4 : decode cX7_sister 4 = .ok (.ifCond .eq 17, 3) := by decide +kernel
theorem dX7_sister_7 : decode cX7_sister 7 = .ok (.iload_n 2, 1) := by decide +kernel
theorem dX7_sister_8 : decode cX7_sister 8 = .ok (.i2l, 1) := by decide +kernel
theorem dX7_sister_9 : decode cX7_sister 9 = .ok (.ldc2_w 249, 3) := by decide +kernel
theorem dX7_sister_12 : decode cX7_sister 12 = .ok (.ldc2_w 113, 3) := by decide +kernel
theorem dX7_sister_15 : decode cX7_sister 15 = .ok (.invokestatic 76, 3) := by decide +kernel
theorem dX7_sister_18 : decode cX7_sister 18 = .ok (.ifCond .ne 6, 3) := by decide +kernel
theorem dX7_sister_21 : decode cX7_sister 21 = .ok (.bipush (-5), 2) := by decide +kernel
theorem dX7_sister_23 : decode cX7_sister 23 = .ok (.ireturn, 1) := by decide +kernel
theorem dX7_sister_24 : decode cX7_sister 24 = .ok (.aload_n 0, 1) := by decide +kernel
theorem dX7_sister_25 : decode cX7_sister 25 = .ok (.getfield 46, 3) := by decide +kernel
theorem dX7_sister_28 : decode cX7_sister 28 = .ok (.iload_n 1, 1) := by decide +kernel
theorem dX7_sister_29 : decode cX7_sister 29 = .ok (.iaload, 1) := by decide +kernel
theorem dX7_sister_30 : decode cX7_sister 30 = .ok (.istore_n 3, 1) := by decide +kernel
theorem dX7_sister_31 : decode cX7_sister 31 = .ok (.aload_n 0, 1) := by decide +kernel
theorem dX7_sister_32 : decode cX7_sister 32 = .ok (.getfield 46, 3) := by decide +kernel
theorem dX7_sister_35 : decode cX7_sister 35 = .ok (.iload_n 1, 1) := by decide +kernel
theorem dX7_sister_36 : decode cX7_sister 36 = .ok (.iload_n 2, 1) := by decide +kernel
theorem dX7_sister_37 : decode cX7_sister 37 = .ok (.iastore, 1) := by decide +kernel
theorem dX7_sister_38 : decode cX7_sister 38 = .ok (.iload_n 3, 1) := by decide +kernel
theorem dX7_sister_39 : decode cX7_sister 39 = .ok (.ireturn, 1) := by decide +kernel
theorem dX7_isCommon_0 : decode cX7_isCommon 0 = .ok (.aload_n 0, 1) := by decide +kernel
theorem dX7_isCommon_1 : decode cX7_isCommon 1 = .ok (.getfield 46, 3) := by decide +kernel
theorem dX7_isCommon_4 : decode cX7_isCommon 4 = .ok (.aload_n 0, 1) := by decide +kernel
theorem dX7_isCommon_5 : decode cX7_isCommon 5 = .ok (.getfield 55, 3) := by decide +kernel
theorem dX7_isCommon_8 : decode cX7_isCommon 8 = .ok (.iload_n 1, 1) := by decide +kernel
theorem dX7_isCommon_9 : decode cX7_isCommon 9 = .ok (.iaload, 1) := by decide +kernel
theorem dX7_isCommon_10 : decode cX7_isCommon 10 = .ok (.iaload, 1) := by decide +kernel
theorem dX7_isCommon_11 : decode cX7_isCommon 11 = .ok (.iconst (-1), 1) := by decide +kernel
theorem dX7_isCommon_12 : decode cX7_isCommon 12 = .ok (.if_icmp .eq 7, 3) := by decide +kernel
theorem dX7_isCommon_15 : decode cX7_isCommon 15 = .ok (.iconst 1, 1) := by decide +kernel
theorem dX7_isCommon_16 : decode cX7_isCommon 16 = .ok (.goto 4, 3) := by decide +kernel
theorem dX7_isCommon_19 : decode cX7_isCommon 19 = .ok (.iconst 0, 1) := by decide +kernel
theorem dX7_isCommon_20 : decode cX7_isCommon 20 = .ok (.ireturn, 1) := by decide +kernel
set_option maxRecDepth 20000 in
theorem ggX7_commonOf_X7_find : GoodIn wsX7_commonOf wsX7_find := goodIn_r _ [9, 10, 11, 12, 13, 14, 15, 16, 17, 1, 4, 2, 18, 19, 20, 8, 21, 22, 23, 24, 25, 26, 27, 28, 29, 30, 31, 32, 40, 41, 42, 43, 44, 45, 46, 47, 48, 49, 50, 51, 52, 53, 54, 55, 56, 57, 58, 59, 60, 61, 62, 63, 64, 65, 66, 67] (by decide +kernel) (by decide +kernel)
set_option maxRecDepth 20000 in
theorem gX7_commonOf_X7_find : GoodIn wsX7_commonOf (wsV RX7 151 RX7 yX7_find wsX7_find) := goodIn_app (goodIn_of _ (by decide +kernel)) ggX7_commonOf_X7_find
set_option maxRecDepth 20000 in
theorem ggX7_commonOf_X7_isCommon : GoodIn wsX7_commonOf wsX7_isCommon := goodIn_r _ [36, 3, 4, 40, 41, 42, 43, 44, 45, 46, 47, 48, 49, 50, 51, 52, 53, 54, 55, 56, 57, 58, 59, 60, 61, 62, 63, 64, 65, 66, 67] (by decide +kernel) (by decide +kernel)
set_option maxRecDepth 20000 in
theorem gX7_commonOf_X7_isCommon : GoodIn wsX7_commonOf (wsV RX7 251 RX7 yX7_isCommon wsX7_isCommon) := goodIn_app (goodIn_of _ (by decide +kernel)) ggX7_commonOf_X7_isCommon
set_option maxRecDepth 20000 in
theorem ggX7_commonOf_X7_sign : GoodIn wsX7_commonOf wsX7_sign := goodIn_r _ [39] (by decide +kernel) (by decide +kernel)
set_option maxRecDepth 20000 in
theorem gX7_commonOf_X7_sign : GoodIn wsX7_commonOf (va_wsS RX7 221 yX7_sign wsX7_sign) := goodIn_app (goodIn_of _ (by decide +kernel)) ggX7_commonOf_X7_sign
theorem dX7_commonOf_0 : decode cX7_commonOf 0 = .ok (.aload_n 0, 1) := by decide +kernel
theorem dX7_commonOf_1 : decode cX7_commonOf 1 = .ok (.invokevirtual 151, 3) := by decide +kernel
theorem dX7_commonOf_4 : decode cX7_commonOf 4 = .ok (.iconst 0, 1) := by decide +kernel
theorem dX7_commonOf_5 : decode cX7_commonOf 5 = .ok (.istore_n 2, 1) := by decide +kernel
theorem dX7_commonOf_6 : decode cX7_commonOf 6 = .ok (.iconst 0, 1) := by decide +kernel
theorem dX7_commonOf_7 : decode cX7_commonOf 7 = .ok (.istore_n 3, 1) := by decide +kernel
theorem dX7_commonOf_8 : decode cX7_commonOf 8 = .ok (.iconst 0, 1) := by decide +kernel
theorem dX7_commonOf_9 : decode cX7_commonOf 9 = .ok (.istore 4, 2) := by decide +kernel
theorem dX7_commonOf_11 : decode cX7_commonOf 11 = .ok (.iload 4, 2) := by decide +kernel
theorem dX7_commonOf_13 : decode cX7_commonOf 13 = .ok (.aload_n 0, 1) := by decide +kernel
theorem dX7_commonOf_14 : decode cX7_commonOf 14 = .ok (.getfield 139, 3) := by decide +kernel
theorem dX7_commonOf_17 : decode cX7_commonOf 17 = .ok (.if_icmp .ge 130, 3) := by decide +kernel
theorem dX7_commonOf_20 : decode cX7_commonOf 20 = .ok (.iload_n 2, 1) := by decide +kernel
theorem dX7_commonOf_21 : decode cX7_commonOf 21 = .ok (.aload_n 0, 1) := by decide +kernel
theorem dX7_commonOf_22 : decode cX7_commonOf 22 = .ok (.iload 4, 2) := by decide +kernel
theorem dX7_commonOf_24 : decode cX7_commonOf 24 = .ok (.invokevirtual 251, 3) := by decide +kernel
theorem dX7_commonOf_27 : decode cX7_commonOf 27 = .ok (.ifCond .eq 7, 3) := by decide +kernel
theorem dX7_commonOf_30 : decode cX7_commonOf 30 = .ok (.iconst 1, 1) := by decide +kernel
theorem dX7_commonOf_31 : decode cX7_commonOf 31 = .ok (.goto 4, 3) := by decide +kernel
theorem dX7_commonOf_34 : decode cX7_commonOf 34 = .ok (.iconst 0, 1) := by decide +kernel
theorem dX7_commonOf_35 : decode cX7_commonOf 35 = .ok (.iadd, 1) := by decide +kernel
theorem dX7_commonOf_36 : decode cX7_commonOf 36 = .ok (.istore_n 2, 1) := by decide +kernel
theorem dX7_commonOf_37 : decode cX7_commonOf 37 = .ok (.iconst 0, 1) := by decide +kernel
theorem dX7_commonOf_38 : decode cX7_commonOf 38 = .ok (.istore 5, 2) := by decide +kernel
theorem dX7_commonOf_40 : decode cX7_commonOf 40 = .ok (.iload 5, 2) := by decide +kernel
theorem dX7_commonOf_42 : decode cX7_commonOf 42 = .ok (.iload 4, 2) := by decide +kernel
theorem dX7_commonOf_44 : decode cX7_commonOf 44 = .ok (.if_icmp .ge 97, 3) := by decide +kernel
theorem dX7_commonOf_47 : decode cX7_commonOf 47 = .ok (.aload_n 0, 1) := by decide +kernel
theorem dX7_commonOf_48 : decode cX7_commonOf 48 = .ok (.iload 5, 2) := by decide +kernel
theorem dX7_commonOf_50 : decode cX7_commonOf 50 = .ok (.invokevirtual 251, 3) := by decide +kernel
theorem dX7_commonOf_53 : decode cX7_commonOf 53 = .ok (.ifCond .eq 16, 3) := by decide +kernel
theorem dX7_commonOf_56 : decode cX7_commonOf 56 = .ok (.aload_n 0, 1) := by decide +kernel
theorem dX7_commonOf_57 : decode cX7_commonOf 57 = .ok (.iload 4, 2) := by decide +kernel
theorem dX7_commonOf_59 : decode cX7_commonOf 59 = .ok (.invokevirtual 251, 3) := by decide +kernel
theorem dX7_commonOf_62 : decode cX7_commonOf 62 = .ok (.ifCond .eq 7, 3) := by decide +kernel
theorem dX7_commonOf_65 : decode cX7_commonOf 65 = .ok (.iconst 1, 1) := by decide +kernel
theorem dX7_commonOf_66 : decode cX7_commonOf 66 = .ok (.goto 4, 3) := by decide +kernel
theorem dX7_commonOf_69 : decode cX7_commonOf 69 = .ok (.iconst 0, 1) := by decide +kernel
theorem dX7_commonOf_70 : decode cX7_commonOf 70 = .ok (.istore 6, 2) := by decide +kernel
theorem dX7_commonOf_72 : decode cX7_commonOf 72 = .ok (.aload_n 0, 1) := by decide +kernel
theorem dX7_commonOf_73 : decode cX7_commonOf 73 = .ok (.getfield 58, 3) := by decide +kernel
theorem dX7_commonOf_76 : decode cX7_commonOf 76 = .ok (.iload 4, 2) := by decide +kernel
theorem dX7_commonOf_78 : decode cX7_commonOf 78 = .ok (.iaload, 1) := by decide +kernel
theorem dX7_commonOf_79 : decode cX7_commonOf 79 = .ok (.aload_n 0, 1) := by decide +kernel
theorem dX7_commonOf_80 : decode cX7_commonOf 80 = .ok (.getfield 58, 3) := by decide +kernel
theorem dX7_commonOf_83 : decode cX7_commonOf 83 = .ok (.iload 5, 2) := by decide +kernel
theorem dX7_commonOf_85 : decode cX7_commonOf 85 = .ok (.iaload, 1) := by decide +kernel
theorem dX7_commonOf_86 : decode cX7_commonOf 86 = .ok (.isub, 1) := by decide +kernel
theorem dX7_commonOf_87 : decode cX7_commonOf 87 = .ok (.invokestatic 221, 3) := by decide +kernel
theorem dX7_commonOf_90 : decode cX7_commonOf 90 = .ok (.istore 7, 2) := by decide +kernel
theorem dX7_commonOf_92 : decode cX7_commonOf 92 = .ok (.iload_n 3, 1) := by decide +kernel
theorem dX7_commonOf_93 : decode cX7_commonOf 93 = .ok (.iload 6, 2) := by decide +kernel
theorem dX7_commonOf_95 : decode cX7_commonOf 95 = .ok (.ifCond .eq 37, 3) := by decide +kernel
theorem dX7_commonOf_98 : decode cX7_commonOf 98 = .ok (.iload 7, 2) := by decide +kernel
theorem dX7_commonOf_100 : decode cX7_commonOf 100 = .ok (.aload_n 0, 1) := by decide +kernel
theorem dX7_commonOf_101 : decode cX7_commonOf 101 = .ok (.getfield 46, 3) := by decide +kernel
theorem dX7_commonOf_104 : decode cX7_commonOf 104 = .ok (.aload_n 0, 1) := by decide +kernel
theorem dX7_commonOf_105 : decode cX7_commonOf 105 = .ok (.getfield 55, 3) := by decide +kernel
theorem dX7_commonOf_108 : decode cX7_commonOf 108 = .ok (.iload 4, 2) := by decide +kernel
theorem dX7_commonOf_110 : decode cX7_commonOf 110 = .ok (.iaload, 1) := by decide +kernel
theorem dX7_commonOf_111 : decode cX7_commonOf 111 = .ok (.iaload, 1) := by decide +kernel
theorem dX7_commonOf_112 : decode cX7_commonOf 112 = .ok (.aload_n 0, 1) := by decide +kernel
theorem dX7_commonOf_113 : decode cX7_commonOf 113 = .ok (.getfield 46, 3) := by decide +kernel
theorem dX7_commonOf_116 : decode cX7_commonOf 116 = .ok (.aload_n 0, 1) := by decide +kernel
theorem dX7_commonOf_117 : decode cX7_commonOf 117 = .ok (.getfield 55, 3) := by decide +kernel
theorem dX7_commonOf_120 : decode cX7_commonOf 120 = .ok (.iload 5, 2) := by decide +kernel
theorem dX7_commonOf_122 : decode cX7_commonOf 122 = .ok (.iaload, 1) := by decide +kernel
theorem dX7_commonOf_123 : decode cX7_commonOf 123 = .ok (.iaload, 1) := by decide +kernel
theorem dX7_commonOf_124 : decode cX7_commonOf 124 = .ok (.isub, 1) := by decide +kernel
theorem dX7_commonOf_125 : decode cX7_commonOf 125 = .ok (.invokestatic 221, 3) := by decide +kernel
theorem dX7_commonOf_128 : decode cX7_commonOf 128 = .ok (.imul, 1) := by decide +kernel
theorem dX7_commonOf_129 : decode cX7_commonOf 129 = .ok (.goto 4, 3) := by decide +kernel
theorem dX7_commonOf_132 : decode cX7_commonOf 132 = .ok (.iconst 0, 1) := by decide +kernel
theorem dX7_commonOf_133 : decode cX7_commonOf 133 = .ok (.iadd, 1) := by decide +kernel
theorem dX7_commonOf_134 : decode cX7_commonOf 134 = .ok (.istore_n 3, 1) := by decide +kernel
theorem dX7_commonOf_135 : decode cX7_commonOf 135 = .ok (.iinc 5 1, 3) := by decide +kernel
theorem dX7_commonOf_138 : decode cX7_commonOf 138 = .ok (.goto (-98), 3) := by decide +kernel
theorem dX7_commonOf_141 : decode cX7_commonOf 141 = .ok (.iinc 4 1, 3) := by decide +kernel
theorem dX7_commonOf_144 : decode cX7_commonOf 144 = .ok (.goto (-133), 3) := by decide +kernel
theorem dX7_commonOf_147 : decode cX7_commonOf 147 = .ok (.iload_n 1, 1) := by decide +kernel
theorem dX7_commonOf_148 : decode cX7_commonOf 148 = .ok (.ifCond .ne 7, 3) := by decide +kernel
theorem dX7_commonOf_151 : decode cX7_commonOf 151 = .ok (.iload_n 2, 1) := by decide +kernel
theorem dX7_commonOf_152 : decode cX7_commonOf 152 = .ok (.goto 4, 3) := by decide +kernel
theorem dX7_commonOf_155 : decode cX7_commonOf 155 = .ok (.iload_n 3, 1) := by decide +kernel
theorem dX7_commonOf_156 : decode cX7_commonOf 156 = .ok (.ireturn, 1) := by decide +kernel
set_option maxRecDepth 20000 in
theorem ggX7_common_X7_isTwo : GoodIn wsX7_common wsX7_isTwo := goodIn_r _ [4, 5, 6, 3, 7] (by decide +kernel) (by decide +kernel)
set_option maxRecDepth 20000 in
theorem gX7_common_X7_isTwo : GoodIn wsX7_common (va_wsS RX7 148 yX7_isTwo wsX7_isTwo) := goodIn_app (goodIn_of _ (by decide +kernel)) ggX7_common_X7_isTwo
set_option maxRecDepth 20000 in
theorem ggX7_common_X7_commonOf : GoodIn wsX7_common wsX7_commonOf := goodIn_r _ [11, 12, 13, 14, 15, 16, 17, 18, 3, 19, 20, 21, 22, 23, 24, 25, 26, 27, 28, 29, 30, 31, 32, 33, 34, 35, 5, 6, 7, 36, 37, 38, 39, 40, 41, 42, 43, 44, 45, 46, 47, 48, 49, 50, 51, 52, 53, 54, 55, 56, 57, 58, 59, 60, 61, 62, 63, 64, 65, 66, 67, 68, 69, 70, 71, 72, 73, 74] (by decide +kernel) (by decide +kernel)
set_option maxRecDepth 20000 in
theorem gX7_common_X7_commonOf : GoodIn wsX7_common (wsV RX7 254 RX7 yX7_commonOf wsX7_commonOf) := goodIn_app (goodIn_of _ (by decide +kernel)) ggX7_common_X7_commonOf
theorem dX7_common_0 : decode cX7_common 0 = .ok (.iload_n 1, 1) := by decide +kernel
theorem dX7_common_1 : decode cX7_common 1 = .ok (.invokestatic 148, 3) := by decide +kernel
theorem dX7_common_4 : decode cX7_common 4 = .ok (.ifCond .eq 11, 3) := by decide +kernel
theorem dX7_common_7 : decode cX7_common 7 = .ok (.aload_n 0, 1) := by decide +kernel
theorem dX7_common_8 : decode cX7_common 8 = .ok (.iload_n 1, 1) := by decide +kernel
theorem dX7_common_9 : decode cX7_common 9 = .ok (.invokevirtual 254, 3) := by decide +kernel
theorem dX7_common_12 : decode cX7_common 12 = .ok (.goto 6, 3) := by decide +kernel
theorem dX7_common_15 : decode cX7_common 15 = .ok (.sipush (-10002), 3) := by decide +kernel
theorem dX7_common_18 : decode cX7_common 18 = .ok (.ireturn, 1) := by decide +kernel
set_option maxRecDepth 20000 in
theorem ggX7_filledOf_X7_find : GoodIn wsX7_filledOf wsX7_find := goodIn_r _ [10, 1, 11, 12, 13, 14, 15, 16, 17, 3, 4, 5, 18, 19, 20, 9, 21, 22, 23, 24, 25, 26, 27, 28, 29, 30, 31, 32, 37, 38, 39, 40, 41, 42, 43, 44, 45, 46, 47, 48, 49, 50, 51, 52, 53, 54, 55, 56, 57, 58, 59, 60, 61, 62, 63, 64] (by decide +kernel) (by decide +kernel)
set_option maxRecDepth 20000 in
theorem gX7_filledOf_X7_find : GoodIn wsX7_filledOf (wsV RX7 151 RX7 yX7_find wsX7_find) := goodIn_app (goodIn_of _ (by decide +kernel)) ggX7_filledOf_X7_find
set_option maxRecDepth 20000 in
theorem ggX7_filledOf_X7_isCommon : GoodIn wsX7_filledOf wsX7_isCommon := goodIn_r _ [36, 2, 4, 37, 38, 39, 40, 41, 42, 43, 44, 45, 46, 47, 48, 49, 50, 51, 52, 53, 54, 55, 56, 57, 58, 59, 60, 61, 62, 63, 64] (by decide +kernel) (by decide +kernel)
set_option maxRecDepth 20000 in
theorem gX7_filledOf_X7_isCommon : GoodIn wsX7_filledOf (wsV RX7 251 RX7 yX7_isCommon wsX7_isCommon) := goodIn_app (goodIn_of _ (by decide +kernel)) ggX7_filledOf_X7_isCommon
theorem dX7_filledOf_0 : decode cX7_filledOf 0 = .ok (.aload_n 0, 1) := by decide +kernel
theorem dX7_filledOf_1 : decode cX7_filledOf 1 = .ok (.invokevirtual 151, 3) := by decide +kernel
theorem dX7_filledOf_4 : decode cX7_filledOf 4 = .ok (.aload_n 0, 1) := by decide +kernel
theorem dX7_filledOf_5 : decode cX7_filledOf 5 = .ok (.getfield 49, 3) := by decide +kernel
theorem dX7_filledOf_8 : decode cX7_filledOf 8 = .ok (.iload_n 1, 1) := by decide +kernel
theorem dX7_filledOf_9 : decode cX7_filledOf 9 = .ok (.iaload, 1) := by decide +kernel
theorem dX7_filledOf_10 : decode cX7_filledOf 10 = .ok (.ifCond .eq 13, 3) := by decide +kernel
theorem dX7_filledOf_13 : decode cX7_filledOf 13 = .ok (.aload_n 0, 1) := by decide +kernel
theorem dX7_filledOf_14 : decode cX7_filledOf 14 = .ok (.getfield 46, 3) := by decide +kernel
theorem dX7_filledOf_17 : decode cX7_filledOf 17 = .ok (.iload_n 1, 1) := by decide +kernel
theorem dX7_filledOf_18 : decode cX7_filledOf 18 = .ok (.iaload, 1) := by decide +kernel
theorem dX7_filledOf_19 : decode cX7_filledOf 19 = .ok (.iconst (-1), 1) := by decide +kernel
theorem dX7_filledOf_20 : decode cX7_filledOf 20 = .ok (.if_icmp .ne 6, 3) := by decide +kernel
theorem dX7_filledOf_23 : decode cX7_filledOf 23 = .ok (.bipush (-3), 2) := by decide +kernel
theorem dX7_filledOf_25 : decode cX7_filledOf 25 = .ok (.ireturn, 1) := by decide +kernel
theorem dX7_filledOf_26 : decode cX7_filledOf 26 = .ok (.lconst 0, 1) := by decide +kernel
theorem dX7_filledOf_27 : decode cX7_filledOf 27 = .ok (.lstore_n 3, 1) := by decide +kernel
theorem dX7_filledOf_28 : decode cX7_filledOf 28 = .ok (.lconst 0, 1) := by decide +kernel
theorem dX7_filledOf_29 : decode cX7_filledOf 29 = .ok (.lstore 5, 2) := by decide +kernel
theorem dX7_filledOf_31 : decode cX7_filledOf 31 = .ok (.iconst (-1), 1) := by decide +kernel
theorem dX7_filledOf_32 : decode cX7_filledOf 32 = .ok (.istore 7, 2) := by decide +kernel
theorem dX7_filledOf_34 : decode cX7_filledOf 34 = .ok (.iconst 0, 1) := by decide +kernel
theorem dX7_filledOf_35 : decode cX7_filledOf 35 = .ok (.istore 8, 2) := by decide +kernel
theorem dX7_filledOf_37 : decode cX7_filledOf 37 = .ok (.iload 8, 2) := by decide +kernel
theorem dX7_filledOf_39 : decode cX7_filledOf 39 = .ok (.aload_n 0, 1) := by decide +kernel
theorem dX7_filledOf_40 : decode cX7_filledOf 40 = .ok (.getfield 139, 3) := by decide +kernel
theorem dX7_filledOf_43 : decode cX7_filledOf 43 = .ok (.if_icmp .ge 153, 3) := by decide +kernel
theorem dX7_filledOf_46 : decode cX7_filledOf 46 = .ok (.aload_n 0, 1) := by decide +kernel
theorem dX7_filledOf_47 : decode cX7_filledOf 47 = .ok (.iload 8, 2) := by decide +kernel
theorem dX7_filledOf_49 : decode cX7_filledOf 49 = .ok (.invokevirtual 251, 3) := by decide +kernel
theorem dX7_filledOf_52 : decode cX7_filledOf 52 = .ok (.ifCond .eq 138, 3) := by decide +kernel
theorem dX7_filledOf_55 : decode cX7_filledOf 55 = .ok (.aload_n 0, 1) := by decide +kernel
theorem dX7_filledOf_56 : decode cX7_filledOf 56 = .ok (.getfield 46, 3) := by decide +kernel
theorem dX7_filledOf_59 : decode cX7_filledOf 59 = .ok (.aload_n 0, 1) := by decide +kernel
theorem dX7_filledOf_60 : decode cX7_filledOf 60 = .ok (.getfield 55, 3) := by decide +kernel
theorem dX7_filledOf_63 : decode cX7_filledOf 63 = .ok (.iload 8, 2) := by decide +kernel
theorem dX7_filledOf_65 : decode cX7_filledOf 65 = .ok (.iaload, 1) := by decide +kernel
theorem dX7_filledOf_66 : decode cX7_filledOf 66 = .ok (.iaload, 1) := by decide +kernel
theorem dX7_filledOf_67 : decode cX7_filledOf 67 = .ok (.istore 9, 2) := by decide +kernel
theorem dX7_filledOf_69 : decode cX7_filledOf 69 = .ok (.lload_n 3, 1) := by decide +kernel
theorem dX7_filledOf_70 : decode cX7_filledOf 70 = .ok (.aload_n 0, 1) := by decide +kernel
theorem dX7_filledOf_71 : decode cX7_filledOf 71 = .ok (.getfield 58, 3) := by decide +kernel
theorem dX7_filledOf_74 : decode cX7_filledOf 74 = .ok (.iload 8, 2) := by decide +kernel
theorem dX7_filledOf_76 : decode cX7_filledOf 76 = .ok (.iaload, 1) := by decide +kernel
theorem dX7_filledOf_77 : decode cX7_filledOf 77 = .ok (.i2l, 1) := by decide +kernel
theorem dX7_filledOf_78 : decode cX7_filledOf 78 = .ok (.ladd, 1) := by decide +kernel
theorem dX7_filledOf_79 : decode cX7_filledOf 79 = .ok (.lstore_n 3, 1) := by decide +kernel
theorem dX7_filledOf_80 : decode cX7_filledOf 80 = .ok (.lload 5, 2) := by decide +kernel
theorem dX7_filledOf_82 : decode cX7_filledOf 82 = .ok (.iload 9, 2) := by decide +kernel
theorem dX7_filledOf_84 : decode cX7_filledOf 84 = .ok (.i2l, 1) := by decide +kernel
theorem dX7_filledOf_85 : decode cX7_filledOf 85 = .ok (.ladd, 1) := by decide +kernel
theorem dX7_filledOf_86 : decode cX7_filledOf 86 = .ok (.lstore 5, 2) := by decide +kernel
theorem dX7_filledOf_88 : decode cX7_filledOf 88 = .ok (.iload 9, 2) := by decide +kernel
theorem dX7_filledOf_90 : decode cX7_filledOf 90 = .ok (.ifCond .le 100, 3) := by decide +kernel
theorem dX7_filledOf_93 : decode cX7_filledOf 93 = .ok (.iload 7, 2) := by decide +kernel
theorem dX7_filledOf_95 : decode cX7_filledOf 95 = .ok (.iconst (-1), 1) := by decide +kernel
theorem dX7_filledOf_96 : decode cX7_filledOf 96 = .ok (.if_icmp .ne 7, 3) := by decide +kernel
theorem dX7_filledOf_99 : decode cX7_filledOf 99 = .ok (.lconst 0, 1) := by decide +kernel
theorem dX7_filledOf_100 : decode cX7_filledOf 100 = .ok (.goto 25, 3) := by decide +kernel
theorem dX7_filledOf_103 : decode cX7_filledOf 103 = .ok (.aload_n 0, 1) := by decide +kernel
theorem dX7_filledOf_104 : decode cX7_filledOf 104 = .ok (.getfield 58, 3) := by decide +kernel
theorem dX7_filledOf_107 : decode cX7_filledOf 107 = .ok (.iload 8, 2) := by decide +kernel
theorem dX7_filledOf_109 : decode cX7_filledOf 109 = .ok (.iaload, 1) := by decide +kernel
theorem dX7_filledOf_110 : decode cX7_filledOf 110 = .ok (.i2l, 1) := by decide +kernel
theorem dX7_filledOf_111 : decode cX7_filledOf 111 = .ok (.aload_n 0, 1) := by decide +kernel
theorem dX7_filledOf_112 : decode cX7_filledOf 112 = .ok (.getfield 46, 3) := by decide +kernel
theorem dX7_filledOf_115 : decode cX7_filledOf 115 = .ok (.aload_n 0, 1) := by decide +kernel
theorem dX7_filledOf_116 : decode cX7_filledOf 116 = .ok (.getfield 55, 3) := by decide +kernel
theorem dX7_filledOf_119 : decode cX7_filledOf 119 = .ok (.iload 7, 2) := by decide +kernel
theorem dX7_filledOf_121 : decode cX7_filledOf 121 = .ok (.iaload, 1) := by decide +kernel
theorem dX7_filledOf_122 : decode cX7_filledOf 122 = .ok (.iaload, 1) := by decide +kernel
theorem dX7_filledOf_123 : decode cX7_filledOf 123 = .ok (.i2l, 1) := by decide +kernel
theorem dX7_filledOf_124 : decode cX7_filledOf 124 = .ok (.lmul, 1) := by decide +kernel
theorem dX7_filledOf_125 : decode cX7_filledOf 125 = .ok (.lstore 10, 2) := by decide +kernel
theorem dX7_filledOf_127 : decode cX7_filledOf 127 = .ok (.iload 7, 2) := by decide +kernel
theorem dX7_filledOf_129 : decode cX7_filledOf 129 = .ok (.iconst (-1), 1) := by decide +kernel
theorem dX7_filledOf_130 : decode cX7_filledOf 130 = .ok (.if_icmp .ne 7, 3) := by decide +kernel
theorem dX7_filledOf_133 : decode cX7_filledOf 133 = .ok (.lconst 0, 1) := by decide +kernel
theorem dX7_filledOf_134 : decode cX7_filledOf 134 = .ok (.goto 15, 3) := by decide +kernel
theorem dX7_filledOf_137 : decode cX7_filledOf 137 = .ok (.aload_n 0, 1) := by decide +kernel
theorem dX7_filledOf_138 : decode cX7_filledOf 138 = .ok (.getfield 58, 3) := by decide +kernel
theorem dX7_filledOf_141 : decode cX7_filledOf 141 = .ok (.iload 7, 2) := by decide +kernel
theorem dX7_filledOf_143 : decode cX7_filledOf 143 = .ok (.iaload, 1) := by decide +kernel
theorem dX7_filledOf_144 : decode cX7_filledOf 144 = .ok (.i2l, 1) := by decide +kernel
theorem dX7_filledOf_145 : decode cX7_filledOf 145 = .ok (.iload 9, 2) := by decide +kernel
theorem dX7_filledOf_147 : decode cX7_filledOf 147 = .ok (.i2l, 1) := by decide +kernel
theorem dX7_filledOf_148 : decode cX7_filledOf 148 = .ok (.lmul, 1) := by decide +kernel
theorem dX7_filledOf_149 : decode cX7_filledOf 149 = .ok (.lstore 12, 2) := by decide +kernel
theorem dX7_filledOf_151 : decode cX7_filledOf 151 = .ok (.iload 7, 2) := by decide +kernel
theorem dX7_filledOf_153 : decode cX7_filledOf 153 = .ok (.iconst (-1), 1) := by decide +kernel
theorem dX7_filledOf_154 : decode cX7_filledOf 154 = .ok (.if_icmp .eq 27, 3) := by decide +kernel
theorem dX7_filledOf_157 : decode cX7_filledOf 157 = .ok (.iload_n 2, 1) := by decide +kernel
theorem dX7_filledOf_158 : decode cX7_filledOf 158 = .ok (.iconst 1, 1) := by decide +kernel
theorem dX7_filledOf_159 : decode cX7_filledOf 159 = .ok (.if_icmp .ne 14, 3) := by decide +kernel
theorem dX7_filledOf_162 : decode cX7_filledOf 162 = .ok (.lload 10, 2) := by decide +kernel
theorem dX7_filledOf_164 : decode cX7_filledOf 164 = .ok (.lload 12, 2) := by decide +kernel
theorem dX7_filledOf_166 : decode cX7_filledOf 166 = .ok (.lcmp, 1) := by decide +kernel
theorem dX7_filledOf_167 : decode cX7_filledOf 167 = .ok (.ifCond .ge 19, 3) := by decide +kernel
theorem dX7_filledOf_170 : decode cX7_filledOf 170 = .ok (.goto 11, 3) := by decide +kernel
theorem dX7_filledOf_173 : decode cX7_filledOf 173 = .ok (.lload 10, 2) := by decide +kernel
theorem dX7_filledOf_175 : decode cX7_filledOf 175 = .ok (.lload 12, 2) := by decide +kernel
theorem dX7_filledOf_177 : decode cX7_filledOf 177 = .ok (.lcmp, 1) := by decide +kernel
theorem dX7_filledOf_178 : decode cX7_filledOf 178 = .ok (.ifCond .le 8, 3) := by decide +kernel
theorem dX7_filledOf_181 : decode cX7_filledOf 181 = .ok (.iload 8, 2) := by decide +kernel
theorem dX7_filledOf_183 : decode cX7_filledOf 183 = .ok (.goto 5, 3) := by decide +kernel
theorem dX7_filledOf_186 : decode cX7_filledOf 186 = .ok (.iload 7, 2) := by decide +kernel
theorem dX7_filledOf_188 : decode cX7_filledOf 188 = .ok (.istore 7, 2) := by decide +kernel
theorem dX7_filledOf_190 : decode cX7_filledOf 190 = .ok (.iinc 8 1, 3) := by decide +kernel
theorem dX7_filledOf_193 : decode cX7_filledOf 193 = .ok (.goto (-156), 3) := by decide +kernel
theorem dX7_filledOf_196 : decode cX7_filledOf 196 = .ok (.iload_n 2, 1) := by decide +kernel
theorem dX7_filledOf_197 : decode cX7_filledOf 197 = .ok (.ifCond .ne 29, 3) := by decide +kernel
theorem dX7_filledOf_200 : decode cX7_filledOf 200 = .ok (.lload 5, 2) := by decide +kernel
theorem dX7_filledOf_202 : decode cX7_filledOf 202 = .ok (.lconst 0, 1) := by decide +kernel
theorem dX7_filledOf_203 : decode cX7_filledOf 203 = .ok (.lcmp, 1) := by decide +kernel
theorem dX7_filledOf_204 : decode cX7_filledOf 204 = .ok (.ifCond .ne 8, 3) := by decide +kernel
theorem dX7_filledOf_207 : decode cX7_filledOf 207 = .ok (.bipush (-3), 2) := by decide +kernel
theorem dX7_filledOf_209 : decode cX7_filledOf 209 = .ok (.goto 16, 3) := by decide +kernel
theorem dX7_filledOf_212 : decode cX7_filledOf 212 = .ok (.aload_n 0, 1) := by decide +kernel
theorem dX7_filledOf_213 : decode cX7_filledOf 213 = .ok (.getfield 46, 3) := by decide +kernel
theorem dX7_filledOf_216 : decode cX7_filledOf 216 = .ok (.iload_n 1, 1) := by decide +kernel
theorem dX7_filledOf_217 : decode cX7_filledOf 217 = .ok (.iaload, 1) := by decide +kernel
theorem dX7_filledOf_218 : decode cX7_filledOf 218 = .ok (.i2l, 1) := by decide +kernel
theorem dX7_filledOf_219 : decode cX7_filledOf 219 = .ok (.lload_n 3, 1) := by decide +kernel
theorem dX7_filledOf_220 : decode cX7_filledOf 220 = .ok (.lmul, 1) := by decide +kernel
theorem dX7_filledOf_221 : decode cX7_filledOf 221 = .ok (.lload 5, 2) := by decide +kernel
theorem dX7_filledOf_223 : decode cX7_filledOf 223 = .ok (.ldiv, 1) := by decide +kernel
theorem dX7_filledOf_224 : decode cX7_filledOf 224 = .ok (.l2i, 1) := by decide +kernel
theorem dX7_filledOf_225 : decode cX7_filledOf 225 = .ok (.ireturn, 1) := by decide +kernel
theorem dX7_filledOf_226 : decode cX7_filledOf 226 = .ok (.iload 7, 2) := by decide +kernel
theorem dX7_filledOf_228 : decode cX7_filledOf 228 = .ok (.iconst (-1), 1) := by decide +kernel
theorem dX7_filledOf_229 : decode cX7_filledOf 229 = .ok (.if_icmp .ne 8, 3) := by decide +kernel
theorem dX7_filledOf_232 : decode cX7_filledOf 232 = .ok (.bipush (-3), 2) := by decide +kernel
theorem dX7_filledOf_234 : decode cX7_filledOf 234 = .ok (.goto 30, 3) := by decide +kernel
theorem dX7_filledOf_237 : decode cX7_filledOf 237 = .ok (.aload_n 0, 1) := by decide +kernel
theorem dX7_filledOf_238 : decode cX7_filledOf 238 = .ok (.getfield 46, 3) := by decide +kernel
theorem dX7_filledOf_241 : decode cX7_filledOf 241 = .ok (.iload_n 1, 1) := by decide +kernel
theorem dX7_filledOf_242 : decode cX7_filledOf 242 = .ok (.iaload, 1) := by decide +kernel
theorem dX7_filledOf_243 : decode cX7_filledOf 243 = .ok (.aload_n 0, 1) := by decide +kernel
theorem dX7_filledOf_244 : decode cX7_filledOf 244 = .ok (.getfield 58, 3) := by decide +kernel
theorem dX7_filledOf_247 : decode cX7_filledOf 247 = .ok (.iload 7, 2) := by decide +kernel
theorem dX7_filledOf_249 : decode cX7_filledOf 249 = .ok (.iaload, 1) := by decide +kernel
theorem dX7_filledOf_250 : decode cX7_filledOf 250 = .ok (.imul, 1) := by decide +kernel
theorem dX7_filledOf_251 : decode cX7_filledOf 251 = .ok (.aload_n 0, 1) := by decide +kernel
theorem dX7_filledOf_252 : decode cX7_filledOf 252 = .ok (.getfield 46, 3) := by decide +kernel
theorem dX7_filledOf_255 : decode cX7_filledOf 255 = .ok (.aload_n 0, 1) := by decide +kernel
theorem dX7_filledOf_256 : decode cX7_filledOf 256 = .ok (.getfield 55, 3) := by decide +kernel
theorem dX7_filledOf_259 : decode cX7_filledOf 259 = .ok (.iload 7, 2) := by decide +kernel
theorem dX7_filledOf_261 : decode cX7_filledOf 261 = .ok (.iaload, 1) := by decide +kernel
theorem dX7_filledOf_262 : decode cX7_filledOf 262 = .ok (.iaload, 1) := by decide +kernel
theorem dX7_filledOf_263 : decode cX7_filledOf 263 = .ok (.idiv, 1) := by decide +kernel
theorem dX7_filledOf_264 : decode cX7_filledOf 264 = .ok (.ireturn, 1) := by decide +kernel
set_option maxRecDepth 20000 in
theorem ggX7_filled_X7_isYear : GoodIn wsX7_filled wsX7_isYear := goodIn_r _ [5, 6, 7, 8, 4, 9] (by decide +kernel) (by decide +kernel)
set_option maxRecDepth 20000 in
theorem gX7_filled_X7_isYear : GoodIn wsX7_filled (va_wsS RX7 121 yX7_isYear wsX7_isYear) := goodIn_app (goodIn_of _ (by decide +kernel)) ggX7_filled_X7_isYear
set_option maxRecDepth 20000 in
theorem ggX7_filled_X7_in : GoodIn wsX7_filled wsX7_in := goodIn_r _ [9] (by decide +kernel) (by decide +kernel)
set_option maxRecDepth 20000 in
theorem gX7_filled_X7_in : GoodIn wsX7_filled (va_wsS RX7 76 yX7_in wsX7_in) := goodIn_app (goodIn_of _ (by decide +kernel)) ggX7_filled_X7_in
set_option maxRecDepth 20000 in
theorem ggX7_filled_X7_filledOf : GoodIn wsX7_filled wsX7_filledOf := goodIn_r _ [13, 14, 15, 16, 17, 18, 19, 20, 21, 4, 22, 23, 24, 25, 26, 27, 28, 29, 30, 31, 32, 33, 34, 35, 36, 37, 7, 8, 9, 38, 39, 40, 41, 42, 43, 44, 45, 46, 47, 48, 49, 50, 51, 52, 53, 54, 55, 56, 57, 58, 59, 60, 61, 62, 63, 64, 65, 66, 67, 68, 69, 70, 71, 72, 73] (by decide +kernel) (by decide +kernel)
set_option maxRecDepth 20000 in
theorem gX7_filled_X7_filledOf : GoodIn wsX7_filled (wsV RX7 257 RX7 yX7_filledOf wsX7_filledOf) := goodIn_app (goodIn_of _ (by decide +kernel)) ggX7_filled_X7_filledOf
theorem dX7_filled_0 : decode cX7_filled 0 = .ok (.iload_n 1, 1) := by decide +kernel
theorem dX7_filled_1 : decode cX7_filled 1 = .ok (.invokestatic 121, 3) := by decide +kernel
theorem dX7_filled_4 : decode cX7_filled 4 = .ok (.ifCond .eq 24, 3) := by decide +kernel
theorem dX7_filled_7 : decode cX7_filled 7 = .ok (.iload_n 2, 1) := by decide +kernel
theorem dX7_filled_8 : decode cX7_filled 8 = .ok (.i2l, 1) := by decide +kernel
theorem dX7_filled_9 : decode cX7_filled 9 = .ok (.lconst 0, 1) := by decide +kernel
theorem dX7_filled_10 : decode cX7_filled 10 = .ok (.ldc2_w 90, 3) := by decide +kernel
theorem dX7_filled_13 : decode cX7_filled 13 = .ok (.invokestatic 76, 3) := by decide +kernel
theorem dX7_filled_16 : decode cX7_filled 16 = .ok (.ifCond .eq 12, 3) := by decide +kernel
theorem dX7_filled_19 : decode cX7_filled 19 = .ok (.aload_n 0, 1) := by decide +kernel
theorem dX7_filled_20 : decode cX7_filled 20 = .ok (.iload_n 1, 1) := by decide +kernel
theorem dX7_filled_21 : decode cX7_filled 21 = .ok (.iload_n 2, 1) := by decide +kernel
theorem dX7_filled_22 : decode cX7_filled 22 = .ok (.invokevirtual 257, 3) := by decide +kernel
theorem dX7_filled_25 : decode cX7_filled 25 = .ok (.goto 5, 3) := by decide +kernel
theorem dX7_filled_28 : decode cX7_filled 28 = .ok (.bipush (-2), 2) := by decide +kernel
theorem dX7_filled_30 : decode cX7_filled 30 = .ok (.ireturn, 1) := by decide +kernel
set_option maxRecDepth 20000 in
theorem ggX7_type_X7_in : GoodIn wsX7_type wsX7_in := goodIn_r _ [7] (by decide +kernel) (by decide +kernel)
set_option maxRecDepth 20000 in
theorem gX7_type_X7_in : GoodIn wsX7_type (va_wsS RX7 76 yX7_in wsX7_in) := goodIn_app (goodIn_of _ (by decide +kernel)) ggX7_type_X7_in
theorem dX7_type_0 : decode cX7_type 0 = .ok (.iload_n 1, 1) := by decide +kernel
theorem dX7_type_1 : decode cX7_type 1 = .ok (.i2l, 1) := by decide +kernel
theorem dX7_type_2 : decode cX7_type 2 = .ok (.lconst 0, 1) := by decide +kernel
theorem dX7_type_3 : decode cX7_type 3 = .ok (.ldc2_w 260, 3) := by decide +kernel
theorem dX7_type_6 : decode cX7_type 6 = .ok (.invokestatic 76, 3) := by decide +kernel
theorem dX7_type_9 : decode cX7_type 9 = .ok (.ifCond .ne 6, 3) := by decide +kernel
theorem dX7_type_12 : decode cX7_type 12 = .ok (.bipush (-2), 2) := by decide +kernel
theorem dX7_type_14 : decode cX7_type 14 = .ok (.ireturn, 1) := by decide +kernel
theorem dX7_type_15 : decode cX7_type 15 = .ok (.aload_n 0, 1) := by decide +kernel
theorem dX7_type_16 : decode cX7_type 16 = .ok (.getfield 262, 3) := by decide +kernel
theorem dX7_type_19 : decode cX7_type 19 = .ok (.bipush 60, 2) := by decide +kernel
theorem dX7_type_21 : decode cX7_type 21 = .ok (.if_icmp .ne 6, 3) := by decide +kernel
theorem dX7_type_24 : decode cX7_type 24 = .ok (.bipush (-4), 2) := by decide +kernel
theorem dX7_type_26 : decode cX7_type 26 = .ok (.ireturn, 1) := by decide +kernel
theorem dX7_type_27 : decode cX7_type 27 = .ok (.aload_n 0, 1) := by decide +kernel
theorem dX7_type_28 : decode cX7_type 28 = .ok (.getfield 65, 3) := by decide +kernel
theorem dX7_type_31 : decode cX7_type 31 = .ok (.aload_n 0, 1) := by decide +kernel
theorem dX7_type_32 : decode cX7_type 32 = .ok (.getfield 262, 3) := by decide +kernel
theorem dX7_type_35 : decode cX7_type 35 = .ok (.iload_n 1, 1) := by decide +kernel
theorem dX7_type_36 : decode cX7_type 36 = .ok (.iastore, 1) := by decide +kernel
theorem dX7_type_37 : decode cX7_type 37 = .ok (.aload_n 0, 1) := by decide +kernel
theorem dX7_type_38 : decode cX7_type 38 = .ok (.dup, 1) := by decide +kernel
theorem dX7_type_39 : decode cX7_type 39 = .ok (.getfield 262, 3) := by decide +kernel
theorem dX7_type_42 : decode cX7_type 42 = .ok (.iconst 1, 1) := by decide +kernel
theorem dX7_type_43 : decode cX7_type 43 = .ok (.iadd, 1) := by decide +kernel
theorem dX7_type_44 : decode cX7_type 44 = .ok (.putfield 262, 3) := by decide +kernel
theorem dX7_type_47 : decode cX7_type 47 = .ok (.aload_n 0, 1) := by decide +kernel
theorem dX7_type_48 : decode cX7_type 48 = .ok (.getfield 262, 3) := by decide +kernel
theorem dX7_type_51 : decode cX7_type 51 = .ok (.ireturn, 1) := by decide +kernel
theorem dX7_wipe_0 : decode cX7_wipe 0 = .ok (.aload_n 0, 1) := by decide +kernel
theorem dX7_wipe_1 : decode cX7_wipe 1 = .ok (.getfield 262, 3) := by decide +kernel
theorem dX7_wipe_4 : decode cX7_wipe 4 = .ok (.istore_n 1, 1) := by decide +kernel
theorem dX7_wipe_5 : decode cX7_wipe 5 = .ok (.aload_n 0, 1) := by decide +kernel
theorem dX7_wipe_6 : decode cX7_wipe 6 = .ok (.iconst 0, 1) := by decide +kernel
theorem dX7_wipe_7 : decode cX7_wipe 7 = .ok (.putfield 262, 3) := by decide +kernel
theorem dX7_wipe_10 : decode cX7_wipe 10 = .ok (.iload_n 1, 1) := by decide +kernel
theorem dX7_wipe_11 : decode cX7_wipe 11 = .ok (.ireturn, 1) := by decide +kernel
theorem dX7_here_0 : decode cX7_here 0 = .ok (.aload_n 0, 1) := by decide +kernel
theorem dX7_here_1 : decode cX7_here 1 = .ok (.getfield 265, 3) := by decide +kernel
theorem dX7_here_4 : decode cX7_here 4 = .ok (.aload_n 0, 1) := by decide +kernel
theorem dX7_here_5 : decode cX7_here 5 = .ok (.getfield 262, 3) := by decide +kernel
theorem dX7_here_8 : decode cX7_here 8 = .ok (.if_icmp .ge 15, 3) := by decide +kernel
theorem dX7_here_11 : decode cX7_here 11 = .ok (.aload_n 0, 1) := by decide +kernel
theorem dX7_here_12 : decode cX7_here 12 = .ok (.getfield 65, 3) := by decide +kernel
theorem dX7_here_15 : decode cX7_here 15 = .ok (.aload_n 0, 1) := by decide +kernel
theorem dX7_here_16 : decode cX7_here 16 = .ok (.getfield 265, 3) := by decide +kernel
theorem dX7_here_19 : decode cX7_here 19 = .ok (.iaload, 1) := by decide +kernel
theorem dX7_here_20 : decode cX7_here 20 = .ok (.goto 4, 3) := by decide +kernel
theorem dX7_here_23 : decode cX7_here 23 = .ok (.iconst (-1), 1) := by decide +kernel
theorem dX7_here_24 : decode cX7_here 24 = .ok (.ireturn, 1) := by decide +kernel
set_option maxRecDepth 20000 in
theorem ggX7_number_X7_here : GoodIn wsX7_number wsX7_here := goodIn_r _ [8, 1, 9, 10, 14, 15, 16, 17, 18, 19, 20, 21, 22, 23, 24, 25, 26, 27, 28, 29, 30, 31, 32, 33, 34, 35, 36, 37, 38, 39, 40, 41] (by decide +kernel) (by decide +kernel)
set_option maxRecDepth 20000 in
theorem gX7_number_X7_here : GoodIn wsX7_number (wsV RX7 268 RX7 yX7_here wsX7_here) := goodIn_app (goodIn_of _ (by decide +kernel)) ggX7_number_X7_here
set_option maxRecDepth 20000 in
theorem ggX7_number_X7_in : GoodIn wsX7_number wsX7_in := goodIn_r _ [13] (by decide +kernel) (by decide +kernel)
set_option maxRecDepth 20000 in
theorem gX7_number_X7_in : GoodIn wsX7_number (va_wsS RX7 76 yX7_in wsX7_in) := goodIn_app (goodIn_of _ (by decide +kernel)) ggX7_number_X7_in
theorem dX7_number_0 : decode cX7_number 0 = .ok (.aload_n 0, 1) := by decide +kernel
theorem dX7_number_1 : decode cX7_number 1 = .ok (.getfield 265, 3) := by decide +kernel
theorem dX7_number_4 : decode cX7_number 4 = .ok (.istore_n 2, 1) := by decide +kernel
theorem dX7_number_5 : decode cX7_number 5 = .ok (.iconst 0, 1) := by decide +kernel
theorem dX7_number_6 : decode cX7_number 6 = .ok (.istore_n 3, 1) := by decide +kernel
theorem dX7_number_7 : decode cX7_number 7 = .ok (.aload_n 0, 1) := by decide +kernel
theorem dX7_number_8 : decode cX7_number 8 = .ok (.getfield 265, 3) := by decide +kernel
theorem dX7_number_11 : decode cX7_number 11 = .ok (.iload_n 2, 1) := by decide +kernel
theorem dX7_number_12 : decode cX7_number 12 = .ok (.iconst 3, 1) := by decide +kernel
theorem dX7_number_13 : decode cX7_number 13 = .ok (.iadd, 1) := by decide +kernel
theorem dX7_number_14 : decode cX7_number 14 = .ok (.if_icmp .ge 46, 3) := by decide +kernel
theorem dX7_number_17 : decode cX7_number 17 = .ok (.aload_n 0, 1) := by decide +kernel
theorem dX7_number_18 : decode cX7_number 18 = .ok (.invokevirtual 268, 3) := by decide +kernel
theorem dX7_number_21 : decode cX7_number 21 = .ok (.i2l, 1) := by decide +kernel
theorem dX7_number_22 : decode cX7_number 22 = .ok (.ldc2_w 271, 3) := by decide +kernel
theorem dX7_number_25 : decode cX7_number 25 = .ok (.ldc2_w 273, 3) := by decide +kernel
theorem dX7_number_28 : decode cX7_number 28 = .ok (.invokestatic 76, 3) := by decide +kernel
theorem dX7_number_31 : decode cX7_number 31 = .ok (.ifCond .eq 29, 3) := by decide +kernel
theorem dX7_number_34 : decode cX7_number 34 = .ok (.bipush 10, 2) := by decide +kernel
theorem dX7_number_36 : decode cX7_number 36 = .ok (.iload_n 3, 1) := by decide +kernel
theorem dX7_number_37 : decode cX7_number 37 = .ok (.imul, 1) := by decide +kernel
theorem dX7_number_38 : decode cX7_number 38 = .ok (.aload_n 0, 1) := by decide +kernel
theorem dX7_number_39 : decode cX7_number 39 = .ok (.invokevirtual 268, 3) := by decide +kernel
theorem dX7_number_42 : decode cX7_number 42 = .ok (.iadd, 1) := by decide +kernel
theorem dX7_number_43 : decode cX7_number 43 = .ok (.bipush 48, 2) := by decide +kernel
theorem dX7_number_45 : decode cX7_number 45 = .ok (.isub, 1) := by decide +kernel
theorem dX7_number_46 : decode cX7_number 46 = .ok (.istore_n 3, 1) := by decide +kernel
theorem dX7_number_47 : decode cX7_number 47 = .ok (.aload_n 0, 1) := by decide +kernel
theorem dX7_number_48 : decode cX7_number 48 = .ok (.dup, 1) := by decide +kernel
theorem dX7_number_49 : decode cX7_number 49 = .ok (.getfield 265, 3) := by decide +kernel
theorem dX7_number_52 : decode cX7_number 52 = .ok (.iconst 1, 1) := by decide +kernel
theorem dX7_number_53 : decode cX7_number 53 = .ok (.iadd, 1) := by decide +kernel
theorem dX7_number_54 : decode cX7_number 54 = .ok (.putfield 265, 3) := by decide +kernel
theorem dX7_number_57 : decode cX7_number 57 = .ok (.goto (-50), 3) := by decide +kernel
theorem dX7_number_60 : decode cX7_number 60 = .ok (.aload_n 0, 1) := by decide +kernel
theorem dX7_number_61 : decode cX7_number 61 = .ok (.getfield 265, 3) := by decide +kernel
theorem dX7_number_64 : decode cX7_number 64 = .ok (.iload_n 2, 1) := by decide +kernel
theorem dX7_number_65 : decode cX7_number 65 = .ok (.if_icmp .le 10, 3) := by decide +kernel
theorem dX7_number_68 : decode cX7_number 68 = .ok (.iload_n 3, 1) := by decide +kernel
theorem dX7_number_69 : decode cX7_number 69 = .ok (.iload_n 1, 1) := by decide +kernel
theorem dX7_number_70 : decode cX7_number 70 = .ok (.if_icmp .lt 5, 3) := by decide +kernel
theorem dX7_number_73 : decode cX7_number 73 = .ok (.iload_n 3, 1) := by decide +kernel
theorem dX7_number_74 : decode cX7_number 74 = .ok (.ireturn, 1) := by decide +kernel
theorem dX7_number_75 : decode cX7_number 75 = .ok (.aload_n 0, 1) := by decide +kernel
theorem dX7_number_76 : decode cX7_number 76 = .ok (.iload_n 2, 1) := by decide +kernel
theorem dX7_number_77 : decode cX7_number 77 = .ok (.putfield 265, 3) := by decide +kernel
theorem dX7_number_80 : decode cX7_number 80 = .ok (.iconst (-1), 1) := by decide +kernel
theorem dX7_number_81 : decode cX7_number 81 = .ok (.ireturn, 1) := by decide +kernel
set_option maxRecDepth 20000 in
theorem ggX7_readsPair_X7_number : GoodIn wsX7_readsPair wsX7_number := goodIn_r _ [9, 3, 10, 11, 12, 13, 14, 8, 15, 16, 17, 18, 19, 20, 21, 22, 23, 24, 25, 26, 27, 28, 29, 30, 31, 32, 33, 34, 35, 36, 37, 38, 39, 40, 41, 42, 43, 44, 45, 46, 47, 48] (by decide +kernel) (by decide +kernel)
set_option maxRecDepth 20000 in
theorem gX7_readsPair_X7_number : GoodIn wsX7_readsPair (wsV RX7 278 RX7 yX7_number wsX7_number) := goodIn_app (goodIn_of _ (by decide +kernel)) ggX7_readsPair_X7_number
set_option maxRecDepth 20000 in
theorem ggX7_readsPair_X7_here : GoodIn wsX7_readsPair wsX7_here := goodIn_r _ [15, 3, 16, 17, 21, 22, 23, 24, 25, 26, 27, 28, 29, 30, 31, 32, 33, 34, 35, 36, 37, 38, 39, 40, 41, 42, 43, 44, 45, 46, 47, 48] (by decide +kernel) (by decide +kernel)
set_option maxRecDepth 20000 in
theorem gX7_readsPair_X7_here : GoodIn wsX7_readsPair (wsV RX7 268 RX7 yX7_here wsX7_here) := goodIn_app (goodIn_of _ (by decide +kernel)) ggX7_readsPair_X7_here
theorem dX7_readsPair_0 : decode cX7_readsPair 0 = .ok (.aload_n 0, 1) := by decide +kernel
theorem dX7_readsPair_1 : decode cX7_readsPair 1 = .ok (.aload_n 0, 1) := by decide +kernel
theorem dX7_readsPair_2 : decode cX7_readsPair 2 = .ok (.getfield 275, 3) := by decide +kernel
theorem dX7_readsPair_5 : decode cX7_readsPair 5 = .ok (.ifCond .ne 7, 3) := by decide +kernel
theorem dX7_readsPair_8 : decode cX7_readsPair 8 = .ok (.iconst 0, 1) := by decide +kernel
theorem dX7_readsPair_9 : decode cX7_readsPair 9 = .ok (.goto 16, 3) := by decide +kernel
theorem dX7_readsPair_12 : decode cX7_readsPair 12 = .ok (.aload_n 0, 1) := by decide +kernel
theorem dX7_readsPair_13 : decode cX7_readsPair 13 = .ok (.getfield 68, 3) := by decide +kernel
theorem dX7_readsPair_16 : decode cX7_readsPair 16 = .ok (.aload_n 0, 1) := by decide +kernel
theorem dX7_readsPair_17 : decode cX7_readsPair 17 = .ok (.getfield 275, 3) := by decide +kernel
theorem dX7_readsPair_20 : decode cX7_readsPair 20 = .ok (.iconst 1, 1) := by decide +kernel
theorem dX7_readsPair_21 : decode cX7_readsPair 21 = .ok (.isub, 1) := by decide +kernel
theorem dX7_readsPair_22 : decode cX7_readsPair 22 = .ok (.iaload, 1) := by decide +kernel
theorem dX7_readsPair_23 : decode cX7_readsPair 23 = .ok (.iconst 1, 1) := by decide +kernel
theorem dX7_readsPair_24 : decode cX7_readsPair 24 = .ok (.iadd, 1) := by decide +kernel
theorem dX7_readsPair_25 : decode cX7_readsPair 25 = .ok (.invokevirtual 278, 3) := by decide +kernel
theorem dX7_readsPair_28 : decode cX7_readsPair 28 = .ok (.istore_n 1, 1) := by decide +kernel
theorem dX7_readsPair_29 : decode cX7_readsPair 29 = .ok (.iload_n 1, 1) := by decide +kernel
theorem dX7_readsPair_30 : decode cX7_readsPair 30 = .ok (.ifCond .lt 12, 3) := by decide +kernel
theorem dX7_readsPair_33 : decode cX7_readsPair 33 = .ok (.aload_n 0, 1) := by decide +kernel
theorem dX7_readsPair_34 : decode cX7_readsPair 34 = .ok (.invokevirtual 268, 3) := by decide +kernel
theorem dX7_readsPair_37 : decode cX7_readsPair 37 = .ok (.bipush 58, 2) := by decide +kernel
theorem dX7_readsPair_39 : decode cX7_readsPair 39 = .ok (.if_icmp .eq 5, 3) := by decide +kernel
theorem dX7_readsPair_42 : decode cX7_readsPair 42 = .ok (.iconst 0, 1) := by decide +kernel
theorem dX7_readsPair_43 : decode cX7_readsPair 43 = .ok (.ireturn, 1) := by decide +kernel
theorem dX7_readsPair_44 : decode cX7_readsPair 44 = .ok (.aload_n 0, 1) := by decide +kernel
theorem dX7_readsPair_45 : decode cX7_readsPair 45 = .ok (.dup, 1) := by decide +kernel
theorem dX7_readsPair_46 : decode cX7_readsPair 46 = .ok (.getfield 265, 3) := by decide +kernel
theorem dX7_readsPair_49 : decode cX7_readsPair 49 = .ok (.iconst 1, 1) := by decide +kernel
theorem dX7_readsPair_50 : decode cX7_readsPair 50 = .ok (.iadd, 1) := by decide +kernel
theorem dX7_readsPair_51 : decode cX7_readsPair 51 = .ok (.putfield 265, 3) := by decide +kernel
theorem dX7_readsPair_54 : decode cX7_readsPair 54 = .ok (.aload_n 0, 1) := by decide +kernel
theorem dX7_readsPair_55 : decode cX7_readsPair 55 = .ok (.aload_n 0, 1) := by decide +kernel
theorem dX7_readsPair_56 : decode cX7_readsPair 56 = .ok (.getfield 275, 3) := by decide +kernel
theorem dX7_readsPair_59 : decode cX7_readsPair 59 = .ok (.ifCond .ne 7, 3) := by decide +kernel
theorem dX7_readsPair_62 : decode cX7_readsPair 62 = .ok (.iconst 0, 1) := by decide +kernel
theorem dX7_readsPair_63 : decode cX7_readsPair 63 = .ok (.goto 14, 3) := by decide +kernel
theorem dX7_readsPair_66 : decode cX7_readsPair 66 = .ok (.aload_n 0, 1) := by decide +kernel
theorem dX7_readsPair_67 : decode cX7_readsPair 67 = .ok (.getfield 71, 3) := by decide +kernel
theorem dX7_readsPair_70 : decode cX7_readsPair 70 = .ok (.aload_n 0, 1) := by decide +kernel
theorem dX7_readsPair_71 : decode cX7_readsPair 71 = .ok (.getfield 275, 3) := by decide +kernel
theorem dX7_readsPair_74 : decode cX7_readsPair 74 = .ok (.iconst 1, 1) := by decide +kernel
theorem dX7_readsPair_75 : decode cX7_readsPair 75 = .ok (.isub, 1) := by decide +kernel
theorem dX7_readsPair_76 : decode cX7_readsPair 76 = .ok (.iaload, 1) := by decide +kernel
theorem dX7_readsPair_77 : decode cX7_readsPair 77 = .ok (.invokevirtual 278, 3) := by decide +kernel
theorem dX7_readsPair_80 : decode cX7_readsPair 80 = .ok (.istore_n 2, 1) := by decide +kernel
theorem dX7_readsPair_81 : decode cX7_readsPair 81 = .ok (.iload_n 2, 1) := by decide +kernel
theorem dX7_readsPair_82 : decode cX7_readsPair 82 = .ok (.ifCond .ge 5, 3) := by decide +kernel
theorem dX7_readsPair_85 : decode cX7_readsPair 85 = .ok (.iconst 0, 1) := by decide +kernel
theorem dX7_readsPair_86 : decode cX7_readsPair 86 = .ok (.ireturn, 1) := by decide +kernel
theorem dX7_readsPair_87 : decode cX7_readsPair 87 = .ok (.aload_n 0, 1) := by decide +kernel
theorem dX7_readsPair_88 : decode cX7_readsPair 88 = .ok (.getfield 68, 3) := by decide +kernel
theorem dX7_readsPair_91 : decode cX7_readsPair 91 = .ok (.aload_n 0, 1) := by decide +kernel
theorem dX7_readsPair_92 : decode cX7_readsPair 92 = .ok (.getfield 275, 3) := by decide +kernel
theorem dX7_readsPair_95 : decode cX7_readsPair 95 = .ok (.iload_n 1, 1) := by decide +kernel
theorem dX7_readsPair_96 : decode cX7_readsPair 96 = .ok (.iastore, 1) := by decide +kernel
theorem dX7_readsPair_97 : decode cX7_readsPair 97 = .ok (.aload_n 0, 1) := by decide +kernel
theorem dX7_readsPair_98 : decode cX7_readsPair 98 = .ok (.getfield 71, 3) := by decide +kernel
theorem dX7_readsPair_101 : decode cX7_readsPair 101 = .ok (.aload_n 0, 1) := by decide +kernel
theorem dX7_readsPair_102 : decode cX7_readsPair 102 = .ok (.getfield 275, 3) := by decide +kernel
theorem dX7_readsPair_105 : decode cX7_readsPair 105 = .ok (.iload_n 2, 1) := by decide +kernel
theorem dX7_readsPair_106 : decode cX7_readsPair 106 = .ok (.iastore, 1) := by decide +kernel
theorem dX7_readsPair_107 : decode cX7_readsPair 107 = .ok (.aload_n 0, 1) := by decide +kernel
theorem dX7_readsPair_108 : decode cX7_readsPair 108 = .ok (.dup, 1) := by decide +kernel
theorem dX7_readsPair_109 : decode cX7_readsPair 109 = .ok (.getfield 275, 3) := by decide +kernel
theorem dX7_readsPair_112 : decode cX7_readsPair 112 = .ok (.iconst 1, 1) := by decide +kernel
theorem dX7_readsPair_113 : decode cX7_readsPair 113 = .ok (.iadd, 1) := by decide +kernel
theorem dX7_readsPair_114 : decode cX7_readsPair 114 = .ok (.putfield 275, 3) := by decide +kernel
theorem dX7_readsPair_117 : decode cX7_readsPair 117 = .ok (.iconst 1, 1) := by decide +kernel
theorem dX7_readsPair_118 : decode cX7_readsPair 118 = .ok (.ireturn, 1) := by decide +kernel
set_option maxRecDepth 20000 in
theorem ggX7_reads_X7_readsPair : GoodIn wsX7_reads wsX7_readsPair := goodIn_r _ [8, 2, 9, 1, 10, 11, 12, 13, 7, 14, 15, 16, 17, 18, 19, 20, 3, 21, 22, 23, 24, 25, 26, 27, 28, 29, 30, 31, 32, 33, 34, 35, 36, 37, 38, 39, 40, 41, 42, 43, 44, 45, 46, 47, 48, 49, 50, 51, 52] (by decide +kernel) (by decide +kernel)
set_option maxRecDepth 20000 in
theorem gX7_reads_X7_readsPair : GoodIn wsX7_reads (wsV RX7 281 RX7 yX7_readsPair wsX7_readsPair) := goodIn_app (goodIn_of _ (by decide +kernel)) ggX7_reads_X7_readsPair
set_option maxRecDepth 20000 in
theorem ggX7_reads_X7_here : GoodIn wsX7_reads wsX7_here := goodIn_r _ [20, 1, 3, 21, 25, 26, 27, 28, 29, 30, 31, 32, 33, 34, 35, 36, 37, 38, 39, 40, 41, 42, 43, 44, 45, 46, 47, 48, 49, 50, 51, 52] (by decide +kernel) (by decide +kernel)
set_option maxRecDepth 20000 in
theorem gX7_reads_X7_here : GoodIn wsX7_reads (wsV RX7 268 RX7 yX7_here wsX7_here) := goodIn_app (goodIn_of _ (by decide +kernel)) ggX7_reads_X7_here
theorem dX7_reads_0 : decode cX7_reads 0 = .ok (.aload_n 0, 1) := by decide +kernel
theorem dX7_reads_1 : decode cX7_reads 1 = .ok (.iconst 0, 1) := by decide +kernel
theorem dX7_reads_2 : decode cX7_reads 2 = .ok (.putfield 265, 3) := by decide +kernel
theorem dX7_reads_5 : decode cX7_reads 5 = .ok (.aload_n 0, 1) := by decide +kernel
theorem dX7_reads_6 : decode cX7_reads 6 = .ok (.iconst 0, 1) := by decide +kernel
theorem dX7_reads_7 : decode cX7_reads 7 = .ok (.putfield 275, 3) := by decide +kernel
theorem dX7_reads_10 : decode cX7_reads 10 = .ok (.iconst 1, 1) := by decide +kernel
theorem dX7_reads_11 : decode cX7_reads 11 = .ok (.istore_n 1, 1) := by decide +kernel
theorem dX7_reads_12 : decode cX7_reads 12 = .ok (.iload_n 1, 1) := by decide +kernel
theorem dX7_reads_13 : decode cX7_reads 13 = .ok (.ifCond .eq 80, 3) := by decide +kernel
theorem dX7_reads_16 : decode cX7_reads 16 = .ok (.aload_n 0, 1) := by decide +kernel
theorem dX7_reads_17 : decode cX7_reads 17 = .ok (.invokevirtual 281, 3) := by decide +kernel
theorem dX7_reads_20 : decode cX7_reads 20 = .ok (.ifCond .ne 8, 3) := by decide +kernel
theorem dX7_reads_23 : decode cX7_reads 23 = .ok (.aload_n 0, 1) := by decide +kernel
theorem dX7_reads_24 : decode cX7_reads 24 = .ok (.getfield 265, 3) := by decide +kernel
theorem dX7_reads_27 : decode cX7_reads 27 = .ok (.ireturn, 1) := by decide +kernel
theorem dX7_reads_28 : decode cX7_reads 28 = .ok (.aload_n 0, 1) := by decide +kernel
theorem dX7_reads_29 : decode cX7_reads 29 = .ok (.getfield 265, 3) := by decide +kernel
theorem dX7_reads_32 : decode cX7_reads 32 = .ok (.aload_n 0, 1) := by decide +kernel
theorem dX7_reads_33 : decode cX7_reads 33 = .ok (.getfield 262, 3) := by decide +kernel
theorem dX7_reads_36 : decode cX7_reads 36 = .ok (.if_icmp .ge 7, 3) := by decide +kernel
theorem dX7_reads_39 : decode cX7_reads 39 = .ok (.iconst 1, 1) := by decide +kernel
theorem dX7_reads_40 : decode cX7_reads 40 = .ok (.goto 4, 3) := by decide +kernel
theorem dX7_reads_43 : decode cX7_reads 43 = .ok (.iconst 0, 1) := by decide +kernel
theorem dX7_reads_44 : decode cX7_reads 44 = .ok (.istore_n 1, 1) := by decide +kernel
theorem dX7_reads_45 : decode cX7_reads 45 = .ok (.iload_n 1, 1) := by decide +kernel
theorem dX7_reads_46 : decode cX7_reads 46 = .ok (.ifCond .eq 26, 3) := by decide +kernel
theorem dX7_reads_49 : decode cX7_reads 49 = .ok (.aload_n 0, 1) := by decide +kernel
theorem dX7_reads_50 : decode cX7_reads 50 = .ok (.invokevirtual 268, 3) := by decide +kernel
theorem dX7_reads_53 : decode cX7_reads 53 = .ok (.bipush 59, 2) := by decide +kernel
theorem dX7_reads_55 : decode cX7_reads 55 = .ok (.if_icmp .ne 12, 3) := by decide +kernel
theorem dX7_reads_58 : decode cX7_reads 58 = .ok (.aload_n 0, 1) := by decide +kernel
theorem dX7_reads_59 : decode cX7_reads 59 = .ok (.getfield 275, 3) := by decide +kernel
theorem dX7_reads_62 : decode cX7_reads 62 = .ok (.bipush 6, 2) := by decide +kernel
theorem dX7_reads_64 : decode cX7_reads 64 = .ok (.if_icmp .ne 8, 3) := by decide +kernel
theorem dX7_reads_67 : decode cX7_reads 67 = .ok (.aload_n 0, 1) := by decide +kernel
theorem dX7_reads_68 : decode cX7_reads 68 = .ok (.getfield 265, 3) := by decide +kernel
theorem dX7_reads_71 : decode cX7_reads 71 = .ok (.ireturn, 1) := by decide +kernel
theorem dX7_reads_72 : decode cX7_reads 72 = .ok (.aload_n 0, 1) := by decide +kernel
theorem dX7_reads_73 : decode cX7_reads 73 = .ok (.dup, 1) := by decide +kernel
theorem dX7_reads_74 : decode cX7_reads 74 = .ok (.getfield 265, 3) := by decide +kernel
theorem dX7_reads_77 : decode cX7_reads 77 = .ok (.iload_n 1, 1) := by decide +kernel
theorem dX7_reads_78 : decode cX7_reads 78 = .ok (.ifCond .eq 7, 3) := by decide +kernel
theorem dX7_reads_81 : decode cX7_reads 81 = .ok (.iconst 1, 1) := by decide +kernel
theorem dX7_reads_82 : decode cX7_reads 82 = .ok (.goto 4, 3) := by decide +kernel
theorem dX7_reads_85 : decode cX7_reads 85 = .ok (.iconst 0, 1) := by decide +kernel
theorem dX7_reads_86 : decode cX7_reads 86 = .ok (.iadd, 1) := by decide +kernel
theorem dX7_reads_87 : decode cX7_reads 87 = .ok (.putfield 265, 3) := by decide +kernel
theorem dX7_reads_90 : decode cX7_reads 90 = .ok (.goto (-78), 3) := by decide +kernel
theorem dX7_reads_93 : decode cX7_reads 93 = .ok (.aload_n 0, 1) := by decide +kernel
theorem dX7_reads_94 : decode cX7_reads 94 = .ok (.getfield 275, 3) := by decide +kernel
theorem dX7_reads_97 : decode cX7_reads 97 = .ok (.iconst 2, 1) := by decide +kernel
theorem dX7_reads_98 : decode cX7_reads 98 = .ok (.if_icmp .ge 10, 3) := by decide +kernel
theorem dX7_reads_101 : decode cX7_reads 101 = .ok (.aload_n 0, 1) := by decide +kernel
theorem dX7_reads_102 : decode cX7_reads 102 = .ok (.getfield 265, 3) := by decide +kernel
theorem dX7_reads_105 : decode cX7_reads 105 = .ok (.goto 4, 3) := by decide +kernel
theorem dX7_reads_108 : decode cX7_reads 108 = .ok (.iconst (-1), 1) := by decide +kernel
theorem dX7_reads_109 : decode cX7_reads 109 = .ok (.ireturn, 1) := by decide +kernel
set_option maxRecDepth 20000 in
theorem ggX7_fault_X7_reads : GoodIn wsX7_fault wsX7_reads := goodIn_r _ [5, 6, 7, 8, 9, 10, 11, 4, 12, 13, 14, 15, 16, 17, 18, 19, 20, 21, 22, 23, 24, 25, 26, 27, 28, 29, 30, 31, 32, 33, 34, 35, 36, 37, 38, 39, 40, 41, 42, 43, 44, 45, 46, 47, 48, 49, 50, 51, 52, 53, 54, 55, 56] (by decide +kernel) (by decide +kernel)
set_option maxRecDepth 20000 in
theorem gX7_fault_X7_reads : GoodIn wsX7_fault (wsV RX7 285 RX7 yX7_reads wsX7_reads) := goodIn_app (goodIn_of _ (by decide +kernel)) ggX7_fault_X7_reads
theorem dX7_fault_0 : decode cX7_fault 0 = .ok (.aload_n 0, 1) := by decide +kernel
theorem dX7_fault_1 : decode cX7_fault 1 = .ok (.invokevirtual 285, 3) := by decide +kernel
theorem dX7_fault_4 : decode cX7_fault 4 = .ok (.ireturn, 1) := by decide +kernel
set_option maxRecDepth 20000 in
theorem ggX7_flow_X7_isLevel : GoodIn wsX7_flow wsX7_isLevel := goodIn_r _ [7, 8, 9, 10, 6, 11] (by decide +kernel) (by decide +kernel)
set_option maxRecDepth 20000 in
theorem gX7_flow_X7_isLevel : GoodIn wsX7_flow (va_wsS RX7 118 yX7_isLevel wsX7_isLevel) := goodIn_app (goodIn_of _ (by decide +kernel)) ggX7_flow_X7_isLevel
set_option maxRecDepth 20000 in
theorem ggX7_flow_X7_isTwo : GoodIn wsX7_flow wsX7_isTwo := goodIn_r _ [14, 9, 10, 6, 11] (by decide +kernel) (by decide +kernel)
set_option maxRecDepth 20000 in
theorem gX7_flow_X7_isTwo : GoodIn wsX7_flow (va_wsS RX7 148 yX7_isTwo wsX7_isTwo) := goodIn_app (goodIn_of _ (by decide +kernel)) ggX7_flow_X7_isTwo
set_option maxRecDepth 20000 in
theorem ggX7_flow_X7_no : GoodIn wsX7_flow wsX7_no := goodIn_r _ [17, 18] (by decide +kernel) (by decide +kernel)
set_option maxRecDepth 20000 in
theorem gX7_flow_X7_no : GoodIn wsX7_flow (va_wsS RX7 171 yX7_no wsX7_no) := goodIn_app (goodIn_of _ (by decide +kernel)) ggX7_flow_X7_no
set_option maxRecDepth 20000 in
theorem ggX7_flow_X7_reads : GoodIn wsX7_flow wsX7_reads := goodIn_r _ [22, 23, 1, 24, 25, 26, 27, 6, 28, 2, 3, 29, 30, 31, 32, 33, 34, 35, 36, 37, 38, 39, 9, 10, 11, 46, 47, 48, 49, 50, 51, 52, 53, 54, 55, 56, 57, 58, 59, 60, 61, 62, 63, 64, 65, 66, 67, 68, 69, 70, 71, 72, 73] (by decide +kernel) (by decide +kernel)
set_option maxRecDepth 20000 in
theorem gX7_flow_X7_reads : GoodIn wsX7_flow (wsV RX7 285 RX7 yX7_reads wsX7_reads) := goodIn_app (goodIn_of _ (by decide +kernel)) ggX7_flow_X7_reads
set_option maxRecDepth 20000 in
theorem ggX7_flow_X7_part : GoodIn wsX7_flow wsX7_part := goodIn_r _ [42, 43, 44, 6, 45] (by decide +kernel) (by decide +kernel)
set_option maxRecDepth 20000 in
theorem gX7_flow_X7_part : GoodIn wsX7_flow (va_wsS RX7 167 yX7_part wsX7_part) := goodIn_app (goodIn_of _ (by decide +kernel)) ggX7_flow_X7_part
theorem dX7_flow_0 : decode cX7_flow 0 = .ok (.iload_n 1, 1) := by decide +kernel
theorem dX7_flow_1 : decode cX7_flow 1 = .ok (.invokestatic 118, 3) := by decide +kernel
theorem dX7_flow_4 : decode cX7_flow 4 = .ok (.ifCond .eq 10, 3) := by decide +kernel
theorem dX7_flow_7 : decode cX7_flow 7 = .ok (.iload_n 2, 1) := by decide +kernel
theorem dX7_flow_8 : decode cX7_flow 8 = .ok (.invokestatic 148, 3) := by decide +kernel
theorem dX7_flow_11 : decode cX7_flow 11 = .ok (.ifCond .ne 9, 3) := by decide +kernel
theorem dX7_flow_14 : decode cX7_flow 14 = .ok (.bipush (-2), 2) := by decide +kernel
theorem dX7_flow_16 : decode cX7_flow 16 = .ok (.invokestatic 171, 3) := by decide +kernel
theorem dX7_flow_19 : decode cX7_flow 19 = .ok (.lreturn, 1) := by decide +kernel
theorem dX7_flow_20 : decode cX7_flow 20 = .ok (.aload_n 0, 1) := by decide +kernel
theorem dX7_flow_21 : decode cX7_flow 21 = .ok (.invokevirtual 285, 3) := by decide +kernel
theorem dX7_flow_24 : decode cX7_flow 24 = .ok (.iconst (-1), 1) := by decide +kernel
theorem dX7_flow_25 : decode cX7_flow 25 = .ok (.if_icmp .eq 9, 3) := by decide +kernel
theorem dX7_flow_28 : decode cX7_flow 28 = .ok (.bipush (-3), 2) := by decide +kernel
theorem dX7_flow_30 : decode cX7_flow 30 = .ok (.invokestatic 171, 3) := by decide +kernel
theorem dX7_flow_33 : decode cX7_flow 33 = .ok (.lreturn, 1) := by decide +kernel
theorem dX7_flow_34 : decode cX7_flow 34 = .ok (.iconst 0, 1) := by decide +kernel
theorem dX7_flow_35 : decode cX7_flow 35 = .ok (.istore_n 3, 1) := by decide +kernel
theorem dX7_flow_36 : decode cX7_flow 36 = .ok (.iload_n 3, 1) := by decide +kernel
theorem dX7_flow_37 : decode cX7_flow 37 = .ok (.aload_n 0, 1) := by decide +kernel
theorem dX7_flow_38 : decode cX7_flow 38 = .ok (.getfield 275, 3) := by decide +kernel
theorem dX7_flow_41 : decode cX7_flow 41 = .ok (.iconst 2, 1) := by decide +kernel
theorem dX7_flow_42 : decode cX7_flow 42 = .ok (.isub, 1) := by decide +kernel
theorem dX7_flow_43 : decode cX7_flow 43 = .ok (.if_icmp .ge 21, 3) := by decide +kernel
theorem dX7_flow_46 : decode cX7_flow 46 = .ok (.iload_n 1, 1) := by decide +kernel
theorem dX7_flow_47 : decode cX7_flow 47 = .ok (.aload_n 0, 1) := by decide +kernel
theorem dX7_flow_48 : decode cX7_flow 48 = .ok (.getfield 68, 3) := by decide +kernel
theorem dX7_flow_51 : decode cX7_flow 51 = .ok (.iload_n 3, 1) := by decide +kernel
theorem dX7_flow_52 : decode cX7_flow 52 = .ok (.iconst 1, 1) := by decide +kernel
theorem dX7_flow_53 : decode cX7_flow 53 = .ok (.iadd, 1) := by decide +kernel
theorem dX7_flow_54 : decode cX7_flow 54 = .ok (.iaload, 1) := by decide +kernel
theorem dX7_flow_55 : decode cX7_flow 55 = .ok (.if_icmp .le 9, 3) := by decide +kernel
theorem dX7_flow_58 : decode cX7_flow 58 = .ok (.iinc 3 1, 3) := by decide +kernel
theorem dX7_flow_61 : decode cX7_flow 61 = .ok (.goto (-25), 3) := by decide +kernel
theorem dX7_flow_64 : decode cX7_flow 64 = .ok (.aload_n 0, 1) := by decide +kernel
theorem dX7_flow_65 : decode cX7_flow 65 = .ok (.getfield 68, 3) := by decide +kernel
theorem dX7_flow_68 : decode cX7_flow 68 = .ok (.iload_n 3, 1) := by decide +kernel
theorem dX7_flow_69 : decode cX7_flow 69 = .ok (.iconst 1, 1) := by decide +kernel
theorem dX7_flow_70 : decode cX7_flow 70 = .ok (.iadd, 1) := by decide +kernel
theorem dX7_flow_71 : decode cX7_flow 71 = .ok (.iaload, 1) := by decide +kernel
theorem dX7_flow_72 : decode cX7_flow 72 = .ok (.aload_n 0, 1) := by decide +kernel
theorem dX7_flow_73 : decode cX7_flow 73 = .ok (.getfield 68, 3) := by decide +kernel
theorem dX7_flow_76 : decode cX7_flow 76 = .ok (.iload_n 3, 1) := by decide +kernel
theorem dX7_flow_77 : decode cX7_flow 77 = .ok (.iaload, 1) := by decide +kernel
theorem dX7_flow_78 : decode cX7_flow 78 = .ok (.isub, 1) := by decide +kernel
theorem dX7_flow_79 : decode cX7_flow 79 = .ok (.i2l, 1) := by decide +kernel
theorem dX7_flow_80 : decode cX7_flow 80 = .ok (.lstore 4, 2) := by decide +kernel
theorem dX7_flow_82 : decode cX7_flow 82 = .ok (.aload_n 0, 1) := by decide +kernel
theorem dX7_flow_83 : decode cX7_flow 83 = .ok (.getfield 71, 3) := by decide +kernel
theorem dX7_flow_86 : decode cX7_flow 86 = .ok (.iload_n 3, 1) := by decide +kernel
theorem dX7_flow_87 : decode cX7_flow 87 = .ok (.iaload, 1) := by decide +kernel
theorem dX7_flow_88 : decode cX7_flow 88 = .ok (.i2l, 1) := by decide +kernel
theorem dX7_flow_89 : decode cX7_flow 89 = .ok (.lload 4, 2) := by decide +kernel
theorem dX7_flow_91 : decode cX7_flow 91 = .ok (.lmul, 1) := by decide +kernel
theorem dX7_flow_92 : decode cX7_flow 92 = .ok (.iload_n 1, 1) := by decide +kernel
theorem dX7_flow_93 : decode cX7_flow 93 = .ok (.aload_n 0, 1) := by decide +kernel
theorem dX7_flow_94 : decode cX7_flow 94 = .ok (.getfield 68, 3) := by decide +kernel
theorem dX7_flow_97 : decode cX7_flow 97 = .ok (.iload_n 3, 1) := by decide +kernel
theorem dX7_flow_98 : decode cX7_flow 98 = .ok (.iaload, 1) := by decide +kernel
theorem dX7_flow_99 : decode cX7_flow 99 = .ok (.isub, 1) := by decide +kernel
theorem dX7_flow_100 : decode cX7_flow 100 = .ok (.i2l, 1) := by decide +kernel
theorem dX7_flow_101 : decode cX7_flow 101 = .ok (.aload_n 0, 1) := by decide +kernel
theorem dX7_flow_102 : decode cX7_flow 102 = .ok (.getfield 71, 3) := by decide +kernel
theorem dX7_flow_105 : decode cX7_flow 105 = .ok (.iload_n 3, 1) := by decide +kernel
theorem dX7_flow_106 : decode cX7_flow 106 = .ok (.iconst 1, 1) := by decide +kernel
theorem dX7_flow_107 : decode cX7_flow 107 = .ok (.iadd, 1) := by decide +kernel
theorem dX7_flow_108 : decode cX7_flow 108 = .ok (.iaload, 1) := by decide +kernel
theorem dX7_flow_109 : decode cX7_flow 109 = .ok (.aload_n 0, 1) := by decide +kernel
theorem dX7_flow_110 : decode cX7_flow 110 = .ok (.getfield 71, 3) := by decide +kernel
theorem dX7_flow_113 : decode cX7_flow 113 = .ok (.iload_n 3, 1) := by decide +kernel
theorem dX7_flow_114 : decode cX7_flow 114 = .ok (.iaload, 1) := by decide +kernel
theorem dX7_flow_115 : decode cX7_flow 115 = .ok (.isub, 1) := by decide +kernel
theorem dX7_flow_116 : decode cX7_flow 116 = .ok (.i2l, 1) := by decide +kernel
theorem dX7_flow_117 : decode cX7_flow 117 = .ok (.lmul, 1) := by decide +kernel
theorem dX7_flow_118 : decode cX7_flow 118 = .ok (.ladd, 1) := by decide +kernel
theorem dX7_flow_119 : decode cX7_flow 119 = .ok (.lstore 6, 2) := by decide +kernel
theorem dX7_flow_121 : decode cX7_flow 121 = .ok (.lload 6, 2) := by decide +kernel
theorem dX7_flow_123 : decode cX7_flow 123 = .ok (.lconst 0, 1) := by decide +kernel
theorem dX7_flow_124 : decode cX7_flow 124 = .ok (.lcmp, 1) := by decide +kernel
theorem dX7_flow_125 : decode cX7_flow 125 = .ok (.ifCond .ge 12, 3) := by decide +kernel
theorem dX7_flow_128 : decode cX7_flow 128 = .ok (.lconst 0, 1) := by decide +kernel
theorem dX7_flow_129 : decode cX7_flow 129 = .ok (.lconst 1, 1) := by decide +kernel
theorem dX7_flow_130 : decode cX7_flow 130 = .ok (.iload_n 2, 1) := by decide +kernel
theorem dX7_flow_131 : decode cX7_flow 131 = .ok (.invokestatic 167, 3) := by decide +kernel
theorem dX7_flow_134 : decode cX7_flow 134 = .ok (.goto 11, 3) := by decide +kernel
theorem dX7_flow_137 : decode cX7_flow 137 = .ok (.lload 6, 2) := by decide +kernel
theorem dX7_flow_139 : decode cX7_flow 139 = .ok (.lload 4, 2) := by decide +kernel
theorem dX7_flow_141 : decode cX7_flow 141 = .ok (.iload_n 2, 1) := by decide +kernel
theorem dX7_flow_142 : decode cX7_flow 142 = .ok (.invokestatic 167, 3) := by decide +kernel
theorem dX7_flow_145 : decode cX7_flow 145 = .ok (.lreturn, 1) := by decide +kernel
set_option maxRecDepth 20000 in
theorem ggX7_costOf_X7_overOf : GoodIn wsX7_costOf wsX7_overOf := goodIn_r _ [6, 7, 8, 9, 10, 11, 5, 12, 1, 13, 14, 15, 20, 21, 22, 23, 24, 25, 26, 27, 28, 29, 30, 31, 32, 33, 34, 35, 36, 37, 38, 39, 40, 41, 42, 43, 44, 45, 46, 47] (by decide +kernel) (by decide +kernel)
set_option maxRecDepth 20000 in
theorem gX7_costOf_X7_overOf : GoodIn wsX7_costOf (wsV RX7 154 RX7 yX7_overOf wsX7_overOf) := goodIn_app (goodIn_of _ (by decide +kernel)) ggX7_costOf_X7_overOf
set_option maxRecDepth 20000 in
theorem ggX7_costOf_X7_underOf : GoodIn wsX7_costOf wsX7_underOf := goodIn_r _ [19, 7, 8, 9, 10, 11, 5, 12, 1, 13, 14, 15, 20, 21, 22, 23, 24, 25, 26, 27, 28, 29, 30, 31, 32, 33, 34, 35, 36, 37, 38, 39, 40, 41, 42, 43, 44, 45, 46, 47] (by decide +kernel) (by decide +kernel)
set_option maxRecDepth 20000 in
theorem gX7_costOf_X7_underOf : GoodIn wsX7_costOf (wsV RX7 157 RX7 yX7_underOf wsX7_underOf) := goodIn_app (goodIn_of _ (by decide +kernel)) ggX7_costOf_X7_underOf
theorem dX7_costOf_0 : decode cX7_costOf 0 = .ok (.aload_n 0, 1) := by decide +kernel
theorem dX7_costOf_1 : decode cX7_costOf 1 = .ok (.iload_n 1, 1) := by decide +kernel
theorem dX7_costOf_2 : decode cX7_costOf 2 = .ok (.invokevirtual 154, 3) := by decide +kernel
theorem dX7_costOf_5 : decode cX7_costOf 5 = .ok (.aload_n 0, 1) := by decide +kernel
theorem dX7_costOf_6 : decode cX7_costOf 6 = .ok (.iload_n 1, 1) := by decide +kernel
theorem dX7_costOf_7 : decode cX7_costOf 7 = .ok (.invokevirtual 157, 3) := by decide +kernel
theorem dX7_costOf_10 : decode cX7_costOf 10 = .ok (.iadd, 1) := by decide +kernel
theorem dX7_costOf_11 : decode cX7_costOf 11 = .ok (.iconst 1, 1) := by decide +kernel
theorem dX7_costOf_12 : decode cX7_costOf 12 = .ok (.iadd, 1) := by decide +kernel
theorem dX7_costOf_13 : decode cX7_costOf 13 = .ok (.i2l, 1) := by decide +kernel
theorem dX7_costOf_14 : decode cX7_costOf 14 = .ok (.lstore_n 2, 1) := by decide +kernel
theorem dX7_costOf_15 : decode cX7_costOf 15 = .ok (.aload_n 0, 1) := by decide +kernel
theorem dX7_costOf_16 : decode cX7_costOf 16 = .ok (.getfield 43, 3) := by decide +kernel
theorem dX7_costOf_19 : decode cX7_costOf 19 = .ok (.iconst 3, 1) := by decide +kernel
theorem dX7_costOf_20 : decode cX7_costOf 20 = .ok (.iaload, 1) := by decide +kernel
theorem dX7_costOf_21 : decode cX7_costOf 21 = .ok (.iload_n 1, 1) := by decide +kernel
theorem dX7_costOf_22 : decode cX7_costOf 22 = .ok (.imul, 1) := by decide +kernel
theorem dX7_costOf_23 : decode cX7_costOf 23 = .ok (.i2l, 1) := by decide +kernel
theorem dX7_costOf_24 : decode cX7_costOf 24 = .ok (.lload_n 2, 1) := by decide +kernel
theorem dX7_costOf_25 : decode cX7_costOf 25 = .ok (.lmul, 1) := by decide +kernel
theorem dX7_costOf_26 : decode cX7_costOf 26 = .ok (.aload_n 0, 1) := by decide +kernel
theorem dX7_costOf_27 : decode cX7_costOf 27 = .ok (.getfield 43, 3) := by decide +kernel
theorem dX7_costOf_30 : decode cX7_costOf 30 = .ok (.iconst 4, 1) := by decide +kernel
theorem dX7_costOf_31 : decode cX7_costOf 31 = .ok (.iaload, 1) := by decide +kernel
theorem dX7_costOf_32 : decode cX7_costOf 32 = .ok (.i2l, 1) := by decide +kernel
theorem dX7_costOf_33 : decode cX7_costOf 33 = .ok (.aload_n 0, 1) := by decide +kernel
theorem dX7_costOf_34 : decode cX7_costOf 34 = .ok (.getfield 43, 3) := by decide +kernel
theorem dX7_costOf_37 : decode cX7_costOf 37 = .ok (.iconst 5, 1) := by decide +kernel
theorem dX7_costOf_38 : decode cX7_costOf 38 = .ok (.iaload, 1) := by decide +kernel
theorem dX7_costOf_39 : decode cX7_costOf 39 = .ok (.i2l, 1) := by decide +kernel
theorem dX7_costOf_40 : decode cX7_costOf 40 = .ok (.lmul, 1) := by decide +kernel
theorem dX7_costOf_41 : decode cX7_costOf 41 = .ok (.aload_n 0, 1) := by decide +kernel
theorem dX7_costOf_42 : decode cX7_costOf 42 = .ok (.iload_n 1, 1) := by decide +kernel
theorem dX7_costOf_43 : decode cX7_costOf 43 = .ok (.invokevirtual 154, 3) := by decide +kernel
theorem dX7_costOf_46 : decode cX7_costOf 46 = .ok (.i2l, 1) := by decide +kernel
theorem dX7_costOf_47 : decode cX7_costOf 47 = .ok (.lmul, 1) := by decide +kernel
theorem dX7_costOf_48 : decode cX7_costOf 48 = .ok (.ladd, 1) := by decide +kernel
theorem dX7_costOf_49 : decode cX7_costOf 49 = .ok (.lreturn, 1) := by decide +kernel
set_option maxRecDepth 20000 in
theorem ggX7_dyke_X7_isLevel : GoodIn wsX7_dyke wsX7_isLevel := goodIn_r _ [4, 5, 6, 7, 3, 8] (by decide +kernel) (by decide +kernel)
set_option maxRecDepth 20000 in
theorem gX7_dyke_X7_isLevel : GoodIn wsX7_dyke (va_wsS RX7 118 yX7_isLevel wsX7_isLevel) := goodIn_app (goodIn_of _ (by decide +kernel)) ggX7_dyke_X7_isLevel
set_option maxRecDepth 20000 in
theorem ggX7_dyke_X7_isTwo : GoodIn wsX7_dyke wsX7_isTwo := goodIn_r _ [11, 6, 7, 3, 8] (by decide +kernel) (by decide +kernel)
set_option maxRecDepth 20000 in
theorem gX7_dyke_X7_isTwo : GoodIn wsX7_dyke (va_wsS RX7 148 yX7_isTwo wsX7_isTwo) := goodIn_app (goodIn_of _ (by decide +kernel)) ggX7_dyke_X7_isTwo
set_option maxRecDepth 20000 in
theorem ggX7_dyke_X7_no : GoodIn wsX7_dyke wsX7_no := goodIn_r _ [14, 15] (by decide +kernel) (by decide +kernel)
set_option maxRecDepth 20000 in
theorem gX7_dyke_X7_no : GoodIn wsX7_dyke (va_wsS RX7 171 yX7_no wsX7_no) := goodIn_app (goodIn_of _ (by decide +kernel)) ggX7_dyke_X7_no
set_option maxRecDepth 20000 in
theorem ggX7_dyke_X7_find : GoodIn wsX7_dyke wsX7_find := goodIn_r _ [19, 20, 21, 22, 23, 24, 25, 26, 27, 28, 29, 30, 31, 32, 33, 3, 34, 35, 36, 37, 38, 6, 7, 8, 39, 40, 41, 42, 61, 62, 63, 64, 65, 66, 67, 68, 69, 70, 71, 72, 73, 74, 75, 76, 77, 78, 79, 80, 81, 82, 83, 84, 85, 86, 87, 88] (by decide +kernel) (by decide +kernel)
set_option maxRecDepth 20000 in
theorem gX7_dyke_X7_find : GoodIn wsX7_dyke (wsV RX7 151 RX7 yX7_find wsX7_find) := goodIn_app (goodIn_of _ (by decide +kernel)) ggX7_dyke_X7_find
set_option maxRecDepth 20000 in
theorem ggX7_dyke_X7_costOf : GoodIn wsX7_dyke wsX7_costOf := goodIn_r _ [46, 24, 47, 48, 49, 3, 50, 20, 21, 39, 40, 41, 42, 6, 7, 8, 51, 52, 53, 54, 61, 62, 63, 64, 65, 66, 67, 68, 69, 70, 71, 72, 73, 74, 75, 76, 77, 78, 79, 80, 81, 82, 83, 84, 85, 86, 87, 88] (by decide +kernel) (by decide +kernel)
set_option maxRecDepth 20000 in
theorem gX7_dyke_X7_costOf : GoodIn wsX7_dyke (wsV RX7 288 RX7 yX7_costOf wsX7_costOf) := goodIn_app (goodIn_of _ (by decide +kernel)) ggX7_dyke_X7_costOf
set_option maxRecDepth 20000 in
theorem ggX7_dyke_X7_overOf : GoodIn wsX7_dyke wsX7_overOf := goodIn_r _ [50, 20, 21, 39, 40, 41, 3, 42, 24, 6, 7, 8, 61, 62, 63, 64, 65, 66, 67, 68, 69, 70, 71, 72, 73, 74, 75, 76, 77, 78, 79, 80, 81, 82, 83, 84, 85, 86, 87, 88] (by decide +kernel) (by decide +kernel)
set_option maxRecDepth 20000 in
theorem gX7_dyke_X7_overOf : GoodIn wsX7_dyke (wsV RX7 154 RX7 yX7_overOf wsX7_overOf) := goodIn_app (goodIn_of _ (by decide +kernel)) ggX7_dyke_X7_overOf
set_option maxRecDepth 20000 in
theorem ggX7_dyke_X7_underOf : GoodIn wsX7_dyke wsX7_underOf := goodIn_r _ [54, 20, 21, 39, 40, 41, 3, 42, 24, 6, 7, 8, 61, 62, 63, 64, 65, 66, 67, 68, 69, 70, 71, 72, 73, 74, 75, 76, 77, 78, 79, 80, 81, 82, 83, 84, 85, 86, 87, 88] (by decide +kernel) (by decide +kernel)
set_option maxRecDepth 20000 in
theorem gX7_dyke_X7_underOf : GoodIn wsX7_dyke (wsV RX7 157 RX7 yX7_underOf wsX7_underOf) := goodIn_app (goodIn_of _ (by decide +kernel)) ggX7_dyke_X7_underOf
set_option maxRecDepth 20000 in
theorem ggX7_dyke_X7_part : GoodIn wsX7_dyke wsX7_part := goodIn_r _ [57, 58, 59, 3, 60] (by decide +kernel) (by decide +kernel)
set_option maxRecDepth 20000 in
theorem gX7_dyke_X7_part : GoodIn wsX7_dyke (va_wsS RX7 167 yX7_part wsX7_part) := goodIn_app (goodIn_of _ (by decide +kernel)) ggX7_dyke_X7_part
theorem dX7_dyke_0 : decode cX7_dyke 0 = .ok (.iload_n 1, 1) := by decide +kernel
theorem dX7_dyke_1 : decode cX7_dyke 1 = .ok (.invokestatic 118, 3) := by decide +kernel
theorem dX7_dyke_4 : decode cX7_dyke 4 = .ok (.ifCond .eq 10, 3) := by decide +kernel
theorem dX7_dyke_7 : decode cX7_dyke 7 = .ok (.iload_n 2, 1) := by decide +kernel
theorem dX7_dyke_8 : decode cX7_dyke 8 = .ok (.invokestatic 148, 3) := by decide +kernel
theorem dX7_dyke_11 : decode cX7_dyke 11 = .ok (.ifCond .ne 9, 3) := by decide +kernel
theorem dX7_dyke_14 : decode cX7_dyke 14 = .ok (.bipush (-2), 2) := by decide +kernel
theorem dX7_dyke_16 : decode cX7_dyke 16 = .ok (.invokestatic 171, 3) := by decide +kernel
theorem dX7_dyke_19 : decode cX7_dyke 19 = .ok (.lreturn, 1) := by decide +kernel
theorem dX7_dyke_20 : decode cX7_dyke 20 = .ok (.aload_n 0, 1) := by decide +kernel
theorem dX7_dyke_21 : decode cX7_dyke 21 = .ok (.invokevirtual 151, 3) := by decide +kernel
theorem dX7_dyke_24 : decode cX7_dyke 24 = .ok (.aload_n 0, 1) := by decide +kernel
theorem dX7_dyke_25 : decode cX7_dyke 25 = .ok (.iload_n 1, 1) := by decide +kernel
theorem dX7_dyke_26 : decode cX7_dyke 26 = .ok (.invokevirtual 288, 3) := by decide +kernel
theorem dX7_dyke_29 : decode cX7_dyke 29 = .ok (.aload_n 0, 1) := by decide +kernel
theorem dX7_dyke_30 : decode cX7_dyke 30 = .ok (.iload_n 1, 1) := by decide +kernel
theorem dX7_dyke_31 : decode cX7_dyke 31 = .ok (.invokevirtual 154, 3) := by decide +kernel
theorem dX7_dyke_34 : decode cX7_dyke 34 = .ok (.aload_n 0, 1) := by decide +kernel
theorem dX7_dyke_35 : decode cX7_dyke 35 = .ok (.iload_n 1, 1) := by decide +kernel
theorem dX7_dyke_36 : decode cX7_dyke 36 = .ok (.invokevirtual 157, 3) := by decide +kernel
theorem dX7_dyke_39 : decode cX7_dyke 39 = .ok (.iadd, 1) := by decide +kernel
theorem dX7_dyke_40 : decode cX7_dyke 40 = .ok (.iconst 1, 1) := by decide +kernel
theorem dX7_dyke_41 : decode cX7_dyke 41 = .ok (.iadd, 1) := by decide +kernel
theorem dX7_dyke_42 : decode cX7_dyke 42 = .ok (.i2l, 1) := by decide +kernel
theorem dX7_dyke_43 : decode cX7_dyke 43 = .ok (.iload_n 2, 1) := by decide +kernel
theorem dX7_dyke_44 : decode cX7_dyke 44 = .ok (.invokestatic 167, 3) := by decide +kernel
theorem dX7_dyke_47 : decode cX7_dyke 47 = .ok (.lreturn, 1) := by decide +kernel
set_option maxRecDepth 20000 in
theorem ggX7_bestNow_X7_find : GoodIn wsX7_bestNow wsX7_find := goodIn_r _ [5, 6, 7, 8, 9, 10, 11, 12, 13, 14, 15, 16, 17, 18, 19, 4, 20, 21, 22, 23, 24, 25, 26, 27, 28, 29, 30, 31, 44, 45, 46, 47, 48, 49, 50, 51, 52, 53, 54, 55, 56, 57, 58, 59, 60, 61, 62, 63, 64, 65, 66, 67, 68, 69, 70, 71] (by decide +kernel) (by decide +kernel)
set_option maxRecDepth 20000 in
theorem gX7_bestNow_X7_find : GoodIn wsX7_bestNow (wsV RX7 151 RX7 yX7_find wsX7_find) := goodIn_app (goodIn_of _ (by decide +kernel)) ggX7_bestNow_X7_find
set_option maxRecDepth 20000 in
theorem ggX7_bestNow_X7_costOf : GoodIn wsX7_bestNow wsX7_costOf := goodIn_r _ [35, 10, 36, 37, 38, 4, 39, 6, 7, 28, 29, 30, 31, 25, 26, 27, 40, 41, 42, 43, 44, 45, 46, 47, 48, 49, 50, 51, 52, 53, 54, 55, 56, 57, 58, 59, 60, 61, 62, 63, 64, 65, 66, 67, 68, 69, 70, 71] (by decide +kernel) (by decide +kernel)
set_option maxRecDepth 20000 in
theorem gX7_bestNow_X7_costOf : GoodIn wsX7_bestNow (wsV RX7 288 RX7 yX7_costOf wsX7_costOf) := goodIn_app (goodIn_of _ (by decide +kernel)) ggX7_bestNow_X7_costOf
set_option maxRecDepth 20000 in
theorem ggX7_bestNow_X7_overOf : GoodIn wsX7_bestNow wsX7_overOf := goodIn_r _ [39, 6, 7, 28, 29, 30, 4, 31, 10, 25, 26, 27, 44, 45, 46, 47, 48, 49, 50, 51, 52, 53, 54, 55, 56, 57, 58, 59, 60, 61, 62, 63, 64, 65, 66, 67, 68, 69, 70, 71] (by decide +kernel) (by decide +kernel)
set_option maxRecDepth 20000 in
theorem gX7_bestNow_X7_overOf : GoodIn wsX7_bestNow (wsV RX7 154 RX7 yX7_overOf wsX7_overOf) := goodIn_app (goodIn_of _ (by decide +kernel)) ggX7_bestNow_X7_overOf
set_option maxRecDepth 20000 in
theorem ggX7_bestNow_X7_underOf : GoodIn wsX7_bestNow wsX7_underOf := goodIn_r _ [43, 6, 7, 28, 29, 30, 4, 31, 10, 25, 26, 27, 44, 45, 46, 47, 48, 49, 50, 51, 52, 53, 54, 55, 56, 57, 58, 59, 60, 61, 62, 63, 64, 65, 66, 67, 68, 69, 70, 71] (by decide +kernel) (by decide +kernel)
set_option maxRecDepth 20000 in
theorem gX7_bestNow_X7_underOf : GoodIn wsX7_bestNow (wsV RX7 157 RX7 yX7_underOf wsX7_underOf) := goodIn_app (goodIn_of _ (by decide +kernel)) ggX7_bestNow_X7_underOf
theorem dX7_bestNow_0 : decode cX7_bestNow 0 = .ok (.aload_n 0, 1) := by decide +kernel
theorem dX7_bestNow_1 : decode cX7_bestNow 1 = .ok (.invokevirtual 151, 3) := by decide +kernel
theorem dX7_bestNow_4 : decode cX7_bestNow 4 = .ok (.iconst 0, 1) := by decide +kernel
theorem dX7_bestNow_5 : decode cX7_bestNow 5 = .ok (.istore_n 1, 1) := by decide +kernel
theorem dX7_bestNow_6 : decode cX7_bestNow 6 = .ok (.aload_n 0, 1) := by decide +kernel
theorem dX7_bestNow_7 : decode cX7_bestNow 7 = .ok (.iconst 0, 1) := by decide +kernel
theorem dX7_bestNow_8 : decode cX7_bestNow 8 = .ok (.invokevirtual 288, 3) := by decide +kernel
theorem dX7_bestNow_11 : decode cX7_bestNow 11 = .ok (.lstore_n 2, 1) := by decide +kernel
theorem dX7_bestNow_12 : decode cX7_bestNow 12 = .ok (.aload_n 0, 1) := by decide +kernel
theorem dX7_bestNow_13 : decode cX7_bestNow 13 = .ok (.iconst 0, 1) := by decide +kernel
theorem dX7_bestNow_14 : decode cX7_bestNow 14 = .ok (.invokevirtual 154, 3) := by decide +kernel
theorem dX7_bestNow_17 : decode cX7_bestNow 17 = .ok (.aload_n 0, 1) := by decide +kernel
theorem dX7_bestNow_18 : decode cX7_bestNow 18 = .ok (.iconst 0, 1) := by decide +kernel
theorem dX7_bestNow_19 : decode cX7_bestNow 19 = .ok (.invokevirtual 157, 3) := by decide +kernel
theorem dX7_bestNow_22 : decode cX7_bestNow 22 = .ok (.iadd, 1) := by decide +kernel
theorem dX7_bestNow_23 : decode cX7_bestNow 23 = .ok (.iconst 1, 1) := by decide +kernel
theorem dX7_bestNow_24 : decode cX7_bestNow 24 = .ok (.iadd, 1) := by decide +kernel
theorem dX7_bestNow_25 : decode cX7_bestNow 25 = .ok (.i2l, 1) := by decide +kernel
theorem dX7_bestNow_26 : decode cX7_bestNow 26 = .ok (.lstore 4, 2) := by decide +kernel
theorem dX7_bestNow_28 : decode cX7_bestNow 28 = .ok (.iconst 1, 1) := by decide +kernel
theorem dX7_bestNow_29 : decode cX7_bestNow 29 = .ok (.istore 6, 2) := by decide +kernel
theorem dX7_bestNow_31 : decode cX7_bestNow 31 = .ok (.iload 6, 2) := by decide +kernel
theorem dX7_bestNow_33 : decode cX7_bestNow 33 = .ok (.sipush 1000, 3) := by decide +kernel
theorem dX7_bestNow_36 : decode cX7_bestNow 36 = .ok (.if_icmp .ge 58, 3) := by decide +kernel
theorem dX7_bestNow_39 : decode cX7_bestNow 39 = .ok (.aload_n 0, 1) := by decide +kernel
theorem dX7_bestNow_40 : decode cX7_bestNow 40 = .ok (.iload 6, 2) := by decide +kernel
theorem dX7_bestNow_42 : decode cX7_bestNow 42 = .ok (.invokevirtual 288, 3) := by decide +kernel
theorem dX7_bestNow_45 : decode cX7_bestNow 45 = .ok (.lstore 7, 2) := by decide +kernel
theorem dX7_bestNow_47 : decode cX7_bestNow 47 = .ok (.aload_n 0, 1) := by decide +kernel
theorem dX7_bestNow_48 : decode cX7_bestNow 48 = .ok (.iload 6, 2) := by decide +kernel
theorem dX7_bestNow_50 : decode cX7_bestNow 50 = .ok (.invokevirtual 154, 3) := by decide +kernel
theorem dX7_bestNow_53 : decode cX7_bestNow 53 = .ok (.aload_n 0, 1) := by decide +kernel
theorem dX7_bestNow_54 : decode cX7_bestNow 54 = .ok (.iload 6, 2) := by decide +kernel
theorem dX7_bestNow_56 : decode cX7_bestNow 56 = .ok (.invokevirtual 157, 3) := by decide +kernel
theorem dX7_bestNow_59 : decode cX7_bestNow 59 = .ok (.iadd, 1) := by decide +kernel
theorem dX7_bestNow_60 : decode cX7_bestNow 60 = .ok (.iconst 1, 1) := by decide +kernel
theorem dX7_bestNow_61 : decode cX7_bestNow 61 = .ok (.iadd, 1) := by decide +kernel
theorem dX7_bestNow_62 : decode cX7_bestNow 62 = .ok (.i2l, 1) := by decide +kernel
theorem dX7_bestNow_63 : decode cX7_bestNow 63 = .ok (.lstore 9, 2) := by decide +kernel
theorem dX7_bestNow_65 : decode cX7_bestNow 65 = .ok (.lload 7, 2) := by decide +kernel
theorem dX7_bestNow_67 : decode cX7_bestNow 67 = .ok (.lload 4, 2) := by decide +kernel
theorem dX7_bestNow_69 : decode cX7_bestNow 69 = .ok (.lmul, 1) := by decide +kernel
theorem dX7_bestNow_70 : decode cX7_bestNow 70 = .ok (.lload_n 2, 1) := by decide +kernel
theorem dX7_bestNow_71 : decode cX7_bestNow 71 = .ok (.lload 9, 2) := by decide +kernel
theorem dX7_bestNow_73 : decode cX7_bestNow 73 = .ok (.lmul, 1) := by decide +kernel
theorem dX7_bestNow_74 : decode cX7_bestNow 74 = .ok (.lcmp, 1) := by decide +kernel
theorem dX7_bestNow_75 : decode cX7_bestNow 75 = .ok (.ifCond .ge 13, 3) := by decide +kernel
theorem dX7_bestNow_78 : decode cX7_bestNow 78 = .ok (.iload 6, 2) := by decide +kernel
theorem dX7_bestNow_80 : decode cX7_bestNow 80 = .ok (.istore_n 1, 1) := by decide +kernel
theorem dX7_bestNow_81 : decode cX7_bestNow 81 = .ok (.lload 7, 2) := by decide +kernel
theorem dX7_bestNow_83 : decode cX7_bestNow 83 = .ok (.lstore_n 2, 1) := by decide +kernel
theorem dX7_bestNow_84 : decode cX7_bestNow 84 = .ok (.lload 9, 2) := by decide +kernel
theorem dX7_bestNow_86 : decode cX7_bestNow 86 = .ok (.lstore 4, 2) := by decide +kernel
theorem dX7_bestNow_88 : decode cX7_bestNow 88 = .ok (.iinc 6 1, 3) := by decide +kernel
theorem dX7_bestNow_91 : decode cX7_bestNow 91 = .ok (.goto (-60), 3) := by decide +kernel
theorem dX7_bestNow_94 : decode cX7_bestNow 94 = .ok (.iload_n 1, 1) := by decide +kernel
theorem dX7_bestNow_95 : decode cX7_bestNow 95 = .ok (.ireturn, 1) := by decide +kernel
set_option maxRecDepth 20000 in
theorem ggX7_best_X7_bestNow : GoodIn wsX7_best wsX7_bestNow := goodIn_r _ [5, 6, 7, 8, 4, 9, 10, 11, 12, 13, 14, 15, 16, 17, 18, 19, 20, 21, 22, 23, 24, 25, 26, 27, 28, 29, 30, 31, 32, 33, 34, 35, 36, 37, 38, 39, 40, 41, 42, 43, 44, 45, 46, 47, 48, 49, 50, 51, 52, 53, 54, 55, 56, 57, 58, 59, 60, 61, 62, 63, 64, 65, 66, 67, 68, 69, 70, 71, 72, 73, 74, 75] (by decide +kernel) (by decide +kernel)
set_option maxRecDepth 20000 in
theorem gX7_best_X7_bestNow : GoodIn wsX7_best (wsV RX7 291 RX7 yX7_bestNow wsX7_bestNow) := goodIn_app (goodIn_of _ (by decide +kernel)) ggX7_best_X7_bestNow
theorem dX7_best_0 : decode cX7_best 0 = .ok (.aload_n 0, 1) := by decide +kernel
theorem dX7_best_1 : decode cX7_best 1 = .ok (.invokevirtual 291, 3) := by decide +kernel
theorem dX7_best_4 : decode cX7_best 4 = .ok (.ireturn, 1) := by decide +kernel
set_option maxRecDepth 20000 in
theorem ggX7_sureOf_X7_find : GoodIn wsX7_sureOf wsX7_find := goodIn_r _ [5, 6, 7, 8, 9, 10, 11, 12, 13, 14, 15, 16, 17, 18, 19, 4, 20, 21, 22, 23, 24, 25, 26, 27, 28, 29, 30, 31, 40, 41, 42, 43, 44, 45, 46, 47, 48, 49, 50, 51, 52, 53, 54, 55, 56, 57, 58, 59, 60, 61, 62, 63, 64, 65, 66, 67] (by decide +kernel) (by decide +kernel)
set_option maxRecDepth 20000 in
theorem gX7_sureOf_X7_find : GoodIn wsX7_sureOf (wsV RX7 151 RX7 yX7_find wsX7_find) := goodIn_app (goodIn_of _ (by decide +kernel)) ggX7_sureOf_X7_find
set_option maxRecDepth 20000 in
theorem ggX7_sureOf_X7_counted : GoodIn wsX7_sureOf wsX7_counted := goodIn_r _ [35, 28, 29, 30, 4, 31, 10, 25, 26, 27, 40, 41, 42, 43, 44, 45, 46, 47, 48, 49, 50, 51, 52, 53, 54, 55, 56, 57, 58, 59, 60, 61, 62, 63, 64, 65, 66, 67] (by decide +kernel) (by decide +kernel)
set_option maxRecDepth 20000 in
theorem gX7_sureOf_X7_counted : GoodIn wsX7_sureOf (wsV RX7 160 RX7 yX7_counted wsX7_counted) := goodIn_app (goodIn_of _ (by decide +kernel)) ggX7_sureOf_X7_counted
set_option maxRecDepth 20000 in
theorem ggX7_sureOf_X7_underOf : GoodIn wsX7_sureOf wsX7_underOf := goodIn_r _ [39, 6, 7, 28, 29, 30, 4, 31, 10, 25, 26, 27, 40, 41, 42, 43, 44, 45, 46, 47, 48, 49, 50, 51, 52, 53, 54, 55, 56, 57, 58, 59, 60, 61, 62, 63, 64, 65, 66, 67] (by decide +kernel) (by decide +kernel)
set_option maxRecDepth 20000 in
theorem gX7_sureOf_X7_underOf : GoodIn wsX7_sureOf (wsV RX7 157 RX7 yX7_underOf wsX7_underOf) := goodIn_app (goodIn_of _ (by decide +kernel)) ggX7_sureOf_X7_underOf
theorem dX7_sureOf_0 : decode cX7_sureOf 0 = .ok (.aload_n 0, 1) := by decide +kernel
theorem dX7_sureOf_1 : decode cX7_sureOf 1 = .ok (.invokevirtual 151, 3) := by decide +kernel
theorem dX7_sureOf_4 : decode cX7_sureOf 4 = .ok (.aload_n 0, 1) := by decide +kernel
theorem dX7_sureOf_5 : decode cX7_sureOf 5 = .ok (.invokevirtual 160, 3) := by decide +kernel
theorem dX7_sureOf_8 : decode cX7_sureOf 8 = .ok (.iconst 1, 1) := by decide +kernel
theorem dX7_sureOf_9 : decode cX7_sureOf 9 = .ok (.iadd, 1) := by decide +kernel
theorem dX7_sureOf_10 : decode cX7_sureOf 10 = .ok (.istore_n 2, 1) := by decide +kernel
theorem dX7_sureOf_11 : decode cX7_sureOf 11 = .ok (.iconst 0, 1) := by decide +kernel
theorem dX7_sureOf_12 : decode cX7_sureOf 12 = .ok (.istore_n 3, 1) := by decide +kernel
theorem dX7_sureOf_13 : decode cX7_sureOf 13 = .ok (.iload_n 3, 1) := by decide +kernel
theorem dX7_sureOf_14 : decode cX7_sureOf 14 = .ok (.sipush 1000, 3) := by decide +kernel
theorem dX7_sureOf_17 : decode cX7_sureOf 17 = .ok (.if_icmp .ge 33, 3) := by decide +kernel
theorem dX7_sureOf_20 : decode cX7_sureOf 20 = .ok (.iload_n 2, 1) := by decide +kernel
theorem dX7_sureOf_21 : decode cX7_sureOf 21 = .ok (.iconst 1, 1) := by decide +kernel
theorem dX7_sureOf_22 : decode cX7_sureOf 22 = .ok (.isub, 1) := by decide +kernel
theorem dX7_sureOf_23 : decode cX7_sureOf 23 = .ok (.aload_n 0, 1) := by decide +kernel
theorem dX7_sureOf_24 : decode cX7_sureOf 24 = .ok (.iload_n 3, 1) := by decide +kernel
theorem dX7_sureOf_25 : decode cX7_sureOf 25 = .ok (.invokevirtual 157, 3) := by decide +kernel
theorem dX7_sureOf_28 : decode cX7_sureOf 28 = .ok (.isub, 1) := by decide +kernel
theorem dX7_sureOf_29 : decode cX7_sureOf 29 = .ok (.istore 4, 2) := by decide +kernel
theorem dX7_sureOf_31 : decode cX7_sureOf 31 = .ok (.bipush 100, 2) := by decide +kernel
theorem dX7_sureOf_33 : decode cX7_sureOf 33 = .ok (.iload 4, 2) := by decide +kernel
theorem dX7_sureOf_35 : decode cX7_sureOf 35 = .ok (.imul, 1) := by decide +kernel
theorem dX7_sureOf_36 : decode cX7_sureOf 36 = .ok (.iload_n 1, 1) := by decide +kernel
theorem dX7_sureOf_37 : decode cX7_sureOf 37 = .ok (.iload_n 2, 1) := by decide +kernel
theorem dX7_sureOf_38 : decode cX7_sureOf 38 = .ok (.imul, 1) := by decide +kernel
theorem dX7_sureOf_39 : decode cX7_sureOf 39 = .ok (.if_icmp .gt 5, 3) := by decide +kernel
theorem dX7_sureOf_42 : decode cX7_sureOf 42 = .ok (.iload_n 3, 1) := by decide +kernel
theorem dX7_sureOf_43 : decode cX7_sureOf 43 = .ok (.ireturn, 1) := by decide +kernel
theorem dX7_sureOf_44 : decode cX7_sureOf 44 = .ok (.iinc 3 1, 3) := by decide +kernel
theorem dX7_sureOf_47 : decode cX7_sureOf 47 = .ok (.goto (-34), 3) := by decide +kernel
theorem dX7_sureOf_50 : decode cX7_sureOf 50 = .ok (.iconst (-1), 1) := by decide +kernel
theorem dX7_sureOf_51 : decode cX7_sureOf 51 = .ok (.ireturn, 1) := by decide +kernel
set_option maxRecDepth 20000 in
theorem ggX7_sure_X7_isPart : GoodIn wsX7_sure wsX7_isPart := goodIn_r _ [4, 5, 6, 7, 3, 8] (by decide +kernel) (by decide +kernel)
set_option maxRecDepth 20000 in
theorem gX7_sure_X7_isPart : GoodIn wsX7_sure (va_wsS RX7 181 yX7_isPart wsX7_isPart) := goodIn_app (goodIn_of _ (by decide +kernel)) ggX7_sure_X7_isPart
set_option maxRecDepth 20000 in
theorem ggX7_sure_X7_sureOf : GoodIn wsX7_sure wsX7_sureOf := goodIn_r _ [12, 13, 14, 15, 3, 16, 17, 18, 19, 20, 21, 22, 23, 24, 25, 26, 27, 28, 29, 30, 31, 32, 33, 34, 35, 6, 7, 8, 36, 37, 38, 39, 40, 41, 42, 43, 44, 45, 46, 47, 48, 49, 50, 51, 52, 53, 54, 55, 56, 57, 58, 59, 60, 61, 62, 63, 64, 65, 66, 67, 68, 69, 70, 71, 72, 73, 74, 75] (by decide +kernel) (by decide +kernel)
set_option maxRecDepth 20000 in
theorem gX7_sure_X7_sureOf : GoodIn wsX7_sure (wsV RX7 294 RX7 yX7_sureOf wsX7_sureOf) := goodIn_app (goodIn_of _ (by decide +kernel)) ggX7_sure_X7_sureOf
theorem dX7_sure_0 : decode cX7_sure 0 = .ok (.iload_n 1, 1) := by decide +kernel
theorem dX7_sure_1 : decode cX7_sure 1 = .ok (.invokestatic 181, 3) := by decide +kernel
theorem dX7_sure_4 : decode cX7_sure 4 = .ok (.ifCond .eq 11, 3) := by decide +kernel
theorem dX7_sure_7 : decode cX7_sure 7 = .ok (.aload_n 0, 1) := by decide +kernel
theorem dX7_sure_8 : decode cX7_sure 8 = .ok (.iload_n 1, 1) := by decide +kernel
theorem dX7_sure_9 : decode cX7_sure 9 = .ok (.invokevirtual 294, 3) := by decide +kernel
theorem dX7_sure_12 : decode cX7_sure 12 = .ok (.goto 5, 3) := by decide +kernel
theorem dX7_sure_15 : decode cX7_sure 15 = .ok (.bipush (-2), 2) := by decide +kernel
theorem dX7_sure_17 : decode cX7_sure 17 = .ok (.ireturn, 1) := by decide +kernel
set_option maxRecDepth 20000 in
theorem ggX7_write_X7_isYear : GoodIn wsX7_write wsX7_isYear := goodIn_r _ [9, 10, 11, 12, 8, 13] (by decide +kernel) (by decide +kernel)
set_option maxRecDepth 20000 in
theorem gX7_write_X7_isYear : GoodIn wsX7_write (va_wsS RX7 121 yX7_isYear wsX7_isYear) := goodIn_app (goodIn_of _ (by decide +kernel)) ggX7_write_X7_isYear
set_option maxRecDepth 20000 in
theorem ggX7_write_X7_isSheet : GoodIn wsX7_write wsX7_isSheet := goodIn_r _ [16, 17, 11, 12, 8, 13] (by decide +kernel) (by decide +kernel)
set_option maxRecDepth 20000 in
theorem gX7_write_X7_isSheet : GoodIn wsX7_write (va_wsS RX7 86 yX7_isSheet wsX7_isSheet) := goodIn_app (goodIn_of _ (by decide +kernel)) ggX7_write_X7_isSheet
set_option maxRecDepth 20000 in
theorem ggX7_write_X7_met : GoodIn wsX7_write wsX7_met := goodIn_r _ [21, 22, 51, 52, 53, 54, 55, 56, 57, 58, 59, 60, 61, 62, 63, 64, 65, 66, 67, 68, 69, 70, 71, 72, 73, 74, 75, 76, 77, 78] (by decide +kernel) (by decide +kernel)
set_option maxRecDepth 20000 in
theorem gX7_write_X7_met : GoodIn wsX7_write (wsV RX7 92 RX7 yX7_met wsX7_met) := goodIn_app (goodIn_of _ (by decide +kernel)) ggX7_write_X7_met
set_option maxRecDepth 20000 in
theorem ggX7_write_X7_find : GoodIn wsX7_write wsX7_find := goodIn_r _ [26, 4, 5, 27, 28, 29, 30, 31, 32, 33, 34, 35, 36, 37, 38, 8, 39, 40, 41, 42, 43, 11, 12, 13, 44, 45, 46, 47, 51, 52, 53, 54, 55, 56, 57, 58, 59, 60, 61, 62, 63, 64, 65, 66, 67, 68, 69, 70, 71, 72, 73, 74, 75, 76, 77, 78] (by decide +kernel) (by decide +kernel)
set_option maxRecDepth 20000 in
theorem gX7_write_X7_find : GoodIn wsX7_write (wsV RX7 151 RX7 yX7_find wsX7_find) := goodIn_app (goodIn_of _ (by decide +kernel)) ggX7_write_X7_find
set_option maxRecDepth 20000 in
theorem ggX7_write_X7_cut : GoodIn wsX7_write wsX7_cut := goodIn_r _ [50] (by decide +kernel) (by decide +kernel)
set_option maxRecDepth 20000 in
theorem gX7_write_X7_cut : GoodIn wsX7_write (va_wsS RX7 100 yX7_cut wsX7_cut) := goodIn_app (goodIn_of _ (by decide +kernel)) ggX7_write_X7_cut
theorem dX7_write_0 : decode cX7_write 0 = .ok (.iload_n 1, 1) := by decide +kernel
theorem dX7_write_1 : decode cX7_write 1 = .ok (.invokestatic 121, 3) := by decide +kernel
theorem dX7_write_4 : decode cX7_write 4 = .ok (.ifCond .eq 10, 3) := by decide +kernel
theorem dX7_write_7 : decode cX7_write 7 = .ok (.iload_n 2, 1) := by decide +kernel
theorem dX7_write_8 : decode cX7_write 8 = .ok (.invokestatic 86, 3) := by decide +kernel
theorem dX7_write_11 : decode cX7_write 11 = .ok (.ifCond .ne 6, 3) := by decide +kernel
theorem dX7_write_14 : decode cX7_write 14 = .ok (.bipush (-2), 2) := by decide +kernel
theorem dX7_write_16 : decode cX7_write 16 = .ok (.ireturn, 1) := by decide +kernel
theorem dX7_write_17 : decode cX7_write 17 = .ok (.aload_n 0, 1) := by decide +kernel
theorem dX7_write_18 : decode cX7_write 18 = .ok (.getfield 7, 3) := by decide +kernel
theorem dX7_write_21 : decode cX7_write 21 = .ok (.iload_n 2, 1) := by decide +kernel
theorem dX7_write_22 : decode cX7_write 22 = .ok (.iaload, 1) := by decide +kernel
theorem dX7_write_23 : decode cX7_write 23 = .ok (.ifCond .ge 9, 3) := by decide +kernel
theorem dX7_write_26 : decode cX7_write 26 = .ok (.aload_n 0, 1) := by decide +kernel
theorem dX7_write_27 : decode cX7_write 27 = .ok (.iconst 1, 1) := by decide +kernel
theorem dX7_write_28 : decode cX7_write 28 = .ok (.invokevirtual 92, 3) := by decide +kernel
theorem dX7_write_31 : decode cX7_write 31 = .ok (.ireturn, 1) := by decide +kernel
theorem dX7_write_32 : decode cX7_write 32 = .ok (.aload_n 0, 1) := by decide +kernel
theorem dX7_write_33 : decode cX7_write 33 = .ok (.invokevirtual 151, 3) := by decide +kernel
theorem dX7_write_36 : decode cX7_write 36 = .ok (.aload_n 0, 1) := by decide +kernel
theorem dX7_write_37 : decode cX7_write 37 = .ok (.getfield 13, 3) := by decide +kernel
theorem dX7_write_40 : decode cX7_write 40 = .ok (.iload_n 2, 1) := by decide +kernel
theorem dX7_write_41 : decode cX7_write 41 = .ok (.iaload, 1) := by decide +kernel
theorem dX7_write_42 : decode cX7_write 42 = .ok (.bipush 60, 2) := by decide +kernel
theorem dX7_write_44 : decode cX7_write 44 = .ok (.iload_n 1, 1) := by decide +kernel
theorem dX7_write_45 : decode cX7_write 45 = .ok (.isub, 1) := by decide +kernel
theorem dX7_write_46 : decode cX7_write 46 = .ok (.if_icmp .ge 12, 3) := by decide +kernel
theorem dX7_write_49 : decode cX7_write 49 = .ok (.aload_n 0, 1) := by decide +kernel
theorem dX7_write_50 : decode cX7_write 50 = .ok (.getfield 13, 3) := by decide +kernel
theorem dX7_write_53 : decode cX7_write 53 = .ok (.iload_n 2, 1) := by decide +kernel
theorem dX7_write_54 : decode cX7_write 54 = .ok (.iaload, 1) := by decide +kernel
theorem dX7_write_55 : decode cX7_write 55 = .ok (.goto 7, 3) := by decide +kernel
theorem dX7_write_58 : decode cX7_write 58 = .ok (.bipush 60, 2) := by decide +kernel
theorem dX7_write_60 : decode cX7_write 60 = .ok (.iload_n 1, 1) := by decide +kernel
theorem dX7_write_61 : decode cX7_write 61 = .ok (.isub, 1) := by decide +kernel
theorem dX7_write_62 : decode cX7_write 62 = .ok (.istore_n 3, 1) := by decide +kernel
theorem dX7_write_63 : decode cX7_write 63 = .ok (.iconst 0, 1) := by decide +kernel
theorem dX7_write_64 : decode cX7_write 64 = .ok (.istore 4, 2) := by decide +kernel
theorem dX7_write_66 : decode cX7_write 66 = .ok (.iload 4, 2) := by decide +kernel
theorem dX7_write_68 : decode cX7_write 68 = .ok (.iload_n 3, 1) := by decide +kernel
theorem dX7_write_69 : decode cX7_write 69 = .ok (.if_icmp .ge 55, 3) := by decide +kernel
theorem dX7_write_72 : decode cX7_write 72 = .ok (.aload_n 0, 1) := by decide +kernel
theorem dX7_write_73 : decode cX7_write 73 = .ok (.getfield 16, 3) := by decide +kernel
theorem dX7_write_76 : decode cX7_write 76 = .ok (.bipush 60, 2) := by decide +kernel
theorem dX7_write_78 : decode cX7_write 78 = .ok (.iload_n 2, 1) := by decide +kernel
theorem dX7_write_79 : decode cX7_write 79 = .ok (.imul, 1) := by decide +kernel
theorem dX7_write_80 : decode cX7_write 80 = .ok (.iload 4, 2) := by decide +kernel
theorem dX7_write_82 : decode cX7_write 82 = .ok (.iadd, 1) := by decide +kernel
theorem dX7_write_83 : decode cX7_write 83 = .ok (.aload_n 0, 1) := by decide +kernel
theorem dX7_write_84 : decode cX7_write 84 = .ok (.getfield 7, 3) := by decide +kernel
theorem dX7_write_87 : decode cX7_write 87 = .ok (.iload_n 2, 1) := by decide +kernel
theorem dX7_write_88 : decode cX7_write 88 = .ok (.iaload, 1) := by decide +kernel
theorem dX7_write_89 : decode cX7_write 89 = .ok (.aload_n 0, 1) := by decide +kernel
theorem dX7_write_90 : decode cX7_write 90 = .ok (.getfield 49, 3) := by decide +kernel
theorem dX7_write_93 : decode cX7_write 93 = .ok (.iload_n 1, 1) := by decide +kernel
theorem dX7_write_94 : decode cX7_write 94 = .ok (.iload 4, 2) := by decide +kernel
theorem dX7_write_96 : decode cX7_write 96 = .ok (.iadd, 1) := by decide +kernel
theorem dX7_write_97 : decode cX7_write 97 = .ok (.iaload, 1) := by decide +kernel
theorem dX7_write_98 : decode cX7_write 98 = .ok (.ifCond .ne 15, 3) := by decide +kernel
theorem dX7_write_101 : decode cX7_write 101 = .ok (.aload_n 0, 1) := by decide +kernel
theorem dX7_write_102 : decode cX7_write 102 = .ok (.getfield 52, 3) := by decide +kernel
theorem dX7_write_105 : decode cX7_write 105 = .ok (.iload_n 1, 1) := by decide +kernel
theorem dX7_write_106 : decode cX7_write 106 = .ok (.iload 4, 2) := by decide +kernel
theorem dX7_write_108 : decode cX7_write 108 = .ok (.iadd, 1) := by decide +kernel
theorem dX7_write_109 : decode cX7_write 109 = .ok (.iaload, 1) := by decide +kernel
theorem dX7_write_110 : decode cX7_write 110 = .ok (.goto 4, 3) := by decide +kernel
theorem dX7_write_113 : decode cX7_write 113 = .ok (.iconst (-1), 1) := by decide +kernel
theorem dX7_write_114 : decode cX7_write 114 = .ok (.invokestatic 100, 3) := by decide +kernel
theorem dX7_write_117 : decode cX7_write 117 = .ok (.iastore, 1) := by decide +kernel
theorem dX7_write_118 : decode cX7_write 118 = .ok (.iinc 4 1, 3) := by decide +kernel
theorem dX7_write_121 : decode cX7_write 121 = .ok (.goto (-55), 3) := by decide +kernel
theorem dX7_write_124 : decode cX7_write 124 = .ok (.iload_n 3, 1) := by decide +kernel
theorem dX7_write_125 : decode cX7_write 125 = .ok (.ireturn, 1) := by decide +kernel
set_option maxRecDepth 20000 in
theorem ggX7_countKind_X7_isCounted : GoodIn wsX7_countKind wsX7_isCounted := goodIn_r _ [6, 7, 8, 9, 5, 10, 11, 12, 13, 14, 15, 16, 17, 18, 19, 20, 21, 22, 23, 24, 25, 26, 27, 28, 29, 30, 31, 32, 33, 34, 35, 36, 37, 38] (by decide +kernel) (by decide +kernel)
set_option maxRecDepth 20000 in
theorem gX7_countKind_X7_isCounted : GoodIn wsX7_countKind (wsV RX7 145 RX7 yX7_isCounted wsX7_isCounted) := goodIn_app (goodIn_of _ (by decide +kernel)) ggX7_countKind_X7_isCounted
theorem dX7_countKind_0 : decode cX7_countKind 0 = .ok (.iconst 0, 1) := by decide +kernel
theorem dX7_countKind_1 : decode cX7_countKind 1 = .ok (.istore_n 2, 1) := by decide +kernel
theorem dX7_countKind_2 : decode cX7_countKind 2 = .ok (.iconst 0, 1) := by decide +kernel
theorem dX7_countKind_3 : decode cX7_countKind 3 = .ok (.istore_n 3, 1) := by decide +kernel
theorem dX7_countKind_4 : decode cX7_countKind 4 = .ok (.iload_n 3, 1) := by decide +kernel
theorem dX7_countKind_5 : decode cX7_countKind 5 = .ok (.bipush 60, 2) := by decide +kernel
theorem dX7_countKind_7 : decode cX7_countKind 7 = .ok (.if_icmp .ge 35, 3) := by decide +kernel
theorem dX7_countKind_10 : decode cX7_countKind 10 = .ok (.iload_n 2, 1) := by decide +kernel
theorem dX7_countKind_11 : decode cX7_countKind 11 = .ok (.aload_n 0, 1) := by decide +kernel
theorem dX7_countKind_12 : decode cX7_countKind 12 = .ok (.iload_n 3, 1) := by decide +kernel
theorem dX7_countKind_13 : decode cX7_countKind 13 = .ok (.invokevirtual 145, 3) := by decide +kernel
theorem dX7_countKind_16 : decode cX7_countKind 16 = .ok (.ifCond .eq 17, 3) := by decide +kernel
theorem dX7_countKind_19 : decode cX7_countKind 19 = .ok (.aload_n 0, 1) := by decide +kernel
theorem dX7_countKind_20 : decode cX7_countKind 20 = .ok (.getfield 49, 3) := by decide +kernel
theorem dX7_countKind_23 : decode cX7_countKind 23 = .ok (.iload_n 3, 1) := by decide +kernel
theorem dX7_countKind_24 : decode cX7_countKind 24 = .ok (.iaload, 1) := by decide +kernel
theorem dX7_countKind_25 : decode cX7_countKind 25 = .ok (.iload_n 1, 1) := by decide +kernel
theorem dX7_countKind_26 : decode cX7_countKind 26 = .ok (.if_icmp .ne 7, 3) := by decide +kernel
theorem dX7_countKind_29 : decode cX7_countKind 29 = .ok (.iconst 1, 1) := by decide +kernel
theorem dX7_countKind_30 : decode cX7_countKind 30 = .ok (.goto 4, 3) := by decide +kernel
theorem dX7_countKind_33 : decode cX7_countKind 33 = .ok (.iconst 0, 1) := by decide +kernel
theorem dX7_countKind_34 : decode cX7_countKind 34 = .ok (.iadd, 1) := by decide +kernel
theorem dX7_countKind_35 : decode cX7_countKind 35 = .ok (.istore_n 2, 1) := by decide +kernel
theorem dX7_countKind_36 : decode cX7_countKind 36 = .ok (.iinc 3 1, 3) := by decide +kernel
theorem dX7_countKind_39 : decode cX7_countKind 39 = .ok (.goto (-35), 3) := by decide +kernel
theorem dX7_countKind_42 : decode cX7_countKind 42 = .ok (.iload_n 2, 1) := by decide +kernel
theorem dX7_countKind_43 : decode cX7_countKind 43 = .ok (.ireturn, 1) := by decide +kernel
theorem dX7_greatest_0 : decode cX7_greatest 0 = .ok (.iconst (-1), 1) := by decide +kernel
theorem dX7_greatest_1 : decode cX7_greatest 1 = .ok (.istore_n 1, 1) := by decide +kernel
theorem dX7_greatest_2 : decode cX7_greatest 2 = .ok (.iconst 0, 1) := by decide +kernel
theorem dX7_greatest_3 : decode cX7_greatest 3 = .ok (.istore_n 2, 1) := by decide +kernel
theorem dX7_greatest_4 : decode cX7_greatest 4 = .ok (.iload_n 2, 1) := by decide +kernel
theorem dX7_greatest_5 : decode cX7_greatest 5 = .ok (.aload_n 0, 1) := by decide +kernel
theorem dX7_greatest_6 : decode cX7_greatest 6 = .ok (.getfield 139, 3) := by decide +kernel
theorem dX7_greatest_9 : decode cX7_greatest 9 = .ok (.if_icmp .ge 30, 3) := by decide +kernel
theorem dX7_greatest_12 : decode cX7_greatest 12 = .ok (.aload_n 0, 1) := by decide +kernel
theorem dX7_greatest_13 : decode cX7_greatest 13 = .ok (.getfield 58, 3) := by decide +kernel
theorem dX7_greatest_16 : decode cX7_greatest 16 = .ok (.iload_n 2, 1) := by decide +kernel
theorem dX7_greatest_17 : decode cX7_greatest 17 = .ok (.iaload, 1) := by decide +kernel
theorem dX7_greatest_18 : decode cX7_greatest 18 = .ok (.iload_n 1, 1) := by decide +kernel
theorem dX7_greatest_19 : decode cX7_greatest 19 = .ok (.if_icmp .le 12, 3) := by decide +kernel
theorem dX7_greatest_22 : decode cX7_greatest 22 = .ok (.aload_n 0, 1) := by decide +kernel
theorem dX7_greatest_23 : decode cX7_greatest 23 = .ok (.getfield 58, 3) := by decide +kernel
theorem dX7_greatest_26 : decode cX7_greatest 26 = .ok (.iload_n 2, 1) := by decide +kernel
theorem dX7_greatest_27 : decode cX7_greatest 27 = .ok (.iaload, 1) := by decide +kernel
theorem dX7_greatest_28 : decode cX7_greatest 28 = .ok (.goto 4, 3) := by decide +kernel
theorem dX7_greatest_31 : decode cX7_greatest 31 = .ok (.iload_n 1, 1) := by decide +kernel
theorem dX7_greatest_32 : decode cX7_greatest 32 = .ok (.istore_n 1, 1) := by decide +kernel
theorem dX7_greatest_33 : decode cX7_greatest 33 = .ok (.iinc 2 1, 3) := by decide +kernel
theorem dX7_greatest_36 : decode cX7_greatest 36 = .ok (.goto (-32), 3) := by decide +kernel
theorem dX7_greatest_39 : decode cX7_greatest 39 = .ok (.iload_n 1, 1) := by decide +kernel
theorem dX7_greatest_40 : decode cX7_greatest 40 = .ok (.ireturn, 1) := by decide +kernel
set_option maxRecDepth 20000 in
theorem ggX7_count_X7_find : GoodIn wsX7_count wsX7_find := goodIn_r _ [11, 12, 13, 1, 14, 15, 16, 17, 18, 3, 19, 20, 21, 22, 23, 10, 24, 2, 25, 26, 27, 28, 29, 30, 31, 32, 33, 34, 43, 44, 45, 46, 47, 48, 49, 50, 51, 52, 53, 54, 55, 56, 57, 58, 59, 60, 61, 62, 63, 64, 65, 66, 67, 68, 69, 70] (by decide +kernel) (by decide +kernel)
set_option maxRecDepth 20000 in
theorem gX7_count_X7_find : GoodIn wsX7_count (wsV RX7 151 RX7 yX7_find wsX7_find) := goodIn_app (goodIn_of _ (by decide +kernel)) ggX7_count_X7_find
set_option maxRecDepth 20000 in
theorem ggX7_count_X7_countKind : GoodIn wsX7_count wsX7_countKind := goodIn_r _ [38, 12, 31, 32, 33, 10, 34, 15, 28, 29, 30, 43, 44, 45, 46, 47, 48, 49, 50, 51, 52, 53, 54, 55, 56, 57, 58, 59, 60, 61, 62, 63, 64, 65, 66, 67, 68, 69, 70] (by decide +kernel) (by decide +kernel)
set_option maxRecDepth 20000 in
theorem gX7_count_X7_countKind : GoodIn wsX7_count (wsV RX7 297 RX7 yX7_countKind wsX7_countKind) := goodIn_app (goodIn_of _ (by decide +kernel)) ggX7_count_X7_countKind
set_option maxRecDepth 20000 in
theorem ggX7_count_X7_greatest : GoodIn wsX7_count wsX7_greatest := goodIn_r _ [42, 3, 20, 43, 44, 45, 46, 47, 48, 49, 50, 51, 52, 53, 54, 55, 56, 57, 58, 59, 60, 61, 62, 63, 64, 65, 66, 67, 68, 69, 70] (by decide +kernel) (by decide +kernel)
set_option maxRecDepth 20000 in
theorem gX7_count_X7_greatest : GoodIn wsX7_count (wsV RX7 300 RX7 yX7_greatest wsX7_greatest) := goodIn_app (goodIn_of _ (by decide +kernel)) ggX7_count_X7_greatest
theorem dX7_count_0 : decode cX7_count 0 = .ok (.iconst 0, 1) := by decide +kernel
theorem dX7_count_1 : decode cX7_count 1 = .ok (.istore_n 2, 1) := by decide +kernel
theorem dX7_count_2 : decode cX7_count 2 = .ok (.aload_n 0, 1) := by decide +kernel
theorem dX7_count_3 : decode cX7_count 3 = .ok (.invokevirtual 151, 3) := by decide +kernel
theorem dX7_count_6 : decode cX7_count 6 = .ok (.iload_n 1, 1) := by decide +kernel
theorem dX7_count_7 : decode cX7_count 7 = .ok (.tableswitch 125 0 8 #[49, 54, 59, 64, 70, 76, 81, 115, 120], 49) := by decide +kernel
theorem dX7_count_56 : decode cX7_count 56 = .ok (.aload_n 0, 1) := by decide +kernel
theorem dX7_count_57 : decode cX7_count 57 = .ok (.getfield 115, 3) := by decide +kernel
theorem dX7_count_60 : decode cX7_count 60 = .ok (.ireturn, 1) := by decide +kernel
theorem dX7_count_61 : decode cX7_count 61 = .ok (.aload_n 0, 1) := by decide +kernel
theorem dX7_count_62 : decode cX7_count 62 = .ok (.getfield 131, 3) := by decide +kernel
theorem dX7_count_65 : decode cX7_count 65 = .ok (.ireturn, 1) := by decide +kernel
theorem dX7_count_66 : decode cX7_count 66 = .ok (.aload_n 0, 1) := by decide +kernel
theorem dX7_count_67 : decode cX7_count 67 = .ok (.getfield 139, 3) := by decide +kernel
theorem dX7_count_70 : decode cX7_count 70 = .ok (.ireturn, 1) := by decide +kernel
theorem dX7_count_71 : decode cX7_count 71 = .ok (.aload_n 0, 1) := by decide +kernel
theorem dX7_count_72 : decode cX7_count 72 = .ok (.iconst 1, 1) := by decide +kernel
theorem dX7_count_73 : decode cX7_count 73 = .ok (.invokevirtual 297, 3) := by decide +kernel
theorem dX7_count_76 : decode cX7_count 76 = .ok (.ireturn, 1) := by decide +kernel
theorem dX7_count_77 : decode cX7_count 77 = .ok (.aload_n 0, 1) := by decide +kernel
theorem dX7_count_78 : decode cX7_count 78 = .ok (.iconst 2, 1) := by decide +kernel
theorem dX7_count_79 : decode cX7_count 79 = .ok (.invokevirtual 297, 3) := by decide +kernel
theorem dX7_count_82 : decode cX7_count 82 = .ok (.ireturn, 1) := by decide +kernel
theorem dX7_count_83 : decode cX7_count 83 = .ok (.aload_n 0, 1) := by decide +kernel
theorem dX7_count_84 : decode cX7_count 84 = .ok (.invokevirtual 300, 3) := by decide +kernel
theorem dX7_count_87 : decode cX7_count 87 = .ok (.ireturn, 1) := by decide +kernel
theorem dX7_count_88 : decode cX7_count 88 = .ok (.iconst 0, 1) := by decide +kernel
theorem dX7_count_89 : decode cX7_count 89 = .ok (.istore_n 3, 1) := by decide +kernel
theorem dX7_count_90 : decode cX7_count 90 = .ok (.iload_n 3, 1) := by decide +kernel
theorem dX7_count_91 : decode cX7_count 91 = .ok (.bipush 60, 2) := by decide +kernel
theorem dX7_count_93 : decode cX7_count 93 = .ok (.if_icmp .ge 27, 3) := by decide +kernel
theorem dX7_count_96 : decode cX7_count 96 = .ok (.iload_n 2, 1) := by decide +kernel
theorem dX7_count_97 : decode cX7_count 97 = .ok (.aload_n 0, 1) := by decide +kernel
theorem dX7_count_98 : decode cX7_count 98 = .ok (.getfield 46, 3) := by decide +kernel
theorem dX7_count_101 : decode cX7_count 101 = .ok (.iload_n 3, 1) := by decide +kernel
theorem dX7_count_102 : decode cX7_count 102 = .ok (.iaload, 1) := by decide +kernel
theorem dX7_count_103 : decode cX7_count 103 = .ok (.iconst (-1), 1) := by decide +kernel
theorem dX7_count_104 : decode cX7_count 104 = .ok (.if_icmp .ne 7, 3) := by decide +kernel
theorem dX7_count_107 : decode cX7_count 107 = .ok (.iconst 0, 1) := by decide +kernel
theorem dX7_count_108 : decode cX7_count 108 = .ok (.goto 4, 3) := by decide +kernel
theorem dX7_count_111 : decode cX7_count 111 = .ok (.iconst 1, 1) := by decide +kernel
theorem dX7_count_112 : decode cX7_count 112 = .ok (.iadd, 1) := by decide +kernel
theorem dX7_count_113 : decode cX7_count 113 = .ok (.istore_n 2, 1) := by decide +kernel
theorem dX7_count_114 : decode cX7_count 114 = .ok (.iinc 3 1, 3) := by decide +kernel
theorem dX7_count_117 : decode cX7_count 117 = .ok (.goto (-27), 3) := by decide +kernel
theorem dX7_count_120 : decode cX7_count 120 = .ok (.iload_n 2, 1) := by decide +kernel
theorem dX7_count_121 : decode cX7_count 121 = .ok (.ireturn, 1) := by decide +kernel
theorem dX7_count_122 : decode cX7_count 122 = .ok (.aload_n 0, 1) := by decide +kernel
theorem dX7_count_123 : decode cX7_count 123 = .ok (.getfield 262, 3) := by decide +kernel
theorem dX7_count_126 : decode cX7_count 126 = .ok (.ireturn, 1) := by decide +kernel
theorem dX7_count_127 : decode cX7_count 127 = .ok (.aload_n 0, 1) := by decide +kernel
theorem dX7_count_128 : decode cX7_count 128 = .ok (.getfield 80, 3) := by decide +kernel
theorem dX7_count_131 : decode cX7_count 131 = .ok (.ireturn, 1) := by decide +kernel
theorem dX7_count_132 : decode cX7_count 132 = .ok (.bipush (-2), 2) := by decide +kernel
theorem dX7_count_134 : decode cX7_count 134 = .ok (.ireturn, 1) := by decide +kernel
set_option maxRecDepth 20000 in
theorem ggX7_digest_X7_count : GoodIn wsX7_digest wsX7_count := goodIn_r _ [9, 10, 11, 12, 13, 14, 15, 16, 17, 18, 8, 19, 3, 4, 20, 21, 22, 23, 24, 25, 26, 27, 28, 29, 30, 31, 32, 33, 34, 35, 36, 37, 38, 39, 40, 41, 42, 43, 44, 45, 46, 47, 48, 177, 178, 179, 180, 181, 182, 183, 184, 185, 186, 187, 188, 189, 190, 191, 192, 193, 194, 195, 196, 197, 198, 199, 200, 201, 202, 203, 204] (by decide +kernel) (by decide +kernel)
set_option maxRecDepth 20000 in
theorem gX7_digest_X7_count : GoodIn wsX7_digest (wsV RX7 307 RX7 yX7_count wsX7_count) := goodIn_app (goodIn_of _ (by decide +kernel)) ggX7_digest_X7_count
set_option maxRecDepth 20000 in
theorem ggX7_digest_X7_find : GoodIn wsX7_digest wsX7_find := goodIn_r _ [19, 3, 4, 10, 20, 21, 22, 23, 24, 12, 25, 26, 27, 28, 29, 8, 30, 11, 31, 32, 33, 34, 35, 36, 37, 38, 39, 40, 177, 178, 179, 180, 181, 182, 183, 184, 185, 186, 187, 188, 189, 190, 191, 192, 193, 194, 195, 196, 197, 198, 199, 200, 201, 202, 203, 204] (by decide +kernel) (by decide +kernel)
set_option maxRecDepth 20000 in
theorem gX7_digest_X7_find : GoodIn wsX7_digest (wsV RX7 151 RX7 yX7_find wsX7_find) := goodIn_app (goodIn_of _ (by decide +kernel)) ggX7_digest_X7_find
set_option maxRecDepth 20000 in
theorem ggX7_digest_X7_filledOf : GoodIn wsX7_digest wsX7_filledOf := goodIn_r _ [52, 3, 13, 12, 25, 26, 16, 17, 18, 8, 19, 4, 10, 20, 21, 22, 23, 24, 27, 28, 29, 30, 11, 31, 32, 33, 34, 35, 36, 37, 38, 39, 40, 53, 54, 55, 56, 177, 178, 179, 180, 181, 182, 183, 184, 185, 186, 187, 188, 189, 190, 191, 192, 193, 194, 195, 196, 197, 198, 199, 200, 201, 202, 203, 204] (by decide +kernel) (by decide +kernel)
set_option maxRecDepth 20000 in
theorem gX7_digest_X7_filledOf : GoodIn wsX7_digest (wsV RX7 257 RX7 yX7_filledOf wsX7_filledOf) := goodIn_app (goodIn_of _ (by decide +kernel)) ggX7_digest_X7_filledOf
set_option maxRecDepth 20000 in
theorem ggX7_digest_X7_overBy : GoodIn wsX7_digest wsX7_overBy := goodIn_r _ [60, 16, 17, 18, 8, 19, 3, 4, 10, 20, 21, 22, 23, 24, 12, 25, 26, 27, 28, 29, 30, 11, 31, 32, 33, 34, 35, 36, 37, 38, 39, 40, 61, 62, 63, 64, 65, 66, 67, 68, 69, 70, 71, 72, 177, 178, 179, 180, 181, 182, 183, 184, 185, 186, 187, 188, 189, 190, 191, 192, 193, 194, 195, 196, 197, 198, 199, 200, 201, 202, 203, 204] (by decide +kernel) (by decide +kernel)
set_option maxRecDepth 20000 in
theorem gX7_digest_X7_overBy : GoodIn wsX7_digest (wsV RX7 164 RX7 yX7_overBy wsX7_overBy) := goodIn_app (goodIn_of _ (by decide +kernel)) ggX7_digest_X7_overBy
set_option maxRecDepth 20000 in
theorem ggX7_digest_X7_rareOf : GoodIn wsX7_digest wsX7_rareOf := goodIn_r _ [76, 16, 17, 18, 8, 19, 3, 4, 10, 20, 21, 22, 23, 24, 12, 25, 26, 27, 28, 29, 30, 11, 31, 32, 33, 34, 35, 36, 37, 38, 39, 40, 61, 62, 63, 64, 65, 66, 67, 68, 69, 70, 71, 72, 77, 78, 79, 80, 81, 82, 83, 84, 85, 86, 177, 178, 179, 180, 181, 182, 183, 184, 185, 186, 187, 188, 189, 190, 191, 192, 193, 194, 195, 196, 197, 198, 199, 200, 201, 202, 203, 204] (by decide +kernel) (by decide +kernel)
set_option maxRecDepth 20000 in
theorem gX7_digest_X7_rareOf : GoodIn wsX7_digest (wsV RX7 175 RX7 yX7_rareOf wsX7_rareOf) := goodIn_app (goodIn_of _ (by decide +kernel)) ggX7_digest_X7_rareOf
set_option maxRecDepth 20000 in
theorem ggX7_digest_X7_soRareOf : GoodIn wsX7_digest wsX7_soRareOf := goodIn_r _ [90, 12, 26, 16, 17, 18, 8, 19, 3, 4, 10, 20, 21, 22, 23, 24, 25, 27, 28, 29, 30, 11, 31, 32, 33, 34, 35, 36, 37, 38, 39, 40, 61, 62, 63, 64, 65, 66, 67, 68, 177, 178, 179, 180, 181, 182, 183, 184, 185, 186, 187, 188, 189, 190, 191, 192, 193, 194, 195, 196, 197, 198, 199, 200, 201, 202, 203, 204] (by decide +kernel) (by decide +kernel)
set_option maxRecDepth 20000 in
theorem gX7_digest_X7_soRareOf : GoodIn wsX7_digest (wsV RX7 184 RX7 yX7_soRareOf wsX7_soRareOf) := goodIn_app (goodIn_of _ (by decide +kernel)) ggX7_digest_X7_soRareOf
set_option maxRecDepth 20000 in
theorem ggX7_digest_X7_recordsOf : GoodIn wsX7_digest wsX7_recordsOf := goodIn_r _ [94, 12, 26, 25, 16, 17, 18, 8, 19, 3, 4, 10, 20, 21, 22, 23, 24, 27, 28, 29, 30, 11, 31, 32, 33, 34, 35, 36, 37, 38, 39, 40, 95, 96, 97, 98, 99, 100, 101, 102, 103, 177, 178, 179, 180, 181, 182, 183, 184, 185, 186, 187, 188, 189, 190, 191, 192, 193, 194, 195, 196, 197, 198, 199, 200, 201, 202, 203, 204] (by decide +kernel) (by decide +kernel)
set_option maxRecDepth 20000 in
theorem gX7_digest_X7_recordsOf : GoodIn wsX7_digest (wsV RX7 218 RX7 yX7_recordsOf wsX7_recordsOf) := goodIn_app (goodIn_of _ (by decide +kernel)) ggX7_digest_X7_recordsOf
set_option maxRecDepth 20000 in
theorem ggX7_digest_X7_risesNow : GoodIn wsX7_digest wsX7_risesNow := goodIn_r _ [107, 12, 26, 16, 17, 18, 8, 19, 3, 4, 10, 20, 21, 22, 23, 24, 25, 27, 28, 29, 30, 11, 31, 32, 33, 34, 35, 36, 37, 38, 39, 40, 108, 109, 110, 177, 178, 179, 180, 181, 182, 183, 184, 185, 186, 187, 188, 189, 190, 191, 192, 193, 194, 195, 196, 197, 198, 199, 200, 201, 202, 203, 204] (by decide +kernel) (by decide +kernel)
set_option maxRecDepth 20000 in
theorem gX7_digest_X7_risesNow : GoodIn wsX7_digest (wsV RX7 224 RX7 yX7_risesNow wsX7_risesNow) := goodIn_app (goodIn_of _ (by decide +kernel)) ggX7_digest_X7_risesNow
set_option maxRecDepth 20000 in
theorem ggX7_digest_X7_changedOf : GoodIn wsX7_digest wsX7_changedOf := goodIn_r _ [114, 115, 116, 117, 8, 118, 12, 16, 17, 18, 19, 3, 4, 10, 20, 21, 22, 23, 24, 25, 26, 27, 28, 29, 30, 11, 31, 32, 33, 34, 35, 36, 37, 38, 39, 40, 119, 120, 121, 122, 123, 124, 125, 126, 127, 128, 129, 130, 131, 132, 133, 134, 135, 136, 137, 100, 101, 102, 103, 177, 178, 179, 180, 181, 182, 183, 184, 185, 186, 187, 188, 189, 190, 191, 192, 193, 194, 195, 196, 197, 198, 199, 200, 201, 202, 203, 204] (by decide +kernel) (by decide +kernel)
set_option maxRecDepth 20000 in
theorem gX7_digest_X7_changedOf : GoodIn wsX7_digest (wsV RX7 246 RX7 yX7_changedOf wsX7_changedOf) := goodIn_app (goodIn_of _ (by decide +kernel)) ggX7_digest_X7_changedOf
set_option maxRecDepth 20000 in
theorem ggX7_digest_X7_commonOf : GoodIn wsX7_digest wsX7_commonOf := goodIn_r _ [141, 12, 26, 13, 25, 16, 17, 18, 8, 19, 3, 4, 10, 20, 21, 22, 23, 24, 27, 28, 29, 30, 11, 31, 32, 33, 34, 35, 36, 37, 38, 39, 40, 53, 54, 55, 56, 108, 109, 110, 177, 178, 179, 180, 181, 182, 183, 184, 185, 186, 187, 188, 189, 190, 191, 192, 193, 194, 195, 196, 197, 198, 199, 200, 201, 202, 203, 204] (by decide +kernel) (by decide +kernel)
set_option maxRecDepth 20000 in
theorem gX7_digest_X7_commonOf : GoodIn wsX7_digest (wsV RX7 254 RX7 yX7_commonOf wsX7_commonOf) := goodIn_app (goodIn_of _ (by decide +kernel)) ggX7_digest_X7_commonOf
set_option maxRecDepth 20000 in
theorem ggX7_digest_X7_reads : GoodIn wsX7_digest wsX7_reads := goodIn_r _ [145, 146, 147, 14, 148, 149, 150, 8, 151, 152, 153, 154, 155, 156, 157, 158, 159, 160, 161, 162, 163, 164, 34, 35, 36, 177, 178, 179, 180, 181, 182, 183, 184, 185, 186, 187, 188, 189, 190, 191, 192, 193, 194, 195, 196, 197, 198, 199, 200, 201, 202, 203, 204] (by decide +kernel) (by decide +kernel)
set_option maxRecDepth 20000 in
theorem gX7_digest_X7_reads : GoodIn wsX7_digest (wsV RX7 285 RX7 yX7_reads wsX7_reads) := goodIn_app (goodIn_of _ (by decide +kernel)) ggX7_digest_X7_reads
set_option maxRecDepth 20000 in
theorem ggX7_digest_X7_bestNow : GoodIn wsX7_digest wsX7_bestNow := goodIn_r _ [168, 16, 17, 18, 8, 19, 3, 4, 10, 20, 21, 22, 23, 24, 12, 25, 26, 27, 28, 29, 30, 11, 31, 32, 33, 34, 35, 36, 37, 38, 39, 40, 169, 170, 171, 172, 61, 62, 63, 64, 65, 66, 67, 68, 177, 178, 179, 180, 181, 182, 183, 184, 185, 186, 187, 188, 189, 190, 191, 192, 193, 194, 195, 196, 197, 198, 199, 200, 201, 202, 203, 204] (by decide +kernel) (by decide +kernel)
set_option maxRecDepth 20000 in
theorem gX7_digest_X7_bestNow : GoodIn wsX7_digest (wsV RX7 291 RX7 yX7_bestNow wsX7_bestNow) := goodIn_app (goodIn_of _ (by decide +kernel)) ggX7_digest_X7_bestNow
set_option maxRecDepth 20000 in
theorem ggX7_digest_X7_sureOf : GoodIn wsX7_digest wsX7_sureOf := goodIn_r _ [176, 16, 17, 18, 8, 19, 3, 4, 10, 20, 21, 22, 23, 24, 12, 25, 26, 27, 28, 29, 30, 11, 31, 32, 33, 34, 35, 36, 37, 38, 39, 40, 69, 70, 71, 72, 65, 66, 67, 68, 177, 178, 179, 180, 181, 182, 183, 184, 185, 186, 187, 188, 189, 190, 191, 192, 193, 194, 195, 196, 197, 198, 199, 200, 201, 202, 203, 204] (by decide +kernel) (by decide +kernel)
set_option maxRecDepth 20000 in
theorem gX7_digest_X7_sureOf : GoodIn wsX7_digest (wsV RX7 294 RX7 yX7_sureOf wsX7_sureOf) := goodIn_app (goodIn_of _ (by decide +kernel)) ggX7_digest_X7_sureOf
theorem dX7_digest_0 : decode cX7_digest 0 = .ok (.ldc2_w 303, 3) := by decide +kernel
theorem dX7_digest_3 : decode cX7_digest 3 = .ok (.lstore_n 1, 1) := by decide +kernel
theorem dX7_digest_4 : decode cX7_digest 4 = .ok (.iconst 0, 1) := by decide +kernel
theorem dX7_digest_5 : decode cX7_digest 5 = .ok (.istore_n 3, 1) := by decide +kernel
theorem dX7_digest_6 : decode cX7_digest 6 = .ok (.iload_n 3, 1) := by decide +kernel
theorem dX7_digest_7 : decode cX7_digest 7 = .ok (.bipush 8, 2) := by decide +kernel
theorem dX7_digest_9 : decode cX7_digest 9 = .ok (.if_icmp .ge 22, 3) := by decide +kernel
theorem dX7_digest_12 : decode cX7_digest 12 = .ok (.ldc2_w 305, 3) := by decide +kernel
theorem dX7_digest_15 : decode cX7_digest 15 = .ok (.lload_n 1, 1) := by decide +kernel
theorem dX7_digest_16 : decode cX7_digest 16 = .ok (.lmul, 1) := by decide +kernel
theorem dX7_digest_17 : decode cX7_digest 17 = .ok (.aload_n 0, 1) := by decide +kernel
theorem dX7_digest_18 : decode cX7_digest 18 = .ok (.iload_n 3, 1) := by decide +kernel
theorem dX7_digest_19 : decode cX7_digest 19 = .ok (.invokevirtual 307, 3) := by decide +kernel
theorem dX7_digest_22 : decode cX7_digest 22 = .ok (.i2l, 1) := by decide +kernel
theorem dX7_digest_23 : decode cX7_digest 23 = .ok (.ladd, 1) := by decide +kernel
theorem dX7_digest_24 : decode cX7_digest 24 = .ok (.lstore_n 1, 1) := by decide +kernel
theorem dX7_digest_25 : decode cX7_digest 25 = .ok (.iinc 3 1, 3) := by decide +kernel
theorem dX7_digest_28 : decode cX7_digest 28 = .ok (.goto (-22), 3) := by decide +kernel
theorem dX7_digest_31 : decode cX7_digest 31 = .ok (.iconst 0, 1) := by decide +kernel
theorem dX7_digest_32 : decode cX7_digest 32 = .ok (.istore_n 3, 1) := by decide +kernel
theorem dX7_digest_33 : decode cX7_digest 33 = .ok (.iload_n 3, 1) := by decide +kernel
theorem dX7_digest_34 : decode cX7_digest 34 = .ok (.bipush 60, 2) := by decide +kernel
theorem dX7_digest_36 : decode cX7_digest 36 = .ok (.if_icmp .ge 55, 3) := by decide +kernel
theorem dX7_digest_39 : decode cX7_digest 39 = .ok (.aload_n 0, 1) := by decide +kernel
theorem dX7_digest_40 : decode cX7_digest 40 = .ok (.invokevirtual 151, 3) := by decide +kernel
theorem dX7_digest_43 : decode cX7_digest 43 = .ok (.ldc2_w 305, 3) := by decide +kernel
theorem dX7_digest_46 : decode cX7_digest 46 = .ok (.lload_n 1, 1) := by decide +kernel
theorem dX7_digest_47 : decode cX7_digest 47 = .ok (.lmul, 1) := by decide +kernel
theorem dX7_digest_48 : decode cX7_digest 48 = .ok (.aload_n 0, 1) := by decide +kernel
theorem dX7_digest_49 : decode cX7_digest 49 = .ok (.getfield 49, 3) := by decide +kernel
theorem dX7_digest_52 : decode cX7_digest 52 = .ok (.iload_n 3, 1) := by decide +kernel
theorem dX7_digest_53 : decode cX7_digest 53 = .ok (.iaload, 1) := by decide +kernel
theorem dX7_digest_54 : decode cX7_digest 54 = .ok (.i2l, 1) := by decide +kernel
theorem dX7_digest_55 : decode cX7_digest 55 = .ok (.ladd, 1) := by decide +kernel
theorem dX7_digest_56 : decode cX7_digest 56 = .ok (.lstore_n 1, 1) := by decide +kernel
theorem dX7_digest_57 : decode cX7_digest 57 = .ok (.ldc2_w 305, 3) := by decide +kernel
theorem dX7_digest_60 : decode cX7_digest 60 = .ok (.lload_n 1, 1) := by decide +kernel
theorem dX7_digest_61 : decode cX7_digest 61 = .ok (.lmul, 1) := by decide +kernel
theorem dX7_digest_62 : decode cX7_digest 62 = .ok (.aload_n 0, 1) := by decide +kernel
theorem dX7_digest_63 : decode cX7_digest 63 = .ok (.getfield 52, 3) := by decide +kernel
theorem dX7_digest_66 : decode cX7_digest 66 = .ok (.iload_n 3, 1) := by decide +kernel
theorem dX7_digest_67 : decode cX7_digest 67 = .ok (.iaload, 1) := by decide +kernel
theorem dX7_digest_68 : decode cX7_digest 68 = .ok (.i2l, 1) := by decide +kernel
theorem dX7_digest_69 : decode cX7_digest 69 = .ok (.ladd, 1) := by decide +kernel
theorem dX7_digest_70 : decode cX7_digest 70 = .ok (.lstore_n 1, 1) := by decide +kernel
theorem dX7_digest_71 : decode cX7_digest 71 = .ok (.ldc2_w 305, 3) := by decide +kernel
theorem dX7_digest_74 : decode cX7_digest 74 = .ok (.lload_n 1, 1) := by decide +kernel
theorem dX7_digest_75 : decode cX7_digest 75 = .ok (.lmul, 1) := by decide +kernel
theorem dX7_digest_76 : decode cX7_digest 76 = .ok (.aload_n 0, 1) := by decide +kernel
theorem dX7_digest_77 : decode cX7_digest 77 = .ok (.iload_n 3, 1) := by decide +kernel
theorem dX7_digest_78 : decode cX7_digest 78 = .ok (.iconst 0, 1) := by decide +kernel
theorem dX7_digest_79 : decode cX7_digest 79 = .ok (.invokevirtual 257, 3) := by decide +kernel
theorem dX7_digest_82 : decode cX7_digest 82 = .ok (.i2l, 1) := by decide +kernel
theorem dX7_digest_83 : decode cX7_digest 83 = .ok (.ladd, 1) := by decide +kernel
theorem dX7_digest_84 : decode cX7_digest 84 = .ok (.lstore_n 1, 1) := by decide +kernel
theorem dX7_digest_85 : decode cX7_digest 85 = .ok (.iinc 3 1, 3) := by decide +kernel
theorem dX7_digest_88 : decode cX7_digest 88 = .ok (.goto (-55), 3) := by decide +kernel
theorem dX7_digest_91 : decode cX7_digest 91 = .ok (.bipush 100, 2) := by decide +kernel
theorem dX7_digest_93 : decode cX7_digest 93 = .ok (.istore_n 3, 1) := by decide +kernel
theorem dX7_digest_94 : decode cX7_digest 94 = .ok (.iload_n 3, 1) := by decide +kernel
theorem dX7_digest_95 : decode cX7_digest 95 = .ok (.sipush 600, 3) := by decide +kernel
theorem dX7_digest_98 : decode cX7_digest 98 = .ok (.if_icmp .ge 70, 3) := by decide +kernel
theorem dX7_digest_101 : decode cX7_digest 101 = .ok (.iconst 0, 1) := by decide +kernel
theorem dX7_digest_102 : decode cX7_digest 102 = .ok (.istore 4, 2) := by decide +kernel
theorem dX7_digest_104 : decode cX7_digest 104 = .ok (.iload 4, 2) := by decide +kernel
theorem dX7_digest_106 : decode cX7_digest 106 = .ok (.iconst 3, 1) := by decide +kernel
theorem dX7_digest_107 : decode cX7_digest 107 = .ok (.if_icmp .ge 24, 3) := by decide +kernel
theorem dX7_digest_110 : decode cX7_digest 110 = .ok (.ldc2_w 305, 3) := by decide +kernel
theorem dX7_digest_113 : decode cX7_digest 113 = .ok (.lload_n 1, 1) := by decide +kernel
theorem dX7_digest_114 : decode cX7_digest 114 = .ok (.lmul, 1) := by decide +kernel
theorem dX7_digest_115 : decode cX7_digest 115 = .ok (.aload_n 0, 1) := by decide +kernel
theorem dX7_digest_116 : decode cX7_digest 116 = .ok (.iload_n 3, 1) := by decide +kernel
theorem dX7_digest_117 : decode cX7_digest 117 = .ok (.iload 4, 2) := by decide +kernel
theorem dX7_digest_119 : decode cX7_digest 119 = .ok (.invokevirtual 164, 3) := by decide +kernel
theorem dX7_digest_122 : decode cX7_digest 122 = .ok (.i2l, 1) := by decide +kernel
theorem dX7_digest_123 : decode cX7_digest 123 = .ok (.ladd, 1) := by decide +kernel
theorem dX7_digest_124 : decode cX7_digest 124 = .ok (.lstore_n 1, 1) := by decide +kernel
theorem dX7_digest_125 : decode cX7_digest 125 = .ok (.iinc 4 1, 3) := by decide +kernel
theorem dX7_digest_128 : decode cX7_digest 128 = .ok (.goto (-24), 3) := by decide +kernel
theorem dX7_digest_131 : decode cX7_digest 131 = .ok (.ldc2_w 305, 3) := by decide +kernel
theorem dX7_digest_134 : decode cX7_digest 134 = .ok (.lload_n 1, 1) := by decide +kernel
theorem dX7_digest_135 : decode cX7_digest 135 = .ok (.lmul, 1) := by decide +kernel
theorem dX7_digest_136 : decode cX7_digest 136 = .ok (.aload_n 0, 1) := by decide +kernel
theorem dX7_digest_137 : decode cX7_digest 137 = .ok (.iload_n 3, 1) := by decide +kernel
theorem dX7_digest_138 : decode cX7_digest 138 = .ok (.iconst 0, 1) := by decide +kernel
theorem dX7_digest_139 : decode cX7_digest 139 = .ok (.iconst 0, 1) := by decide +kernel
theorem dX7_digest_140 : decode cX7_digest 140 = .ok (.invokevirtual 175, 3) := by decide +kernel
theorem dX7_digest_143 : decode cX7_digest 143 = .ok (.ladd, 1) := by decide +kernel
theorem dX7_digest_144 : decode cX7_digest 144 = .ok (.lstore_n 1, 1) := by decide +kernel
theorem dX7_digest_145 : decode cX7_digest 145 = .ok (.ldc2_w 305, 3) := by decide +kernel
theorem dX7_digest_148 : decode cX7_digest 148 = .ok (.lload_n 1, 1) := by decide +kernel
theorem dX7_digest_149 : decode cX7_digest 149 = .ok (.lmul, 1) := by decide +kernel
theorem dX7_digest_150 : decode cX7_digest 150 = .ok (.aload_n 0, 1) := by decide +kernel
theorem dX7_digest_151 : decode cX7_digest 151 = .ok (.iload_n 3, 1) := by decide +kernel
theorem dX7_digest_152 : decode cX7_digest 152 = .ok (.iconst 0, 1) := by decide +kernel
theorem dX7_digest_153 : decode cX7_digest 153 = .ok (.iconst 1, 1) := by decide +kernel
theorem dX7_digest_154 : decode cX7_digest 154 = .ok (.invokevirtual 175, 3) := by decide +kernel
theorem dX7_digest_157 : decode cX7_digest 157 = .ok (.ladd, 1) := by decide +kernel
theorem dX7_digest_158 : decode cX7_digest 158 = .ok (.lstore_n 1, 1) := by decide +kernel
theorem dX7_digest_159 : decode cX7_digest 159 = .ok (.iinc 3 200, 6) := by decide +kernel
theorem dX7_digest_165 : decode cX7_digest 165 = .ok (.goto (-71), 3) := by decide +kernel
theorem dX7_digest_168 : decode cX7_digest 168 = .ok (.ldc2_w 305, 3) := by decide +kernel
theorem dX7_digest_171 : decode cX7_digest 171 = .ok (.lload_n 1, 1) := by decide +kernel
theorem dX7_digest_172 : decode cX7_digest 172 = .ok (.lmul, 1) := by decide +kernel
theorem dX7_digest_173 : decode cX7_digest 173 = .ok (.aload_n 0, 1) := by decide +kernel
theorem dX7_digest_174 : decode cX7_digest 174 = .ok (.bipush 10, 2) := by decide +kernel
theorem dX7_digest_176 : decode cX7_digest 176 = .ok (.invokevirtual 184, 3) := by decide +kernel
theorem dX7_digest_179 : decode cX7_digest 179 = .ok (.i2l, 1) := by decide +kernel
theorem dX7_digest_180 : decode cX7_digest 180 = .ok (.ladd, 1) := by decide +kernel
theorem dX7_digest_181 : decode cX7_digest 181 = .ok (.lstore_n 1, 1) := by decide +kernel
theorem dX7_digest_182 : decode cX7_digest 182 = .ok (.iconst 0, 1) := by decide +kernel
theorem dX7_digest_183 : decode cX7_digest 183 = .ok (.istore_n 3, 1) := by decide +kernel
theorem dX7_digest_184 : decode cX7_digest 184 = .ok (.iload_n 3, 1) := by decide +kernel
theorem dX7_digest_185 : decode cX7_digest 185 = .ok (.iconst 3, 1) := by decide +kernel
theorem dX7_digest_186 : decode cX7_digest 186 = .ok (.if_icmp .ge 22, 3) := by decide +kernel
theorem dX7_digest_189 : decode cX7_digest 189 = .ok (.ldc2_w 305, 3) := by decide +kernel
theorem dX7_digest_192 : decode cX7_digest 192 = .ok (.lload_n 1, 1) := by decide +kernel
theorem dX7_digest_193 : decode cX7_digest 193 = .ok (.lmul, 1) := by decide +kernel
theorem dX7_digest_194 : decode cX7_digest 194 = .ok (.aload_n 0, 1) := by decide +kernel
theorem dX7_digest_195 : decode cX7_digest 195 = .ok (.iload_n 3, 1) := by decide +kernel
theorem dX7_digest_196 : decode cX7_digest 196 = .ok (.invokevirtual 218, 3) := by decide +kernel
theorem dX7_digest_199 : decode cX7_digest 199 = .ok (.i2l, 1) := by decide +kernel
theorem dX7_digest_200 : decode cX7_digest 200 = .ok (.ladd, 1) := by decide +kernel
theorem dX7_digest_201 : decode cX7_digest 201 = .ok (.lstore_n 1, 1) := by decide +kernel
theorem dX7_digest_202 : decode cX7_digest 202 = .ok (.iinc 3 1, 3) := by decide +kernel
theorem dX7_digest_205 : decode cX7_digest 205 = .ok (.goto (-21), 3) := by decide +kernel
theorem dX7_digest_208 : decode cX7_digest 208 = .ok (.ldc2_w 305, 3) := by decide +kernel
theorem dX7_digest_211 : decode cX7_digest 211 = .ok (.lload_n 1, 1) := by decide +kernel
theorem dX7_digest_212 : decode cX7_digest 212 = .ok (.lmul, 1) := by decide +kernel
theorem dX7_digest_213 : decode cX7_digest 213 = .ok (.aload_n 0, 1) := by decide +kernel
theorem dX7_digest_214 : decode cX7_digest 214 = .ok (.invokevirtual 224, 3) := by decide +kernel
theorem dX7_digest_217 : decode cX7_digest 217 = .ok (.i2l, 1) := by decide +kernel
theorem dX7_digest_218 : decode cX7_digest 218 = .ok (.ladd, 1) := by decide +kernel
theorem dX7_digest_219 : decode cX7_digest 219 = .ok (.lstore_n 1, 1) := by decide +kernel
theorem dX7_digest_220 : decode cX7_digest 220 = .ok (.ldc2_w 305, 3) := by decide +kernel
theorem dX7_digest_223 : decode cX7_digest 223 = .ok (.lload_n 1, 1) := by decide +kernel
theorem dX7_digest_224 : decode cX7_digest 224 = .ok (.lmul, 1) := by decide +kernel
theorem dX7_digest_225 : decode cX7_digest 225 = .ok (.aload_n 0, 1) := by decide +kernel
theorem dX7_digest_226 : decode cX7_digest 226 = .ok (.iconst 0, 1) := by decide +kernel
theorem dX7_digest_227 : decode cX7_digest 227 = .ok (.invokevirtual 246, 3) := by decide +kernel
theorem dX7_digest_230 : decode cX7_digest 230 = .ok (.i2l, 1) := by decide +kernel
theorem dX7_digest_231 : decode cX7_digest 231 = .ok (.ladd, 1) := by decide +kernel
theorem dX7_digest_232 : decode cX7_digest 232 = .ok (.lstore_n 1, 1) := by decide +kernel
theorem dX7_digest_233 : decode cX7_digest 233 = .ok (.ldc2_w 305, 3) := by decide +kernel
theorem dX7_digest_236 : decode cX7_digest 236 = .ok (.lload_n 1, 1) := by decide +kernel
theorem dX7_digest_237 : decode cX7_digest 237 = .ok (.lmul, 1) := by decide +kernel
theorem dX7_digest_238 : decode cX7_digest 238 = .ok (.aload_n 0, 1) := by decide +kernel
theorem dX7_digest_239 : decode cX7_digest 239 = .ok (.iconst 0, 1) := by decide +kernel
theorem dX7_digest_240 : decode cX7_digest 240 = .ok (.invokevirtual 254, 3) := by decide +kernel
theorem dX7_digest_243 : decode cX7_digest 243 = .ok (.i2l, 1) := by decide +kernel
theorem dX7_digest_244 : decode cX7_digest 244 = .ok (.ladd, 1) := by decide +kernel
theorem dX7_digest_245 : decode cX7_digest 245 = .ok (.lstore_n 1, 1) := by decide +kernel
theorem dX7_digest_246 : decode cX7_digest 246 = .ok (.ldc2_w 305, 3) := by decide +kernel
theorem dX7_digest_249 : decode cX7_digest 249 = .ok (.lload_n 1, 1) := by decide +kernel
theorem dX7_digest_250 : decode cX7_digest 250 = .ok (.lmul, 1) := by decide +kernel
theorem dX7_digest_251 : decode cX7_digest 251 = .ok (.aload_n 0, 1) := by decide +kernel
theorem dX7_digest_252 : decode cX7_digest 252 = .ok (.iconst 1, 1) := by decide +kernel
theorem dX7_digest_253 : decode cX7_digest 253 = .ok (.invokevirtual 254, 3) := by decide +kernel
theorem dX7_digest_256 : decode cX7_digest 256 = .ok (.i2l, 1) := by decide +kernel
theorem dX7_digest_257 : decode cX7_digest 257 = .ok (.ladd, 1) := by decide +kernel
theorem dX7_digest_258 : decode cX7_digest 258 = .ok (.lstore_n 1, 1) := by decide +kernel
theorem dX7_digest_259 : decode cX7_digest 259 = .ok (.ldc2_w 305, 3) := by decide +kernel
theorem dX7_digest_262 : decode cX7_digest 262 = .ok (.lload_n 1, 1) := by decide +kernel
theorem dX7_digest_263 : decode cX7_digest 263 = .ok (.lmul, 1) := by decide +kernel
theorem dX7_digest_264 : decode cX7_digest 264 = .ok (.aload_n 0, 1) := by decide +kernel
theorem dX7_digest_265 : decode cX7_digest 265 = .ok (.invokevirtual 285, 3) := by decide +kernel
theorem dX7_digest_268 : decode cX7_digest 268 = .ok (.i2l, 1) := by decide +kernel
theorem dX7_digest_269 : decode cX7_digest 269 = .ok (.ladd, 1) := by decide +kernel
theorem dX7_digest_270 : decode cX7_digest 270 = .ok (.lstore_n 1, 1) := by decide +kernel
theorem dX7_digest_271 : decode cX7_digest 271 = .ok (.ldc2_w 305, 3) := by decide +kernel
theorem dX7_digest_274 : decode cX7_digest 274 = .ok (.lload_n 1, 1) := by decide +kernel
theorem dX7_digest_275 : decode cX7_digest 275 = .ok (.lmul, 1) := by decide +kernel
theorem dX7_digest_276 : decode cX7_digest 276 = .ok (.aload_n 0, 1) := by decide +kernel
theorem dX7_digest_277 : decode cX7_digest 277 = .ok (.invokevirtual 291, 3) := by decide +kernel
theorem dX7_digest_280 : decode cX7_digest 280 = .ok (.i2l, 1) := by decide +kernel
theorem dX7_digest_281 : decode cX7_digest 281 = .ok (.ladd, 1) := by decide +kernel
theorem dX7_digest_282 : decode cX7_digest 282 = .ok (.lstore_n 1, 1) := by decide +kernel
theorem dX7_digest_283 : decode cX7_digest 283 = .ok (.ldc2_w 305, 3) := by decide +kernel
theorem dX7_digest_286 : decode cX7_digest 286 = .ok (.lload_n 1, 1) := by decide +kernel
theorem dX7_digest_287 : decode cX7_digest 287 = .ok (.lmul, 1) := by decide +kernel
theorem dX7_digest_288 : decode cX7_digest 288 = .ok (.aload_n 0, 1) := by decide +kernel
theorem dX7_digest_289 : decode cX7_digest 289 = .ok (.bipush 20, 2) := by decide +kernel
theorem dX7_digest_291 : decode cX7_digest 291 = .ok (.invokevirtual 294, 3) := by decide +kernel
theorem dX7_digest_294 : decode cX7_digest 294 = .ok (.i2l, 1) := by decide +kernel
theorem dX7_digest_295 : decode cX7_digest 295 = .ok (.ladd, 1) := by decide +kernel
theorem dX7_digest_296 : decode cX7_digest 296 = .ok (.lreturn, 1) := by decide +kernel
theorem dJ9_abs_067f4_0 : decode cJ9_abs_067f4 0 = .ok (.lload_n 0, 1) := by decide +kernel
theorem dJ9_abs_067f4_1 : decode cJ9_abs_067f4 1 = .ok (.lconst 0, 1) := by decide +kernel
theorem dJ9_abs_067f4_2 : decode cJ9_abs_067f4 2 = .ok (.lcmp, 1) := by decide +kernel
theorem dJ9_abs_067f4_3 : decode cJ9_abs_067f4 3 = .ok (.ifCond .ge 8, 3) := by decide +kernel
theorem dJ9_abs_067f4_6 : decode cJ9_abs_067f4 6 = .ok (.lload_n 0, 1) := by decide +kernel
theorem dJ9_abs_067f4_7 : decode cJ9_abs_067f4 7 = .ok (.lneg, 1) := by decide +kernel
theorem dJ9_abs_067f4_8 : decode cJ9_abs_067f4 8 = .ok (.goto 4, 3) := by decide +kernel
theorem dJ9_abs_067f4_11 : decode cJ9_abs_067f4 11 = .ok (.lload_n 0, 1) := by decide +kernel
theorem dJ9_abs_067f4_12 : decode cJ9_abs_067f4 12 = .ok (.lreturn, 1) := by decide +kernel
theorem dJ9_max_7cf53_0 : decode cJ9_max_7cf53 0 = .ok (.iload_n 0, 1) := by decide +kernel
theorem dJ9_max_7cf53_1 : decode cJ9_max_7cf53 1 = .ok (.iload_n 1, 1) := by decide +kernel
theorem dJ9_max_7cf53_2 : decode cJ9_max_7cf53 2 = .ok (.if_icmp .lt 7, 3) := by decide +kernel
theorem dJ9_max_7cf53_5 : decode cJ9_max_7cf53 5 = .ok (.iload_n 0, 1) := by decide +kernel
theorem dJ9_max_7cf53_6 : decode cJ9_max_7cf53 6 = .ok (.goto 4, 3) := by decide +kernel
theorem dJ9_max_7cf53_9 : decode cJ9_max_7cf53 9 = .ok (.iload_n 1, 1) := by decide +kernel
theorem dJ9_max_7cf53_10 : decode cJ9_max_7cf53 10 = .ok (.ireturn, 1) := by decide +kernel
theorem dJ9_max_f86c9_0 : decode cJ9_max_f86c9 0 = .ok (.lload_n 0, 1) := by decide +kernel
theorem dJ9_max_f86c9_1 : decode cJ9_max_f86c9 1 = .ok (.lload_n 2, 1) := by decide +kernel
theorem dJ9_max_f86c9_2 : decode cJ9_max_f86c9 2 = .ok (.lcmp, 1) := by decide +kernel
theorem dJ9_max_f86c9_3 : decode cJ9_max_f86c9 3 = .ok (.ifCond .lt 7, 3) := by decide +kernel
theorem dJ9_max_f86c9_6 : decode cJ9_max_f86c9 6 = .ok (.lload_n 0, 1) := by decide +kernel
theorem dJ9_max_f86c9_7 : decode cJ9_max_f86c9 7 = .ok (.goto 4, 3) := by decide +kernel
theorem dJ9_max_f86c9_10 : decode cJ9_max_f86c9 10 = .ok (.lload_n 2, 1) := by decide +kernel
theorem dJ9_max_f86c9_11 : decode cJ9_max_f86c9 11 = .ok (.lreturn, 1) := by decide +kernel
theorem dJ9_min_7cf53_0 : decode cJ9_min_7cf53 0 = .ok (.iload_n 0, 1) := by decide +kernel
theorem dJ9_min_7cf53_1 : decode cJ9_min_7cf53 1 = .ok (.iload_n 1, 1) := by decide +kernel
theorem dJ9_min_7cf53_2 : decode cJ9_min_7cf53 2 = .ok (.if_icmp .gt 7, 3) := by decide +kernel
theorem dJ9_min_7cf53_5 : decode cJ9_min_7cf53 5 = .ok (.iload_n 0, 1) := by decide +kernel
theorem dJ9_min_7cf53_6 : decode cJ9_min_7cf53 6 = .ok (.goto 4, 3) := by decide +kernel
theorem dJ9_min_7cf53_9 : decode cJ9_min_7cf53 9 = .ok (.iload_n 1, 1) := by decide +kernel
theorem dJ9_min_7cf53_10 : decode cJ9_min_7cf53 10 = .ok (.ireturn, 1) := by decide +kernel
theorem dJ7_fill_d0a16_0 : decode cJ7_fill_d0a16 0 = .ok (.iconst 0, 1) := by decide +kernel
theorem dJ7_fill_d0a16_1 : decode cJ7_fill_d0a16 1 = .ok (.istore_n 3, 1) := by decide +kernel
theorem dJ7_fill_d0a16_2 : decode cJ7_fill_d0a16 2 = .ok (.aload_n 0, 1) := by decide +kernel
theorem dJ7_fill_d0a16_3 : decode cJ7_fill_d0a16 3 = .ok (.arraylength, 1) := by decide +kernel
theorem dJ7_fill_d0a16_4 : decode cJ7_fill_d0a16 4 = .ok (.istore 4, 2) := by decide +kernel
theorem dJ7_fill_d0a16_6 : decode cJ7_fill_d0a16 6 = .ok (.iload_n 3, 1) := by decide +kernel
theorem dJ7_fill_d0a16_7 : decode cJ7_fill_d0a16 7 = .ok (.iload 4, 2) := by decide +kernel
theorem dJ7_fill_d0a16_9 : decode cJ7_fill_d0a16 9 = .ok (.if_icmp .ge 13, 3) := by decide +kernel
theorem dJ7_fill_d0a16_12 : decode cJ7_fill_d0a16 12 = .ok (.aload_n 0, 1) := by decide +kernel
theorem dJ7_fill_d0a16_13 : decode cJ7_fill_d0a16 13 = .ok (.iload_n 3, 1) := by decide +kernel
theorem dJ7_fill_d0a16_14 : decode cJ7_fill_d0a16 14 = .ok (.lload_n 1, 1) := by decide +kernel
theorem dJ7_fill_d0a16_15 : decode cJ7_fill_d0a16 15 = .ok (.lastore, 1) := by decide +kernel
theorem dJ7_fill_d0a16_16 : decode cJ7_fill_d0a16 16 = .ok (.iinc 3 1, 3) := by decide +kernel
theorem dJ7_fill_d0a16_19 : decode cJ7_fill_d0a16 19 = .ok (.goto (-13), 3) := by decide +kernel
theorem dJ7_fill_d0a16_22 : decode cJ7_fill_d0a16 22 = .ok (.return_, 1) := by decide +kernel
theorem dJ7_fill_53178_0 : decode cJ7_fill_53178 0 = .ok (.iconst 0, 1) := by decide +kernel
theorem dJ7_fill_53178_1 : decode cJ7_fill_53178 1 = .ok (.istore_n 2, 1) := by decide +kernel
theorem dJ7_fill_53178_2 : decode cJ7_fill_53178 2 = .ok (.aload_n 0, 1) := by decide +kernel
theorem dJ7_fill_53178_3 : decode cJ7_fill_53178 3 = .ok (.arraylength, 1) := by decide +kernel
theorem dJ7_fill_53178_4 : decode cJ7_fill_53178 4 = .ok (.istore_n 3, 1) := by decide +kernel
theorem dJ7_fill_53178_5 : decode cJ7_fill_53178 5 = .ok (.iload_n 2, 1) := by decide +kernel
theorem dJ7_fill_53178_6 : decode cJ7_fill_53178 6 = .ok (.iload_n 3, 1) := by decide +kernel
theorem dJ7_fill_53178_7 : decode cJ7_fill_53178 7 = .ok (.if_icmp .ge 13, 3) := by decide +kernel
theorem dJ7_fill_53178_10 : decode cJ7_fill_53178 10 = .ok (.aload_n 0, 1) := by decide +kernel
theorem dJ7_fill_53178_11 : decode cJ7_fill_53178 11 = .ok (.iload_n 2, 1) := by decide +kernel
theorem dJ7_fill_53178_12 : decode cJ7_fill_53178 12 = .ok (.iload_n 1, 1) := by decide +kernel
theorem dJ7_fill_53178_13 : decode cJ7_fill_53178 13 = .ok (.iastore, 1) := by decide +kernel
theorem dJ7_fill_53178_14 : decode cJ7_fill_53178 14 = .ok (.iinc 2 1, 3) := by decide +kernel
theorem dJ7_fill_53178_17 : decode cJ7_fill_53178 17 = .ok (.goto (-12), 3) := by decide +kernel
theorem dJ7_fill_53178_20 : decode cJ7_fill_53178 20 = .ok (.return_, 1) := by decide +kernel
