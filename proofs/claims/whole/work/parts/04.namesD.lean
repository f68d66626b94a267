theorem dX6_settle_0 : decode cX6_settle 0 = .ok (.aload_n 0, 1) := by decide +kernel
theorem dX6_settle_1 : decode cX6_settle 1 = .ok (.getfield 26, 3) := by decide +kernel
theorem dX6_settle_4 : decode cX6_settle 4 = .ok (.invokevirtual 370, 3) := by decide +kernel
theorem dX6_settle_7 : decode cX6_settle 7 = .ok (.iconst 0, 1) := by decide +kernel
theorem dX6_settle_8 : decode cX6_settle 8 = .ok (.istore_n 1, 1) := by decide +kernel
theorem dX6_settle_9 : decode cX6_settle 9 = .ok (.iload_n 1, 1) := by decide +kernel
theorem dX6_settle_10 : decode cX6_settle 10 = .ok (.aload_n 0, 1) := by decide +kernel
theorem dX6_settle_11 : decode cX6_settle 11 = .ok (.getfield 10, 3) := by decide +kernel
theorem dX6_settle_14 : decode cX6_settle 14 = .ok (.getfield 102, 3) := by decide +kernel
theorem dX6_settle_17 : decode cX6_settle 17 = .ok (.if_icmp .ge 61, 3) := by decide +kernel
theorem dX6_settle_20 : decode cX6_settle 20 = .ok (.aload_n 0, 1) := by decide +kernel
theorem dX6_settle_21 : decode cX6_settle 21 = .ok (.getfield 10, 3) := by decide +kernel
theorem dX6_settle_24 : decode cX6_settle 24 = .ok (.getfield 373, 3) := by decide +kernel
theorem dX6_settle_27 : decode cX6_settle 27 = .ok (.iload_n 1, 1) := by decide +kernel
theorem dX6_settle_28 : decode cX6_settle 28 = .ok (.iaload, 1) := by decide +kernel
theorem dX6_settle_29 : decode cX6_settle 29 = .ok (.aload_n 0, 1) := by decide +kernel
theorem dX6_settle_30 : decode cX6_settle 30 = .ok (.getfield 46, 3) := by decide +kernel
theorem dX6_settle_33 : decode cX6_settle 33 = .ok (.iconst 0, 1) := by decide +kernel
theorem dX6_settle_34 : decode cX6_settle 34 = .ok (.iaload, 1) := by decide +kernel
theorem dX6_settle_35 : decode cX6_settle 35 = .ok (.if_icmp .gt 37, 3) := by decide +kernel
theorem dX6_settle_38 : decode cX6_settle 38 = .ok (.aload_n 0, 1) := by decide +kernel
theorem dX6_settle_39 : decode cX6_settle 39 = .ok (.getfield 26, 3) := by decide +kernel
theorem dX6_settle_42 : decode cX6_settle 42 = .ok (.aload_n 0, 1) := by decide +kernel
theorem dX6_settle_43 : decode cX6_settle 43 = .ok (.getfield 10, 3) := by decide +kernel
theorem dX6_settle_46 : decode cX6_settle 46 = .ok (.getfield 376, 3) := by decide +kernel
theorem dX6_settle_49 : decode cX6_settle 49 = .ok (.iload_n 1, 1) := by decide +kernel
theorem dX6_settle_50 : decode cX6_settle 50 = .ok (.iaload, 1) := by decide +kernel
theorem dX6_settle_51 : decode cX6_settle 51 = .ok (.aload_n 0, 1) := by decide +kernel
theorem dX6_settle_52 : decode cX6_settle 52 = .ok (.getfield 10, 3) := by decide +kernel
theorem dX6_settle_55 : decode cX6_settle 55 = .ok (.getfield 379, 3) := by decide +kernel
theorem dX6_settle_58 : decode cX6_settle 58 = .ok (.iload_n 1, 1) := by decide +kernel
theorem dX6_settle_59 : decode cX6_settle 59 = .ok (.iaload, 1) := by decide +kernel
theorem dX6_settle_60 : decode cX6_settle 60 = .ok (.aload_n 0, 1) := by decide +kernel
theorem dX6_settle_61 : decode cX6_settle 61 = .ok (.getfield 10, 3) := by decide +kernel
theorem dX6_settle_64 : decode cX6_settle 64 = .ok (.getfield 380, 3) := by decide +kernel
theorem dX6_settle_67 : decode cX6_settle 67 = .ok (.iload_n 1, 1) := by decide +kernel
theorem dX6_settle_68 : decode cX6_settle 68 = .ok (.iaload, 1) := by decide +kernel
theorem dX6_settle_69 : decode cX6_settle 69 = .ok (.invokevirtual 381, 3) := by decide +kernel
theorem dX6_settle_72 : decode cX6_settle 72 = .ok (.iinc 1 1, 3) := by decide +kernel
theorem dX6_settle_75 : decode cX6_settle 75 = .ok (.goto (-66), 3) := by decide +kernel
theorem dX6_settle_78 : decode cX6_settle 78 = .ok (.iconst 0, 1) := by decide +kernel
theorem dX6_settle_79 : decode cX6_settle 79 = .ok (.istore_n 1, 1) := by decide +kernel
theorem dX6_settle_80 : decode cX6_settle 80 = .ok (.iload_n 1, 1) := by decide +kernel
theorem dX6_settle_81 : decode cX6_settle 81 = .ok (.bipush 60, 2) := by decide +kernel
theorem dX6_settle_83 : decode cX6_settle 83 = .ok (.if_icmp .ge 46, 3) := by decide +kernel
theorem dX6_settle_86 : decode cX6_settle 86 = .ok (.aload_n 0, 1) := by decide +kernel
theorem dX6_settle_87 : decode cX6_settle 87 = .ok (.getfield 19, 3) := by decide +kernel
theorem dX6_settle_90 : decode cX6_settle 90 = .ok (.iload_n 1, 1) := by decide +kernel
theorem dX6_settle_91 : decode cX6_settle 91 = .ok (.invokevirtual 383, 3) := by decide +kernel
theorem dX6_settle_94 : decode cX6_settle 94 = .ok (.istore_n 2, 1) := by decide +kernel
theorem dX6_settle_95 : decode cX6_settle 95 = .ok (.aload_n 0, 1) := by decide +kernel
theorem dX6_settle_96 : decode cX6_settle 96 = .ok (.getfield 26, 3) := by decide +kernel
theorem dX6_settle_99 : decode cX6_settle 99 = .ok (.getfield 137, 3) := by decide +kernel
theorem dX6_settle_102 : decode cX6_settle 102 = .ok (.iload_n 1, 1) := by decide +kernel
theorem dX6_settle_103 : decode cX6_settle 103 = .ok (.iaload, 1) := by decide +kernel
theorem dX6_settle_104 : decode cX6_settle 104 = .ok (.iconst 2, 1) := by decide +kernel
theorem dX6_settle_105 : decode cX6_settle 105 = .ok (.if_icmp .ne 18, 3) := by decide +kernel
theorem dX6_settle_108 : decode cX6_settle 108 = .ok (.iload_n 2, 1) := by decide +kernel
theorem dX6_settle_109 : decode cX6_settle 109 = .ok (.iconst (-1), 1) := by decide +kernel
theorem dX6_settle_110 : decode cX6_settle 110 = .ok (.if_icmp .eq 13, 3) := by decide +kernel
theorem dX6_settle_113 : decode cX6_settle 113 = .ok (.aload_n 0, 1) := by decide +kernel
theorem dX6_settle_114 : decode cX6_settle 114 = .ok (.getfield 26, 3) := by decide +kernel
theorem dX6_settle_117 : decode cX6_settle 117 = .ok (.iload_n 1, 1) := by decide +kernel
theorem dX6_settle_118 : decode cX6_settle 118 = .ok (.iconst 1, 1) := by decide +kernel
theorem dX6_settle_119 : decode cX6_settle 119 = .ok (.iload_n 2, 1) := by decide +kernel
theorem dX6_settle_120 : decode cX6_settle 120 = .ok (.invokevirtual 381, 3) := by decide +kernel
theorem dX6_settle_123 : decode cX6_settle 123 = .ok (.iinc 1 1, 3) := by decide +kernel
theorem dX6_settle_126 : decode cX6_settle 126 = .ok (.goto (-46), 3) := by decide +kernel
theorem dX6_settle_129 : decode cX6_settle 129 = .ok (.aload_n 0, 1) := by decide +kernel
theorem dX6_settle_130 : decode cX6_settle 130 = .ok (.getfield 33, 3) := by decide +kernel
theorem dX6_settle_133 : decode cX6_settle 133 = .ok (.aload_n 0, 1) := by decide +kernel
theorem dX6_settle_134 : decode cX6_settle 134 = .ok (.getfield 26, 3) := by decide +kernel
theorem dX6_settle_137 : decode cX6_settle 137 = .ok (.aload_n 0, 1) := by decide +kernel
theorem dX6_settle_138 : decode cX6_settle 138 = .ok (.getfield 46, 3) := by decide +kernel
theorem dX6_settle_141 : decode cX6_settle 141 = .ok (.iconst 1, 1) := by decide +kernel
theorem dX6_settle_142 : decode cX6_settle 142 = .ok (.iaload, 1) := by decide +kernel
theorem dX6_settle_143 : decode cX6_settle 143 = .ok (.aload_n 0, 1) := by decide +kernel
theorem dX6_settle_144 : decode cX6_settle 144 = .ok (.getfield 46, 3) := by decide +kernel
theorem dX6_settle_147 : decode cX6_settle 147 = .ok (.iconst 2, 1) := by decide +kernel
theorem dX6_settle_148 : decode cX6_settle 148 = .ok (.iaload, 1) := by decide +kernel
theorem dX6_settle_149 : decode cX6_settle 149 = .ok (.invokevirtual 386, 3) := by decide +kernel
theorem dX6_settle_152 : decode cX6_settle 152 = .ok (.return_, 1) := by decide +kernel
set_option maxRecDepth 20000 in
theorem ggX6_fraction_X6_commonDivisor : GoodIn wsX6_fraction wsX6_commonDivisor := goodIn_r _ [8] (by decide +kernel) (by decide +kernel)
set_option maxRecDepth 20000 in
theorem gX6_fraction_X6_commonDivisor : GoodIn wsX6_fraction (va_wsS RX6 394 yX6_commonDivisor wsX6_commonDivisor) := goodIn_app (goodIn_of _ (by decide +kernel)) ggX6_fraction_X6_commonDivisor
theorem dX6_fraction_0 : decode cX6_fraction 0 = .ok (.lload_n 0, 1) := by decide +kernel
theorem dX6_fraction_1 : decode cX6_fraction 1 = .ok (.invokestatic 390, 3) := by decide +kernel
theorem dX6_fraction_4 : decode cX6_fraction 4 = .ok (.lload_n 2, 1) := by decide +kernel
theorem dX6_fraction_5 : decode cX6_fraction 5 = .ok (.invokestatic 394, 3) := by decide +kernel
theorem dX6_fraction_8 : decode cX6_fraction 8 = .ok (.lstore 5, 2) := by decide +kernel
theorem dX6_fraction_10 : decode cX6_fraction 10 = .ok (.lload 5, 2) := by decide +kernel
theorem dX6_fraction_12 : decode cX6_fraction 12 = .ok (.lconst 0, 1) := by decide +kernel
theorem dX6_fraction_13 : decode cX6_fraction 13 = .ok (.lcmp, 1) := by decide +kernel
theorem dX6_fraction_14 : decode cX6_fraction 14 = .ok (.ifCond .ne 7, 3) := by decide +kernel
theorem dX6_fraction_17 : decode cX6_fraction 17 = .ok (.iload 4, 2) := by decide +kernel
theorem dX6_fraction_19 : decode cX6_fraction 19 = .ok (.i2l, 1) := by decide +kernel
theorem dX6_fraction_20 : decode cX6_fraction 20 = .ok (.lreturn, 1) := by decide +kernel
theorem dX6_fraction_21 : decode cX6_fraction 21 = .ok (.iload 4, 2) := by decide +kernel
theorem dX6_fraction_23 : decode cX6_fraction 23 = .ok (.ifCond .ne 10, 3) := by decide +kernel
theorem dX6_fraction_26 : decode cX6_fraction 26 = .ok (.lload_n 0, 1) := by decide +kernel
theorem dX6_fraction_27 : decode cX6_fraction 27 = .ok (.lload 5, 2) := by decide +kernel
theorem dX6_fraction_29 : decode cX6_fraction 29 = .ok (.ldiv, 1) := by decide +kernel
theorem dX6_fraction_30 : decode cX6_fraction 30 = .ok (.goto 7, 3) := by decide +kernel
theorem dX6_fraction_33 : decode cX6_fraction 33 = .ok (.lload_n 2, 1) := by decide +kernel
theorem dX6_fraction_34 : decode cX6_fraction 34 = .ok (.lload 5, 2) := by decide +kernel
theorem dX6_fraction_36 : decode cX6_fraction 36 = .ok (.ldiv, 1) := by decide +kernel
theorem dX6_fraction_37 : decode cX6_fraction 37 = .ok (.lreturn, 1) := by decide +kernel
theorem dX6_commonDivisor_0 : decode cX6_commonDivisor 0 = .ok (.lload_n 0, 1) := by decide +kernel
theorem dX6_commonDivisor_1 : decode cX6_commonDivisor 1 = .ok (.lstore 4, 2) := by decide +kernel
theorem dX6_commonDivisor_3 : decode cX6_commonDivisor 3 = .ok (.lload_n 2, 1) := by decide +kernel
theorem dX6_commonDivisor_4 : decode cX6_commonDivisor 4 = .ok (.lstore 6, 2) := by decide +kernel
theorem dX6_commonDivisor_6 : decode cX6_commonDivisor 6 = .ok (.iconst 0, 1) := by decide +kernel
theorem dX6_commonDivisor_7 : decode cX6_commonDivisor 7 = .ok (.istore 8, 2) := by decide +kernel
theorem dX6_commonDivisor_9 : decode cX6_commonDivisor 9 = .ok (.iload 8, 2) := by decide +kernel
theorem dX6_commonDivisor_11 : decode cX6_commonDivisor 11 = .ok (.sipush 1000, 3) := by decide +kernel
theorem dX6_commonDivisor_14 : decode cX6_commonDivisor 14 = .ok (.if_icmp .ge 31, 3) := by decide +kernel
theorem dX6_commonDivisor_17 : decode cX6_commonDivisor 17 = .ok (.lload 6, 2) := by decide +kernel
theorem dX6_commonDivisor_19 : decode cX6_commonDivisor 19 = .ok (.lconst 0, 1) := by decide +kernel
theorem dX6_commonDivisor_20 : decode cX6_commonDivisor 20 = .ok (.lcmp, 1) := by decide +kernel
theorem dX6_commonDivisor_21 : decode cX6_commonDivisor 21 = .ok (.ifCond .eq 24, 3) := by decide +kernel
theorem dX6_commonDivisor_24 : decode cX6_commonDivisor 24 = .ok (.lload 4, 2) := by decide +kernel
theorem dX6_commonDivisor_26 : decode cX6_commonDivisor 26 = .ok (.lload 6, 2) := by decide +kernel
theorem dX6_commonDivisor_28 : decode cX6_commonDivisor 28 = .ok (.lrem, 1) := by decide +kernel
theorem dX6_commonDivisor_29 : decode cX6_commonDivisor 29 = .ok (.lstore 9, 2) := by decide +kernel
theorem dX6_commonDivisor_31 : decode cX6_commonDivisor 31 = .ok (.lload 6, 2) := by decide +kernel
theorem dX6_commonDivisor_33 : decode cX6_commonDivisor 33 = .ok (.lstore 4, 2) := by decide +kernel
theorem dX6_commonDivisor_35 : decode cX6_commonDivisor 35 = .ok (.lload 9, 2) := by decide +kernel
theorem dX6_commonDivisor_37 : decode cX6_commonDivisor 37 = .ok (.lstore 6, 2) := by decide +kernel
theorem dX6_commonDivisor_39 : decode cX6_commonDivisor 39 = .ok (.iinc 8 1, 3) := by decide +kernel
theorem dX6_commonDivisor_42 : decode cX6_commonDivisor 42 = .ok (.goto (-33), 3) := by decide +kernel
theorem dX6_commonDivisor_45 : decode cX6_commonDivisor 45 = .ok (.lload 4, 2) := by decide +kernel
theorem dX6_commonDivisor_47 : decode cX6_commonDivisor 47 = .ok (.lreturn, 1) := by decide +kernel
theorem dX6_power_0 : decode cX6_power 0 = .ok (.lconst 1, 1) := by decide +kernel
theorem dX6_power_1 : decode cX6_power 1 = .ok (.lstore_n 3, 1) := by decide +kernel
theorem dX6_power_2 : decode cX6_power 2 = .ok (.iconst 0, 1) := by decide +kernel
theorem dX6_power_3 : decode cX6_power 3 = .ok (.istore 5, 2) := by decide +kernel
theorem dX6_power_5 : decode cX6_power 5 = .ok (.iload 5, 2) := by decide +kernel
theorem dX6_power_7 : decode cX6_power 7 = .ok (.iload_n 2, 1) := by decide +kernel
theorem dX6_power_8 : decode cX6_power 8 = .ok (.if_icmp .ge 13, 3) := by decide +kernel
theorem dX6_power_11 : decode cX6_power 11 = .ok (.lload_n 3, 1) := by decide +kernel
theorem dX6_power_12 : decode cX6_power 12 = .ok (.lload_n 0, 1) := by decide +kernel
theorem dX6_power_13 : decode cX6_power 13 = .ok (.lmul, 1) := by decide +kernel
theorem dX6_power_14 : decode cX6_power 14 = .ok (.lstore_n 3, 1) := by decide +kernel
theorem dX6_power_15 : decode cX6_power 15 = .ok (.iinc 5 1, 3) := by decide +kernel
theorem dX6_power_18 : decode cX6_power 18 = .ok (.goto (-13), 3) := by decide +kernel
theorem dX6_power_21 : decode cX6_power 21 = .ok (.lload_n 3, 1) := by decide +kernel
theorem dX6_power_22 : decode cX6_power 22 = .ok (.lreturn, 1) := by decide +kernel
theorem dX6_choices_0 : decode cX6_choices 0 = .ok (.lconst 1, 1) := by decide +kernel
theorem dX6_choices_1 : decode cX6_choices 1 = .ok (.lstore_n 2, 1) := by decide +kernel
theorem dX6_choices_2 : decode cX6_choices 2 = .ok (.iconst 1, 1) := by decide +kernel
theorem dX6_choices_3 : decode cX6_choices 3 = .ok (.istore 4, 2) := by decide +kernel
theorem dX6_choices_5 : decode cX6_choices 5 = .ok (.iload 4, 2) := by decide +kernel
theorem dX6_choices_7 : decode cX6_choices 7 = .ok (.iload_n 1, 1) := by decide +kernel
theorem dX6_choices_8 : decode cX6_choices 8 = .ok (.if_icmp .gt 23, 3) := by decide +kernel
theorem dX6_choices_11 : decode cX6_choices 11 = .ok (.lload_n 2, 1) := by decide +kernel
theorem dX6_choices_12 : decode cX6_choices 12 = .ok (.iload_n 0, 1) := by decide +kernel
theorem dX6_choices_13 : decode cX6_choices 13 = .ok (.iload_n 1, 1) := by decide +kernel
theorem dX6_choices_14 : decode cX6_choices 14 = .ok (.isub, 1) := by decide +kernel
theorem dX6_choices_15 : decode cX6_choices 15 = .ok (.iload 4, 2) := by decide +kernel
theorem dX6_choices_17 : decode cX6_choices 17 = .ok (.iadd, 1) := by decide +kernel
theorem dX6_choices_18 : decode cX6_choices 18 = .ok (.i2l, 1) := by decide +kernel
theorem dX6_choices_19 : decode cX6_choices 19 = .ok (.lmul, 1) := by decide +kernel
theorem dX6_choices_20 : decode cX6_choices 20 = .ok (.iload 4, 2) := by decide +kernel
theorem dX6_choices_22 : decode cX6_choices 22 = .ok (.i2l, 1) := by decide +kernel
theorem dX6_choices_23 : decode cX6_choices 23 = .ok (.ldiv, 1) := by decide +kernel
theorem dX6_choices_24 : decode cX6_choices 24 = .ok (.lstore_n 2, 1) := by decide +kernel
theorem dX6_choices_25 : decode cX6_choices 25 = .ok (.iinc 4 1, 3) := by decide +kernel
theorem dX6_choices_28 : decode cX6_choices 28 = .ok (.goto (-23), 3) := by decide +kernel
theorem dX6_choices_31 : decode cX6_choices 31 = .ok (.lload_n 2, 1) := by decide +kernel
theorem dX6_choices_32 : decode cX6_choices 32 = .ok (.lreturn, 1) := by decide +kernel
theorem dX6_direction_0 : decode cX6_direction 0 = .ok (.iload_n 1, 1) := by decide +kernel
theorem dX6_direction_1 : decode cX6_direction 1 = .ok (.iload_n 0, 1) := by decide +kernel
theorem dX6_direction_2 : decode cX6_direction 2 = .ok (.if_icmp .ne 5, 3) := by decide +kernel
theorem dX6_direction_5 : decode cX6_direction 5 = .ok (.iconst 0, 1) := by decide +kernel
theorem dX6_direction_6 : decode cX6_direction 6 = .ok (.ireturn, 1) := by decide +kernel
theorem dX6_direction_7 : decode cX6_direction 7 = .ok (.iload_n 1, 1) := by decide +kernel
theorem dX6_direction_8 : decode cX6_direction 8 = .ok (.iload_n 0, 1) := by decide +kernel
theorem dX6_direction_9 : decode cX6_direction 9 = .ok (.if_icmp .le 7, 3) := by decide +kernel
theorem dX6_direction_12 : decode cX6_direction 12 = .ok (.iconst 1, 1) := by decide +kernel
theorem dX6_direction_13 : decode cX6_direction 13 = .ok (.goto 4, 3) := by decide +kernel
theorem dX6_direction_16 : decode cX6_direction 16 = .ok (.iconst (-1), 1) := by decide +kernel
theorem dX6_direction_17 : decode cX6_direction 17 = .ok (.ireturn, 1) := by decide +kernel
theorem dX6_mixed_0 : decode cX6_mixed 0 = .ok (.ldc2_w 397, 3) := by decide +kernel
theorem dX6_mixed_3 : decode cX6_mixed 3 = .ok (.lload_n 0, 1) := by decide +kernel
theorem dX6_mixed_4 : decode cX6_mixed 4 = .ok (.lmul, 1) := by decide +kernel
theorem dX6_mixed_5 : decode cX6_mixed 5 = .ok (.lload_n 2, 1) := by decide +kernel
theorem dX6_mixed_6 : decode cX6_mixed 6 = .ok (.ladd, 1) := by decide +kernel
theorem dX6_mixed_7 : decode cX6_mixed 7 = .ok (.lreturn, 1) := by decide +kernel
set_option maxRecDepth 20000 in
theorem ggX6_timesOver_X6_choices : GoodIn wsX6_timesOver wsX6_choices := goodIn_r _ [4] (by decide +kernel) (by decide +kernel)
set_option maxRecDepth 20000 in
theorem gX6_timesOver_X6_choices : GoodIn wsX6_timesOver (va_wsS RX6 196 yX6_choices wsX6_choices) := goodIn_app (goodIn_of _ (by decide +kernel)) ggX6_timesOver_X6_choices
set_option maxRecDepth 20000 in
theorem ggX6_timesOver_X6_power : GoodIn wsX6_timesOver wsX6_power := goodIn_r _ [7] (by decide +kernel) (by decide +kernel)
set_option maxRecDepth 20000 in
theorem gX6_timesOver_X6_power : GoodIn wsX6_timesOver (va_wsS RX6 188 yX6_power wsX6_power) := goodIn_app (goodIn_of _ (by decide +kernel)) ggX6_timesOver_X6_power
theorem dX6_timesOver_0 : decode cX6_timesOver 0 = .ok (.lconst 0, 1) := by decide +kernel
theorem dX6_timesOver_1 : decode cX6_timesOver 1 = .ok (.lstore 4, 2) := by decide +kernel
theorem dX6_timesOver_3 : decode cX6_timesOver 3 = .ok (.iload_n 2, 1) := by decide +kernel
theorem dX6_timesOver_4 : decode cX6_timesOver 4 = .ok (.istore 6, 2) := by decide +kernel
theorem dX6_timesOver_6 : decode cX6_timesOver 6 = .ok (.iload 6, 2) := by decide +kernel
theorem dX6_timesOver_8 : decode cX6_timesOver 8 = .ok (.iload_n 3, 1) := by decide +kernel
theorem dX6_timesOver_9 : decode cX6_timesOver 9 = .ok (.if_icmp .ge 47, 3) := by decide +kernel
theorem dX6_timesOver_12 : decode cX6_timesOver 12 = .ok (.iload 6, 2) := by decide +kernel
theorem dX6_timesOver_14 : decode cX6_timesOver 14 = .ok (.iload_n 0, 1) := by decide +kernel
theorem dX6_timesOver_15 : decode cX6_timesOver 15 = .ok (.if_icmp .gt 41, 3) := by decide +kernel
theorem dX6_timesOver_18 : decode cX6_timesOver 18 = .ok (.lload 4, 2) := by decide +kernel
theorem dX6_timesOver_20 : decode cX6_timesOver 20 = .ok (.iload_n 0, 1) := by decide +kernel
theorem dX6_timesOver_21 : decode cX6_timesOver 21 = .ok (.iload 6, 2) := by decide +kernel
theorem dX6_timesOver_23 : decode cX6_timesOver 23 = .ok (.invokestatic 196, 3) := by decide +kernel
theorem dX6_timesOver_26 : decode cX6_timesOver 26 = .ok (.iload_n 1, 1) := by decide +kernel
theorem dX6_timesOver_27 : decode cX6_timesOver 27 = .ok (.i2l, 1) := by decide +kernel
theorem dX6_timesOver_28 : decode cX6_timesOver 28 = .ok (.iload 6, 2) := by decide +kernel
theorem dX6_timesOver_30 : decode cX6_timesOver 30 = .ok (.invokestatic 188, 3) := by decide +kernel
theorem dX6_timesOver_33 : decode cX6_timesOver 33 = .ok (.lmul, 1) := by decide +kernel
theorem dX6_timesOver_34 : decode cX6_timesOver 34 = .ok (.bipush 16, 2) := by decide +kernel
theorem dX6_timesOver_36 : decode cX6_timesOver 36 = .ok (.iload_n 1, 1) := by decide +kernel
theorem dX6_timesOver_37 : decode cX6_timesOver 37 = .ok (.isub, 1) := by decide +kernel
theorem dX6_timesOver_38 : decode cX6_timesOver 38 = .ok (.i2l, 1) := by decide +kernel
theorem dX6_timesOver_39 : decode cX6_timesOver 39 = .ok (.iload_n 0, 1) := by decide +kernel
theorem dX6_timesOver_40 : decode cX6_timesOver 40 = .ok (.iload 6, 2) := by decide +kernel
theorem dX6_timesOver_42 : decode cX6_timesOver 42 = .ok (.isub, 1) := by decide +kernel
theorem dX6_timesOver_43 : decode cX6_timesOver 43 = .ok (.invokestatic 188, 3) := by decide +kernel
theorem dX6_timesOver_46 : decode cX6_timesOver 46 = .ok (.lmul, 1) := by decide +kernel
theorem dX6_timesOver_47 : decode cX6_timesOver 47 = .ok (.ladd, 1) := by decide +kernel
theorem dX6_timesOver_48 : decode cX6_timesOver 48 = .ok (.lstore 4, 2) := by decide +kernel
theorem dX6_timesOver_50 : decode cX6_timesOver 50 = .ok (.iinc 6 1, 3) := by decide +kernel
theorem dX6_timesOver_53 : decode cX6_timesOver 53 = .ok (.goto (-47), 3) := by decide +kernel
theorem dX6_timesOver_56 : decode cX6_timesOver 56 = .ok (.lload 4, 2) := by decide +kernel
theorem dX6_timesOver_58 : decode cX6_timesOver 58 = .ok (.lreturn, 1) := by decide +kernel
set_option maxRecDepth 20000 in
theorem ggX6_staysWithin_X6_power : GoodIn wsX6_staysWithin wsX6_power := goodIn_r _ [5] (by decide +kernel) (by decide +kernel)
set_option maxRecDepth 20000 in
theorem gX6_staysWithin_X6_power : GoodIn wsX6_staysWithin (va_wsS RX6 188 yX6_power wsX6_power) := goodIn_app (goodIn_of _ (by decide +kernel)) ggX6_staysWithin_X6_power
theorem dX6_staysWithin_0 : decode cX6_staysWithin 0 = .ok (.ldc2_w 186, 3) := by decide +kernel
theorem dX6_staysWithin_3 : decode cX6_staysWithin 3 = .ok (.iload_n 0, 1) := by decide +kernel
theorem dX6_staysWithin_4 : decode cX6_staysWithin 4 = .ok (.invokestatic 188, 3) := by decide +kernel
theorem dX6_staysWithin_7 : decode cX6_staysWithin 7 = .ok (.bipush 16, 2) := by decide +kernel
theorem dX6_staysWithin_9 : decode cX6_staysWithin 9 = .ok (.iload_n 1, 1) := by decide +kernel
theorem dX6_staysWithin_10 : decode cX6_staysWithin 10 = .ok (.isub, 1) := by decide +kernel
theorem dX6_staysWithin_11 : decode cX6_staysWithin 11 = .ok (.i2l, 1) := by decide +kernel
theorem dX6_staysWithin_12 : decode cX6_staysWithin 12 = .ok (.iload_n 0, 1) := by decide +kernel
theorem dX6_staysWithin_13 : decode cX6_staysWithin 13 = .ok (.invokestatic 188, 3) := by decide +kernel
theorem dX6_staysWithin_16 : decode cX6_staysWithin 16 = .ok (.lsub, 1) := by decide +kernel
theorem dX6_staysWithin_17 : decode cX6_staysWithin 17 = .ok (.lstore_n 3, 1) := by decide +kernel
theorem dX6_staysWithin_18 : decode cX6_staysWithin 18 = .ok (.iload_n 0, 1) := by decide +kernel
theorem dX6_staysWithin_19 : decode cX6_staysWithin 19 = .ok (.iconst 2, 1) := by decide +kernel
theorem dX6_staysWithin_20 : decode cX6_staysWithin 20 = .ok (.if_icmp .ge 20, 3) := by decide +kernel
theorem dX6_staysWithin_23 : decode cX6_staysWithin 23 = .ok (.lload_n 3, 1) := by decide +kernel
theorem dX6_staysWithin_24 : decode cX6_staysWithin 24 = .ok (.ldc2_w 186, 3) := by decide +kernel
theorem dX6_staysWithin_27 : decode cX6_staysWithin 27 = .ok (.lmul, 1) := by decide +kernel
theorem dX6_staysWithin_28 : decode cX6_staysWithin 28 = .ok (.iload_n 2, 1) := by decide +kernel
theorem dX6_staysWithin_29 : decode cX6_staysWithin 29 = .ok (.i2l, 1) := by decide +kernel
theorem dX6_staysWithin_30 : decode cX6_staysWithin 30 = .ok (.lcmp, 1) := by decide +kernel
theorem dX6_staysWithin_31 : decode cX6_staysWithin 31 = .ok (.ifCond .gt 7, 3) := by decide +kernel
theorem dX6_staysWithin_34 : decode cX6_staysWithin 34 = .ok (.iconst 1, 1) := by decide +kernel
theorem dX6_staysWithin_35 : decode cX6_staysWithin 35 = .ok (.goto 4, 3) := by decide +kernel
theorem dX6_staysWithin_38 : decode cX6_staysWithin 38 = .ok (.iconst 0, 1) := by decide +kernel
theorem dX6_staysWithin_39 : decode cX6_staysWithin 39 = .ok (.ireturn, 1) := by decide +kernel
theorem dX6_staysWithin_40 : decode cX6_staysWithin 40 = .ok (.lload_n 3, 1) := by decide +kernel
theorem dX6_staysWithin_41 : decode cX6_staysWithin 41 = .ok (.iload_n 2, 1) := by decide +kernel
theorem dX6_staysWithin_42 : decode cX6_staysWithin 42 = .ok (.i2l, 1) := by decide +kernel
theorem dX6_staysWithin_43 : decode cX6_staysWithin 43 = .ok (.ldc2_w 186, 3) := by decide +kernel
theorem dX6_staysWithin_46 : decode cX6_staysWithin 46 = .ok (.iload_n 0, 1) := by decide +kernel
theorem dX6_staysWithin_47 : decode cX6_staysWithin 47 = .ok (.iconst 2, 1) := by decide +kernel
theorem dX6_staysWithin_48 : decode cX6_staysWithin 48 = .ok (.isub, 1) := by decide +kernel
theorem dX6_staysWithin_49 : decode cX6_staysWithin 49 = .ok (.invokestatic 188, 3) := by decide +kernel
theorem dX6_staysWithin_52 : decode cX6_staysWithin 52 = .ok (.lmul, 1) := by decide +kernel
theorem dX6_staysWithin_53 : decode cX6_staysWithin 53 = .ok (.lcmp, 1) := by decide +kernel
theorem dX6_staysWithin_54 : decode cX6_staysWithin 54 = .ok (.ifCond .gt 7, 3) := by decide +kernel
theorem dX6_staysWithin_57 : decode cX6_staysWithin 57 = .ok (.iconst 1, 1) := by decide +kernel
theorem dX6_staysWithin_58 : decode cX6_staysWithin 58 = .ok (.goto 4, 3) := by decide +kernel
theorem dX6_staysWithin_61 : decode cX6_staysWithin 61 = .ok (.iconst 0, 1) := by decide +kernel
theorem dX6_staysWithin_62 : decode cX6_staysWithin 62 = .ok (.ireturn, 1) := by decide +kernel
set_option maxRecDepth 20000 in
theorem ggX6_should_X6_orderByRecords : GoodIn wsX6_should wsX6_orderByRecords := goodIn_r _ [10, 3, 11, 12, 13, 14, 15, 16, 17, 18, 19, 20, 21, 22, 23, 24] (by decide +kernel) (by decide +kernel)
set_option maxRecDepth 20000 in
theorem gX6_should_X6_orderByRecords : GoodIn wsX6_should (wsV RX6 399 RX6 yX6_orderByRecords wsX6_orderByRecords) := goodIn_app (goodIn_of _ (by decide +kernel)) ggX6_should_X6_orderByRecords
theorem dX6_should_0 : decode cX6_should 0 = .ok (.aload_n 0, 1) := by decide +kernel
theorem dX6_should_1 : decode cX6_should 1 = .ok (.getfield 33, 3) := by decide +kernel
theorem dX6_should_4 : decode cX6_should 4 = .ok (.getfield 170, 3) := by decide +kernel
theorem dX6_should_7 : decode cX6_should 7 = .ok (.istore_n 1, 1) := by decide +kernel
theorem dX6_should_8 : decode cX6_should 8 = .ok (.aload_n 0, 1) := by decide +kernel
theorem dX6_should_9 : decode cX6_should 9 = .ok (.iload_n 1, 1) := by decide +kernel
theorem dX6_should_10 : decode cX6_should 10 = .ok (.invokevirtual 399, 3) := by decide +kernel
theorem dX6_should_13 : decode cX6_should 13 = .ok (.lconst 0, 1) := by decide +kernel
theorem dX6_should_14 : decode cX6_should 14 = .ok (.lstore_n 2, 1) := by decide +kernel
theorem dX6_should_15 : decode cX6_should 15 = .ok (.lconst 0, 1) := by decide +kernel
theorem dX6_should_16 : decode cX6_should 16 = .ok (.lstore 4, 2) := by decide +kernel
theorem dX6_should_18 : decode cX6_should 18 = .ok (.iconst 0, 1) := by decide +kernel
theorem dX6_should_19 : decode cX6_should 19 = .ok (.istore 6, 2) := by decide +kernel
theorem dX6_should_21 : decode cX6_should 21 = .ok (.iload 6, 2) := by decide +kernel
theorem dX6_should_23 : decode cX6_should 23 = .ok (.iload_n 1, 1) := by decide +kernel
theorem dX6_should_24 : decode cX6_should 24 = .ok (.if_icmp .gt 53, 3) := by decide +kernel
theorem dX6_should_27 : decode cX6_should 27 = .ok (.iload 6, 2) := by decide +kernel
theorem dX6_should_29 : decode cX6_should 29 = .ok (.aload_n 0, 1) := by decide +kernel
theorem dX6_should_30 : decode cX6_should 30 = .ok (.getfield 72, 3) := by decide +kernel
theorem dX6_should_33 : decode cX6_should 33 = .ok (.arraylength, 1) := by decide +kernel
theorem dX6_should_34 : decode cX6_should 34 = .ok (.if_icmp .ge 43, 3) := by decide +kernel
theorem dX6_should_37 : decode cX6_should 37 = .ok (.lload 4, 2) := by decide +kernel
theorem dX6_should_39 : decode cX6_should 39 = .ok (.aload_n 0, 1) := by decide +kernel
theorem dX6_should_40 : decode cX6_should 40 = .ok (.getfield 72, 3) := by decide +kernel
theorem dX6_should_43 : decode cX6_should 43 = .ok (.iload 6, 2) := by decide +kernel
theorem dX6_should_45 : decode cX6_should 45 = .ok (.laload, 1) := by decide +kernel
theorem dX6_should_46 : decode cX6_should 46 = .ok (.ladd, 1) := by decide +kernel
theorem dX6_should_47 : decode cX6_should 47 = .ok (.lstore 4, 2) := by decide +kernel
theorem dX6_should_49 : decode cX6_should 49 = .ok (.iload 6, 2) := by decide +kernel
theorem dX6_should_51 : decode cX6_should 51 = .ok (.aload_n 0, 1) := by decide +kernel
theorem dX6_should_52 : decode cX6_should 52 = .ok (.getfield 33, 3) := by decide +kernel
theorem dX6_should_55 : decode cX6_should 55 = .ok (.getfield 203, 3) := by decide +kernel
theorem dX6_should_58 : decode cX6_should 58 = .ok (.if_icmp .lt 13, 3) := by decide +kernel
theorem dX6_should_61 : decode cX6_should 61 = .ok (.lload_n 2, 1) := by decide +kernel
theorem dX6_should_62 : decode cX6_should 62 = .ok (.aload_n 0, 1) := by decide +kernel
theorem dX6_should_63 : decode cX6_should 63 = .ok (.getfield 72, 3) := by decide +kernel
theorem dX6_should_66 : decode cX6_should 66 = .ok (.iload 6, 2) := by decide +kernel
theorem dX6_should_68 : decode cX6_should 68 = .ok (.laload, 1) := by decide +kernel
theorem dX6_should_69 : decode cX6_should 69 = .ok (.ladd, 1) := by decide +kernel
theorem dX6_should_70 : decode cX6_should 70 = .ok (.lstore_n 2, 1) := by decide +kernel
theorem dX6_should_71 : decode cX6_should 71 = .ok (.iinc 6 1, 3) := by decide +kernel
theorem dX6_should_74 : decode cX6_should 74 = .ok (.goto (-53), 3) := by decide +kernel
theorem dX6_should_77 : decode cX6_should 77 = .ok (.lload 4, 2) := by decide +kernel
theorem dX6_should_79 : decode cX6_should 79 = .ok (.lconst 0, 1) := by decide +kernel
theorem dX6_should_80 : decode cX6_should 80 = .ok (.lcmp, 1) := by decide +kernel
theorem dX6_should_81 : decode cX6_should 81 = .ok (.ifCond .ne 7, 3) := by decide +kernel
theorem dX6_should_84 : decode cX6_should 84 = .ok (.iconst 0, 1) := by decide +kernel
theorem dX6_should_85 : decode cX6_should 85 = .ok (.goto 12, 3) := by decide +kernel
theorem dX6_should_88 : decode cX6_should 88 = .ok (.lload_n 2, 1) := by decide +kernel
theorem dX6_should_89 : decode cX6_should 89 = .ok (.ldc2_w 402, 3) := by decide +kernel
theorem dX6_should_92 : decode cX6_should 92 = .ok (.lmul, 1) := by decide +kernel
theorem dX6_should_93 : decode cX6_should 93 = .ok (.lload 4, 2) := by decide +kernel
theorem dX6_should_95 : decode cX6_should 95 = .ok (.ldiv, 1) := by decide +kernel
theorem dX6_should_96 : decode cX6_should 96 = .ok (.l2i, 1) := by decide +kernel
theorem dX6_should_97 : decode cX6_should 97 = .ok (.ireturn, 1) := by decide +kernel
set_option maxRecDepth 20000 in
theorem ggX6_orderByRecords_J7_fill_d0a16 : GoodIn wsX6_orderByRecords wsJ7_fill_d0a16 := goodIn_r _ [5] (by decide +kernel) (by decide +kernel)
set_option maxRecDepth 20000 in
theorem gX6_orderByRecords_J7_fill_d0a16 : GoodIn wsX6_orderByRecords (va_wsS RX6 404 yJ7_fill_d0a16 wsJ7_fill_d0a16) := goodIn_app (goodIn_of _ (by decide +kernel)) ggX6_orderByRecords_J7_fill_d0a16
theorem dX6_orderByRecords_0 : decode cX6_orderByRecords 0 = .ok (.aload_n 0, 1) := by decide +kernel
theorem dX6_orderByRecords_1 : decode cX6_orderByRecords 1 = .ok (.getfield 72, 3) := by decide +kernel
theorem dX6_orderByRecords_4 : decode cX6_orderByRecords 4 = .ok (.lconst 0, 1) := by decide +kernel
theorem dX6_orderByRecords_5 : decode cX6_orderByRecords 5 = .ok (.invokestatic 404, 3) := by decide +kernel
theorem dX6_orderByRecords_8 : decode cX6_orderByRecords 8 = .ok (.aload_n 0, 1) := by decide +kernel
theorem dX6_orderByRecords_9 : decode cX6_orderByRecords 9 = .ok (.getfield 72, 3) := by decide +kernel
theorem dX6_orderByRecords_12 : decode cX6_orderByRecords 12 = .ok (.iconst 0, 1) := by decide +kernel
theorem dX6_orderByRecords_13 : decode cX6_orderByRecords 13 = .ok (.lconst 1, 1) := by decide +kernel
theorem dX6_orderByRecords_14 : decode cX6_orderByRecords 14 = .ok (.lastore, 1) := by decide +kernel
theorem dX6_orderByRecords_15 : decode cX6_orderByRecords 15 = .ok (.iconst 1, 1) := by decide +kernel
theorem dX6_orderByRecords_16 : decode cX6_orderByRecords 16 = .ok (.istore_n 2, 1) := by decide +kernel
theorem dX6_orderByRecords_17 : decode cX6_orderByRecords 17 = .ok (.iload_n 2, 1) := by decide +kernel
theorem dX6_orderByRecords_18 : decode cX6_orderByRecords 18 = .ok (.iload_n 1, 1) := by decide +kernel
theorem dX6_orderByRecords_19 : decode cX6_orderByRecords 19 = .ok (.if_icmp .gt 63, 3) := by decide +kernel
theorem dX6_orderByRecords_22 : decode cX6_orderByRecords 22 = .ok (.iload_n 2, 1) := by decide +kernel
theorem dX6_orderByRecords_23 : decode cX6_orderByRecords 23 = .ok (.aload_n 0, 1) := by decide +kernel
theorem dX6_orderByRecords_24 : decode cX6_orderByRecords 24 = .ok (.getfield 72, 3) := by decide +kernel
theorem dX6_orderByRecords_27 : decode cX6_orderByRecords 27 = .ok (.arraylength, 1) := by decide +kernel
theorem dX6_orderByRecords_28 : decode cX6_orderByRecords 28 = .ok (.if_icmp .ge 54, 3) := by decide +kernel
theorem dX6_orderByRecords_31 : decode cX6_orderByRecords 31 = .ok (.iload_n 2, 1) := by decide +kernel
theorem dX6_orderByRecords_32 : decode cX6_orderByRecords 32 = .ok (.istore_n 3, 1) := by decide +kernel
theorem dX6_orderByRecords_33 : decode cX6_orderByRecords 33 = .ok (.iload_n 3, 1) := by decide +kernel
theorem dX6_orderByRecords_34 : decode cX6_orderByRecords 34 = .ok (.ifCond .le 35, 3) := by decide +kernel
theorem dX6_orderByRecords_37 : decode cX6_orderByRecords 37 = .ok (.aload_n 0, 1) := by decide +kernel
theorem dX6_orderByRecords_38 : decode cX6_orderByRecords 38 = .ok (.getfield 72, 3) := by decide +kernel
theorem dX6_orderByRecords_41 : decode cX6_orderByRecords 41 = .ok (.iload_n 3, 1) := by decide +kernel
theorem dX6_orderByRecords_42 : decode cX6_orderByRecords 42 = .ok (.aload_n 0, 1) := by decide +kernel
theorem dX6_orderByRecords_43 : decode cX6_orderByRecords 43 = .ok (.getfield 72, 3) := by decide +kernel
theorem dX6_orderByRecords_46 : decode cX6_orderByRecords 46 = .ok (.iload_n 3, 1) := by decide +kernel
theorem dX6_orderByRecords_47 : decode cX6_orderByRecords 47 = .ok (.iconst 1, 1) := by decide +kernel
theorem dX6_orderByRecords_48 : decode cX6_orderByRecords 48 = .ok (.isub, 1) := by decide +kernel
theorem dX6_orderByRecords_49 : decode cX6_orderByRecords 49 = .ok (.laload, 1) := by decide +kernel
theorem dX6_orderByRecords_50 : decode cX6_orderByRecords 50 = .ok (.iload_n 2, 1) := by decide +kernel
theorem dX6_orderByRecords_51 : decode cX6_orderByRecords 51 = .ok (.iconst 1, 1) := by decide +kernel
theorem dX6_orderByRecords_52 : decode cX6_orderByRecords 52 = .ok (.isub, 1) := by decide +kernel
theorem dX6_orderByRecords_53 : decode cX6_orderByRecords 53 = .ok (.i2l, 1) := by decide +kernel
theorem dX6_orderByRecords_54 : decode cX6_orderByRecords 54 = .ok (.aload_n 0, 1) := by decide +kernel
theorem dX6_orderByRecords_55 : decode cX6_orderByRecords 55 = .ok (.getfield 72, 3) := by decide +kernel
theorem dX6_orderByRecords_58 : decode cX6_orderByRecords 58 = .ok (.iload_n 3, 1) := by decide +kernel
theorem dX6_orderByRecords_59 : decode cX6_orderByRecords 59 = .ok (.laload, 1) := by decide +kernel
theorem dX6_orderByRecords_60 : decode cX6_orderByRecords 60 = .ok (.lmul, 1) := by decide +kernel
theorem dX6_orderByRecords_61 : decode cX6_orderByRecords 61 = .ok (.ladd, 1) := by decide +kernel
theorem dX6_orderByRecords_62 : decode cX6_orderByRecords 62 = .ok (.lastore, 1) := by decide +kernel
theorem dX6_orderByRecords_63 : decode cX6_orderByRecords 63 = .ok (.iinc 3 (-1), 3) := by decide +kernel
theorem dX6_orderByRecords_66 : decode cX6_orderByRecords 66 = .ok (.goto (-33), 3) := by decide +kernel
theorem dX6_orderByRecords_69 : decode cX6_orderByRecords 69 = .ok (.aload_n 0, 1) := by decide +kernel
theorem dX6_orderByRecords_70 : decode cX6_orderByRecords 70 = .ok (.getfield 72, 3) := by decide +kernel
theorem dX6_orderByRecords_73 : decode cX6_orderByRecords 73 = .ok (.iconst 0, 1) := by decide +kernel
theorem dX6_orderByRecords_74 : decode cX6_orderByRecords 74 = .ok (.lconst 0, 1) := by decide +kernel
theorem dX6_orderByRecords_75 : decode cX6_orderByRecords 75 = .ok (.lastore, 1) := by decide +kernel
theorem dX6_orderByRecords_76 : decode cX6_orderByRecords 76 = .ok (.iinc 2 1, 3) := by decide +kernel
theorem dX6_orderByRecords_79 : decode cX6_orderByRecords 79 = .ok (.goto (-62), 3) := by decide +kernel
theorem dX6_orderByRecords_82 : decode cX6_orderByRecords 82 = .ok (.return_, 1) := by decide +kernel
set_option maxRecDepth 20000 in
theorem ggX6_greatestChange_X0_meansBelow : GoodIn wsX6_greatestChange wsX0_meansBelow := goodIn_r _ [10, 11, 12, 13, 14, 9, 15, 16, 41, 42, 43, 44, 45, 46, 47, 48, 49, 50, 51] (by decide +kernel) (by decide +kernel)
set_option maxRecDepth 20000 in
theorem gX6_greatestChange_X0_meansBelow : GoodIn wsX6_greatestChange (wsV RX6 216 RX0 yX0_meansBelow wsX0_meansBelow) := goodIn_app (goodIn_of _ (by decide +kernel)) ggX6_greatestChange_X0_meansBelow
set_option maxRecDepth 20000 in
theorem ggX6_greatestChange_X0_meansAbove : GoodIn wsX6_greatestChange wsX0_meansAbove := goodIn_r _ [20, 12, 13, 14, 9, 15, 11, 16, 21, 22, 23, 24, 25, 26, 27, 28, 29, 30, 41, 42, 43, 44, 45, 46, 47, 48, 49, 50, 51] (by decide +kernel) (by decide +kernel)
set_option maxRecDepth 20000 in
theorem gX6_greatestChange_X0_meansAbove : GoodIn wsX6_greatestChange (wsV RX6 219 RX0 yX0_meansAbove wsX0_meansAbove) := goodIn_app (goodIn_of _ (by decide +kernel)) ggX6_greatestChange_X0_meansAbove
theorem dX6_greatestChange_0 : decode cX6_greatestChange 0 = .ok (.iconst (-1), 1) := by decide +kernel
theorem dX6_greatestChange_1 : decode cX6_greatestChange 1 = .ok (.istore_n 1, 1) := by decide +kernel
theorem dX6_greatestChange_2 : decode cX6_greatestChange 2 = .ok (.lconst 0, 1) := by decide +kernel
theorem dX6_greatestChange_3 : decode cX6_greatestChange 3 = .ok (.lstore_n 2, 1) := by decide +kernel
theorem dX6_greatestChange_4 : decode cX6_greatestChange 4 = .ok (.lconst 1, 1) := by decide +kernel
theorem dX6_greatestChange_5 : decode cX6_greatestChange 5 = .ok (.lstore 4, 2) := by decide +kernel
theorem dX6_greatestChange_7 : decode cX6_greatestChange 7 = .ok (.iconst 0, 1) := by decide +kernel
theorem dX6_greatestChange_8 : decode cX6_greatestChange 8 = .ok (.istore 6, 2) := by decide +kernel
theorem dX6_greatestChange_10 : decode cX6_greatestChange 10 = .ok (.iload 6, 2) := by decide +kernel
theorem dX6_greatestChange_12 : decode cX6_greatestChange 12 = .ok (.bipush 60, 2) := by decide +kernel
theorem dX6_greatestChange_14 : decode cX6_greatestChange 14 = .ok (.if_icmp .ge 69, 3) := by decide +kernel
theorem dX6_greatestChange_17 : decode cX6_greatestChange 17 = .ok (.aload_n 0, 1) := by decide +kernel
theorem dX6_greatestChange_18 : decode cX6_greatestChange 18 = .ok (.getfield 33, 3) := by decide +kernel
theorem dX6_greatestChange_21 : decode cX6_greatestChange 21 = .ok (.iload 6, 2) := by decide +kernel
theorem dX6_greatestChange_23 : decode cX6_greatestChange 23 = .ok (.invokevirtual 216, 3) := by decide +kernel
theorem dX6_greatestChange_26 : decode cX6_greatestChange 26 = .ok (.lstore 7, 2) := by decide +kernel
theorem dX6_greatestChange_28 : decode cX6_greatestChange 28 = .ok (.aload_n 0, 1) := by decide +kernel
theorem dX6_greatestChange_29 : decode cX6_greatestChange 29 = .ok (.getfield 33, 3) := by decide +kernel
theorem dX6_greatestChange_32 : decode cX6_greatestChange 32 = .ok (.iload 6, 2) := by decide +kernel
theorem dX6_greatestChange_34 : decode cX6_greatestChange 34 = .ok (.invokevirtual 219, 3) := by decide +kernel
theorem dX6_greatestChange_37 : decode cX6_greatestChange 37 = .ok (.invokestatic 390, 3) := by decide +kernel
theorem dX6_greatestChange_40 : decode cX6_greatestChange 40 = .ok (.lstore 9, 2) := by decide +kernel
theorem dX6_greatestChange_42 : decode cX6_greatestChange 42 = .ok (.lload 7, 2) := by decide +kernel
theorem dX6_greatestChange_44 : decode cX6_greatestChange 44 = .ok (.lconst 0, 1) := by decide +kernel
theorem dX6_greatestChange_45 : decode cX6_greatestChange 45 = .ok (.lcmp, 1) := by decide +kernel
theorem dX6_greatestChange_46 : decode cX6_greatestChange 46 = .ok (.ifCond .eq 31, 3) := by decide +kernel
theorem dX6_greatestChange_49 : decode cX6_greatestChange 49 = .ok (.iload_n 1, 1) := by decide +kernel
theorem dX6_greatestChange_50 : decode cX6_greatestChange 50 = .ok (.iconst (-1), 1) := by decide +kernel
theorem dX6_greatestChange_51 : decode cX6_greatestChange 51 = .ok (.if_icmp .eq 16, 3) := by decide +kernel
theorem dX6_greatestChange_54 : decode cX6_greatestChange 54 = .ok (.lload 9, 2) := by decide +kernel
theorem dX6_greatestChange_56 : decode cX6_greatestChange 56 = .ok (.lload 4, 2) := by decide +kernel
theorem dX6_greatestChange_58 : decode cX6_greatestChange 58 = .ok (.lmul, 1) := by decide +kernel
theorem dX6_greatestChange_59 : decode cX6_greatestChange 59 = .ok (.lload_n 2, 1) := by decide +kernel
theorem dX6_greatestChange_60 : decode cX6_greatestChange 60 = .ok (.lload 7, 2) := by decide +kernel
theorem dX6_greatestChange_62 : decode cX6_greatestChange 62 = .ok (.lmul, 1) := by decide +kernel
theorem dX6_greatestChange_63 : decode cX6_greatestChange 63 = .ok (.lcmp, 1) := by decide +kernel
theorem dX6_greatestChange_64 : decode cX6_greatestChange 64 = .ok (.ifCond .le 13, 3) := by decide +kernel
theorem dX6_greatestChange_67 : decode cX6_greatestChange 67 = .ok (.iload 6, 2) := by decide +kernel
theorem dX6_greatestChange_69 : decode cX6_greatestChange 69 = .ok (.istore_n 1, 1) := by decide +kernel
theorem dX6_greatestChange_70 : decode cX6_greatestChange 70 = .ok (.lload 9, 2) := by decide +kernel
theorem dX6_greatestChange_72 : decode cX6_greatestChange 72 = .ok (.lstore_n 2, 1) := by decide +kernel
theorem dX6_greatestChange_73 : decode cX6_greatestChange 73 = .ok (.lload 7, 2) := by decide +kernel
theorem dX6_greatestChange_75 : decode cX6_greatestChange 75 = .ok (.lstore 4, 2) := by decide +kernel
theorem dX6_greatestChange_77 : decode cX6_greatestChange 77 = .ok (.iinc 6 1, 3) := by decide +kernel
theorem dX6_greatestChange_80 : decode cX6_greatestChange 80 = .ok (.goto (-70), 3) := by decide +kernel
theorem dX6_greatestChange_83 : decode cX6_greatestChange 83 = .ok (.iload_n 1, 1) := by decide +kernel
theorem dX6_greatestChange_84 : decode cX6_greatestChange 84 = .ok (.ireturn, 1) := by decide +kernel
set_option maxRecDepth 20000 in
theorem ggX6_howLikely_X0_exactsAhead : GoodIn wsX6_howLikely wsX0_exactsAhead := goodIn_r _ [12, 13, 14, 49, 50, 51, 52, 53, 54, 55, 56, 57, 58, 59] (by decide +kernel) (by decide +kernel)
set_option maxRecDepth 20000 in
theorem gX6_howLikely_X0_exactsAhead : GoodIn wsX6_howLikely (wsV RX6 407 RX0 yX0_exactsAhead wsX0_exactsAhead) := goodIn_app (goodIn_of _ (by decide +kernel)) ggX6_howLikely_X0_exactsAhead
set_option maxRecDepth 20000 in
theorem ggX6_howLikely_X0_meansAbove : GoodIn wsX6_howLikely wsX0_meansAbove := goodIn_r _ [18, 19, 9, 10, 11, 12, 13, 14, 20, 21, 22, 23, 24, 25, 26, 27, 28, 29, 49, 50, 51, 52, 53, 54, 55, 56, 57, 58, 59] (by decide +kernel) (by decide +kernel)
set_option maxRecDepth 20000 in
theorem gX6_howLikely_X0_meansAbove : GoodIn wsX6_howLikely (wsV RX6 219 RX0 yX0_meansAbove wsX0_meansAbove) := goodIn_app (goodIn_of _ (by decide +kernel)) ggX6_howLikely_X0_meansAbove
set_option maxRecDepth 20000 in
theorem ggX6_howLikely_X6_choices : GoodIn wsX6_howLikely wsX6_choices := goodIn_r _ [33] (by decide +kernel) (by decide +kernel)
set_option maxRecDepth 20000 in
theorem gX6_howLikely_X6_choices : GoodIn wsX6_howLikely (va_wsS RX6 196 yX6_choices wsX6_choices) := goodIn_app (goodIn_of _ (by decide +kernel)) ggX6_howLikely_X6_choices
set_option maxRecDepth 20000 in
theorem ggX6_howLikely_X6_farChoices : GoodIn wsX6_howLikely wsX6_farChoices := goodIn_r _ [36, 2, 3, 4, 5, 6, 37, 38, 26, 27, 11, 28, 29, 13, 34, 35, 32, 49, 50, 51, 52, 53, 54, 55, 56, 57, 58, 59] (by decide +kernel) (by decide +kernel)
set_option maxRecDepth 20000 in
theorem gX6_howLikely_X6_farChoices : GoodIn wsX6_howLikely (va_wsS RX6 410 yX6_farChoices wsX6_farChoices) := goodIn_app (goodIn_of _ (by decide +kernel)) ggX6_howLikely_X6_farChoices
theorem dX6_howLikely_0 : decode cX6_howLikely 0 = .ok (.aload_n 0, 1) := by decide +kernel
theorem dX6_howLikely_1 : decode cX6_howLikely 1 = .ok (.getfield 33, 3) := by decide +kernel
theorem dX6_howLikely_4 : decode cX6_howLikely 4 = .ok (.iload_n 1, 1) := by decide +kernel
theorem dX6_howLikely_5 : decode cX6_howLikely 5 = .ok (.invokevirtual 407, 3) := by decide +kernel
theorem dX6_howLikely_8 : decode cX6_howLikely 8 = .ok (.istore_n 2, 1) := by decide +kernel
theorem dX6_howLikely_9 : decode cX6_howLikely 9 = .ok (.aload_n 0, 1) := by decide +kernel
theorem dX6_howLikely_10 : decode cX6_howLikely 10 = .ok (.getfield 33, 3) := by decide +kernel
theorem dX6_howLikely_13 : decode cX6_howLikely 13 = .ok (.iload_n 1, 1) := by decide +kernel
theorem dX6_howLikely_14 : decode cX6_howLikely 14 = .ok (.invokevirtual 219, 3) := by decide +kernel
theorem dX6_howLikely_17 : decode cX6_howLikely 17 = .ok (.invokestatic 390, 3) := by decide +kernel
theorem dX6_howLikely_20 : decode cX6_howLikely 20 = .ok (.lstore_n 3, 1) := by decide +kernel
theorem dX6_howLikely_21 : decode cX6_howLikely 21 = .ok (.aload_n 0, 1) := by decide +kernel
theorem dX6_howLikely_22 : decode cX6_howLikely 22 = .ok (.getfield 33, 3) := by decide +kernel
theorem dX6_howLikely_25 : decode cX6_howLikely 25 = .ok (.getfield 170, 3) := by decide +kernel
theorem dX6_howLikely_28 : decode cX6_howLikely 28 = .ok (.iload_n 2, 1) := by decide +kernel
theorem dX6_howLikely_29 : decode cX6_howLikely 29 = .ok (.invokestatic 196, 3) := by decide +kernel
theorem dX6_howLikely_32 : decode cX6_howLikely 32 = .ok (.lstore 5, 2) := by decide +kernel
theorem dX6_howLikely_34 : decode cX6_howLikely 34 = .ok (.lload 5, 2) := by decide +kernel
theorem dX6_howLikely_36 : decode cX6_howLikely 36 = .ok (.lconst 0, 1) := by decide +kernel
theorem dX6_howLikely_37 : decode cX6_howLikely 37 = .ok (.lcmp, 1) := by decide +kernel
theorem dX6_howLikely_38 : decode cX6_howLikely 38 = .ok (.ifCond .ne 7, 3) := by decide +kernel
theorem dX6_howLikely_41 : decode cX6_howLikely 41 = .ok (.iconst 0, 1) := by decide +kernel
theorem dX6_howLikely_42 : decode cX6_howLikely 42 = .ok (.goto 23, 3) := by decide +kernel
theorem dX6_howLikely_45 : decode cX6_howLikely 45 = .ok (.aload_n 0, 1) := by decide +kernel
theorem dX6_howLikely_46 : decode cX6_howLikely 46 = .ok (.getfield 33, 3) := by decide +kernel
theorem dX6_howLikely_49 : decode cX6_howLikely 49 = .ok (.iconst 0, 1) := by decide +kernel
theorem dX6_howLikely_50 : decode cX6_howLikely 50 = .ok (.iload_n 2, 1) := by decide +kernel
theorem dX6_howLikely_51 : decode cX6_howLikely 51 = .ok (.iconst 0, 1) := by decide +kernel
theorem dX6_howLikely_52 : decode cX6_howLikely 52 = .ok (.iload_n 2, 1) := by decide +kernel
theorem dX6_howLikely_53 : decode cX6_howLikely 53 = .ok (.lload_n 3, 1) := by decide +kernel
theorem dX6_howLikely_54 : decode cX6_howLikely 54 = .ok (.invokestatic 410, 3) := by decide +kernel
theorem dX6_howLikely_57 : decode cX6_howLikely 57 = .ok (.ldc2_w 402, 3) := by decide +kernel
theorem dX6_howLikely_60 : decode cX6_howLikely 60 = .ok (.lmul, 1) := by decide +kernel
theorem dX6_howLikely_61 : decode cX6_howLikely 61 = .ok (.lload 5, 2) := by decide +kernel
theorem dX6_howLikely_63 : decode cX6_howLikely 63 = .ok (.ldiv, 1) := by decide +kernel
theorem dX6_howLikely_64 : decode cX6_howLikely 64 = .ok (.l2i, 1) := by decide +kernel
theorem dX6_howLikely_65 : decode cX6_howLikely 65 = .ok (.ireturn, 1) := by decide +kernel
set_option maxRecDepth 20000 in
theorem ggX6_farChoices_X0_meansApart : GoodIn wsX6_farChoices wsX0_meansApart := goodIn_r _ [11, 12, 13, 17, 18, 19, 20, 21, 22, 23, 24, 25, 26, 27] (by decide +kernel) (by decide +kernel)
set_option maxRecDepth 20000 in
theorem gX6_farChoices_X0_meansApart : GoodIn wsX6_farChoices (wsV RX6 414 RX0 yX0_meansApart wsX0_meansApart) := goodIn_app (goodIn_of _ (by decide +kernel)) ggX6_farChoices_X0_meansApart
set_option maxRecDepth 20000 in
theorem ggX6_farChoices_X6_farChoices : GoodIn wsX6_farChoices wsX6_farChoices := goodIn_r _ [0, 1, 2, 3, 4, 5, 6, 7, 8, 9, 10, 11, 12, 13, 14, 15, 16, 17, 18, 19, 20, 21, 22, 23, 24, 25, 26, 27] (by decide +kernel) (by decide +kernel)
set_option maxRecDepth 20000 in
theorem gX6_farChoices_X6_farChoices : GoodIn wsX6_farChoices (va_wsS RX6 410 yX6_farChoices wsX6_farChoices) := goodIn_app (goodIn_of _ (by decide +kernel)) ggX6_farChoices_X6_farChoices
theorem dX6_farChoices_0 : decode cX6_farChoices 0 = .ok (.iload_n 2, 1) := by decide +kernel
theorem dX6_farChoices_1 : decode cX6_farChoices 1 = .ok (.ifCond .ne 25, 3) := by decide +kernel
theorem dX6_farChoices_4 : decode cX6_farChoices 4 = .ok (.aload_n 0, 1) := by decide +kernel
theorem dX6_farChoices_5 : decode cX6_farChoices 5 = .ok (.iload 4, 2) := by decide +kernel
theorem dX6_farChoices_7 : decode cX6_farChoices 7 = .ok (.iload_n 3, 1) := by decide +kernel
theorem dX6_farChoices_8 : decode cX6_farChoices 8 = .ok (.invokevirtual 414, 3) := by decide +kernel
theorem dX6_farChoices_11 : decode cX6_farChoices 11 = .ok (.invokestatic 390, 3) := by decide +kernel
theorem dX6_farChoices_14 : decode cX6_farChoices 14 = .ok (.lload 5, 2) := by decide +kernel
theorem dX6_farChoices_16 : decode cX6_farChoices 16 = .ok (.lcmp, 1) := by decide +kernel
theorem dX6_farChoices_17 : decode cX6_farChoices 17 = .ok (.ifCond .lt 7, 3) := by decide +kernel
theorem dX6_farChoices_20 : decode cX6_farChoices 20 = .ok (.lconst 1, 1) := by decide +kernel
theorem dX6_farChoices_21 : decode cX6_farChoices 21 = .ok (.goto 4, 3) := by decide +kernel
theorem dX6_farChoices_24 : decode cX6_farChoices 24 = .ok (.lconst 0, 1) := by decide +kernel
theorem dX6_farChoices_25 : decode cX6_farChoices 25 = .ok (.lreturn, 1) := by decide +kernel
theorem dX6_farChoices_26 : decode cX6_farChoices 26 = .ok (.iload_n 1, 1) := by decide +kernel
theorem dX6_farChoices_27 : decode cX6_farChoices 27 = .ok (.bipush 14, 2) := by decide +kernel
theorem dX6_farChoices_29 : decode cX6_farChoices 29 = .ok (.if_icmp .ge 13, 3) := by decide +kernel
theorem dX6_farChoices_32 : decode cX6_farChoices 32 = .ok (.iload_n 1, 1) := by decide +kernel
theorem dX6_farChoices_33 : decode cX6_farChoices 33 = .ok (.iload_n 2, 1) := by decide +kernel
theorem dX6_farChoices_34 : decode cX6_farChoices 34 = .ok (.iadd, 1) := by decide +kernel
theorem dX6_farChoices_35 : decode cX6_farChoices 35 = .ok (.aload_n 0, 1) := by decide +kernel
theorem dX6_farChoices_36 : decode cX6_farChoices 36 = .ok (.getfield 170, 3) := by decide +kernel
theorem dX6_farChoices_39 : decode cX6_farChoices 39 = .ok (.if_icmp .le 5, 3) := by decide +kernel
theorem dX6_farChoices_42 : decode cX6_farChoices 42 = .ok (.lconst 0, 1) := by decide +kernel
theorem dX6_farChoices_43 : decode cX6_farChoices 43 = .ok (.lreturn, 1) := by decide +kernel
theorem dX6_farChoices_44 : decode cX6_farChoices 44 = .ok (.aload_n 0, 1) := by decide +kernel
theorem dX6_farChoices_45 : decode cX6_farChoices 45 = .ok (.iload_n 1, 1) := by decide +kernel
theorem dX6_farChoices_46 : decode cX6_farChoices 46 = .ok (.iconst 1, 1) := by decide +kernel
theorem dX6_farChoices_47 : decode cX6_farChoices 47 = .ok (.iadd, 1) := by decide +kernel
theorem dX6_farChoices_48 : decode cX6_farChoices 48 = .ok (.iload_n 2, 1) := by decide +kernel
theorem dX6_farChoices_49 : decode cX6_farChoices 49 = .ok (.iconst 1, 1) := by decide +kernel
theorem dX6_farChoices_50 : decode cX6_farChoices 50 = .ok (.isub, 1) := by decide +kernel
theorem dX6_farChoices_51 : decode cX6_farChoices 51 = .ok (.iload_n 3, 1) := by decide +kernel
theorem dX6_farChoices_52 : decode cX6_farChoices 52 = .ok (.aload_n 0, 1) := by decide +kernel
theorem dX6_farChoices_53 : decode cX6_farChoices 53 = .ok (.getfield 173, 3) := by decide +kernel
theorem dX6_farChoices_56 : decode cX6_farChoices 56 = .ok (.iload_n 1, 1) := by decide +kernel
theorem dX6_farChoices_57 : decode cX6_farChoices 57 = .ok (.iaload, 1) := by decide +kernel
theorem dX6_farChoices_58 : decode cX6_farChoices 58 = .ok (.iadd, 1) := by decide +kernel
theorem dX6_farChoices_59 : decode cX6_farChoices 59 = .ok (.iload 4, 2) := by decide +kernel
theorem dX6_farChoices_61 : decode cX6_farChoices 61 = .ok (.lload 5, 2) := by decide +kernel
theorem dX6_farChoices_63 : decode cX6_farChoices 63 = .ok (.invokestatic 410, 3) := by decide +kernel
theorem dX6_farChoices_66 : decode cX6_farChoices 66 = .ok (.aload_n 0, 1) := by decide +kernel
theorem dX6_farChoices_67 : decode cX6_farChoices 67 = .ok (.iload_n 1, 1) := by decide +kernel
theorem dX6_farChoices_68 : decode cX6_farChoices 68 = .ok (.iconst 1, 1) := by decide +kernel
theorem dX6_farChoices_69 : decode cX6_farChoices 69 = .ok (.iadd, 1) := by decide +kernel
theorem dX6_farChoices_70 : decode cX6_farChoices 70 = .ok (.iload_n 2, 1) := by decide +kernel
theorem dX6_farChoices_71 : decode cX6_farChoices 71 = .ok (.iload_n 3, 1) := by decide +kernel
theorem dX6_farChoices_72 : decode cX6_farChoices 72 = .ok (.iload 4, 2) := by decide +kernel
theorem dX6_farChoices_74 : decode cX6_farChoices 74 = .ok (.lload 5, 2) := by decide +kernel
theorem dX6_farChoices_76 : decode cX6_farChoices 76 = .ok (.invokestatic 410, 3) := by decide +kernel
theorem dX6_farChoices_79 : decode cX6_farChoices 79 = .ok (.ladd, 1) := by decide +kernel
theorem dX6_farChoices_80 : decode cX6_farChoices 80 = .ok (.lreturn, 1) := by decide +kernel
theorem dX6_sisterYears_0 : decode cX6_sisterYears 0 = .ok (.iconst 0, 1) := by decide +kernel
theorem dX6_sisterYears_1 : decode cX6_sisterYears 1 = .ok (.istore_n 1, 1) := by decide +kernel
theorem dX6_sisterYears_2 : decode cX6_sisterYears 2 = .ok (.iconst 0, 1) := by decide +kernel
theorem dX6_sisterYears_3 : decode cX6_sisterYears 3 = .ok (.istore_n 2, 1) := by decide +kernel
theorem dX6_sisterYears_4 : decode cX6_sisterYears 4 = .ok (.iload_n 2, 1) := by decide +kernel
theorem dX6_sisterYears_5 : decode cX6_sisterYears 5 = .ok (.bipush 60, 2) := by decide +kernel
theorem dX6_sisterYears_7 : decode cX6_sisterYears 7 = .ok (.if_icmp .ge 22, 3) := by decide +kernel
theorem dX6_sisterYears_10 : decode cX6_sisterYears 10 = .ok (.aload_n 0, 1) := by decide +kernel
theorem dX6_sisterYears_11 : decode cX6_sisterYears 11 = .ok (.getfield 49, 3) := by decide +kernel
theorem dX6_sisterYears_14 : decode cX6_sisterYears 14 = .ok (.iload_n 2, 1) := by decide +kernel
theorem dX6_sisterYears_15 : decode cX6_sisterYears 15 = .ok (.iaload, 1) := by decide +kernel
theorem dX6_sisterYears_16 : decode cX6_sisterYears 16 = .ok (.iconst (-1), 1) := by decide +kernel
theorem dX6_sisterYears_17 : decode cX6_sisterYears 17 = .ok (.if_icmp .eq 6, 3) := by decide +kernel
theorem dX6_sisterYears_20 : decode cX6_sisterYears 20 = .ok (.iinc 1 1, 3) := by decide +kernel
theorem dX6_sisterYears_23 : decode cX6_sisterYears 23 = .ok (.iinc 2 1, 3) := by decide +kernel
theorem dX6_sisterYears_26 : decode cX6_sisterYears 26 = .ok (.goto (-22), 3) := by decide +kernel
theorem dX6_sisterYears_29 : decode cX6_sisterYears 29 = .ok (.iload_n 1, 1) := by decide +kernel
theorem dX6_sisterYears_30 : decode cX6_sisterYears 30 = .ok (.ireturn, 1) := by decide +kernel
theorem dX6_sisterOf_0 : decode cX6_sisterOf 0 = .ok (.aload_n 0, 1) := by decide +kernel
theorem dX6_sisterOf_1 : decode cX6_sisterOf 1 = .ok (.getfield 49, 3) := by decide +kernel
theorem dX6_sisterOf_4 : decode cX6_sisterOf 4 = .ok (.aload_n 0, 1) := by decide +kernel
theorem dX6_sisterOf_5 : decode cX6_sisterOf 5 = .ok (.getfield 33, 3) := by decide +kernel
theorem dX6_sisterOf_8 : decode cX6_sisterOf 8 = .ok (.getfield 417, 3) := by decide +kernel
theorem dX6_sisterOf_11 : decode cX6_sisterOf 11 = .ok (.iload_n 1, 1) := by decide +kernel
theorem dX6_sisterOf_12 : decode cX6_sisterOf 12 = .ok (.iaload, 1) := by decide +kernel
theorem dX6_sisterOf_13 : decode cX6_sisterOf 13 = .ok (.iaload, 1) := by decide +kernel
theorem dX6_sisterOf_14 : decode cX6_sisterOf 14 = .ok (.ireturn, 1) := by decide +kernel
set_option maxRecDepth 20000 in
theorem ggX6_commonYears_X6_sisterOf : GoodIn wsX6_commonYears wsX6_sisterOf := goodIn_r _ [7, 8, 1, 9, 10, 11, 12, 13, 14, 15, 16, 17, 18, 19, 20, 21, 22, 23, 24, 25, 26, 27, 28, 29, 30] (by decide +kernel) (by decide +kernel)
set_option maxRecDepth 20000 in
theorem gX6_commonYears_X6_sisterOf : GoodIn wsX6_commonYears (wsV RX6 420 RX6 yX6_sisterOf wsX6_sisterOf) := goodIn_app (goodIn_of _ (by decide +kernel)) ggX6_commonYears_X6_sisterOf
theorem dX6_commonYears_0 : decode cX6_commonYears 0 = .ok (.iconst 0, 1) := by decide +kernel
theorem dX6_commonYears_1 : decode cX6_commonYears 1 = .ok (.istore_n 1, 1) := by decide +kernel
theorem dX6_commonYears_2 : decode cX6_commonYears 2 = .ok (.iconst 0, 1) := by decide +kernel
theorem dX6_commonYears_3 : decode cX6_commonYears 3 = .ok (.istore_n 2, 1) := by decide +kernel
theorem dX6_commonYears_4 : decode cX6_commonYears 4 = .ok (.iload_n 2, 1) := by decide +kernel
theorem dX6_commonYears_5 : decode cX6_commonYears 5 = .ok (.aload_n 0, 1) := by decide +kernel
theorem dX6_commonYears_6 : decode cX6_commonYears 6 = .ok (.getfield 33, 3) := by decide +kernel
theorem dX6_commonYears_9 : decode cX6_commonYears 9 = .ok (.getfield 170, 3) := by decide +kernel
theorem dX6_commonYears_12 : decode cX6_commonYears 12 = .ok (.if_icmp .ge 21, 3) := by decide +kernel
theorem dX6_commonYears_15 : decode cX6_commonYears 15 = .ok (.aload_n 0, 1) := by decide +kernel
theorem dX6_commonYears_16 : decode cX6_commonYears 16 = .ok (.iload_n 2, 1) := by decide +kernel
theorem dX6_commonYears_17 : decode cX6_commonYears 17 = .ok (.invokevirtual 420, 3) := by decide +kernel
theorem dX6_commonYears_20 : decode cX6_commonYears 20 = .ok (.iconst (-1), 1) := by decide +kernel
theorem dX6_commonYears_21 : decode cX6_commonYears 21 = .ok (.if_icmp .eq 6, 3) := by decide +kernel
theorem dX6_commonYears_24 : decode cX6_commonYears 24 = .ok (.iinc 1 1, 3) := by decide +kernel
theorem dX6_commonYears_27 : decode cX6_commonYears 27 = .ok (.iinc 2 1, 3) := by decide +kernel
theorem dX6_commonYears_30 : decode cX6_commonYears 30 = .ok (.goto (-26), 3) := by decide +kernel
theorem dX6_commonYears_33 : decode cX6_commonYears 33 = .ok (.iload_n 1, 1) := by decide +kernel
theorem dX6_commonYears_34 : decode cX6_commonYears 34 = .ok (.ireturn, 1) := by decide +kernel
set_option maxRecDepth 20000 in
theorem ggX6_ties_X6_tie : GoodIn wsX6_ties wsX6_tie := goodIn_r _ [7, 1, 8, 9, 10, 11, 6, 12, 13, 14, 15, 16, 17, 18, 19, 20, 21, 22, 23, 24, 25, 26, 27, 28, 29, 30, 31, 32, 33, 34, 35, 36, 37, 38] (by decide +kernel) (by decide +kernel)
set_option maxRecDepth 20000 in
theorem gX6_ties_X6_tie : GoodIn wsX6_ties (wsV RX6 423 RX6 yX6_tie wsX6_tie) := goodIn_app (goodIn_of _ (by decide +kernel)) ggX6_ties_X6_tie
theorem dX6_ties_0 : decode cX6_ties 0 = .ok (.iconst 0, 1) := by decide +kernel
theorem dX6_ties_1 : decode cX6_ties 1 = .ok (.istore_n 1, 1) := by decide +kernel
theorem dX6_ties_2 : decode cX6_ties 2 = .ok (.iconst 1, 1) := by decide +kernel
theorem dX6_ties_3 : decode cX6_ties 3 = .ok (.istore_n 2, 1) := by decide +kernel
theorem dX6_ties_4 : decode cX6_ties 4 = .ok (.iload_n 2, 1) := by decide +kernel
theorem dX6_ties_5 : decode cX6_ties 5 = .ok (.aload_n 0, 1) := by decide +kernel
theorem dX6_ties_6 : decode cX6_ties 6 = .ok (.getfield 33, 3) := by decide +kernel
theorem dX6_ties_9 : decode cX6_ties 9 = .ok (.getfield 170, 3) := by decide +kernel
theorem dX6_ties_12 : decode cX6_ties 12 = .ok (.if_icmp .ge 31, 3) := by decide +kernel
theorem dX6_ties_15 : decode cX6_ties 15 = .ok (.iconst 0, 1) := by decide +kernel
theorem dX6_ties_16 : decode cX6_ties 16 = .ok (.istore_n 3, 1) := by decide +kernel
theorem dX6_ties_17 : decode cX6_ties 17 = .ok (.iload_n 3, 1) := by decide +kernel
theorem dX6_ties_18 : decode cX6_ties 18 = .ok (.iload_n 2, 1) := by decide +kernel
theorem dX6_ties_19 : decode cX6_ties 19 = .ok (.if_icmp .ge 18, 3) := by decide +kernel
theorem dX6_ties_22 : decode cX6_ties 22 = .ok (.iload_n 1, 1) := by decide +kernel
theorem dX6_ties_23 : decode cX6_ties 23 = .ok (.aload_n 0, 1) := by decide +kernel
theorem dX6_ties_24 : decode cX6_ties 24 = .ok (.iload_n 3, 1) := by decide +kernel
theorem dX6_ties_25 : decode cX6_ties 25 = .ok (.iload_n 2, 1) := by decide +kernel
theorem dX6_ties_26 : decode cX6_ties 26 = .ok (.invokevirtual 423, 3) := by decide +kernel
theorem dX6_ties_29 : decode cX6_ties 29 = .ok (.iadd, 1) := by decide +kernel
theorem dX6_ties_30 : decode cX6_ties 30 = .ok (.istore_n 1, 1) := by decide +kernel
theorem dX6_ties_31 : decode cX6_ties 31 = .ok (.iinc 3 1, 3) := by decide +kernel
theorem dX6_ties_34 : decode cX6_ties 34 = .ok (.goto (-17), 3) := by decide +kernel
theorem dX6_ties_37 : decode cX6_ties 37 = .ok (.iinc 2 1, 3) := by decide +kernel
theorem dX6_ties_40 : decode cX6_ties 40 = .ok (.goto (-36), 3) := by decide +kernel
theorem dX6_ties_43 : decode cX6_ties 43 = .ok (.iload_n 1, 1) := by decide +kernel
theorem dX6_ties_44 : decode cX6_ties 44 = .ok (.ireturn, 1) := by decide +kernel
set_option maxRecDepth 20000 in
theorem ggX6_tie_X6_sisterOf : GoodIn wsX6_tie wsX6_sisterOf := goodIn_r _ [7, 8, 1, 9, 13, 14, 15, 16, 17, 18, 19, 20, 21, 22, 23, 24, 25, 26, 27, 28, 29, 30, 31, 32, 33] (by decide +kernel) (by decide +kernel)
set_option maxRecDepth 20000 in
theorem gX6_tie_X6_sisterOf : GoodIn wsX6_tie (wsV RX6 420 RX6 yX6_sisterOf wsX6_sisterOf) := goodIn_app (goodIn_of _ (by decide +kernel)) ggX6_tie_X6_sisterOf
set_option maxRecDepth 20000 in
theorem ggX6_tie_X6_direction : GoodIn wsX6_tie wsX6_direction := goodIn_r _ [12] (by decide +kernel) (by decide +kernel)
set_option maxRecDepth 20000 in
theorem gX6_tie_X6_direction : GoodIn wsX6_tie (va_wsS RX6 212 yX6_direction wsX6_direction) := goodIn_app (goodIn_of _ (by decide +kernel)) ggX6_tie_X6_direction
theorem dX6_tie_0 : decode cX6_tie 0 = .ok (.aload_n 0, 1) := by decide +kernel
theorem dX6_tie_1 : decode cX6_tie 1 = .ok (.iload_n 1, 1) := by decide +kernel
theorem dX6_tie_2 : decode cX6_tie 2 = .ok (.invokevirtual 420, 3) := by decide +kernel
theorem dX6_tie_5 : decode cX6_tie 5 = .ok (.iconst (-1), 1) := by decide +kernel
theorem dX6_tie_6 : decode cX6_tie 6 = .ok (.if_icmp .eq 12, 3) := by decide +kernel
theorem dX6_tie_9 : decode cX6_tie 9 = .ok (.aload_n 0, 1) := by decide +kernel
theorem dX6_tie_10 : decode cX6_tie 10 = .ok (.iload_n 2, 1) := by decide +kernel
theorem dX6_tie_11 : decode cX6_tie 11 = .ok (.invokevirtual 420, 3) := by decide +kernel
theorem dX6_tie_14 : decode cX6_tie 14 = .ok (.iconst (-1), 1) := by decide +kernel
theorem dX6_tie_15 : decode cX6_tie 15 = .ok (.if_icmp .ne 5, 3) := by decide +kernel
theorem dX6_tie_18 : decode cX6_tie 18 = .ok (.iconst 0, 1) := by decide +kernel
theorem dX6_tie_19 : decode cX6_tie 19 = .ok (.ireturn, 1) := by decide +kernel
theorem dX6_tie_20 : decode cX6_tie 20 = .ok (.aload_n 0, 1) := by decide +kernel
theorem dX6_tie_21 : decode cX6_tie 21 = .ok (.getfield 33, 3) := by decide +kernel
theorem dX6_tie_24 : decode cX6_tie 24 = .ok (.getfield 173, 3) := by decide +kernel
theorem dX6_tie_27 : decode cX6_tie 27 = .ok (.iload_n 1, 1) := by decide +kernel
theorem dX6_tie_28 : decode cX6_tie 28 = .ok (.iaload, 1) := by decide +kernel
theorem dX6_tie_29 : decode cX6_tie 29 = .ok (.aload_n 0, 1) := by decide +kernel
theorem dX6_tie_30 : decode cX6_tie 30 = .ok (.getfield 33, 3) := by decide +kernel
theorem dX6_tie_33 : decode cX6_tie 33 = .ok (.getfield 173, 3) := by decide +kernel
theorem dX6_tie_36 : decode cX6_tie 36 = .ok (.iload_n 2, 1) := by decide +kernel
theorem dX6_tie_37 : decode cX6_tie 37 = .ok (.iaload, 1) := by decide +kernel
theorem dX6_tie_38 : decode cX6_tie 38 = .ok (.invokestatic 212, 3) := by decide +kernel
theorem dX6_tie_41 : decode cX6_tie 41 = .ok (.aload_n 0, 1) := by decide +kernel
theorem dX6_tie_42 : decode cX6_tie 42 = .ok (.iload_n 1, 1) := by decide +kernel
theorem dX6_tie_43 : decode cX6_tie 43 = .ok (.invokevirtual 420, 3) := by decide +kernel
theorem dX6_tie_46 : decode cX6_tie 46 = .ok (.aload_n 0, 1) := by decide +kernel
theorem dX6_tie_47 : decode cX6_tie 47 = .ok (.iload_n 2, 1) := by decide +kernel
theorem dX6_tie_48 : decode cX6_tie 48 = .ok (.invokevirtual 420, 3) := by decide +kernel
theorem dX6_tie_51 : decode cX6_tie 51 = .ok (.invokestatic 212, 3) := by decide +kernel
theorem dX6_tie_54 : decode cX6_tie 54 = .ok (.imul, 1) := by decide +kernel
theorem dX6_tie_55 : decode cX6_tie 55 = .ok (.ireturn, 1) := by decide +kernel
set_option maxRecDepth 20000 in
theorem ggX6_filledBySums_X6_sisterOf : GoodIn wsX6_filledBySums wsX6_sisterOf := goodIn_r _ [8, 9, 1, 10, 11, 12, 13, 14, 15, 16, 17, 18, 19, 20, 21, 22, 23, 24, 25, 26, 27, 28, 29, 30, 31] (by decide +kernel) (by decide +kernel)
set_option maxRecDepth 20000 in
theorem gX6_filledBySums_X6_sisterOf : GoodIn wsX6_filledBySums (wsV RX6 420 RX6 yX6_sisterOf wsX6_sisterOf) := goodIn_app (goodIn_of _ (by decide +kernel)) ggX6_filledBySums_X6_sisterOf
theorem dX6_filledBySums_0 : decode cX6_filledBySums 0 = .ok (.iconst 0, 1) := by decide +kernel
theorem dX6_filledBySums_1 : decode cX6_filledBySums 1 = .ok (.istore_n 2, 1) := by decide +kernel
theorem dX6_filledBySums_2 : decode cX6_filledBySums 2 = .ok (.iconst 0, 1) := by decide +kernel
theorem dX6_filledBySums_3 : decode cX6_filledBySums 3 = .ok (.istore_n 3, 1) := by decide +kernel
theorem dX6_filledBySums_4 : decode cX6_filledBySums 4 = .ok (.iconst 0, 1) := by decide +kernel
theorem dX6_filledBySums_5 : decode cX6_filledBySums 5 = .ok (.istore 4, 2) := by decide +kernel
theorem dX6_filledBySums_7 : decode cX6_filledBySums 7 = .ok (.iload 4, 2) := by decide +kernel
theorem dX6_filledBySums_9 : decode cX6_filledBySums 9 = .ok (.aload_n 0, 1) := by decide +kernel
theorem dX6_filledBySums_10 : decode cX6_filledBySums 10 = .ok (.getfield 33, 3) := by decide +kernel
theorem dX6_filledBySums_13 : decode cX6_filledBySums 13 = .ok (.getfield 170, 3) := by decide +kernel
theorem dX6_filledBySums_16 : decode cX6_filledBySums 16 = .ok (.if_icmp .ge 41, 3) := by decide +kernel
theorem dX6_filledBySums_19 : decode cX6_filledBySums 19 = .ok (.aload_n 0, 1) := by decide +kernel
theorem dX6_filledBySums_20 : decode cX6_filledBySums 20 = .ok (.iload 4, 2) := by decide +kernel
theorem dX6_filledBySums_22 : decode cX6_filledBySums 22 = .ok (.invokevirtual 420, 3) := by decide +kernel
theorem dX6_filledBySums_25 : decode cX6_filledBySums 25 = .ok (.iconst (-1), 1) := by decide +kernel
theorem dX6_filledBySums_26 : decode cX6_filledBySums 26 = .ok (.if_icmp .eq 25, 3) := by decide +kernel
theorem dX6_filledBySums_29 : decode cX6_filledBySums 29 = .ok (.iload_n 2, 1) := by decide +kernel
theorem dX6_filledBySums_30 : decode cX6_filledBySums 30 = .ok (.aload_n 0, 1) := by decide +kernel
theorem dX6_filledBySums_31 : decode cX6_filledBySums 31 = .ok (.getfield 33, 3) := by decide +kernel
theorem dX6_filledBySums_34 : decode cX6_filledBySums 34 = .ok (.getfield 173, 3) := by decide +kernel
theorem dX6_filledBySums_37 : decode cX6_filledBySums 37 = .ok (.iload 4, 2) := by decide +kernel
theorem dX6_filledBySums_39 : decode cX6_filledBySums 39 = .ok (.iaload, 1) := by decide +kernel
theorem dX6_filledBySums_40 : decode cX6_filledBySums 40 = .ok (.iadd, 1) := by decide +kernel
theorem dX6_filledBySums_41 : decode cX6_filledBySums 41 = .ok (.istore_n 2, 1) := by decide +kernel
theorem dX6_filledBySums_42 : decode cX6_filledBySums 42 = .ok (.iload_n 3, 1) := by decide +kernel
theorem dX6_filledBySums_43 : decode cX6_filledBySums 43 = .ok (.aload_n 0, 1) := by decide +kernel
theorem dX6_filledBySums_44 : decode cX6_filledBySums 44 = .ok (.iload 4, 2) := by decide +kernel
theorem dX6_filledBySums_46 : decode cX6_filledBySums 46 = .ok (.invokevirtual 420, 3) := by decide +kernel
theorem dX6_filledBySums_49 : decode cX6_filledBySums 49 = .ok (.iadd, 1) := by decide +kernel
theorem dX6_filledBySums_50 : decode cX6_filledBySums 50 = .ok (.istore_n 3, 1) := by decide +kernel
theorem dX6_filledBySums_51 : decode cX6_filledBySums 51 = .ok (.iinc 4 1, 3) := by decide +kernel
theorem dX6_filledBySums_54 : decode cX6_filledBySums 54 = .ok (.goto (-47), 3) := by decide +kernel
theorem dX6_filledBySums_57 : decode cX6_filledBySums 57 = .ok (.iload_n 3, 1) := by decide +kernel
theorem dX6_filledBySums_58 : decode cX6_filledBySums 58 = .ok (.ifCond .ne 8, 3) := by decide +kernel
theorem dX6_filledBySums_61 : decode cX6_filledBySums 61 = .ok (.bipush (-3), 2) := by decide +kernel
theorem dX6_filledBySums_63 : decode cX6_filledBySums 63 = .ok (.goto 8, 3) := by decide +kernel
theorem dX6_filledBySums_66 : decode cX6_filledBySums 66 = .ok (.iload_n 1, 1) := by decide +kernel
theorem dX6_filledBySums_67 : decode cX6_filledBySums 67 = .ok (.iload_n 2, 1) := by decide +kernel
theorem dX6_filledBySums_68 : decode cX6_filledBySums 68 = .ok (.imul, 1) := by decide +kernel
theorem dX6_filledBySums_69 : decode cX6_filledBySums 69 = .ok (.iload_n 3, 1) := by decide +kernel
theorem dX6_filledBySums_70 : decode cX6_filledBySums 70 = .ok (.idiv, 1) := by decide +kernel
theorem dX6_filledBySums_71 : decode cX6_filledBySums 71 = .ok (.ireturn, 1) := by decide +kernel
set_option maxRecDepth 20000 in
theorem ggX6_filledByOne_X6_sisterOf : GoodIn wsX6_filledByOne wsX6_sisterOf := goodIn_r _ [8, 9, 1, 10, 11, 12, 13, 14, 15, 16, 17, 18, 19, 20, 21, 22, 23, 24, 25, 26, 27, 28, 29, 30, 31] (by decide +kernel) (by decide +kernel)
set_option maxRecDepth 20000 in
theorem gX6_filledByOne_X6_sisterOf : GoodIn wsX6_filledByOne (wsV RX6 420 RX6 yX6_sisterOf wsX6_sisterOf) := goodIn_app (goodIn_of _ (by decide +kernel)) ggX6_filledByOne_X6_sisterOf
theorem dX6_filledByOne_0 : decode cX6_filledByOne 0 = .ok (.bipush (-3), 2) := by decide +kernel
theorem dX6_filledByOne_2 : decode cX6_filledByOne 2 = .ok (.istore_n 3, 1) := by decide +kernel
theorem dX6_filledByOne_3 : decode cX6_filledByOne 3 = .ok (.iconst 0, 1) := by decide +kernel
theorem dX6_filledByOne_4 : decode cX6_filledByOne 4 = .ok (.istore 4, 2) := by decide +kernel
theorem dX6_filledByOne_6 : decode cX6_filledByOne 6 = .ok (.iload 4, 2) := by decide +kernel
theorem dX6_filledByOne_8 : decode cX6_filledByOne 8 = .ok (.aload_n 0, 1) := by decide +kernel
theorem dX6_filledByOne_9 : decode cX6_filledByOne 9 = .ok (.getfield 33, 3) := by decide +kernel
theorem dX6_filledByOne_12 : decode cX6_filledByOne 12 = .ok (.getfield 170, 3) := by decide +kernel
theorem dX6_filledByOne_15 : decode cX6_filledByOne 15 = .ok (.if_icmp .ge 67, 3) := by decide +kernel
theorem dX6_filledByOne_18 : decode cX6_filledByOne 18 = .ok (.aload_n 0, 1) := by decide +kernel
theorem dX6_filledByOne_19 : decode cX6_filledByOne 19 = .ok (.iload 4, 2) := by decide +kernel
theorem dX6_filledByOne_21 : decode cX6_filledByOne 21 = .ok (.invokevirtual 420, 3) := by decide +kernel
theorem dX6_filledByOne_24 : decode cX6_filledByOne 24 = .ok (.istore 5, 2) := by decide +kernel
theorem dX6_filledByOne_26 : decode cX6_filledByOne 26 = .ok (.iload 5, 2) := by decide +kernel
theorem dX6_filledByOne_28 : decode cX6_filledByOne 28 = .ok (.ifCond .le 48, 3) := by decide +kernel
theorem dX6_filledByOne_31 : decode cX6_filledByOne 31 = .ok (.iload_n 1, 1) := by decide +kernel
theorem dX6_filledByOne_32 : decode cX6_filledByOne 32 = .ok (.aload_n 0, 1) := by decide +kernel
theorem dX6_filledByOne_33 : decode cX6_filledByOne 33 = .ok (.getfield 33, 3) := by decide +kernel
theorem dX6_filledByOne_36 : decode cX6_filledByOne 36 = .ok (.getfield 173, 3) := by decide +kernel
theorem dX6_filledByOne_39 : decode cX6_filledByOne 39 = .ok (.iload 4, 2) := by decide +kernel
theorem dX6_filledByOne_41 : decode cX6_filledByOne 41 = .ok (.iaload, 1) := by decide +kernel
theorem dX6_filledByOne_42 : decode cX6_filledByOne 42 = .ok (.imul, 1) := by decide +kernel
theorem dX6_filledByOne_43 : decode cX6_filledByOne 43 = .ok (.iload 5, 2) := by decide +kernel
theorem dX6_filledByOne_45 : decode cX6_filledByOne 45 = .ok (.idiv, 1) := by decide +kernel
theorem dX6_filledByOne_46 : decode cX6_filledByOne 46 = .ok (.istore 6, 2) := by decide +kernel
theorem dX6_filledByOne_48 : decode cX6_filledByOne 48 = .ok (.iload_n 3, 1) := by decide +kernel
theorem dX6_filledByOne_49 : decode cX6_filledByOne 49 = .ok (.bipush (-3), 2) := by decide +kernel
theorem dX6_filledByOne_51 : decode cX6_filledByOne 51 = .ok (.if_icmp .eq 22, 3) := by decide +kernel
theorem dX6_filledByOne_54 : decode cX6_filledByOne 54 = .ok (.iload_n 2, 1) := by decide +kernel
theorem dX6_filledByOne_55 : decode cX6_filledByOne 55 = .ok (.ifCond .eq 12, 3) := by decide +kernel
theorem dX6_filledByOne_58 : decode cX6_filledByOne 58 = .ok (.iload 6, 2) := by decide +kernel
theorem dX6_filledByOne_60 : decode cX6_filledByOne 60 = .ok (.iload_n 3, 1) := by decide +kernel
theorem dX6_filledByOne_61 : decode cX6_filledByOne 61 = .ok (.if_icmp .ge 15, 3) := by decide +kernel
theorem dX6_filledByOne_64 : decode cX6_filledByOne 64 = .ok (.goto 9, 3) := by decide +kernel
theorem dX6_filledByOne_67 : decode cX6_filledByOne 67 = .ok (.iload 6, 2) := by decide +kernel
theorem dX6_filledByOne_69 : decode cX6_filledByOne 69 = .ok (.iload_n 3, 1) := by decide +kernel
theorem dX6_filledByOne_70 : decode cX6_filledByOne 70 = .ok (.if_icmp .le 6, 3) := by decide +kernel
theorem dX6_filledByOne_73 : decode cX6_filledByOne 73 = .ok (.iload 6, 2) := by decide +kernel
theorem dX6_filledByOne_75 : decode cX6_filledByOne 75 = .ok (.istore_n 3, 1) := by decide +kernel
theorem dX6_filledByOne_76 : decode cX6_filledByOne 76 = .ok (.iinc 4 1, 3) := by decide +kernel
theorem dX6_filledByOne_79 : decode cX6_filledByOne 79 = .ok (.goto (-73), 3) := by decide +kernel
theorem dX6_filledByOne_82 : decode cX6_filledByOne 82 = .ok (.iload_n 3, 1) := by decide +kernel
theorem dX6_filledByOne_83 : decode cX6_filledByOne 83 = .ok (.ireturn, 1) := by decide +kernel
set_option maxRecDepth 20000 in
theorem ggX6_dykeAbove_X0_rareBelow : GoodIn wsX6_dykeAbove wsX0_rareBelow := goodIn_r _ [7, 8, 9, 10, 11, 6, 12, 13, 14, 30, 31, 32, 33, 34, 35, 36, 37, 38, 39, 40] (by decide +kernel) (by decide +kernel)
set_option maxRecDepth 20000 in
theorem gX6_dykeAbove_X0_rareBelow : GoodIn wsX6_dykeAbove (wsV RX6 156 RX0 yX0_rareBelow wsX0_rareBelow) := goodIn_app (goodIn_of _ (by decide +kernel)) ggX6_dykeAbove_X0_rareBelow
set_option maxRecDepth 20000 in
theorem ggX6_dykeAbove_X0_overs : GoodIn wsX6_dykeAbove wsX0_overs := goodIn_r _ [18, 8, 19, 30, 31, 32, 33, 34, 35, 36, 37, 38, 39, 40] (by decide +kernel) (by decide +kernel)
set_option maxRecDepth 20000 in
theorem gX6_dykeAbove_X0_overs : GoodIn wsX6_dykeAbove (wsV RX6 143 RX0 yX0_overs wsX0_overs) := goodIn_app (goodIn_of _ (by decide +kernel)) ggX6_dykeAbove_X0_overs
theorem dX6_dykeAbove_0 : decode cX6_dykeAbove 0 = .ok (.aload_n 0, 1) := by decide +kernel
theorem dX6_dykeAbove_1 : decode cX6_dykeAbove 1 = .ok (.getfield 46, 3) := by decide +kernel
theorem dX6_dykeAbove_4 : decode cX6_dykeAbove 4 = .ok (.iconst 3, 1) := by decide +kernel
theorem dX6_dykeAbove_5 : decode cX6_dykeAbove 5 = .ok (.iaload, 1) := by decide +kernel
theorem dX6_dykeAbove_6 : decode cX6_dykeAbove 6 = .ok (.i2l, 1) := by decide +kernel
theorem dX6_dykeAbove_7 : decode cX6_dykeAbove 7 = .ok (.iload_n 1, 1) := by decide +kernel
theorem dX6_dykeAbove_8 : decode cX6_dykeAbove 8 = .ok (.i2l, 1) := by decide +kernel
theorem dX6_dykeAbove_9 : decode cX6_dykeAbove 9 = .ok (.lmul, 1) := by decide +kernel
theorem dX6_dykeAbove_10 : decode cX6_dykeAbove 10 = .ok (.aload_n 0, 1) := by decide +kernel
theorem dX6_dykeAbove_11 : decode cX6_dykeAbove 11 = .ok (.getfield 33, 3) := by decide +kernel
theorem dX6_dykeAbove_14 : decode cX6_dykeAbove 14 = .ok (.iload_n 1, 1) := by decide +kernel
theorem dX6_dykeAbove_15 : decode cX6_dykeAbove 15 = .ok (.invokevirtual 156, 3) := by decide +kernel
theorem dX6_dykeAbove_18 : decode cX6_dykeAbove 18 = .ok (.i2l, 1) := by decide +kernel
theorem dX6_dykeAbove_19 : decode cX6_dykeAbove 19 = .ok (.lmul, 1) := by decide +kernel
theorem dX6_dykeAbove_20 : decode cX6_dykeAbove 20 = .ok (.lstore_n 2, 1) := by decide +kernel
theorem dX6_dykeAbove_21 : decode cX6_dykeAbove 21 = .ok (.lload_n 2, 1) := by decide +kernel
theorem dX6_dykeAbove_22 : decode cX6_dykeAbove 22 = .ok (.aload_n 0, 1) := by decide +kernel
theorem dX6_dykeAbove_23 : decode cX6_dykeAbove 23 = .ok (.getfield 46, 3) := by decide +kernel
theorem dX6_dykeAbove_26 : decode cX6_dykeAbove 26 = .ok (.iconst 4, 1) := by decide +kernel
theorem dX6_dykeAbove_27 : decode cX6_dykeAbove 27 = .ok (.iaload, 1) := by decide +kernel
theorem dX6_dykeAbove_28 : decode cX6_dykeAbove 28 = .ok (.i2l, 1) := by decide +kernel
theorem dX6_dykeAbove_29 : decode cX6_dykeAbove 29 = .ok (.aload_n 0, 1) := by decide +kernel
theorem dX6_dykeAbove_30 : decode cX6_dykeAbove 30 = .ok (.getfield 46, 3) := by decide +kernel
theorem dX6_dykeAbove_33 : decode cX6_dykeAbove 33 = .ok (.iconst 5, 1) := by decide +kernel
theorem dX6_dykeAbove_34 : decode cX6_dykeAbove 34 = .ok (.iaload, 1) := by decide +kernel
theorem dX6_dykeAbove_35 : decode cX6_dykeAbove 35 = .ok (.i2l, 1) := by decide +kernel
theorem dX6_dykeAbove_36 : decode cX6_dykeAbove 36 = .ok (.lmul, 1) := by decide +kernel
theorem dX6_dykeAbove_37 : decode cX6_dykeAbove 37 = .ok (.aload_n 0, 1) := by decide +kernel
theorem dX6_dykeAbove_38 : decode cX6_dykeAbove 38 = .ok (.getfield 33, 3) := by decide +kernel
theorem dX6_dykeAbove_41 : decode cX6_dykeAbove 41 = .ok (.iload_n 1, 1) := by decide +kernel
theorem dX6_dykeAbove_42 : decode cX6_dykeAbove 42 = .ok (.invokevirtual 143, 3) := by decide +kernel
theorem dX6_dykeAbove_45 : decode cX6_dykeAbove 45 = .ok (.i2l, 1) := by decide +kernel
theorem dX6_dykeAbove_46 : decode cX6_dykeAbove 46 = .ok (.lmul, 1) := by decide +kernel
theorem dX6_dykeAbove_47 : decode cX6_dykeAbove 47 = .ok (.ladd, 1) := by decide +kernel
theorem dX6_dykeAbove_48 : decode cX6_dykeAbove 48 = .ok (.lreturn, 1) := by decide +kernel
set_option maxRecDepth 20000 in
theorem ggX6_isBetter_X6_dykeAbove : GoodIn wsX6_isBetter wsX6_dykeAbove := goodIn_r _ [6, 7, 1, 8, 9, 10, 11, 12, 13, 14, 15, 16, 17, 18, 19, 20, 21, 22, 23, 24, 25, 26, 27, 28, 29, 30, 31, 32, 33, 34, 35, 36, 37, 38, 39, 40, 41, 42, 43, 44, 45] (by decide +kernel) (by decide +kernel)
set_option maxRecDepth 20000 in
theorem gX6_isBetter_X6_dykeAbove : GoodIn wsX6_isBetter (wsV RX6 258 RX6 yX6_dykeAbove wsX6_dykeAbove) := goodIn_app (goodIn_of _ (by decide +kernel)) ggX6_isBetter_X6_dykeAbove
set_option maxRecDepth 20000 in
theorem ggX6_isBetter_X0_rareBelow : GoodIn wsX6_isBetter wsX0_rareBelow := goodIn_r _ [12, 13, 14, 15, 16, 11, 17, 18, 19, 35, 36, 37, 38, 39, 40, 41, 42, 43, 44, 45] (by decide +kernel) (by decide +kernel)
set_option maxRecDepth 20000 in
theorem gX6_isBetter_X0_rareBelow : GoodIn wsX6_isBetter (wsV RX6 156 RX0 yX0_rareBelow wsX0_rareBelow) := goodIn_app (goodIn_of _ (by decide +kernel)) ggX6_isBetter_X0_rareBelow
theorem dX6_isBetter_0 : decode cX6_isBetter 0 = .ok (.aload_n 0, 1) := by decide +kernel
theorem dX6_isBetter_1 : decode cX6_isBetter 1 = .ok (.iload_n 1, 1) := by decide +kernel
theorem dX6_isBetter_2 : decode cX6_isBetter 2 = .ok (.invokevirtual 258, 3) := by decide +kernel
theorem dX6_isBetter_5 : decode cX6_isBetter 5 = .ok (.aload_n 0, 1) := by decide +kernel
theorem dX6_isBetter_6 : decode cX6_isBetter 6 = .ok (.getfield 33, 3) := by decide +kernel
theorem dX6_isBetter_9 : decode cX6_isBetter 9 = .ok (.iload_n 2, 1) := by decide +kernel
theorem dX6_isBetter_10 : decode cX6_isBetter 10 = .ok (.invokevirtual 156, 3) := by decide +kernel
theorem dX6_isBetter_13 : decode cX6_isBetter 13 = .ok (.i2l, 1) := by decide +kernel
theorem dX6_isBetter_14 : decode cX6_isBetter 14 = .ok (.lmul, 1) := by decide +kernel
theorem dX6_isBetter_15 : decode cX6_isBetter 15 = .ok (.lstore_n 3, 1) := by decide +kernel
theorem dX6_isBetter_16 : decode cX6_isBetter 16 = .ok (.aload_n 0, 1) := by decide +kernel
theorem dX6_isBetter_17 : decode cX6_isBetter 17 = .ok (.iload_n 2, 1) := by decide +kernel
theorem dX6_isBetter_18 : decode cX6_isBetter 18 = .ok (.invokevirtual 258, 3) := by decide +kernel
theorem dX6_isBetter_21 : decode cX6_isBetter 21 = .ok (.aload_n 0, 1) := by decide +kernel
theorem dX6_isBetter_22 : decode cX6_isBetter 22 = .ok (.getfield 33, 3) := by decide +kernel
theorem dX6_isBetter_25 : decode cX6_isBetter 25 = .ok (.iload_n 1, 1) := by decide +kernel
theorem dX6_isBetter_26 : decode cX6_isBetter 26 = .ok (.invokevirtual 156, 3) := by decide +kernel
theorem dX6_isBetter_29 : decode cX6_isBetter 29 = .ok (.i2l, 1) := by decide +kernel
theorem dX6_isBetter_30 : decode cX6_isBetter 30 = .ok (.lmul, 1) := by decide +kernel
theorem dX6_isBetter_31 : decode cX6_isBetter 31 = .ok (.lstore 5, 2) := by decide +kernel
theorem dX6_isBetter_33 : decode cX6_isBetter 33 = .ok (.lload_n 3, 1) := by decide +kernel
theorem dX6_isBetter_34 : decode cX6_isBetter 34 = .ok (.lload 5, 2) := by decide +kernel
theorem dX6_isBetter_36 : decode cX6_isBetter 36 = .ok (.lcmp, 1) := by decide +kernel
theorem dX6_isBetter_37 : decode cX6_isBetter 37 = .ok (.ifCond .lt 15, 3) := by decide +kernel
theorem dX6_isBetter_40 : decode cX6_isBetter 40 = .ok (.lload_n 3, 1) := by decide +kernel
theorem dX6_isBetter_41 : decode cX6_isBetter 41 = .ok (.lload 5, 2) := by decide +kernel
theorem dX6_isBetter_43 : decode cX6_isBetter 43 = .ok (.lcmp, 1) := by decide +kernel
theorem dX6_isBetter_44 : decode cX6_isBetter 44 = .ok (.ifCond .ne 12, 3) := by decide +kernel
theorem dX6_isBetter_47 : decode cX6_isBetter 47 = .ok (.iload_n 1, 1) := by decide +kernel
theorem dX6_isBetter_48 : decode cX6_isBetter 48 = .ok (.iload_n 2, 1) := by decide +kernel
theorem dX6_isBetter_49 : decode cX6_isBetter 49 = .ok (.if_icmp .ge 7, 3) := by decide +kernel
theorem dX6_isBetter_52 : decode cX6_isBetter 52 = .ok (.iconst 1, 1) := by decide +kernel
theorem dX6_isBetter_53 : decode cX6_isBetter 53 = .ok (.goto 4, 3) := by decide +kernel
theorem dX6_isBetter_56 : decode cX6_isBetter 56 = .ok (.iconst 0, 1) := by decide +kernel
theorem dX6_isBetter_57 : decode cX6_isBetter 57 = .ok (.ireturn, 1) := by decide +kernel
set_option maxRecDepth 20000 in
theorem ggX6_isSure_X0_overs : GoodIn wsX6_isSure wsX0_overs := goodIn_r _ [6, 7, 8, 34, 35, 36, 37, 38, 39, 40, 41, 42, 43, 44] (by decide +kernel) (by decide +kernel)
set_option maxRecDepth 20000 in
theorem gX6_isSure_X0_overs : GoodIn wsX6_isSure (wsV RX6 143 RX0 yX0_overs wsX0_overs) := goodIn_app (goodIn_of _ (by decide +kernel)) ggX6_isSure_X0_overs
set_option maxRecDepth 20000 in
theorem ggX6_isSure_X0_darks : GoodIn wsX6_isSure wsX0_darks := goodIn_r _ [12, 13, 14, 15, 16, 17, 5, 18, 19, 34, 35, 36, 37, 38, 39, 40, 41, 42, 43, 44] (by decide +kernel) (by decide +kernel)
set_option maxRecDepth 20000 in
theorem gX6_isSure_X0_darks : GoodIn wsX6_isSure (wsV RX6 149 RX0 yX0_darks wsX0_darks) := goodIn_app (goodIn_of _ (by decide +kernel)) ggX6_isSure_X0_darks
set_option maxRecDepth 20000 in
theorem ggX6_isSure_X0_all : GoodIn wsX6_isSure wsX0_all := goodIn_r _ [23, 7, 14, 13, 34, 35, 36, 37, 38, 39, 40, 41, 42, 43, 44] (by decide +kernel) (by decide +kernel)
set_option maxRecDepth 20000 in
theorem gX6_isSure_X0_all : GoodIn wsX6_isSure (wsV RX6 163 RX0 yX0_all wsX0_all) := goodIn_app (goodIn_of _ (by decide +kernel)) ggX6_isSure_X0_all
theorem dX6_isSure_0 : decode cX6_isSure 0 = .ok (.aload_n 0, 1) := by decide +kernel
theorem dX6_isSure_1 : decode cX6_isSure 1 = .ok (.getfield 33, 3) := by decide +kernel
theorem dX6_isSure_4 : decode cX6_isSure 4 = .ok (.iload_n 1, 1) := by decide +kernel
theorem dX6_isSure_5 : decode cX6_isSure 5 = .ok (.invokevirtual 143, 3) := by decide +kernel
theorem dX6_isSure_8 : decode cX6_isSure 8 = .ok (.aload_n 0, 1) := by decide +kernel
theorem dX6_isSure_9 : decode cX6_isSure 9 = .ok (.getfield 33, 3) := by decide +kernel
theorem dX6_isSure_12 : decode cX6_isSure 12 = .ok (.iload_n 1, 1) := by decide +kernel
theorem dX6_isSure_13 : decode cX6_isSure 13 = .ok (.invokevirtual 149, 3) := by decide +kernel
theorem dX6_isSure_16 : decode cX6_isSure 16 = .ok (.iadd, 1) := by decide +kernel
theorem dX6_isSure_17 : decode cX6_isSure 17 = .ok (.istore_n 3, 1) := by decide +kernel
theorem dX6_isSure_18 : decode cX6_isSure 18 = .ok (.bipush 100, 2) := by decide +kernel
theorem dX6_isSure_20 : decode cX6_isSure 20 = .ok (.iload_n 3, 1) := by decide +kernel
theorem dX6_isSure_21 : decode cX6_isSure 21 = .ok (.imul, 1) := by decide +kernel
theorem dX6_isSure_22 : decode cX6_isSure 22 = .ok (.iload_n 2, 1) := by decide +kernel
theorem dX6_isSure_23 : decode cX6_isSure 23 = .ok (.aload_n 0, 1) := by decide +kernel
theorem dX6_isSure_24 : decode cX6_isSure 24 = .ok (.getfield 33, 3) := by decide +kernel
theorem dX6_isSure_27 : decode cX6_isSure 27 = .ok (.invokevirtual 163, 3) := by decide +kernel
theorem dX6_isSure_30 : decode cX6_isSure 30 = .ok (.iconst 1, 1) := by decide +kernel
theorem dX6_isSure_31 : decode cX6_isSure 31 = .ok (.iadd, 1) := by decide +kernel
theorem dX6_isSure_32 : decode cX6_isSure 32 = .ok (.imul, 1) := by decide +kernel
theorem dX6_isSure_33 : decode cX6_isSure 33 = .ok (.if_icmp .gt 7, 3) := by decide +kernel
theorem dX6_isSure_36 : decode cX6_isSure 36 = .ok (.iconst 1, 1) := by decide +kernel
theorem dX6_isSure_37 : decode cX6_isSure 37 = .ok (.goto 4, 3) := by decide +kernel
theorem dX6_isSure_40 : decode cX6_isSure 40 = .ok (.iconst 0, 1) := by decide +kernel
theorem dX6_isSure_41 : decode cX6_isSure 41 = .ok (.ireturn, 1) := by decide +kernel
