set_option maxRecDepth 20000 in
theorem gX3_together_X3_isStream : GoodIn wsX3_together (va_wsS RX3 49 yX3_isStream wsX3_isStream) := goodIn_app (goodIn_of _ (by decide +kernel)) ggX3_together_X3_isStream
set_option maxRecDepth 20000 in
theorem ggX3_together_X3_bothOf : GoodIn wsX3_together wsX3_bothOf := goodIn_r _ [14, 2, 15, 16, 17, 18, 5, 19, 20, 21, 22, 23, 24, 25, 26, 27, 28, 29, 30, 31, 32] (by decide +kernel) (by decide +kernel)
set_option maxRecDepth 20000 in
theorem gX3_together_X3_bothOf : GoodIn wsX3_together (wsV RX3 85 RX3 yX3_bothOf wsX3_bothOf) := goodIn_app (goodIn_of _ (by decide +kernel)) ggX3_together_X3_bothOf
theorem dX3_together_0 : decode cX3_together 0 = .ok (.iload_n 1, 1) := by decide +kernel
theorem dX3_together_1 : decode cX3_together 1 = .ok (.invokestatic 49, 3) := by decide +kernel
theorem dX3_together_4 : decode cX3_together 4 = .ok (.ifCond .eq 10, 3) := by decide +kernel
theorem dX3_together_7 : decode cX3_together 7 = .ok (.iload_n 2, 1) := by decide +kernel
theorem dX3_together_8 : decode cX3_together 8 = .ok (.invokestatic 49, 3) := by decide +kernel
theorem dX3_together_11 : decode cX3_together 11 = .ok (.ifCond .ne 6, 3) := by decide +kernel
theorem dX3_together_14 : decode cX3_together 14 = .ok (.ldc 89, 2) := by decide +kernel
theorem dX3_together_16 : decode cX3_together 16 = .ok (.ireturn, 1) := by decide +kernel
theorem dX3_together_17 : decode cX3_together 17 = .ok (.aload_n 0, 1) := by decide +kernel
theorem dX3_together_18 : decode cX3_together 18 = .ok (.iload_n 1, 1) := by decide +kernel
theorem dX3_together_19 : decode cX3_together 19 = .ok (.iload_n 2, 1) := by decide +kernel
theorem dX3_together_20 : decode cX3_together 20 = .ok (.iconst 0, 1) := by decide +kernel
theorem dX3_together_21 : decode cX3_together 21 = .ok (.invokevirtual 85, 3) := by decide +kernel
theorem dX3_together_24 : decode cX3_together 24 = .ok (.istore_n 3, 1) := by decide +kernel
theorem dX3_together_25 : decode cX3_together 25 = .ok (.aload_n 0, 1) := by decide +kernel
theorem dX3_together_26 : decode cX3_together 26 = .ok (.iload_n 1, 1) := by decide +kernel
theorem dX3_together_27 : decode cX3_together 27 = .ok (.iload_n 2, 1) := by decide +kernel
theorem dX3_together_28 : decode cX3_together 28 = .ok (.iconst 1, 1) := by decide +kernel
theorem dX3_together_29 : decode cX3_together 29 = .ok (.invokevirtual 85, 3) := by decide +kernel
theorem dX3_together_32 : decode cX3_together 32 = .ok (.istore 4, 2) := by decide +kernel
theorem dX3_together_34 : decode cX3_together 34 = .ok (.aload_n 0, 1) := by decide +kernel
theorem dX3_together_35 : decode cX3_together 35 = .ok (.iload_n 1, 1) := by decide +kernel
theorem dX3_together_36 : decode cX3_together 36 = .ok (.iload_n 2, 1) := by decide +kernel
theorem dX3_together_37 : decode cX3_together 37 = .ok (.iconst 2, 1) := by decide +kernel
theorem dX3_together_38 : decode cX3_together 38 = .ok (.invokevirtual 85, 3) := by decide +kernel
theorem dX3_together_41 : decode cX3_together 41 = .ok (.istore 5, 2) := by decide +kernel
theorem dX3_together_43 : decode cX3_together 43 = .ok (.aload_n 0, 1) := by decide +kernel
theorem dX3_together_44 : decode cX3_together 44 = .ok (.iload_n 1, 1) := by decide +kernel
theorem dX3_together_45 : decode cX3_together 45 = .ok (.iload_n 2, 1) := by decide +kernel
theorem dX3_together_46 : decode cX3_together 46 = .ok (.iconst 3, 1) := by decide +kernel
theorem dX3_together_47 : decode cX3_together 47 = .ok (.invokevirtual 85, 3) := by decide +kernel
theorem dX3_together_50 : decode cX3_together 50 = .ok (.istore 6, 2) := by decide +kernel
theorem dX3_together_52 : decode cX3_together 52 = .ok (.iload_n 3, 1) := by decide +kernel
theorem dX3_together_53 : decode cX3_together 53 = .ok (.iload 6, 2) := by decide +kernel
theorem dX3_together_55 : decode cX3_together 55 = .ok (.imul, 1) := by decide +kernel
theorem dX3_together_56 : decode cX3_together 56 = .ok (.iload 4, 2) := by decide +kernel
theorem dX3_together_58 : decode cX3_together 58 = .ok (.iload 5, 2) := by decide +kernel
theorem dX3_together_60 : decode cX3_together 60 = .ok (.imul, 1) := by decide +kernel
theorem dX3_together_61 : decode cX3_together 61 = .ok (.isub, 1) := by decide +kernel
theorem dX3_together_62 : decode cX3_together 62 = .ok (.istore 7, 2) := by decide +kernel
theorem dX3_together_64 : decode cX3_together 64 = .ok (.iload 7, 2) := by decide +kernel
theorem dX3_together_66 : decode cX3_together 66 = .ok (.ifCond .ne 5, 3) := by decide +kernel
theorem dX3_together_69 : decode cX3_together 69 = .ok (.iconst 0, 1) := by decide +kernel
theorem dX3_together_70 : decode cX3_together 70 = .ok (.ireturn, 1) := by decide +kernel
theorem dX3_together_71 : decode cX3_together 71 = .ok (.iload 4, 2) := by decide +kernel
theorem dX3_together_73 : decode cX3_together 73 = .ok (.iload 5, 2) := by decide +kernel
theorem dX3_together_75 : decode cX3_together 75 = .ok (.if_icmp .ge 10, 3) := by decide +kernel
theorem dX3_together_78 : decode cX3_together 78 = .ok (.iload_n 3, 1) := by decide +kernel
theorem dX3_together_79 : decode cX3_together 79 = .ok (.iload 4, 2) := by decide +kernel
theorem dX3_together_81 : decode cX3_together 81 = .ok (.iadd, 1) := by decide +kernel
theorem dX3_together_82 : decode cX3_together 82 = .ok (.goto 7, 3) := by decide +kernel
theorem dX3_together_85 : decode cX3_together 85 = .ok (.iload_n 3, 1) := by decide +kernel
theorem dX3_together_86 : decode cX3_together 86 = .ok (.iload 5, 2) := by decide +kernel
theorem dX3_together_88 : decode cX3_together 88 = .ok (.iadd, 1) := by decide +kernel
theorem dX3_together_89 : decode cX3_together 89 = .ok (.istore 8, 2) := by decide +kernel
theorem dX3_together_91 : decode cX3_together 91 = .ok (.iload_n 3, 1) := by decide +kernel
theorem dX3_together_92 : decode cX3_together 92 = .ok (.iload 6, 2) := by decide +kernel
theorem dX3_together_94 : decode cX3_together 94 = .ok (.if_icmp .le 10, 3) := by decide +kernel
theorem dX3_together_97 : decode cX3_together 97 = .ok (.iload_n 3, 1) := by decide +kernel
theorem dX3_together_98 : decode cX3_together 98 = .ok (.iload 6, 2) := by decide +kernel
theorem dX3_together_100 : decode cX3_together 100 = .ok (.isub, 1) := by decide +kernel
theorem dX3_together_101 : decode cX3_together 101 = .ok (.goto 4, 3) := by decide +kernel
theorem dX3_together_104 : decode cX3_together 104 = .ok (.iconst 0, 1) := by decide +kernel
theorem dX3_together_105 : decode cX3_together 105 = .ok (.istore 9, 2) := by decide +kernel
theorem dX3_together_107 : decode cX3_together 107 = .ok (.iload 7, 2) := by decide +kernel
theorem dX3_together_109 : decode cX3_together 109 = .ok (.ifCond .le 23, 3) := by decide +kernel
theorem dX3_together_112 : decode cX3_together 112 = .ok (.aload_n 0, 1) := by decide +kernel
theorem dX3_together_113 : decode cX3_together 113 = .ok (.getfield 23, 3) := by decide +kernel
theorem dX3_together_116 : decode cX3_together 116 = .ok (.iload 8, 2) := by decide +kernel
theorem dX3_together_118 : decode cX3_together 118 = .ok (.imul, 1) := by decide +kernel
theorem dX3_together_119 : decode cX3_together 119 = .ok (.iload_n 3, 1) := by decide +kernel
theorem dX3_together_120 : decode cX3_together 120 = .ok (.iload 4, 2) := by decide +kernel
theorem dX3_together_122 : decode cX3_together 122 = .ok (.iadd, 1) := by decide +kernel
theorem dX3_together_123 : decode cX3_together 123 = .ok (.iload_n 3, 1) := by decide +kernel
theorem dX3_together_124 : decode cX3_together 124 = .ok (.iload 5, 2) := by decide +kernel
theorem dX3_together_126 : decode cX3_together 126 = .ok (.iadd, 1) := by decide +kernel
theorem dX3_together_127 : decode cX3_together 127 = .ok (.imul, 1) := by decide +kernel
theorem dX3_together_128 : decode cX3_together 128 = .ok (.isub, 1) := by decide +kernel
theorem dX3_together_129 : decode cX3_together 129 = .ok (.goto 20, 3) := by decide +kernel
theorem dX3_together_132 : decode cX3_together 132 = .ok (.iload_n 3, 1) := by decide +kernel
theorem dX3_together_133 : decode cX3_together 133 = .ok (.iload 4, 2) := by decide +kernel
theorem dX3_together_135 : decode cX3_together 135 = .ok (.iadd, 1) := by decide +kernel
theorem dX3_together_136 : decode cX3_together 136 = .ok (.iload_n 3, 1) := by decide +kernel
theorem dX3_together_137 : decode cX3_together 137 = .ok (.iload 5, 2) := by decide +kernel
theorem dX3_together_139 : decode cX3_together 139 = .ok (.iadd, 1) := by decide +kernel
theorem dX3_together_140 : decode cX3_together 140 = .ok (.imul, 1) := by decide +kernel
theorem dX3_together_141 : decode cX3_together 141 = .ok (.aload_n 0, 1) := by decide +kernel
theorem dX3_together_142 : decode cX3_together 142 = .ok (.getfield 23, 3) := by decide +kernel
theorem dX3_together_145 : decode cX3_together 145 = .ok (.iload 9, 2) := by decide +kernel
theorem dX3_together_147 : decode cX3_together 147 = .ok (.imul, 1) := by decide +kernel
theorem dX3_together_148 : decode cX3_together 148 = .ok (.isub, 1) := by decide +kernel
theorem dX3_together_149 : decode cX3_together 149 = .ok (.istore 10, 2) := by decide +kernel
theorem dX3_together_151 : decode cX3_together 151 = .ok (.sipush 1000, 3) := by decide +kernel
theorem dX3_together_154 : decode cX3_together 154 = .ok (.iload 7, 2) := by decide +kernel
theorem dX3_together_156 : decode cX3_together 156 = .ok (.imul, 1) := by decide +kernel
theorem dX3_together_157 : decode cX3_together 157 = .ok (.iload 10, 2) := by decide +kernel
theorem dX3_together_159 : decode cX3_together 159 = .ok (.idiv, 1) := by decide +kernel
theorem dX3_together_160 : decode cX3_together 160 = .ok (.ireturn, 1) := by decide +kernel
theorem dX3_due_0 : decode cX3_due 0 = .ok (.aload_n 0, 1) := by decide +kernel
theorem dX3_due_1 : decode cX3_due 1 = .ok (.getfield 23, 3) := by decide +kernel
theorem dX3_due_4 : decode cX3_due 4 = .ok (.iload_n 2, 1) := by decide +kernel
theorem dX3_due_5 : decode cX3_due 5 = .ok (.iload_n 3, 1) := by decide +kernel
theorem dX3_due_6 : decode cX3_due 6 = .ok (.iadd, 1) := by decide +kernel
theorem dX3_due_7 : decode cX3_due 7 = .ok (.imul, 1) := by decide +kernel
theorem dX3_due_8 : decode cX3_due 8 = .ok (.iconst 2, 1) := by decide +kernel
theorem dX3_due_9 : decode cX3_due 9 = .ok (.iload_n 2, 1) := by decide +kernel
theorem dX3_due_10 : decode cX3_due 10 = .ok (.imul, 1) := by decide +kernel
theorem dX3_due_11 : decode cX3_due 11 = .ok (.iload_n 3, 1) := by decide +kernel
theorem dX3_due_12 : decode cX3_due 12 = .ok (.imul, 1) := by decide +kernel
theorem dX3_due_13 : decode cX3_due 13 = .ok (.isub, 1) := by decide +kernel
theorem dX3_due_14 : decode cX3_due 14 = .ok (.istore 4, 2) := by decide +kernel
theorem dX3_due_16 : decode cX3_due 16 = .ok (.iload_n 1, 1) := by decide +kernel
theorem dX3_due_17 : decode cX3_due 17 = .ok (.ifCond .ne 9, 3) := by decide +kernel
theorem dX3_due_20 : decode cX3_due 20 = .ok (.iload_n 2, 1) := by decide +kernel
theorem dX3_due_21 : decode cX3_due 21 = .ok (.iload_n 3, 1) := by decide +kernel
theorem dX3_due_22 : decode cX3_due 22 = .ok (.imul, 1) := by decide +kernel
theorem dX3_due_23 : decode cX3_due 23 = .ok (.goto 45, 3) := by decide +kernel
theorem dX3_due_26 : decode cX3_due 26 = .ok (.iload_n 1, 1) := by decide +kernel
theorem dX3_due_27 : decode cX3_due 27 = .ok (.iconst 1, 1) := by decide +kernel
theorem dX3_due_28 : decode cX3_due 28 = .ok (.if_icmp .ne 18, 3) := by decide +kernel
theorem dX3_due_31 : decode cX3_due 31 = .ok (.aload_n 0, 1) := by decide +kernel
theorem dX3_due_32 : decode cX3_due 32 = .ok (.getfield 23, 3) := by decide +kernel
theorem dX3_due_35 : decode cX3_due 35 = .ok (.iload_n 2, 1) := by decide +kernel
theorem dX3_due_36 : decode cX3_due 36 = .ok (.iload_n 3, 1) := by decide +kernel
theorem dX3_due_37 : decode cX3_due 37 = .ok (.iadd, 1) := by decide +kernel
theorem dX3_due_38 : decode cX3_due 38 = .ok (.imul, 1) := by decide +kernel
theorem dX3_due_39 : decode cX3_due 39 = .ok (.iload_n 2, 1) := by decide +kernel
theorem dX3_due_40 : decode cX3_due 40 = .ok (.iload_n 3, 1) := by decide +kernel
theorem dX3_due_41 : decode cX3_due 41 = .ok (.imul, 1) := by decide +kernel
theorem dX3_due_42 : decode cX3_due 42 = .ok (.isub, 1) := by decide +kernel
theorem dX3_due_43 : decode cX3_due 43 = .ok (.goto 25, 3) := by decide +kernel
theorem dX3_due_46 : decode cX3_due 46 = .ok (.iload_n 1, 1) := by decide +kernel
theorem dX3_due_47 : decode cX3_due 47 = .ok (.iconst 2, 1) := by decide +kernel
theorem dX3_due_48 : decode cX3_due 48 = .ok (.if_icmp .ne 8, 3) := by decide +kernel
theorem dX3_due_51 : decode cX3_due 51 = .ok (.iload 4, 2) := by decide +kernel
theorem dX3_due_53 : decode cX3_due 53 = .ok (.goto 15, 3) := by decide +kernel
theorem dX3_due_56 : decode cX3_due 56 = .ok (.aload_n 0, 1) := by decide +kernel
theorem dX3_due_57 : decode cX3_due 57 = .ok (.getfield 23, 3) := by decide +kernel
theorem dX3_due_60 : decode cX3_due 60 = .ok (.aload_n 0, 1) := by decide +kernel
theorem dX3_due_61 : decode cX3_due 61 = .ok (.getfield 23, 3) := by decide +kernel
theorem dX3_due_64 : decode cX3_due 64 = .ok (.imul, 1) := by decide +kernel
theorem dX3_due_65 : decode cX3_due 65 = .ok (.iload 4, 2) := by decide +kernel
theorem dX3_due_67 : decode cX3_due 67 = .ok (.isub, 1) := by decide +kernel
theorem dX3_due_68 : decode cX3_due 68 = .ok (.ireturn, 1) := by decide +kernel
set_option maxRecDepth 20000 in
theorem ggX3_miss_X3_in : GoodIn wsX3_miss wsX3_in := goodIn_r _ [12] (by decide +kernel) (by decide +kernel)
set_option maxRecDepth 20000 in
theorem gX3_miss_X3_in : GoodIn wsX3_miss (va_wsS RX3 35 yX3_in wsX3_in) := goodIn_app (goodIn_of _ (by decide +kernel)) ggX3_miss_X3_in
set_option maxRecDepth 20000 in
theorem ggX3_miss_X3_sourceRow : GoodIn wsX3_miss wsX3_sourceRow := goodIn_r _ [16, 4, 17, 18, 19, 11, 20, 44, 45, 46, 47, 48, 49, 50, 51, 52, 53, 54, 55, 56] (by decide +kernel) (by decide +kernel)
set_option maxRecDepth 20000 in
theorem gX3_miss_X3_sourceRow : GoodIn wsX3_miss (wsV RX3 57 RX3 yX3_sourceRow wsX3_sourceRow) := goodIn_app (goodIn_of _ (by decide +kernel)) ggX3_miss_X3_sourceRow
set_option maxRecDepth 20000 in
theorem ggX3_miss_X3_shifted : GoodIn wsX3_miss wsX3_shifted := goodIn_r _ [24, 4, 25, 26, 27, 11, 28, 44, 45, 46, 47, 48, 49, 50, 51, 52, 53, 54, 55, 56] (by decide +kernel) (by decide +kernel)
set_option maxRecDepth 20000 in
theorem gX3_miss_X3_shifted : GoodIn wsX3_miss (wsV RX3 81 RX3 yX3_shifted wsX3_shifted) := goodIn_app (goodIn_of _ (by decide +kernel)) ggX3_miss_X3_shifted
set_option maxRecDepth 20000 in
theorem ggX3_miss_X3_gateRow : GoodIn wsX3_miss wsX3_gateRow := goodIn_r _ [32, 4, 25, 26, 27, 11, 28, 33, 34, 35, 44, 45, 46, 47, 48, 49, 50, 51, 52, 53, 54, 55, 56] (by decide +kernel) (by decide +kernel)
set_option maxRecDepth 20000 in
theorem gX3_miss_X3_gateRow : GoodIn wsX3_miss (wsV RX3 73 RX3 yX3_gateRow wsX3_gateRow) := goodIn_app (goodIn_of _ (by decide +kernel)) ggX3_miss_X3_gateRow
set_option maxRecDepth 20000 in
theorem ggX3_miss_X3_onesOf : GoodIn wsX3_miss wsX3_onesOf := goodIn_r _ [39, 4, 25, 26, 27, 11, 28, 44, 45, 46, 47, 48, 49, 50, 51, 52, 53, 54, 55, 56] (by decide +kernel) (by decide +kernel)
set_option maxRecDepth 20000 in
theorem gX3_miss_X3_onesOf : GoodIn wsX3_miss (wsV RX3 61 RX3 yX3_onesOf wsX3_onesOf) := goodIn_app (goodIn_of _ (by decide +kernel)) ggX3_miss_X3_onesOf
set_option maxRecDepth 20000 in
theorem ggX3_miss_X3_due : GoodIn wsX3_miss wsX3_due := goodIn_r _ [43, 4, 44, 45, 46, 47, 48, 49, 50, 51, 52, 53, 54, 55, 56] (by decide +kernel) (by decide +kernel)
set_option maxRecDepth 20000 in
theorem gX3_miss_X3_due : GoodIn wsX3_miss (wsV RX3 95 RX3 yX3_due wsX3_due) := goodIn_app (goodIn_of _ (by decide +kernel)) ggX3_miss_X3_due
theorem dX3_miss_0 : decode cX3_miss 0 = .ok (.iload_n 1, 1) := by decide +kernel
theorem dX3_miss_1 : decode cX3_miss 1 = .ok (.i2l, 1) := by decide +kernel
theorem dX3_miss_2 : decode cX3_miss 2 = .ok (.lconst 0, 1) := by decide +kernel
theorem dX3_miss_3 : decode cX3_miss 3 = .ok (.ldc2_w 47, 3) := by decide +kernel
theorem dX3_miss_6 : decode cX3_miss 6 = .ok (.invokestatic 35, 3) := by decide +kernel
theorem dX3_miss_9 : decode cX3_miss 9 = .ok (.ifCond .eq 40, 3) := by decide +kernel
theorem dX3_miss_12 : decode cX3_miss 12 = .ok (.iload_n 2, 1) := by decide +kernel
theorem dX3_miss_13 : decode cX3_miss 13 = .ok (.i2l, 1) := by decide +kernel
theorem dX3_miss_14 : decode cX3_miss 14 = .ok (.lconst 0, 1) := by decide +kernel
theorem dX3_miss_15 : decode cX3_miss 15 = .ok (.ldc2_w 47, 3) := by decide +kernel
theorem dX3_miss_18 : decode cX3_miss 18 = .ok (.invokestatic 35, 3) := by decide +kernel
theorem dX3_miss_21 : decode cX3_miss 21 = .ok (.ifCond .eq 28, 3) := by decide +kernel
theorem dX3_miss_24 : decode cX3_miss 24 = .ok (.iload_n 3, 1) := by decide +kernel
theorem dX3_miss_25 : decode cX3_miss 25 = .ok (.i2l, 1) := by decide +kernel
theorem dX3_miss_26 : decode cX3_miss 26 = .ok (.lconst 0, 1) := by decide +kernel
theorem dX3_miss_27 : decode cX3_miss 27 = .ok (.ldc2_w 47, 3) := by decide +kernel
theorem dX3_miss_30 : decode cX3_miss 30 = .ok (.invokestatic 35, 3) := by decide +kernel
theorem dX3_miss_33 : decode cX3_miss 33 = .ok (.ifCond .eq 16, 3) := by decide +kernel
theorem dX3_miss_36 : decode cX3_miss 36 = .ok (.iload 4, 2) := by decide +kernel
theorem dX3_miss_38 : decode cX3_miss 38 = .ok (.i2l, 1) := by decide +kernel
theorem dX3_miss_39 : decode cX3_miss 39 = .ok (.lconst 0, 1) := by decide +kernel
theorem dX3_miss_40 : decode cX3_miss 40 = .ok (.ldc2_w 90, 3) := by decide +kernel
theorem dX3_miss_43 : decode cX3_miss 43 = .ok (.invokestatic 35, 3) := by decide +kernel
theorem dX3_miss_46 : decode cX3_miss 46 = .ok (.ifCond .ne 6, 3) := by decide +kernel
theorem dX3_miss_49 : decode cX3_miss 49 = .ok (.bipush (-102), 2) := by decide +kernel
theorem dX3_miss_51 : decode cX3_miss 51 = .ok (.ireturn, 1) := by decide +kernel
theorem dX3_miss_52 : decode cX3_miss 52 = .ok (.aload_n 0, 1) := by decide +kernel
theorem dX3_miss_53 : decode cX3_miss 53 = .ok (.getfield 92, 3) := by decide +kernel
theorem dX3_miss_56 : decode cX3_miss 56 = .ok (.bipush 60, 2) := by decide +kernel
theorem dX3_miss_58 : decode cX3_miss 58 = .ok (.if_icmp .ne 6, 3) := by decide +kernel
theorem dX3_miss_61 : decode cX3_miss 61 = .ok (.bipush (-103), 2) := by decide +kernel
theorem dX3_miss_63 : decode cX3_miss 63 = .ok (.ireturn, 1) := by decide +kernel
theorem dX3_miss_64 : decode cX3_miss 64 = .ok (.aload_n 0, 1) := by decide +kernel
theorem dX3_miss_65 : decode cX3_miss 65 = .ok (.dup, 1) := by decide +kernel
theorem dX3_miss_66 : decode cX3_miss 66 = .ok (.getfield 92, 3) := by decide +kernel
theorem dX3_miss_69 : decode cX3_miss 69 = .ok (.iconst 1, 1) := by decide +kernel
theorem dX3_miss_70 : decode cX3_miss 70 = .ok (.iadd, 1) := by decide +kernel
theorem dX3_miss_71 : decode cX3_miss 71 = .ok (.putfield 92, 3) := by decide +kernel
theorem dX3_miss_74 : decode cX3_miss 74 = .ok (.iconst 0, 1) := by decide +kernel
theorem dX3_miss_75 : decode cX3_miss 75 = .ok (.istore 5, 2) := by decide +kernel
theorem dX3_miss_77 : decode cX3_miss 77 = .ok (.iload 5, 2) := by decide +kernel
theorem dX3_miss_79 : decode cX3_miss 79 = .ok (.aload_n 0, 1) := by decide +kernel
theorem dX3_miss_80 : decode cX3_miss 80 = .ok (.getfield 23, 3) := by decide +kernel
theorem dX3_miss_83 : decode cX3_miss 83 = .ok (.if_icmp .gt 48, 3) := by decide +kernel
theorem dX3_miss_86 : decode cX3_miss 86 = .ok (.aload_n 0, 1) := by decide +kernel
theorem dX3_miss_87 : decode cX3_miss 87 = .ok (.getfield 13, 3) := by decide +kernel
theorem dX3_miss_90 : decode cX3_miss 90 = .ok (.iload 5, 2) := by decide +kernel
theorem dX3_miss_92 : decode cX3_miss 92 = .ok (.aload_n 0, 1) := by decide +kernel
theorem dX3_miss_93 : decode cX3_miss 93 = .ok (.iload_n 2, 1) := by decide +kernel
theorem dX3_miss_94 : decode cX3_miss 94 = .ok (.iload 5, 2) := by decide +kernel
theorem dX3_miss_96 : decode cX3_miss 96 = .ok (.invokevirtual 57, 3) := by decide +kernel
theorem dX3_miss_99 : decode cX3_miss 99 = .ok (.lastore, 1) := by decide +kernel
theorem dX3_miss_100 : decode cX3_miss 100 = .ok (.aload_n 0, 1) := by decide +kernel
theorem dX3_miss_101 : decode cX3_miss 101 = .ok (.getfield 16, 3) := by decide +kernel
theorem dX3_miss_104 : decode cX3_miss 104 = .ok (.iload 5, 2) := by decide +kernel
theorem dX3_miss_106 : decode cX3_miss 106 = .ok (.aload_n 0, 1) := by decide +kernel
theorem dX3_miss_107 : decode cX3_miss 107 = .ok (.aload_n 0, 1) := by decide +kernel
theorem dX3_miss_108 : decode cX3_miss 108 = .ok (.iload_n 3, 1) := by decide +kernel
theorem dX3_miss_109 : decode cX3_miss 109 = .ok (.iload 5, 2) := by decide +kernel
theorem dX3_miss_111 : decode cX3_miss 111 = .ok (.invokevirtual 57, 3) := by decide +kernel
theorem dX3_miss_114 : decode cX3_miss 114 = .ok (.iload 4, 2) := by decide +kernel
theorem dX3_miss_116 : decode cX3_miss 116 = .ok (.aload_n 0, 1) := by decide +kernel
theorem dX3_miss_117 : decode cX3_miss 117 = .ok (.getfield 23, 3) := by decide +kernel
theorem dX3_miss_120 : decode cX3_miss 120 = .ok (.irem, 1) := by decide +kernel
theorem dX3_miss_121 : decode cX3_miss 121 = .ok (.invokevirtual 81, 3) := by decide +kernel
theorem dX3_miss_124 : decode cX3_miss 124 = .ok (.lastore, 1) := by decide +kernel
theorem dX3_miss_125 : decode cX3_miss 125 = .ok (.iinc 5 1, 3) := by decide +kernel
theorem dX3_miss_128 : decode cX3_miss 128 = .ok (.goto (-51), 3) := by decide +kernel
theorem dX3_miss_131 : decode cX3_miss 131 = .ok (.iconst (-1), 1) := by decide +kernel
theorem dX3_miss_132 : decode cX3_miss 132 = .ok (.istore 5, 2) := by decide +kernel
theorem dX3_miss_134 : decode cX3_miss 134 = .ok (.iconst 0, 1) := by decide +kernel
theorem dX3_miss_135 : decode cX3_miss 135 = .ok (.istore 6, 2) := by decide +kernel
theorem dX3_miss_137 : decode cX3_miss 137 = .ok (.iload 6, 2) := by decide +kernel
theorem dX3_miss_139 : decode cX3_miss 139 = .ok (.aload_n 0, 1) := by decide +kernel
theorem dX3_miss_140 : decode cX3_miss 140 = .ok (.getfield 23, 3) := by decide +kernel
theorem dX3_miss_143 : decode cX3_miss 143 = .ok (.if_icmp .gt 106, 3) := by decide +kernel
theorem dX3_miss_146 : decode cX3_miss 146 = .ok (.iconst 0, 1) := by decide +kernel
theorem dX3_miss_147 : decode cX3_miss 147 = .ok (.istore 7, 2) := by decide +kernel
theorem dX3_miss_149 : decode cX3_miss 149 = .ok (.iload 7, 2) := by decide +kernel
theorem dX3_miss_151 : decode cX3_miss 151 = .ok (.aload_n 0, 1) := by decide +kernel
theorem dX3_miss_152 : decode cX3_miss 152 = .ok (.getfield 23, 3) := by decide +kernel
theorem dX3_miss_155 : decode cX3_miss 155 = .ok (.if_icmp .gt 88, 3) := by decide +kernel
theorem dX3_miss_158 : decode cX3_miss 158 = .ok (.aload_n 0, 1) := by decide +kernel
theorem dX3_miss_159 : decode cX3_miss 159 = .ok (.aload_n 0, 1) := by decide +kernel
theorem dX3_miss_160 : decode cX3_miss 160 = .ok (.iload_n 1, 1) := by decide +kernel
theorem dX3_miss_161 : decode cX3_miss 161 = .ok (.aload_n 0, 1) := by decide +kernel
theorem dX3_miss_162 : decode cX3_miss 162 = .ok (.getfield 13, 3) := by decide +kernel
theorem dX3_miss_165 : decode cX3_miss 165 = .ok (.iload 6, 2) := by decide +kernel
theorem dX3_miss_167 : decode cX3_miss 167 = .ok (.laload, 1) := by decide +kernel
theorem dX3_miss_168 : decode cX3_miss 168 = .ok (.aload_n 0, 1) := by decide +kernel
theorem dX3_miss_169 : decode cX3_miss 169 = .ok (.getfield 16, 3) := by decide +kernel
theorem dX3_miss_172 : decode cX3_miss 172 = .ok (.iload 7, 2) := by decide +kernel
theorem dX3_miss_174 : decode cX3_miss 174 = .ok (.laload, 1) := by decide +kernel
theorem dX3_miss_175 : decode cX3_miss 175 = .ok (.lconst 0, 1) := by decide +kernel
theorem dX3_miss_176 : decode cX3_miss 176 = .ok (.invokevirtual 73, 3) := by decide +kernel
theorem dX3_miss_179 : decode cX3_miss 179 = .ok (.invokevirtual 61, 3) := by decide +kernel
theorem dX3_miss_182 : decode cX3_miss 182 = .ok (.aload_n 0, 1) := by decide +kernel
theorem dX3_miss_183 : decode cX3_miss 183 = .ok (.getfield 23, 3) := by decide +kernel
theorem dX3_miss_186 : decode cX3_miss 186 = .ok (.imul, 1) := by decide +kernel
theorem dX3_miss_187 : decode cX3_miss 187 = .ok (.aload_n 0, 1) := by decide +kernel
theorem dX3_miss_188 : decode cX3_miss 188 = .ok (.iload_n 1, 1) := by decide +kernel
theorem dX3_miss_189 : decode cX3_miss 189 = .ok (.iload 6, 2) := by decide +kernel
theorem dX3_miss_191 : decode cX3_miss 191 = .ok (.iload 7, 2) := by decide +kernel
theorem dX3_miss_193 : decode cX3_miss 193 = .ok (.invokevirtual 95, 3) := by decide +kernel
theorem dX3_miss_196 : decode cX3_miss 196 = .ok (.isub, 1) := by decide +kernel
theorem dX3_miss_197 : decode cX3_miss 197 = .ok (.istore 8, 2) := by decide +kernel
theorem dX3_miss_199 : decode cX3_miss 199 = .ok (.iload 8, 2) := by decide +kernel
theorem dX3_miss_201 : decode cX3_miss 201 = .ok (.ifCond .ge 9, 3) := by decide +kernel
theorem dX3_miss_204 : decode cX3_miss 204 = .ok (.iload 8, 2) := by decide +kernel
theorem dX3_miss_206 : decode cX3_miss 206 = .ok (.ineg, 1) := by decide +kernel
theorem dX3_miss_207 : decode cX3_miss 207 = .ok (.goto 5, 3) := by decide +kernel
theorem dX3_miss_210 : decode cX3_miss 210 = .ok (.iload 8, 2) := by decide +kernel
theorem dX3_miss_212 : decode cX3_miss 212 = .ok (.istore 8, 2) := by decide +kernel
theorem dX3_miss_214 : decode cX3_miss 214 = .ok (.iload 8, 2) := by decide +kernel
theorem dX3_miss_216 : decode cX3_miss 216 = .ok (.iload 5, 2) := by decide +kernel
theorem dX3_miss_218 : decode cX3_miss 218 = .ok (.if_icmp .le 19, 3) := by decide +kernel
theorem dX3_miss_221 : decode cX3_miss 221 = .ok (.iload 8, 2) := by decide +kernel
theorem dX3_miss_223 : decode cX3_miss 223 = .ok (.istore 5, 2) := by decide +kernel
theorem dX3_miss_225 : decode cX3_miss 225 = .ok (.aload_n 0, 1) := by decide +kernel
theorem dX3_miss_226 : decode cX3_miss 226 = .ok (.iload 6, 2) := by decide +kernel
theorem dX3_miss_228 : decode cX3_miss 228 = .ok (.putfield 98, 3) := by decide +kernel
theorem dX3_miss_231 : decode cX3_miss 231 = .ok (.aload_n 0, 1) := by decide +kernel
theorem dX3_miss_232 : decode cX3_miss 232 = .ok (.iload 7, 2) := by decide +kernel
theorem dX3_miss_234 : decode cX3_miss 234 = .ok (.putfield 101, 3) := by decide +kernel
theorem dX3_miss_237 : decode cX3_miss 237 = .ok (.iinc 7 1, 3) := by decide +kernel
theorem dX3_miss_240 : decode cX3_miss 240 = .ok (.goto (-91), 3) := by decide +kernel
theorem dX3_miss_243 : decode cX3_miss 243 = .ok (.iinc 6 1, 3) := by decide +kernel
theorem dX3_miss_246 : decode cX3_miss 246 = .ok (.goto (-109), 3) := by decide +kernel
theorem dX3_miss_249 : decode cX3_miss 249 = .ok (.iload 5, 2) := by decide +kernel
theorem dX3_miss_251 : decode cX3_miss 251 = .ok (.ireturn, 1) := by decide +kernel
theorem dX3_where_0 : decode cX3_where 0 = .ok (.aload_n 0, 1) := by decide +kernel
theorem dX3_where_1 : decode cX3_where 1 = .ok (.getfield 92, 3) := by decide +kernel
theorem dX3_where_4 : decode cX3_where 4 = .ok (.ifCond .ne 6, 3) := by decide +kernel
theorem dX3_where_7 : decode cX3_where 7 = .ok (.bipush (-103), 2) := by decide +kernel
theorem dX3_where_9 : decode cX3_where 9 = .ok (.ireturn, 1) := by decide +kernel
theorem dX3_where_10 : decode cX3_where 10 = .ok (.iload_n 1, 1) := by decide +kernel
theorem dX3_where_11 : decode cX3_where 11 = .ok (.ifCond .ne 10, 3) := by decide +kernel
theorem dX3_where_14 : decode cX3_where 14 = .ok (.aload_n 0, 1) := by decide +kernel
theorem dX3_where_15 : decode cX3_where 15 = .ok (.getfield 98, 3) := by decide +kernel
theorem dX3_where_18 : decode cX3_where 18 = .ok (.goto 17, 3) := by decide +kernel
theorem dX3_where_21 : decode cX3_where 21 = .ok (.iload_n 1, 1) := by decide +kernel
theorem dX3_where_22 : decode cX3_where 22 = .ok (.iconst 1, 1) := by decide +kernel
theorem dX3_where_23 : decode cX3_where 23 = .ok (.if_icmp .ne 10, 3) := by decide +kernel
theorem dX3_where_26 : decode cX3_where 26 = .ok (.aload_n 0, 1) := by decide +kernel
theorem dX3_where_27 : decode cX3_where 27 = .ok (.getfield 101, 3) := by decide +kernel
theorem dX3_where_30 : decode cX3_where 30 = .ok (.goto 5, 3) := by decide +kernel
theorem dX3_where_33 : decode cX3_where 33 = .ok (.bipush (-102), 2) := by decide +kernel
theorem dX3_where_35 : decode cX3_where 35 = .ok (.ireturn, 1) := by decide +kernel
set_option maxRecDepth 20000 in
theorem ggX3_isMachine_X3_in : GoodIn wsX3_isMachine wsX3_in := goodIn_r _ [6] (by decide +kernel) (by decide +kernel)
set_option maxRecDepth 20000 in
theorem gX3_isMachine_X3_in : GoodIn wsX3_isMachine (va_wsS RX3 35 yX3_in wsX3_in) := goodIn_app (goodIn_of _ (by decide +kernel)) ggX3_isMachine_X3_in
theorem dX3_isMachine_0 : decode cX3_isMachine 0 = .ok (.iload_n 0, 1) := by decide +kernel
theorem dX3_isMachine_1 : decode cX3_isMachine 1 = .ok (.i2l, 1) := by decide +kernel
theorem dX3_isMachine_2 : decode cX3_isMachine 2 = .ok (.ldc2_w 104, 3) := by decide +kernel
theorem dX3_isMachine_5 : decode cX3_isMachine 5 = .ok (.ldc2_w 106, 3) := by decide +kernel
theorem dX3_isMachine_8 : decode cX3_isMachine 8 = .ok (.invokestatic 35, 3) := by decide +kernel
theorem dX3_isMachine_11 : decode cX3_isMachine 11 = .ok (.ifCond .eq 13, 3) := by decide +kernel
theorem dX3_isMachine_14 : decode cX3_isMachine 14 = .ok (.iload_n 0, 1) := by decide +kernel
theorem dX3_isMachine_15 : decode cX3_isMachine 15 = .ok (.iconst 2, 1) := by decide +kernel
theorem dX3_isMachine_16 : decode cX3_isMachine 16 = .ok (.irem, 1) := by decide +kernel
theorem dX3_isMachine_17 : decode cX3_isMachine 17 = .ok (.ifCond .ne 7, 3) := by decide +kernel
theorem dX3_isMachine_20 : decode cX3_isMachine 20 = .ok (.iconst 1, 1) := by decide +kernel
theorem dX3_isMachine_21 : decode cX3_isMachine 21 = .ok (.goto 4, 3) := by decide +kernel
theorem dX3_isMachine_24 : decode cX3_isMachine 24 = .ok (.iconst 0, 1) := by decide +kernel
theorem dX3_isMachine_25 : decode cX3_isMachine 25 = .ok (.ireturn, 1) := by decide +kernel
set_option maxRecDepth 20000 in
theorem ggX3_machine_X3_isStream : GoodIn wsX3_machine wsX3_isStream := goodIn_r _ [7, 8, 9, 10, 6, 11] (by decide +kernel) (by decide +kernel)
set_option maxRecDepth 20000 in
theorem gX3_machine_X3_isStream : GoodIn wsX3_machine (va_wsS RX3 49 yX3_isStream wsX3_isStream) := goodIn_app (goodIn_of _ (by decide +kernel)) ggX3_machine_X3_isStream
set_option maxRecDepth 20000 in
theorem ggX3_machine_X3_isMachine : GoodIn wsX3_machine wsX3_isMachine := goodIn_r _ [14, 15, 16, 9, 10, 6, 11] (by decide +kernel) (by decide +kernel)
set_option maxRecDepth 20000 in
theorem gX3_machine_X3_isMachine : GoodIn wsX3_machine (va_wsS RX3 108 yX3_isMachine wsX3_isMachine) := goodIn_app (goodIn_of _ (by decide +kernel)) ggX3_machine_X3_isMachine
set_option maxRecDepth 20000 in
theorem ggX3_machine_X3_bitOf : GoodIn wsX3_machine wsX3_bitOf := goodIn_r _ [20] (by decide +kernel) (by decide +kernel)
set_option maxRecDepth 20000 in
theorem gX3_machine_X3_bitOf : GoodIn wsX3_machine (wsV RX3 39 RX3 yX3_bitOf wsX3_bitOf) := goodIn_app (goodIn_of _ (by decide +kernel)) ggX3_machine_X3_bitOf
set_option maxRecDepth 20000 in
theorem ggX3_machine_X3_onesOf : GoodIn wsX3_machine wsX3_onesOf := goodIn_r _ [24, 1, 17, 18, 19, 6, 20, 25, 26, 27, 28, 29, 30, 31, 32, 33, 34, 35, 36, 37] (by decide +kernel) (by decide +kernel)
set_option maxRecDepth 20000 in
theorem gX3_machine_X3_onesOf : GoodIn wsX3_machine (wsV RX3 61 RX3 yX3_onesOf wsX3_onesOf) := goodIn_app (goodIn_of _ (by decide +kernel)) ggX3_machine_X3_onesOf
theorem dX3_machine_0 : decode cX3_machine 0 = .ok (.iload_n 1, 1) := by decide +kernel
theorem dX3_machine_1 : decode cX3_machine 1 = .ok (.invokestatic 49, 3) := by decide +kernel
theorem dX3_machine_4 : decode cX3_machine 4 = .ok (.ifCond .eq 10, 3) := by decide +kernel
theorem dX3_machine_7 : decode cX3_machine 7 = .ok (.iload_n 3, 1) := by decide +kernel
theorem dX3_machine_8 : decode cX3_machine 8 = .ok (.invokestatic 49, 3) := by decide +kernel
theorem dX3_machine_11 : decode cX3_machine 11 = .ok (.ifCond .ne 6, 3) := by decide +kernel
theorem dX3_machine_14 : decode cX3_machine 14 = .ok (.bipush (-101), 2) := by decide +kernel
theorem dX3_machine_16 : decode cX3_machine 16 = .ok (.ireturn, 1) := by decide +kernel
theorem dX3_machine_17 : decode cX3_machine 17 = .ok (.iload_n 2, 1) := by decide +kernel
theorem dX3_machine_18 : decode cX3_machine 18 = .ok (.invokestatic 108, 3) := by decide +kernel
theorem dX3_machine_21 : decode cX3_machine 21 = .ok (.ifCond .ne 6, 3) := by decide +kernel
theorem dX3_machine_24 : decode cX3_machine 24 = .ok (.bipush (-102), 2) := by decide +kernel
theorem dX3_machine_26 : decode cX3_machine 26 = .ok (.ireturn, 1) := by decide +kernel
theorem dX3_machine_27 : decode cX3_machine 27 = .ok (.iload_n 2, 1) := by decide +kernel
theorem dX3_machine_28 : decode cX3_machine 28 = .ok (.iconst 2, 1) := by decide +kernel
theorem dX3_machine_29 : decode cX3_machine 29 = .ok (.idiv, 1) := by decide +kernel
theorem dX3_machine_30 : decode cX3_machine 30 = .ok (.iconst 1, 1) := by decide +kernel
theorem dX3_machine_31 : decode cX3_machine 31 = .ok (.isub, 1) := by decide +kernel
theorem dX3_machine_32 : decode cX3_machine 32 = .ok (.istore 4, 2) := by decide +kernel
theorem dX3_machine_34 : decode cX3_machine 34 = .ok (.lconst 0, 1) := by decide +kernel
theorem dX3_machine_35 : decode cX3_machine 35 = .ok (.lstore 5, 2) := by decide +kernel
theorem dX3_machine_37 : decode cX3_machine 37 = .ok (.iconst 0, 1) := by decide +kernel
theorem dX3_machine_38 : decode cX3_machine 38 = .ok (.istore 7, 2) := by decide +kernel
theorem dX3_machine_40 : decode cX3_machine 40 = .ok (.iload 7, 2) := by decide +kernel
theorem dX3_machine_42 : decode cX3_machine 42 = .ok (.aload_n 0, 1) := by decide +kernel
theorem dX3_machine_43 : decode cX3_machine 43 = .ok (.getfield 23, 3) := by decide +kernel
theorem dX3_machine_46 : decode cX3_machine 46 = .ok (.if_icmp .ge 82, 3) := by decide +kernel
theorem dX3_machine_49 : decode cX3_machine 49 = .ok (.aload_n 0, 1) := by decide +kernel
theorem dX3_machine_50 : decode cX3_machine 50 = .ok (.aload_n 0, 1) := by decide +kernel
theorem dX3_machine_51 : decode cX3_machine 51 = .ok (.getfield 7, 3) := by decide +kernel
theorem dX3_machine_54 : decode cX3_machine 54 = .ok (.iload_n 1, 1) := by decide +kernel
theorem dX3_machine_55 : decode cX3_machine 55 = .ok (.laload, 1) := by decide +kernel
theorem dX3_machine_56 : decode cX3_machine 56 = .ok (.iload 7, 2) := by decide +kernel
theorem dX3_machine_58 : decode cX3_machine 58 = .ok (.invokevirtual 39, 3) := by decide +kernel
theorem dX3_machine_61 : decode cX3_machine 61 = .ok (.iconst 1, 1) := by decide +kernel
theorem dX3_machine_62 : decode cX3_machine 62 = .ok (.if_icmp .ne 24, 3) := by decide +kernel
theorem dX3_machine_65 : decode cX3_machine 65 = .ok (.iload 4, 2) := by decide +kernel
theorem dX3_machine_67 : decode cX3_machine 67 = .ok (.iload 4, 2) := by decide +kernel
theorem dX3_machine_69 : decode cX3_machine 69 = .ok (.iload_n 2, 1) := by decide +kernel
theorem dX3_machine_70 : decode cX3_machine 70 = .ok (.iconst 1, 1) := by decide +kernel
theorem dX3_machine_71 : decode cX3_machine 71 = .ok (.isub, 1) := by decide +kernel
theorem dX3_machine_72 : decode cX3_machine 72 = .ok (.if_icmp .ge 7, 3) := by decide +kernel
theorem dX3_machine_75 : decode cX3_machine 75 = .ok (.iconst 1, 1) := by decide +kernel
theorem dX3_machine_76 : decode cX3_machine 76 = .ok (.goto 4, 3) := by decide +kernel
theorem dX3_machine_79 : decode cX3_machine 79 = .ok (.iconst 0, 1) := by decide +kernel
theorem dX3_machine_80 : decode cX3_machine 80 = .ok (.iadd, 1) := by decide +kernel
theorem dX3_machine_81 : decode cX3_machine 81 = .ok (.istore 4, 2) := by decide +kernel
theorem dX3_machine_83 : decode cX3_machine 83 = .ok (.goto 18, 3) := by decide +kernel
theorem dX3_machine_86 : decode cX3_machine 86 = .ok (.iload 4, 2) := by decide +kernel
theorem dX3_machine_88 : decode cX3_machine 88 = .ok (.iload 4, 2) := by decide +kernel
theorem dX3_machine_90 : decode cX3_machine 90 = .ok (.ifCond .le 7, 3) := by decide +kernel
theorem dX3_machine_93 : decode cX3_machine 93 = .ok (.iconst 1, 1) := by decide +kernel
theorem dX3_machine_94 : decode cX3_machine 94 = .ok (.goto 4, 3) := by decide +kernel
theorem dX3_machine_97 : decode cX3_machine 97 = .ok (.iconst 0, 1) := by decide +kernel
theorem dX3_machine_98 : decode cX3_machine 98 = .ok (.isub, 1) := by decide +kernel
theorem dX3_machine_99 : decode cX3_machine 99 = .ok (.istore 4, 2) := by decide +kernel
theorem dX3_machine_101 : decode cX3_machine 101 = .ok (.lload 5, 2) := by decide +kernel
theorem dX3_machine_103 : decode cX3_machine 103 = .ok (.iload 4, 2) := by decide +kernel
theorem dX3_machine_105 : decode cX3_machine 105 = .ok (.iload_n 2, 1) := by decide +kernel
theorem dX3_machine_106 : decode cX3_machine 106 = .ok (.iconst 2, 1) := by decide +kernel
theorem dX3_machine_107 : decode cX3_machine 107 = .ok (.idiv, 1) := by decide +kernel
theorem dX3_machine_108 : decode cX3_machine 108 = .ok (.if_icmp .lt 10, 3) := by decide +kernel
theorem dX3_machine_111 : decode cX3_machine 111 = .ok (.lconst 1, 1) := by decide +kernel
theorem dX3_machine_112 : decode cX3_machine 112 = .ok (.iload 7, 2) := by decide +kernel
theorem dX3_machine_114 : decode cX3_machine 114 = .ok (.lshl, 1) := by decide +kernel
theorem dX3_machine_115 : decode cX3_machine 115 = .ok (.goto 4, 3) := by decide +kernel
theorem dX3_machine_118 : decode cX3_machine 118 = .ok (.lconst 0, 1) := by decide +kernel
theorem dX3_machine_119 : decode cX3_machine 119 = .ok (.lor, 1) := by decide +kernel
theorem dX3_machine_120 : decode cX3_machine 120 = .ok (.lstore 5, 2) := by decide +kernel
theorem dX3_machine_122 : decode cX3_machine 122 = .ok (.iinc 7 1, 3) := by decide +kernel
theorem dX3_machine_125 : decode cX3_machine 125 = .ok (.goto (-85), 3) := by decide +kernel
theorem dX3_machine_128 : decode cX3_machine 128 = .ok (.aload_n 0, 1) := by decide +kernel
theorem dX3_machine_129 : decode cX3_machine 129 = .ok (.getfield 7, 3) := by decide +kernel
theorem dX3_machine_132 : decode cX3_machine 132 = .ok (.iload_n 3, 1) := by decide +kernel
theorem dX3_machine_133 : decode cX3_machine 133 = .ok (.lload 5, 2) := by decide +kernel
theorem dX3_machine_135 : decode cX3_machine 135 = .ok (.lastore, 1) := by decide +kernel
theorem dX3_machine_136 : decode cX3_machine 136 = .ok (.aload_n 0, 1) := by decide +kernel
theorem dX3_machine_137 : decode cX3_machine 137 = .ok (.iload 4, 2) := by decide +kernel
theorem dX3_machine_139 : decode cX3_machine 139 = .ok (.putfield 27, 3) := by decide +kernel
theorem dX3_machine_142 : decode cX3_machine 142 = .ok (.aload_n 0, 1) := by decide +kernel
theorem dX3_machine_143 : decode cX3_machine 143 = .ok (.lload 5, 2) := by decide +kernel
theorem dX3_machine_145 : decode cX3_machine 145 = .ok (.invokevirtual 61, 3) := by decide +kernel
theorem dX3_machine_148 : decode cX3_machine 148 = .ok (.ireturn, 1) := by decide +kernel
theorem dX3_state_0 : decode cX3_state 0 = .ok (.aload_n 0, 1) := by decide +kernel
theorem dX3_state_1 : decode cX3_state 1 = .ok (.getfield 27, 3) := by decide +kernel
theorem dX3_state_4 : decode cX3_state 4 = .ok (.ireturn, 1) := by decide +kernel
theorem dX3_power_0 : decode cX3_power 0 = .ok (.lconst 1, 1) := by decide +kernel
theorem dX3_power_1 : decode cX3_power 1 = .ok (.lstore_n 3, 1) := by decide +kernel
theorem dX3_power_2 : decode cX3_power 2 = .ok (.iconst 0, 1) := by decide +kernel
theorem dX3_power_3 : decode cX3_power 3 = .ok (.istore 5, 2) := by decide +kernel
theorem dX3_power_5 : decode cX3_power 5 = .ok (.iload 5, 2) := by decide +kernel
theorem dX3_power_7 : decode cX3_power 7 = .ok (.iload_n 2, 1) := by decide +kernel
theorem dX3_power_8 : decode cX3_power 8 = .ok (.if_icmp .ge 13, 3) := by decide +kernel
theorem dX3_power_11 : decode cX3_power 11 = .ok (.lload_n 3, 1) := by decide +kernel
theorem dX3_power_12 : decode cX3_power 12 = .ok (.lload_n 0, 1) := by decide +kernel
theorem dX3_power_13 : decode cX3_power 13 = .ok (.lmul, 1) := by decide +kernel
theorem dX3_power_14 : decode cX3_power 14 = .ok (.lstore_n 3, 1) := by decide +kernel
theorem dX3_power_15 : decode cX3_power 15 = .ok (.iinc 5 1, 3) := by decide +kernel
theorem dX3_power_18 : decode cX3_power 18 = .ok (.goto (-13), 3) := by decide +kernel
theorem dX3_power_21 : decode cX3_power 21 = .ok (.lload_n 3, 1) := by decide +kernel
theorem dX3_power_22 : decode cX3_power 22 = .ok (.lreturn, 1) := by decide +kernel
theorem dX3_common_0 : decode cX3_common 0 = .ok (.lload_n 0, 1) := by decide +kernel
theorem dX3_common_1 : decode cX3_common 1 = .ok (.lconst 0, 1) := by decide +kernel
theorem dX3_common_2 : decode cX3_common 2 = .ok (.lcmp, 1) := by decide +kernel
theorem dX3_common_3 : decode cX3_common 3 = .ok (.ifCond .ge 8, 3) := by decide +kernel
theorem dX3_common_6 : decode cX3_common 6 = .ok (.lload_n 0, 1) := by decide +kernel
theorem dX3_common_7 : decode cX3_common 7 = .ok (.lneg, 1) := by decide +kernel
theorem dX3_common_8 : decode cX3_common 8 = .ok (.goto 4, 3) := by decide +kernel
theorem dX3_common_11 : decode cX3_common 11 = .ok (.lload_n 0, 1) := by decide +kernel
theorem dX3_common_12 : decode cX3_common 12 = .ok (.lstore 4, 2) := by decide +kernel
theorem dX3_common_14 : decode cX3_common 14 = .ok (.lload_n 2, 1) := by decide +kernel
theorem dX3_common_15 : decode cX3_common 15 = .ok (.lstore 6, 2) := by decide +kernel
theorem dX3_common_17 : decode cX3_common 17 = .ok (.lload 4, 2) := by decide +kernel
theorem dX3_common_19 : decode cX3_common 19 = .ok (.lconst 0, 1) := by decide +kernel
theorem dX3_common_20 : decode cX3_common 20 = .ok (.lcmp, 1) := by decide +kernel
theorem dX3_common_21 : decode cX3_common 21 = .ok (.ifCond .le 21, 3) := by decide +kernel
theorem dX3_common_24 : decode cX3_common 24 = .ok (.lload 6, 2) := by decide +kernel
theorem dX3_common_26 : decode cX3_common 26 = .ok (.lload 4, 2) := by decide +kernel
theorem dX3_common_28 : decode cX3_common 28 = .ok (.lrem, 1) := by decide +kernel
theorem dX3_common_29 : decode cX3_common 29 = .ok (.lstore 8, 2) := by decide +kernel
theorem dX3_common_31 : decode cX3_common 31 = .ok (.lload 4, 2) := by decide +kernel
theorem dX3_common_33 : decode cX3_common 33 = .ok (.lstore 6, 2) := by decide +kernel
theorem dX3_common_35 : decode cX3_common 35 = .ok (.lload 8, 2) := by decide +kernel
theorem dX3_common_37 : decode cX3_common 37 = .ok (.lstore 4, 2) := by decide +kernel
theorem dX3_common_39 : decode cX3_common 39 = .ok (.goto (-22), 3) := by decide +kernel
theorem dX3_common_42 : decode cX3_common 42 = .ok (.lload 6, 2) := by decide +kernel
theorem dX3_common_44 : decode cX3_common 44 = .ok (.lreturn, 1) := by decide +kernel
set_option maxRecDepth 20000 in
theorem ggX3_ever_X3_isMachine : GoodIn wsX3_ever wsX3_isMachine := goodIn_r _ [6, 7, 8, 9, 10, 5, 11] (by decide +kernel) (by decide +kernel)
set_option maxRecDepth 20000 in
theorem gX3_ever_X3_isMachine : GoodIn wsX3_ever (va_wsS RX3 108 yX3_isMachine wsX3_isMachine) := goodIn_app (goodIn_of _ (by decide +kernel)) ggX3_ever_X3_isMachine
set_option maxRecDepth 20000 in
theorem ggX3_ever_X3_in : GoodIn wsX3_ever wsX3_in := goodIn_r _ [11] (by decide +kernel) (by decide +kernel)
set_option maxRecDepth 20000 in
theorem gX3_ever_X3_in : GoodIn wsX3_ever (va_wsS RX3 35 yX3_in wsX3_in) := goodIn_app (goodIn_of _ (by decide +kernel)) ggX3_ever_X3_in
set_option maxRecDepth 20000 in
theorem ggX3_ever_X3_power : GoodIn wsX3_ever wsX3_power := goodIn_r _ [14] (by decide +kernel) (by decide +kernel)
set_option maxRecDepth 20000 in
theorem gX3_ever_X3_power : GoodIn wsX3_ever (va_wsS RX3 113 yX3_power wsX3_power) := goodIn_app (goodIn_of _ (by decide +kernel)) ggX3_ever_X3_power
set_option maxRecDepth 20000 in
theorem ggX3_ever_X3_common : GoodIn wsX3_ever wsX3_common := goodIn_r _ [17] (by decide +kernel) (by decide +kernel)
set_option maxRecDepth 20000 in
theorem gX3_ever_X3_common : GoodIn wsX3_ever (va_wsS RX3 116 yX3_common wsX3_common) := goodIn_app (goodIn_of _ (by decide +kernel)) ggX3_ever_X3_common
theorem dX3_ever_0 : decode cX3_ever 0 = .ok (.iload_n 1, 1) := by decide +kernel
theorem dX3_ever_1 : decode cX3_ever 1 = .ok (.invokestatic 108, 3) := by decide +kernel
theorem dX3_ever_4 : decode cX3_ever 4 = .ok (.ifCond .eq 27, 3) := by decide +kernel
theorem dX3_ever_7 : decode cX3_ever 7 = .ok (.iload_n 2, 1) := by decide +kernel
theorem dX3_ever_8 : decode cX3_ever 8 = .ok (.i2l, 1) := by decide +kernel
theorem dX3_ever_9 : decode cX3_ever 9 = .ok (.lconst 0, 1) := by decide +kernel
theorem dX3_ever_10 : decode cX3_ever 10 = .ok (.aload_n 0, 1) := by decide +kernel
theorem dX3_ever_11 : decode cX3_ever 11 = .ok (.getfield 23, 3) := by decide +kernel
theorem dX3_ever_14 : decode cX3_ever 14 = .ok (.i2l, 1) := by decide +kernel
theorem dX3_ever_15 : decode cX3_ever 15 = .ok (.invokestatic 35, 3) := by decide +kernel
theorem dX3_ever_18 : decode cX3_ever 18 = .ok (.ifCond .eq 13, 3) := by decide +kernel
theorem dX3_ever_21 : decode cX3_ever 21 = .ok (.iload_n 3, 1) := by decide +kernel
theorem dX3_ever_22 : decode cX3_ever 22 = .ok (.i2l, 1) := by decide +kernel
theorem dX3_ever_23 : decode cX3_ever 23 = .ok (.lconst 0, 1) := by decide +kernel
theorem dX3_ever_24 : decode cX3_ever 24 = .ok (.lconst 1, 1) := by decide +kernel
theorem dX3_ever_25 : decode cX3_ever 25 = .ok (.invokestatic 35, 3) := by decide +kernel
theorem dX3_ever_28 : decode cX3_ever 28 = .ok (.ifCond .ne 7, 3) := by decide +kernel
theorem dX3_ever_31 : decode cX3_ever 31 = .ok (.ldc2_w 111, 3) := by decide +kernel
theorem dX3_ever_34 : decode cX3_ever 34 = .ok (.lreturn, 1) := by decide +kernel
theorem dX3_ever_35 : decode cX3_ever 35 = .ok (.lconst 0, 1) := by decide +kernel
theorem dX3_ever_36 : decode cX3_ever 36 = .ok (.lstore 4, 2) := by decide +kernel
theorem dX3_ever_38 : decode cX3_ever 38 = .ok (.lconst 0, 1) := by decide +kernel
theorem dX3_ever_39 : decode cX3_ever 39 = .ok (.lstore 6, 2) := by decide +kernel
theorem dX3_ever_41 : decode cX3_ever 41 = .ok (.iconst 0, 1) := by decide +kernel
theorem dX3_ever_42 : decode cX3_ever 42 = .ok (.istore 8, 2) := by decide +kernel
theorem dX3_ever_44 : decode cX3_ever 44 = .ok (.iload 8, 2) := by decide +kernel
theorem dX3_ever_46 : decode cX3_ever 46 = .ok (.iload_n 1, 1) := by decide +kernel
theorem dX3_ever_47 : decode cX3_ever 47 = .ok (.if_icmp .ge 61, 3) := by decide +kernel
theorem dX3_ever_50 : decode cX3_ever 50 = .ok (.iload_n 2, 1) := by decide +kernel
theorem dX3_ever_51 : decode cX3_ever 51 = .ok (.i2l, 1) := by decide +kernel
theorem dX3_ever_52 : decode cX3_ever 52 = .ok (.iload 8, 2) := by decide +kernel
theorem dX3_ever_54 : decode cX3_ever 54 = .ok (.invokestatic 113, 3) := by decide +kernel
theorem dX3_ever_57 : decode cX3_ever 57 = .ok (.aload_n 0, 1) := by decide +kernel
theorem dX3_ever_58 : decode cX3_ever 58 = .ok (.getfield 23, 3) := by decide +kernel
theorem dX3_ever_61 : decode cX3_ever 61 = .ok (.iload_n 2, 1) := by decide +kernel
theorem dX3_ever_62 : decode cX3_ever 62 = .ok (.isub, 1) := by decide +kernel
theorem dX3_ever_63 : decode cX3_ever 63 = .ok (.i2l, 1) := by decide +kernel
theorem dX3_ever_64 : decode cX3_ever 64 = .ok (.iload_n 1, 1) := by decide +kernel
theorem dX3_ever_65 : decode cX3_ever 65 = .ok (.iconst 1, 1) := by decide +kernel
theorem dX3_ever_66 : decode cX3_ever 66 = .ok (.isub, 1) := by decide +kernel
theorem dX3_ever_67 : decode cX3_ever 67 = .ok (.iload 8, 2) := by decide +kernel
theorem dX3_ever_69 : decode cX3_ever 69 = .ok (.isub, 1) := by decide +kernel
theorem dX3_ever_70 : decode cX3_ever 70 = .ok (.invokestatic 113, 3) := by decide +kernel
theorem dX3_ever_73 : decode cX3_ever 73 = .ok (.lmul, 1) := by decide +kernel
theorem dX3_ever_74 : decode cX3_ever 74 = .ok (.lstore 9, 2) := by decide +kernel
theorem dX3_ever_76 : decode cX3_ever 76 = .ok (.lload 6, 2) := by decide +kernel
theorem dX3_ever_78 : decode cX3_ever 78 = .ok (.lload 9, 2) := by decide +kernel
theorem dX3_ever_80 : decode cX3_ever 80 = .ok (.ladd, 1) := by decide +kernel
theorem dX3_ever_81 : decode cX3_ever 81 = .ok (.lstore 6, 2) := by decide +kernel
theorem dX3_ever_83 : decode cX3_ever 83 = .ok (.lload 4, 2) := by decide +kernel
theorem dX3_ever_85 : decode cX3_ever 85 = .ok (.iload 8, 2) := by decide +kernel
theorem dX3_ever_87 : decode cX3_ever 87 = .ok (.iload_n 1, 1) := by decide +kernel
theorem dX3_ever_88 : decode cX3_ever 88 = .ok (.iconst 2, 1) := by decide +kernel
theorem dX3_ever_89 : decode cX3_ever 89 = .ok (.idiv, 1) := by decide +kernel
theorem dX3_ever_90 : decode cX3_ever 90 = .ok (.if_icmp .lt 8, 3) := by decide +kernel
theorem dX3_ever_93 : decode cX3_ever 93 = .ok (.lload 9, 2) := by decide +kernel
theorem dX3_ever_95 : decode cX3_ever 95 = .ok (.goto 4, 3) := by decide +kernel
theorem dX3_ever_98 : decode cX3_ever 98 = .ok (.lconst 0, 1) := by decide +kernel
theorem dX3_ever_99 : decode cX3_ever 99 = .ok (.ladd, 1) := by decide +kernel
theorem dX3_ever_100 : decode cX3_ever 100 = .ok (.lstore 4, 2) := by decide +kernel
theorem dX3_ever_102 : decode cX3_ever 102 = .ok (.iinc 8 1, 3) := by decide +kernel
theorem dX3_ever_105 : decode cX3_ever 105 = .ok (.goto (-61), 3) := by decide +kernel
theorem dX3_ever_108 : decode cX3_ever 108 = .ok (.lload 4, 2) := by decide +kernel
theorem dX3_ever_110 : decode cX3_ever 110 = .ok (.lload 6, 2) := by decide +kernel
theorem dX3_ever_112 : decode cX3_ever 112 = .ok (.invokestatic 116, 3) := by decide +kernel
theorem dX3_ever_115 : decode cX3_ever 115 = .ok (.lstore 8, 2) := by decide +kernel
theorem dX3_ever_117 : decode cX3_ever 117 = .ok (.iload_n 3, 1) := by decide +kernel
theorem dX3_ever_118 : decode cX3_ever 118 = .ok (.ifCond .ne 11, 3) := by decide +kernel
theorem dX3_ever_121 : decode cX3_ever 121 = .ok (.lload 4, 2) := by decide +kernel
theorem dX3_ever_123 : decode cX3_ever 123 = .ok (.lload 8, 2) := by decide +kernel
theorem dX3_ever_125 : decode cX3_ever 125 = .ok (.ldiv, 1) := by decide +kernel
theorem dX3_ever_126 : decode cX3_ever 126 = .ok (.goto 8, 3) := by decide +kernel
theorem dX3_ever_129 : decode cX3_ever 129 = .ok (.lload 6, 2) := by decide +kernel
theorem dX3_ever_131 : decode cX3_ever 131 = .ok (.lload 8, 2) := by decide +kernel
theorem dX3_ever_133 : decode cX3_ever 133 = .ok (.ldiv, 1) := by decide +kernel
theorem dX3_ever_134 : decode cX3_ever 134 = .ok (.lreturn, 1) := by decide +kernel
set_option maxRecDepth 20000 in
theorem ggX3_degree_X3_in : GoodIn wsX3_degree wsX3_in := goodIn_r _ [9] (by decide +kernel) (by decide +kernel)
set_option maxRecDepth 20000 in
theorem gX3_degree_X3_in : GoodIn wsX3_degree (va_wsS RX3 35 yX3_in wsX3_in) := goodIn_app (goodIn_of _ (by decide +kernel)) ggX3_degree_X3_in
theorem dX3_degree_0 : decode cX3_degree 0 = .ok (.iload_n 1, 1) := by decide +kernel
theorem dX3_degree_1 : decode cX3_degree 1 = .ok (.i2l, 1) := by decide +kernel
theorem dX3_degree_2 : decode cX3_degree 2 = .ok (.lconst 0, 1) := by decide +kernel
theorem dX3_degree_3 : decode cX3_degree 3 = .ok (.ldc2_w 120, 3) := by decide +kernel
theorem dX3_degree_6 : decode cX3_degree 6 = .ok (.invokestatic 35, 3) := by decide +kernel
theorem dX3_degree_9 : decode cX3_degree 9 = .ok (.ifCond .eq 15, 3) := by decide +kernel
theorem dX3_degree_12 : decode cX3_degree 12 = .ok (.iload_n 2, 1) := by decide +kernel
theorem dX3_degree_13 : decode cX3_degree 13 = .ok (.i2l, 1) := by decide +kernel
theorem dX3_degree_14 : decode cX3_degree 14 = .ok (.lconst 1, 1) := by decide +kernel
theorem dX3_degree_15 : decode cX3_degree 15 = .ok (.ldc2_w 122, 3) := by decide +kernel
theorem dX3_degree_18 : decode cX3_degree 18 = .ok (.invokestatic 35, 3) := by decide +kernel
theorem dX3_degree_21 : decode cX3_degree 21 = .ok (.ifCond .ne 6, 3) := by decide +kernel
theorem dX3_degree_24 : decode cX3_degree 24 = .ok (.bipush (-102), 2) := by decide +kernel
theorem dX3_degree_26 : decode cX3_degree 26 = .ok (.ireturn, 1) := by decide +kernel
theorem dX3_degree_27 : decode cX3_degree 27 = .ok (.aload_n 0, 1) := by decide +kernel
theorem dX3_degree_28 : decode cX3_degree 28 = .ok (.iload_n 1, 1) := by decide +kernel
