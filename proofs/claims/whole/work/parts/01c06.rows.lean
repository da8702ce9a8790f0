theorem dX3_degree_29 : decode cX3_degree 29 = .ok (.putfield 124, 3) := by decide +kernel
theorem dX3_degree_32 : decode cX3_degree 32 = .ok (.aload_n 0, 1) := by decide +kernel
theorem dX3_degree_33 : decode cX3_degree 33 = .ok (.iload_n 2, 1) := by decide +kernel
theorem dX3_degree_34 : decode cX3_degree 34 = .ok (.putfield 30, 3) := by decide +kernel
theorem dX3_degree_37 : decode cX3_degree 37 = .ok (.iload_n 1, 1) := by decide +kernel
theorem dX3_degree_38 : decode cX3_degree 38 = .ok (.iconst 1, 1) := by decide +kernel
theorem dX3_degree_39 : decode cX3_degree 39 = .ok (.iadd, 1) := by decide +kernel
theorem dX3_degree_40 : decode cX3_degree 40 = .ok (.istore_n 3, 1) := by decide +kernel
theorem dX3_degree_41 : decode cX3_degree 41 = .ok (.iload_n 3, 1) := by decide +kernel
theorem dX3_degree_42 : decode cX3_degree 42 = .ok (.iconst 5, 1) := by decide +kernel
theorem dX3_degree_43 : decode cX3_degree 43 = .ok (.if_icmp .ge 16, 3) := by decide +kernel
theorem dX3_degree_46 : decode cX3_degree 46 = .ok (.aload_n 0, 1) := by decide +kernel
theorem dX3_degree_47 : decode cX3_degree 47 = .ok (.getfield 19, 3) := by decide +kernel
theorem dX3_degree_50 : decode cX3_degree 50 = .ok (.iload_n 3, 1) := by decide +kernel
theorem dX3_degree_51 : decode cX3_degree 51 = .ok (.iconst 0, 1) := by decide +kernel
theorem dX3_degree_52 : decode cX3_degree 52 = .ok (.iastore, 1) := by decide +kernel
theorem dX3_degree_53 : decode cX3_degree 53 = .ok (.iinc 3 1, 3) := by decide +kernel
theorem dX3_degree_56 : decode cX3_degree 56 = .ok (.goto (-15), 3) := by decide +kernel
theorem dX3_degree_59 : decode cX3_degree 59 = .ok (.iload_n 1, 1) := by decide +kernel
theorem dX3_degree_60 : decode cX3_degree 60 = .ok (.ireturn, 1) := by decide +kernel
set_option maxRecDepth 20000 in
theorem ggX3_term_X3_in : GoodIn wsX3_term wsX3_in := goodIn_r _ [8] (by decide +kernel) (by decide +kernel)
set_option maxRecDepth 20000 in
theorem gX3_term_X3_in : GoodIn wsX3_term (va_wsS RX3 35 yX3_in wsX3_in) := goodIn_app (goodIn_of _ (by decide +kernel)) ggX3_term_X3_in
theorem dX3_term_0 : decode cX3_term 0 = .ok (.iload_n 1, 1) := by decide +kernel
theorem dX3_term_1 : decode cX3_term 1 = .ok (.i2l, 1) := by decide +kernel
theorem dX3_term_2 : decode cX3_term 2 = .ok (.lconst 0, 1) := by decide +kernel
theorem dX3_term_3 : decode cX3_term 3 = .ok (.aload_n 0, 1) := by decide +kernel
theorem dX3_term_4 : decode cX3_term 4 = .ok (.getfield 124, 3) := by decide +kernel
theorem dX3_term_7 : decode cX3_term 7 = .ok (.i2l, 1) := by decide +kernel
theorem dX3_term_8 : decode cX3_term 8 = .ok (.invokestatic 35, 3) := by decide +kernel
theorem dX3_term_11 : decode cX3_term 11 = .ok (.ifCond .ne 6, 3) := by decide +kernel
theorem dX3_term_14 : decode cX3_term 14 = .ok (.bipush (-101), 2) := by decide +kernel
theorem dX3_term_16 : decode cX3_term 16 = .ok (.ireturn, 1) := by decide +kernel
theorem dX3_term_17 : decode cX3_term 17 = .ok (.iload_n 2, 1) := by decide +kernel
theorem dX3_term_18 : decode cX3_term 18 = .ok (.i2l, 1) := by decide +kernel
theorem dX3_term_19 : decode cX3_term 19 = .ok (.ldc2_w 127, 3) := by decide +kernel
theorem dX3_term_22 : decode cX3_term 22 = .ok (.ldc2_w 122, 3) := by decide +kernel
theorem dX3_term_25 : decode cX3_term 25 = .ok (.invokestatic 35, 3) := by decide +kernel
theorem dX3_term_28 : decode cX3_term 28 = .ok (.ifCond .ne 6, 3) := by decide +kernel
theorem dX3_term_31 : decode cX3_term 31 = .ok (.bipush (-102), 2) := by decide +kernel
theorem dX3_term_33 : decode cX3_term 33 = .ok (.ireturn, 1) := by decide +kernel
theorem dX3_term_34 : decode cX3_term 34 = .ok (.aload_n 0, 1) := by decide +kernel
theorem dX3_term_35 : decode cX3_term 35 = .ok (.getfield 19, 3) := by decide +kernel
theorem dX3_term_38 : decode cX3_term 38 = .ok (.iload_n 1, 1) := by decide +kernel
theorem dX3_term_39 : decode cX3_term 39 = .ok (.iaload, 1) := by decide +kernel
theorem dX3_term_40 : decode cX3_term 40 = .ok (.istore_n 3, 1) := by decide +kernel
theorem dX3_term_41 : decode cX3_term 41 = .ok (.aload_n 0, 1) := by decide +kernel
theorem dX3_term_42 : decode cX3_term 42 = .ok (.getfield 19, 3) := by decide +kernel
theorem dX3_term_45 : decode cX3_term 45 = .ok (.iload_n 1, 1) := by decide +kernel
theorem dX3_term_46 : decode cX3_term 46 = .ok (.iload_n 2, 1) := by decide +kernel
theorem dX3_term_47 : decode cX3_term 47 = .ok (.iastore, 1) := by decide +kernel
theorem dX3_term_48 : decode cX3_term 48 = .ok (.iload_n 3, 1) := by decide +kernel
theorem dX3_term_49 : decode cX3_term 49 = .ok (.ireturn, 1) := by decide +kernel
theorem dX3_chosen_0 : decode cX3_chosen 0 = .ok (.lconst 1, 1) := by decide +kernel
theorem dX3_chosen_1 : decode cX3_chosen 1 = .ok (.lstore_n 2, 1) := by decide +kernel
theorem dX3_chosen_2 : decode cX3_chosen 2 = .ok (.iconst 0, 1) := by decide +kernel
theorem dX3_chosen_3 : decode cX3_chosen 3 = .ok (.istore 4, 2) := by decide +kernel
theorem dX3_chosen_5 : decode cX3_chosen 5 = .ok (.iload 4, 2) := by decide +kernel
theorem dX3_chosen_7 : decode cX3_chosen 7 = .ok (.iload_n 1, 1) := by decide +kernel
theorem dX3_chosen_8 : decode cX3_chosen 8 = .ok (.if_icmp .ge 23, 3) := by decide +kernel
theorem dX3_chosen_11 : decode cX3_chosen 11 = .ok (.lload_n 2, 1) := by decide +kernel
theorem dX3_chosen_12 : decode cX3_chosen 12 = .ok (.iload_n 0, 1) := by decide +kernel
theorem dX3_chosen_13 : decode cX3_chosen 13 = .ok (.iload 4, 2) := by decide +kernel
theorem dX3_chosen_15 : decode cX3_chosen 15 = .ok (.isub, 1) := by decide +kernel
theorem dX3_chosen_16 : decode cX3_chosen 16 = .ok (.i2l, 1) := by decide +kernel
theorem dX3_chosen_17 : decode cX3_chosen 17 = .ok (.lmul, 1) := by decide +kernel
theorem dX3_chosen_18 : decode cX3_chosen 18 = .ok (.iload 4, 2) := by decide +kernel
theorem dX3_chosen_20 : decode cX3_chosen 20 = .ok (.iconst 1, 1) := by decide +kernel
theorem dX3_chosen_21 : decode cX3_chosen 21 = .ok (.iadd, 1) := by decide +kernel
theorem dX3_chosen_22 : decode cX3_chosen 22 = .ok (.i2l, 1) := by decide +kernel
theorem dX3_chosen_23 : decode cX3_chosen 23 = .ok (.ldiv, 1) := by decide +kernel
theorem dX3_chosen_24 : decode cX3_chosen 24 = .ok (.lstore_n 2, 1) := by decide +kernel
theorem dX3_chosen_25 : decode cX3_chosen 25 = .ok (.iinc 4 1, 3) := by decide +kernel
theorem dX3_chosen_28 : decode cX3_chosen 28 = .ok (.goto (-23), 3) := by decide +kernel
theorem dX3_chosen_31 : decode cX3_chosen 31 = .ok (.lload_n 2, 1) := by decide +kernel
theorem dX3_chosen_32 : decode cX3_chosen 32 = .ok (.lreturn, 1) := by decide +kernel
set_option maxRecDepth 20000 in
theorem ggX3_findPart_X3_chosen : GoodIn wsX3_findPart wsX3_chosen := goodIn_r _ [9] (by decide +kernel) (by decide +kernel)
set_option maxRecDepth 20000 in
theorem gX3_findPart_X3_chosen : GoodIn wsX3_findPart (va_wsS RX3 129 yX3_chosen wsX3_chosen) := goodIn_app (goodIn_of _ (by decide +kernel)) ggX3_findPart_X3_chosen
set_option maxRecDepth 20000 in
theorem ggX3_findPart_X3_common : GoodIn wsX3_findPart wsX3_common := goodIn_r _ [12] (by decide +kernel) (by decide +kernel)
set_option maxRecDepth 20000 in
theorem gX3_findPart_X3_common : GoodIn wsX3_findPart (va_wsS RX3 116 yX3_common wsX3_common) := goodIn_app (goodIn_of _ (by decide +kernel)) ggX3_findPart_X3_common
theorem dX3_findPart_0 : decode cX3_findPart 0 = .ok (.lconst 1, 1) := by decide +kernel
theorem dX3_findPart_1 : decode cX3_findPart 1 = .ok (.lstore_n 3, 1) := by decide +kernel
theorem dX3_findPart_2 : decode cX3_findPart 2 = .ok (.iconst 0, 1) := by decide +kernel
theorem dX3_findPart_3 : decode cX3_findPart 3 = .ok (.istore 5, 2) := by decide +kernel
theorem dX3_findPart_5 : decode cX3_findPart 5 = .ok (.iload 5, 2) := by decide +kernel
theorem dX3_findPart_7 : decode cX3_findPart 7 = .ok (.aload_n 0, 1) := by decide +kernel
theorem dX3_findPart_8 : decode cX3_findPart 8 = .ok (.getfield 124, 3) := by decide +kernel
theorem dX3_findPart_11 : decode cX3_findPart 11 = .ok (.if_icmp .gt 18, 3) := by decide +kernel
theorem dX3_findPart_14 : decode cX3_findPart 14 = .ok (.lload_n 3, 1) := by decide +kernel
theorem dX3_findPart_15 : decode cX3_findPart 15 = .ok (.iload_n 1, 1) := by decide +kernel
theorem dX3_findPart_16 : decode cX3_findPart 16 = .ok (.iload 5, 2) := by decide +kernel
theorem dX3_findPart_18 : decode cX3_findPart 18 = .ok (.invokestatic 129, 3) := by decide +kernel
theorem dX3_findPart_21 : decode cX3_findPart 21 = .ok (.lmul, 1) := by decide +kernel
theorem dX3_findPart_22 : decode cX3_findPart 22 = .ok (.lstore_n 3, 1) := by decide +kernel
theorem dX3_findPart_23 : decode cX3_findPart 23 = .ok (.iinc 5 1, 3) := by decide +kernel
theorem dX3_findPart_26 : decode cX3_findPart 26 = .ok (.goto (-21), 3) := by decide +kernel
theorem dX3_findPart_29 : decode cX3_findPart 29 = .ok (.lconst 0, 1) := by decide +kernel
theorem dX3_findPart_30 : decode cX3_findPart 30 = .ok (.lstore 5, 2) := by decide +kernel
theorem dX3_findPart_32 : decode cX3_findPart 32 = .ok (.iconst 0, 1) := by decide +kernel
theorem dX3_findPart_33 : decode cX3_findPart 33 = .ok (.istore 7, 2) := by decide +kernel
theorem dX3_findPart_35 : decode cX3_findPart 35 = .ok (.iload 7, 2) := by decide +kernel
theorem dX3_findPart_37 : decode cX3_findPart 37 = .ok (.aload_n 0, 1) := by decide +kernel
theorem dX3_findPart_38 : decode cX3_findPart 38 = .ok (.getfield 124, 3) := by decide +kernel
theorem dX3_findPart_41 : decode cX3_findPart 41 = .ok (.if_icmp .gt 44, 3) := by decide +kernel
theorem dX3_findPart_44 : decode cX3_findPart 44 = .ok (.iload 7, 2) := by decide +kernel
theorem dX3_findPart_46 : decode cX3_findPart 46 = .ok (.iload_n 2, 1) := by decide +kernel
theorem dX3_findPart_47 : decode cX3_findPart 47 = .ok (.if_icmp .gt 38, 3) := by decide +kernel
theorem dX3_findPart_50 : decode cX3_findPart 50 = .ok (.lload 5, 2) := by decide +kernel
theorem dX3_findPart_52 : decode cX3_findPart 52 = .ok (.iload_n 2, 1) := by decide +kernel
theorem dX3_findPart_53 : decode cX3_findPart 53 = .ok (.iload 7, 2) := by decide +kernel
theorem dX3_findPart_55 : decode cX3_findPart 55 = .ok (.invokestatic 129, 3) := by decide +kernel
theorem dX3_findPart_58 : decode cX3_findPart 58 = .ok (.aload_n 0, 1) := by decide +kernel
theorem dX3_findPart_59 : decode cX3_findPart 59 = .ok (.getfield 19, 3) := by decide +kernel
theorem dX3_findPart_62 : decode cX3_findPart 62 = .ok (.iload 7, 2) := by decide +kernel
theorem dX3_findPart_64 : decode cX3_findPart 64 = .ok (.iaload, 1) := by decide +kernel
theorem dX3_findPart_65 : decode cX3_findPart 65 = .ok (.i2l, 1) := by decide +kernel
theorem dX3_findPart_66 : decode cX3_findPart 66 = .ok (.lmul, 1) := by decide +kernel
theorem dX3_findPart_67 : decode cX3_findPart 67 = .ok (.lload_n 3, 1) := by decide +kernel
theorem dX3_findPart_68 : decode cX3_findPart 68 = .ok (.iload_n 1, 1) := by decide +kernel
theorem dX3_findPart_69 : decode cX3_findPart 69 = .ok (.iload 7, 2) := by decide +kernel
theorem dX3_findPart_71 : decode cX3_findPart 71 = .ok (.invokestatic 129, 3) := by decide +kernel
theorem dX3_findPart_74 : decode cX3_findPart 74 = .ok (.ldiv, 1) := by decide +kernel
theorem dX3_findPart_75 : decode cX3_findPart 75 = .ok (.lmul, 1) := by decide +kernel
theorem dX3_findPart_76 : decode cX3_findPart 76 = .ok (.ladd, 1) := by decide +kernel
theorem dX3_findPart_77 : decode cX3_findPart 77 = .ok (.lstore 5, 2) := by decide +kernel
theorem dX3_findPart_79 : decode cX3_findPart 79 = .ok (.iinc 7 1, 3) := by decide +kernel
theorem dX3_findPart_82 : decode cX3_findPart 82 = .ok (.goto (-47), 3) := by decide +kernel
theorem dX3_findPart_85 : decode cX3_findPart 85 = .ok (.lload_n 3, 1) := by decide +kernel
theorem dX3_findPart_86 : decode cX3_findPart 86 = .ok (.aload_n 0, 1) := by decide +kernel
theorem dX3_findPart_87 : decode cX3_findPart 87 = .ok (.getfield 30, 3) := by decide +kernel
theorem dX3_findPart_90 : decode cX3_findPart 90 = .ok (.i2l, 1) := by decide +kernel
theorem dX3_findPart_91 : decode cX3_findPart 91 = .ok (.lmul, 1) := by decide +kernel
theorem dX3_findPart_92 : decode cX3_findPart 92 = .ok (.lstore_n 3, 1) := by decide +kernel
theorem dX3_findPart_93 : decode cX3_findPart 93 = .ok (.lload 5, 2) := by decide +kernel
theorem dX3_findPart_95 : decode cX3_findPart 95 = .ok (.lload_n 3, 1) := by decide +kernel
theorem dX3_findPart_96 : decode cX3_findPart 96 = .ok (.invokestatic 116, 3) := by decide +kernel
theorem dX3_findPart_99 : decode cX3_findPart 99 = .ok (.lstore 7, 2) := by decide +kernel
theorem dX3_findPart_101 : decode cX3_findPart 101 = .ok (.aload_n 0, 1) := by decide +kernel
theorem dX3_findPart_102 : decode cX3_findPart 102 = .ok (.lload 5, 2) := by decide +kernel
theorem dX3_findPart_104 : decode cX3_findPart 104 = .ok (.lload 7, 2) := by decide +kernel
theorem dX3_findPart_106 : decode cX3_findPart 106 = .ok (.ldiv, 1) := by decide +kernel
theorem dX3_findPart_107 : decode cX3_findPart 107 = .ok (.putfield 132, 3) := by decide +kernel
theorem dX3_findPart_110 : decode cX3_findPart 110 = .ok (.aload_n 0, 1) := by decide +kernel
theorem dX3_findPart_111 : decode cX3_findPart 111 = .ok (.lload_n 3, 1) := by decide +kernel
theorem dX3_findPart_112 : decode cX3_findPart 112 = .ok (.lload 7, 2) := by decide +kernel
theorem dX3_findPart_114 : decode cX3_findPart 114 = .ok (.ldiv, 1) := by decide +kernel
theorem dX3_findPart_115 : decode cX3_findPart 115 = .ok (.putfield 136, 3) := by decide +kernel
theorem dX3_findPart_118 : decode cX3_findPart 118 = .ok (.return_, 1) := by decide +kernel
set_option maxRecDepth 20000 in
theorem ggX3_isPartial_X3_in : GoodIn wsX3_isPartial wsX3_in := goodIn_r _ [6] (by decide +kernel) (by decide +kernel)
set_option maxRecDepth 20000 in
theorem gX3_isPartial_X3_in : GoodIn wsX3_isPartial (va_wsS RX3 35 yX3_in wsX3_in) := goodIn_app (goodIn_of _ (by decide +kernel)) ggX3_isPartial_X3_in
theorem dX3_isPartial_0 : decode cX3_isPartial 0 = .ok (.iload_n 1, 1) := by decide +kernel
theorem dX3_isPartial_1 : decode cX3_isPartial 1 = .ok (.i2l, 1) := by decide +kernel
theorem dX3_isPartial_2 : decode cX3_isPartial 2 = .ok (.aload_n 0, 1) := by decide +kernel
theorem dX3_isPartial_3 : decode cX3_isPartial 3 = .ok (.getfield 124, 3) := by decide +kernel
theorem dX3_isPartial_6 : decode cX3_isPartial 6 = .ok (.i2l, 1) := by decide +kernel
theorem dX3_isPartial_7 : decode cX3_isPartial 7 = .ok (.ldc2_w 139, 3) := by decide +kernel
theorem dX3_isPartial_10 : decode cX3_isPartial 10 = .ok (.invokestatic 35, 3) := by decide +kernel
theorem dX3_isPartial_13 : decode cX3_isPartial 13 = .ok (.ireturn, 1) := by decide +kernel
set_option maxRecDepth 20000 in
theorem ggX3_part_X3_isPartial : GoodIn wsX3_part wsX3_isPartial := goodIn_r _ [9, 10, 11, 12, 13, 8, 14, 27, 28, 29, 30, 31, 32, 33, 34, 35, 36, 37, 38, 39] (by decide +kernel) (by decide +kernel)
set_option maxRecDepth 20000 in
theorem gX3_part_X3_isPartial : GoodIn wsX3_part (wsV RX3 141 RX3 yX3_isPartial wsX3_isPartial) := goodIn_app (goodIn_of _ (by decide +kernel)) ggX3_part_X3_isPartial
set_option maxRecDepth 20000 in
theorem ggX3_part_X3_in : GoodIn wsX3_part wsX3_in := goodIn_r _ [14] (by decide +kernel) (by decide +kernel)
set_option maxRecDepth 20000 in
theorem gX3_part_X3_in : GoodIn wsX3_part (va_wsS RX3 35 yX3_in wsX3_in) := goodIn_app (goodIn_of _ (by decide +kernel)) ggX3_part_X3_in
set_option maxRecDepth 20000 in
theorem ggX3_part_X3_findPart : GoodIn wsX3_part wsX3_findPart := goodIn_r _ [18, 10, 19, 20, 3, 4, 21, 22, 8, 23, 24, 25, 26, 27, 28, 29, 30, 31, 32, 33, 34, 35, 36, 37, 38, 39] (by decide +kernel) (by decide +kernel)
set_option maxRecDepth 20000 in
theorem gX3_part_X3_findPart : GoodIn wsX3_part (wsV RX3 146 RX3 yX3_findPart wsX3_findPart) := goodIn_app (goodIn_of _ (by decide +kernel)) ggX3_part_X3_findPart
theorem dX3_part_0 : decode cX3_part 0 = .ok (.aload_n 0, 1) := by decide +kernel
theorem dX3_part_1 : decode cX3_part 1 = .ok (.iload_n 1, 1) := by decide +kernel
theorem dX3_part_2 : decode cX3_part 2 = .ok (.invokevirtual 141, 3) := by decide +kernel
theorem dX3_part_5 : decode cX3_part 5 = .ok (.ifCond .eq 13, 3) := by decide +kernel
theorem dX3_part_8 : decode cX3_part 8 = .ok (.iload_n 3, 1) := by decide +kernel
theorem dX3_part_9 : decode cX3_part 9 = .ok (.i2l, 1) := by decide +kernel
theorem dX3_part_10 : decode cX3_part 10 = .ok (.lconst 0, 1) := by decide +kernel
theorem dX3_part_11 : decode cX3_part 11 = .ok (.lconst 1, 1) := by decide +kernel
theorem dX3_part_12 : decode cX3_part 12 = .ok (.invokestatic 35, 3) := by decide +kernel
theorem dX3_part_15 : decode cX3_part 15 = .ok (.ifCond .ne 7, 3) := by decide +kernel
theorem dX3_part_18 : decode cX3_part 18 = .ok (.ldc2_w 111, 3) := by decide +kernel
theorem dX3_part_21 : decode cX3_part 21 = .ok (.lreturn, 1) := by decide +kernel
theorem dX3_part_22 : decode cX3_part 22 = .ok (.iload_n 2, 1) := by decide +kernel
theorem dX3_part_23 : decode cX3_part 23 = .ok (.i2l, 1) := by decide +kernel
theorem dX3_part_24 : decode cX3_part 24 = .ok (.lconst 0, 1) := by decide +kernel
theorem dX3_part_25 : decode cX3_part 25 = .ok (.iload_n 1, 1) := by decide +kernel
theorem dX3_part_26 : decode cX3_part 26 = .ok (.i2l, 1) := by decide +kernel
theorem dX3_part_27 : decode cX3_part 27 = .ok (.invokestatic 35, 3) := by decide +kernel
theorem dX3_part_30 : decode cX3_part 30 = .ok (.ifCond .ne 7, 3) := by decide +kernel
theorem dX3_part_33 : decode cX3_part 33 = .ok (.ldc2_w 144, 3) := by decide +kernel
theorem dX3_part_36 : decode cX3_part 36 = .ok (.lreturn, 1) := by decide +kernel
theorem dX3_part_37 : decode cX3_part 37 = .ok (.aload_n 0, 1) := by decide +kernel
theorem dX3_part_38 : decode cX3_part 38 = .ok (.iload_n 1, 1) := by decide +kernel
theorem dX3_part_39 : decode cX3_part 39 = .ok (.iload_n 2, 1) := by decide +kernel
theorem dX3_part_40 : decode cX3_part 40 = .ok (.invokevirtual 146, 3) := by decide +kernel
theorem dX3_part_43 : decode cX3_part 43 = .ok (.iload_n 3, 1) := by decide +kernel
theorem dX3_part_44 : decode cX3_part 44 = .ok (.ifCond .ne 10, 3) := by decide +kernel
theorem dX3_part_47 : decode cX3_part 47 = .ok (.aload_n 0, 1) := by decide +kernel
theorem dX3_part_48 : decode cX3_part 48 = .ok (.getfield 132, 3) := by decide +kernel
theorem dX3_part_51 : decode cX3_part 51 = .ok (.goto 7, 3) := by decide +kernel
theorem dX3_part_54 : decode cX3_part 54 = .ok (.aload_n 0, 1) := by decide +kernel
theorem dX3_part_55 : decode cX3_part 55 = .ok (.getfield 136, 3) := by decide +kernel
theorem dX3_part_58 : decode cX3_part 58 = .ok (.lreturn, 1) := by decide +kernel
set_option maxRecDepth 20000 in
theorem ggX3_mayBeMade_X3_findPart : GoodIn wsX3_mayBeMade wsX3_findPart := goodIn_r _ [7, 8, 9, 10, 1, 2, 11, 12, 6, 13, 14, 15, 16, 17, 18, 19, 20, 21, 22, 23, 24, 25, 26, 27, 28, 29] (by decide +kernel) (by decide +kernel)
set_option maxRecDepth 20000 in
theorem gX3_mayBeMade_X3_findPart : GoodIn wsX3_mayBeMade (wsV RX3 146 RX3 yX3_findPart wsX3_findPart) := goodIn_app (goodIn_of _ (by decide +kernel)) ggX3_mayBeMade_X3_findPart
theorem dX3_mayBeMade_0 : decode cX3_mayBeMade 0 = .ok (.iconst 1, 1) := by decide +kernel
theorem dX3_mayBeMade_1 : decode cX3_mayBeMade 1 = .ok (.istore_n 2, 1) := by decide +kernel
theorem dX3_mayBeMade_2 : decode cX3_mayBeMade 2 = .ok (.iconst 0, 1) := by decide +kernel
theorem dX3_mayBeMade_3 : decode cX3_mayBeMade 3 = .ok (.istore_n 3, 1) := by decide +kernel
theorem dX3_mayBeMade_4 : decode cX3_mayBeMade 4 = .ok (.iload_n 3, 1) := by decide +kernel
theorem dX3_mayBeMade_5 : decode cX3_mayBeMade 5 = .ok (.iload_n 1, 1) := by decide +kernel
theorem dX3_mayBeMade_6 : decode cX3_mayBeMade 6 = .ok (.if_icmp .gt 46, 3) := by decide +kernel
theorem dX3_mayBeMade_9 : decode cX3_mayBeMade 9 = .ok (.aload_n 0, 1) := by decide +kernel
theorem dX3_mayBeMade_10 : decode cX3_mayBeMade 10 = .ok (.iload_n 1, 1) := by decide +kernel
theorem dX3_mayBeMade_11 : decode cX3_mayBeMade 11 = .ok (.iload_n 3, 1) := by decide +kernel
theorem dX3_mayBeMade_12 : decode cX3_mayBeMade 12 = .ok (.invokevirtual 146, 3) := by decide +kernel
theorem dX3_mayBeMade_15 : decode cX3_mayBeMade 15 = .ok (.iload_n 2, 1) := by decide +kernel
theorem dX3_mayBeMade_16 : decode cX3_mayBeMade 16 = .ok (.ifCond .eq 28, 3) := by decide +kernel
theorem dX3_mayBeMade_19 : decode cX3_mayBeMade 19 = .ok (.aload_n 0, 1) := by decide +kernel
theorem dX3_mayBeMade_20 : decode cX3_mayBeMade 20 = .ok (.getfield 132, 3) := by decide +kernel
theorem dX3_mayBeMade_23 : decode cX3_mayBeMade 23 = .ok (.lconst 0, 1) := by decide +kernel
theorem dX3_mayBeMade_24 : decode cX3_mayBeMade 24 = .ok (.lcmp, 1) := by decide +kernel
theorem dX3_mayBeMade_25 : decode cX3_mayBeMade 25 = .ok (.ifCond .lt 19, 3) := by decide +kernel
theorem dX3_mayBeMade_28 : decode cX3_mayBeMade 28 = .ok (.aload_n 0, 1) := by decide +kernel
theorem dX3_mayBeMade_29 : decode cX3_mayBeMade 29 = .ok (.getfield 132, 3) := by decide +kernel
theorem dX3_mayBeMade_32 : decode cX3_mayBeMade 32 = .ok (.aload_n 0, 1) := by decide +kernel
theorem dX3_mayBeMade_33 : decode cX3_mayBeMade 33 = .ok (.getfield 136, 3) := by decide +kernel
theorem dX3_mayBeMade_36 : decode cX3_mayBeMade 36 = .ok (.lcmp, 1) := by decide +kernel
theorem dX3_mayBeMade_37 : decode cX3_mayBeMade 37 = .ok (.ifCond .gt 7, 3) := by decide +kernel
theorem dX3_mayBeMade_40 : decode cX3_mayBeMade 40 = .ok (.iconst 1, 1) := by decide +kernel
theorem dX3_mayBeMade_41 : decode cX3_mayBeMade 41 = .ok (.goto 4, 3) := by decide +kernel
theorem dX3_mayBeMade_44 : decode cX3_mayBeMade 44 = .ok (.iconst 0, 1) := by decide +kernel
theorem dX3_mayBeMade_45 : decode cX3_mayBeMade 45 = .ok (.istore_n 2, 1) := by decide +kernel
theorem dX3_mayBeMade_46 : decode cX3_mayBeMade 46 = .ok (.iinc 3 1, 3) := by decide +kernel
theorem dX3_mayBeMade_49 : decode cX3_mayBeMade 49 = .ok (.goto (-45), 3) := by decide +kernel
theorem dX3_mayBeMade_52 : decode cX3_mayBeMade 52 = .ok (.iload_n 2, 1) := by decide +kernel
theorem dX3_mayBeMade_53 : decode cX3_mayBeMade 53 = .ok (.ireturn, 1) := by decide +kernel
set_option maxRecDepth 20000 in
theorem ggX3_least_X3_mayBeMade : GoodIn wsX3_least wsX3_mayBeMade := goodIn_r _ [6, 7, 8, 9, 10, 11, 5, 12, 1, 13, 14, 15, 16, 17, 18, 19, 20, 21, 22, 23, 24, 25, 26, 27, 28, 29, 30, 31, 32, 33] (by decide +kernel) (by decide +kernel)
set_option maxRecDepth 20000 in
theorem gX3_least_X3_mayBeMade : GoodIn wsX3_least (wsV RX3 150 RX3 yX3_mayBeMade wsX3_mayBeMade) := goodIn_app (goodIn_of _ (by decide +kernel)) ggX3_least_X3_mayBeMade
theorem dX3_least_0 : decode cX3_least 0 = .ok (.aload_n 0, 1) := by decide +kernel
theorem dX3_least_1 : decode cX3_least 1 = .ok (.getfield 124, 3) := by decide +kernel
theorem dX3_least_4 : decode cX3_least 4 = .ok (.istore_n 1, 1) := by decide +kernel
theorem dX3_least_5 : decode cX3_least 5 = .ok (.iload_n 1, 1) := by decide +kernel
theorem dX3_least_6 : decode cX3_least 6 = .ok (.bipush 10, 2) := by decide +kernel
theorem dX3_least_8 : decode cX3_least 8 = .ok (.if_icmp .gt 19, 3) := by decide +kernel
theorem dX3_least_11 : decode cX3_least 11 = .ok (.aload_n 0, 1) := by decide +kernel
theorem dX3_least_12 : decode cX3_least 12 = .ok (.iload_n 1, 1) := by decide +kernel
theorem dX3_least_13 : decode cX3_least 13 = .ok (.invokevirtual 150, 3) := by decide +kernel
theorem dX3_least_16 : decode cX3_least 16 = .ok (.ifCond .eq 5, 3) := by decide +kernel
theorem dX3_least_19 : decode cX3_least 19 = .ok (.iload_n 1, 1) := by decide +kernel
theorem dX3_least_20 : decode cX3_least 20 = .ok (.ireturn, 1) := by decide +kernel
theorem dX3_least_21 : decode cX3_least 21 = .ok (.iinc 1 1, 3) := by decide +kernel
theorem dX3_least_24 : decode cX3_least 24 = .ok (.goto (-19), 3) := by decide +kernel
theorem dX3_least_27 : decode cX3_least 27 = .ok (.iconst (-1), 1) := by decide +kernel
theorem dX3_least_28 : decode cX3_least 28 = .ok (.ireturn, 1) := by decide +kernel
set_option maxRecDepth 20000 in
theorem ggX3_at_X3_in : GoodIn wsX3_at wsX3_in := goodIn_r _ [10] (by decide +kernel) (by decide +kernel)
set_option maxRecDepth 20000 in
theorem gX3_at_X3_in : GoodIn wsX3_at (va_wsS RX3 35 yX3_in wsX3_in) := goodIn_app (goodIn_of _ (by decide +kernel)) ggX3_at_X3_in
set_option maxRecDepth 20000 in
theorem ggX3_at_X3_power : GoodIn wsX3_at wsX3_power := goodIn_r _ [13] (by decide +kernel) (by decide +kernel)
set_option maxRecDepth 20000 in
theorem gX3_at_X3_power : GoodIn wsX3_at (va_wsS RX3 113 yX3_power wsX3_power) := goodIn_app (goodIn_of _ (by decide +kernel)) ggX3_at_X3_power
theorem dX3_at_0 : decode cX3_at 0 = .ok (.iload_n 1, 1) := by decide +kernel
theorem dX3_at_1 : decode cX3_at 1 = .ok (.i2l, 1) := by decide +kernel
theorem dX3_at_2 : decode cX3_at 2 = .ok (.lconst 0, 1) := by decide +kernel
theorem dX3_at_3 : decode cX3_at 3 = .ok (.aload_n 0, 1) := by decide +kernel
theorem dX3_at_4 : decode cX3_at 4 = .ok (.getfield 23, 3) := by decide +kernel
theorem dX3_at_7 : decode cX3_at 7 = .ok (.i2l, 1) := by decide +kernel
theorem dX3_at_8 : decode cX3_at 8 = .ok (.invokestatic 35, 3) := by decide +kernel
theorem dX3_at_11 : decode cX3_at 11 = .ok (.ifCond .ne 6, 3) := by decide +kernel
theorem dX3_at_14 : decode cX3_at 14 = .ok (.ldc 153, 2) := by decide +kernel
theorem dX3_at_16 : decode cX3_at 16 = .ok (.ireturn, 1) := by decide +kernel
theorem dX3_at_17 : decode cX3_at 17 = .ok (.lconst 0, 1) := by decide +kernel
theorem dX3_at_18 : decode cX3_at 18 = .ok (.lstore_n 2, 1) := by decide +kernel
theorem dX3_at_19 : decode cX3_at 19 = .ok (.iconst 0, 1) := by decide +kernel
theorem dX3_at_20 : decode cX3_at 20 = .ok (.istore 4, 2) := by decide +kernel
theorem dX3_at_22 : decode cX3_at 22 = .ok (.iload 4, 2) := by decide +kernel
theorem dX3_at_24 : decode cX3_at 24 = .ok (.aload_n 0, 1) := by decide +kernel
theorem dX3_at_25 : decode cX3_at 25 = .ok (.getfield 124, 3) := by decide +kernel
theorem dX3_at_28 : decode cX3_at 28 = .ok (.if_icmp .gt 44, 3) := by decide +kernel
theorem dX3_at_31 : decode cX3_at 31 = .ok (.lload_n 2, 1) := by decide +kernel
theorem dX3_at_32 : decode cX3_at 32 = .ok (.aload_n 0, 1) := by decide +kernel
theorem dX3_at_33 : decode cX3_at 33 = .ok (.getfield 19, 3) := by decide +kernel
theorem dX3_at_36 : decode cX3_at 36 = .ok (.iload 4, 2) := by decide +kernel
theorem dX3_at_38 : decode cX3_at 38 = .ok (.iaload, 1) := by decide +kernel
theorem dX3_at_39 : decode cX3_at 39 = .ok (.i2l, 1) := by decide +kernel
theorem dX3_at_40 : decode cX3_at 40 = .ok (.iload_n 1, 1) := by decide +kernel
theorem dX3_at_41 : decode cX3_at 41 = .ok (.i2l, 1) := by decide +kernel
theorem dX3_at_42 : decode cX3_at 42 = .ok (.iload 4, 2) := by decide +kernel
theorem dX3_at_44 : decode cX3_at 44 = .ok (.invokestatic 113, 3) := by decide +kernel
theorem dX3_at_47 : decode cX3_at 47 = .ok (.lmul, 1) := by decide +kernel
theorem dX3_at_48 : decode cX3_at 48 = .ok (.aload_n 0, 1) := by decide +kernel
theorem dX3_at_49 : decode cX3_at 49 = .ok (.getfield 23, 3) := by decide +kernel
theorem dX3_at_52 : decode cX3_at 52 = .ok (.i2l, 1) := by decide +kernel
theorem dX3_at_53 : decode cX3_at 53 = .ok (.aload_n 0, 1) := by decide +kernel
theorem dX3_at_54 : decode cX3_at 54 = .ok (.getfield 124, 3) := by decide +kernel
theorem dX3_at_57 : decode cX3_at 57 = .ok (.iload 4, 2) := by decide +kernel
theorem dX3_at_59 : decode cX3_at 59 = .ok (.isub, 1) := by decide +kernel
theorem dX3_at_60 : decode cX3_at 60 = .ok (.invokestatic 113, 3) := by decide +kernel
theorem dX3_at_63 : decode cX3_at 63 = .ok (.lmul, 1) := by decide +kernel
theorem dX3_at_64 : decode cX3_at 64 = .ok (.ladd, 1) := by decide +kernel
theorem dX3_at_65 : decode cX3_at 65 = .ok (.lstore_n 2, 1) := by decide +kernel
theorem dX3_at_66 : decode cX3_at 66 = .ok (.iinc 4 1, 3) := by decide +kernel
theorem dX3_at_69 : decode cX3_at 69 = .ok (.goto (-47), 3) := by decide +kernel
theorem dX3_at_72 : decode cX3_at 72 = .ok (.aload_n 0, 1) := by decide +kernel
theorem dX3_at_73 : decode cX3_at 73 = .ok (.getfield 30, 3) := by decide +kernel
theorem dX3_at_76 : decode cX3_at 76 = .ok (.i2l, 1) := by decide +kernel
theorem dX3_at_77 : decode cX3_at 77 = .ok (.aload_n 0, 1) := by decide +kernel
theorem dX3_at_78 : decode cX3_at 78 = .ok (.getfield 23, 3) := by decide +kernel
theorem dX3_at_81 : decode cX3_at 81 = .ok (.i2l, 1) := by decide +kernel
theorem dX3_at_82 : decode cX3_at 82 = .ok (.aload_n 0, 1) := by decide +kernel
theorem dX3_at_83 : decode cX3_at 83 = .ok (.getfield 124, 3) := by decide +kernel
theorem dX3_at_86 : decode cX3_at 86 = .ok (.invokestatic 113, 3) := by decide +kernel
theorem dX3_at_89 : decode cX3_at 89 = .ok (.lmul, 1) := by decide +kernel
theorem dX3_at_90 : decode cX3_at 90 = .ok (.lstore 4, 2) := by decide +kernel
theorem dX3_at_92 : decode cX3_at 92 = .ok (.ldc2_w 122, 3) := by decide +kernel
theorem dX3_at_95 : decode cX3_at 95 = .ok (.lload_n 2, 1) := by decide +kernel
theorem dX3_at_96 : decode cX3_at 96 = .ok (.lmul, 1) := by decide +kernel
theorem dX3_at_97 : decode cX3_at 97 = .ok (.lload 4, 2) := by decide +kernel
theorem dX3_at_99 : decode cX3_at 99 = .ok (.ldiv, 1) := by decide +kernel
theorem dX3_at_100 : decode cX3_at 100 = .ok (.lstore 6, 2) := by decide +kernel
theorem dX3_at_102 : decode cX3_at 102 = .ok (.ldc2_w 122, 3) := by decide +kernel
theorem dX3_at_105 : decode cX3_at 105 = .ok (.lload_n 2, 1) := by decide +kernel
theorem dX3_at_106 : decode cX3_at 106 = .ok (.lmul, 1) := by decide +kernel
theorem dX3_at_107 : decode cX3_at 107 = .ok (.lload 4, 2) := by decide +kernel
theorem dX3_at_109 : decode cX3_at 109 = .ok (.lrem, 1) := by decide +kernel
theorem dX3_at_110 : decode cX3_at 110 = .ok (.lconst 0, 1) := by decide +kernel
theorem dX3_at_111 : decode cX3_at 111 = .ok (.lcmp, 1) := by decide +kernel
theorem dX3_at_112 : decode cX3_at 112 = .ok (.ifCond .ge 10, 3) := by decide +kernel
theorem dX3_at_115 : decode cX3_at 115 = .ok (.lload 6, 2) := by decide +kernel
theorem dX3_at_117 : decode cX3_at 117 = .ok (.lconst 1, 1) := by decide +kernel
theorem dX3_at_118 : decode cX3_at 118 = .ok (.lsub, 1) := by decide +kernel
theorem dX3_at_119 : decode cX3_at 119 = .ok (.goto 5, 3) := by decide +kernel
theorem dX3_at_122 : decode cX3_at 122 = .ok (.lload 6, 2) := by decide +kernel
theorem dX3_at_124 : decode cX3_at 124 = .ok (.l2i, 1) := by decide +kernel
theorem dX3_at_125 : decode cX3_at 125 = .ok (.ireturn, 1) := by decide +kernel
set_option maxRecDepth 20000 in
theorem ggX3_make_X3_isStream : GoodIn wsX3_make wsX3_isStream := goodIn_r _ [8, 9, 10, 11, 7, 12] (by decide +kernel) (by decide +kernel)
set_option maxRecDepth 20000 in
theorem gX3_make_X3_isStream : GoodIn wsX3_make (va_wsS RX3 49 yX3_isStream wsX3_isStream) := goodIn_app (goodIn_of _ (by decide +kernel)) ggX3_make_X3_isStream
set_option maxRecDepth 20000 in
theorem ggX3_make_X3_isSource : GoodIn wsX3_make wsX3_isSource := goodIn_r _ [16, 17, 1, 10, 11, 7, 12, 56, 57, 58, 59, 60, 61, 62, 63, 64, 65, 66, 67, 68] (by decide +kernel) (by decide +kernel)
set_option maxRecDepth 20000 in
theorem gX3_make_X3_isSource : GoodIn wsX3_make (wsV RX3 53 RX3 yX3_isSource wsX3_isSource) := goodIn_app (goodIn_of _ (by decide +kernel)) ggX3_make_X3_isSource
set_option maxRecDepth 20000 in
theorem ggX3_make_X3_isPartial : GoodIn wsX3_make wsX3_isPartial := goodIn_r _ [21, 22, 23, 10, 11, 7, 12, 56, 57, 58, 59, 60, 61, 62, 63, 64, 65, 66, 67, 68] (by decide +kernel) (by decide +kernel)
set_option maxRecDepth 20000 in
theorem gX3_make_X3_isPartial : GoodIn wsX3_make (wsV RX3 141 RX3 yX3_isPartial wsX3_isPartial) := goodIn_app (goodIn_of _ (by decide +kernel)) ggX3_make_X3_isPartial
set_option maxRecDepth 20000 in
theorem ggX3_make_X3_mayBeMade : GoodIn wsX3_make wsX3_mayBeMade := goodIn_r _ [27, 2, 3, 28, 29, 30, 7, 31, 22, 32, 33, 34, 35, 36, 37, 38, 39, 56, 57, 58, 59, 60, 61, 62, 63, 64, 65, 66, 67, 68] (by decide +kernel) (by decide +kernel)
set_option maxRecDepth 20000 in
theorem gX3_make_X3_mayBeMade : GoodIn wsX3_make (wsV RX3 150 RX3 yX3_mayBeMade wsX3_mayBeMade) := goodIn_app (goodIn_of _ (by decide +kernel)) ggX3_make_X3_mayBeMade
set_option maxRecDepth 20000 in
theorem ggX3_make_X3_sourceRow : GoodIn wsX3_make wsX3_sourceRow := goodIn_r _ [43, 1, 44, 45, 46, 7, 47, 56, 57, 58, 59, 60, 61, 62, 63, 64, 65, 66, 67, 68] (by decide +kernel) (by decide +kernel)
set_option maxRecDepth 20000 in
theorem gX3_make_X3_sourceRow : GoodIn wsX3_make (wsV RX3 57 RX3 yX3_sourceRow wsX3_sourceRow) := goodIn_app (goodIn_of _ (by decide +kernel)) ggX3_make_X3_sourceRow
set_option maxRecDepth 20000 in
theorem ggX3_make_X3_bitOf : GoodIn wsX3_make wsX3_bitOf := goodIn_r _ [51] (by decide +kernel) (by decide +kernel)
set_option maxRecDepth 20000 in
theorem gX3_make_X3_bitOf : GoodIn wsX3_make (wsV RX3 39 RX3 yX3_bitOf wsX3_bitOf) := goodIn_app (goodIn_of _ (by decide +kernel)) ggX3_make_X3_bitOf
set_option maxRecDepth 20000 in
theorem ggX3_make_X3_findPart : GoodIn wsX3_make wsX3_findPart := goodIn_r _ [31, 22, 32, 33, 2, 3, 34, 35, 7, 36, 37, 38, 39, 56, 57, 58, 59, 60, 61, 62, 63, 64, 65, 66, 67, 68] (by decide +kernel) (by decide +kernel)
set_option maxRecDepth 20000 in
theorem gX3_make_X3_findPart : GoodIn wsX3_make (wsV RX3 146 RX3 yX3_findPart wsX3_findPart) := goodIn_app (goodIn_of _ (by decide +kernel)) ggX3_make_X3_findPart
set_option maxRecDepth 20000 in
theorem ggX3_make_X3_round : GoodIn wsX3_make wsX3_round := goodIn_r _ [47, 1, 56, 57, 58, 59, 60, 61, 62, 63, 64, 65, 66, 67, 68] (by decide +kernel) (by decide +kernel)
set_option maxRecDepth 20000 in
theorem gX3_make_X3_round : GoodIn wsX3_make (wsV RX3 43 RX3 yX3_round wsX3_round) := goodIn_app (goodIn_of _ (by decide +kernel)) ggX3_make_X3_round
set_option maxRecDepth 20000 in
theorem ggX3_make_X3_onesOf : GoodIn wsX3_make wsX3_onesOf := goodIn_r _ [55, 1, 48, 49, 50, 7, 51, 56, 57, 58, 59, 60, 61, 62, 63, 64, 65, 66, 67, 68] (by decide +kernel) (by decide +kernel)
set_option maxRecDepth 20000 in
theorem gX3_make_X3_onesOf : GoodIn wsX3_make (wsV RX3 61 RX3 yX3_onesOf wsX3_onesOf) := goodIn_app (goodIn_of _ (by decide +kernel)) ggX3_make_X3_onesOf
theorem dX3_make_0 : decode cX3_make 0 = .ok (.iload_n 1, 1) := by decide +kernel
theorem dX3_make_1 : decode cX3_make 1 = .ok (.invokestatic 49, 3) := by decide +kernel
theorem dX3_make_4 : decode cX3_make 4 = .ok (.ifCond .ne 6, 3) := by decide +kernel
theorem dX3_make_7 : decode cX3_make 7 = .ok (.bipush (-101), 2) := by decide +kernel
theorem dX3_make_9 : decode cX3_make 9 = .ok (.ireturn, 1) := by decide +kernel
theorem dX3_make_10 : decode cX3_make 10 = .ok (.aload_n 0, 1) := by decide +kernel
theorem dX3_make_11 : decode cX3_make 11 = .ok (.iload_n 2, 1) := by decide +kernel
theorem dX3_make_12 : decode cX3_make 12 = .ok (.iload_n 3, 1) := by decide +kernel
theorem dX3_make_13 : decode cX3_make 13 = .ok (.invokevirtual 53, 3) := by decide +kernel
theorem dX3_make_16 : decode cX3_make 16 = .ok (.ifCond .eq 12, 3) := by decide +kernel
theorem dX3_make_19 : decode cX3_make 19 = .ok (.aload_n 0, 1) := by decide +kernel
theorem dX3_make_20 : decode cX3_make 20 = .ok (.iload 4, 2) := by decide +kernel
theorem dX3_make_22 : decode cX3_make 22 = .ok (.invokevirtual 141, 3) := by decide +kernel
theorem dX3_make_25 : decode cX3_make 25 = .ok (.ifCond .ne 6, 3) := by decide +kernel
theorem dX3_make_28 : decode cX3_make 28 = .ok (.bipush (-102), 2) := by decide +kernel
theorem dX3_make_30 : decode cX3_make 30 = .ok (.ireturn, 1) := by decide +kernel
theorem dX3_make_31 : decode cX3_make 31 = .ok (.aload_n 0, 1) := by decide +kernel
theorem dX3_make_32 : decode cX3_make 32 = .ok (.iload 4, 2) := by decide +kernel
theorem dX3_make_34 : decode cX3_make 34 = .ok (.invokevirtual 150, 3) := by decide +kernel
theorem dX3_make_37 : decode cX3_make 37 = .ok (.ifCond .ne 6, 3) := by decide +kernel
theorem dX3_make_40 : decode cX3_make 40 = .ok (.bipush (-103), 2) := by decide +kernel
theorem dX3_make_42 : decode cX3_make 42 = .ok (.ireturn, 1) := by decide +kernel
theorem dX3_make_43 : decode cX3_make 43 = .ok (.aload_n 0, 1) := by decide +kernel
theorem dX3_make_44 : decode cX3_make 44 = .ok (.iload_n 2, 1) := by decide +kernel
theorem dX3_make_45 : decode cX3_make 45 = .ok (.iload_n 3, 1) := by decide +kernel
theorem dX3_make_46 : decode cX3_make 46 = .ok (.invokevirtual 57, 3) := by decide +kernel
theorem dX3_make_49 : decode cX3_make 49 = .ok (.lstore 5, 2) := by decide +kernel
theorem dX3_make_51 : decode cX3_make 51 = .ok (.lconst 0, 1) := by decide +kernel
theorem dX3_make_52 : decode cX3_make 52 = .ok (.lstore 7, 2) := by decide +kernel
theorem dX3_make_54 : decode cX3_make 54 = .ok (.iconst 0, 1) := by decide +kernel
theorem dX3_make_55 : decode cX3_make 55 = .ok (.istore 9, 2) := by decide +kernel
theorem dX3_make_57 : decode cX3_make 57 = .ok (.iload 9, 2) := by decide +kernel
theorem dX3_make_59 : decode cX3_make 59 = .ok (.aload_n 0, 1) := by decide +kernel
theorem dX3_make_60 : decode cX3_make 60 = .ok (.getfield 23, 3) := by decide +kernel
theorem dX3_make_63 : decode cX3_make 63 = .ok (.if_icmp .ge 96, 3) := by decide +kernel
theorem dX3_make_66 : decode cX3_make 66 = .ok (.iconst 0, 1) := by decide +kernel
theorem dX3_make_67 : decode cX3_make 67 = .ok (.istore 10, 2) := by decide +kernel
theorem dX3_make_69 : decode cX3_make 69 = .ok (.iconst 0, 1) := by decide +kernel
theorem dX3_make_70 : decode cX3_make 70 = .ok (.istore 11, 2) := by decide +kernel
theorem dX3_make_72 : decode cX3_make 72 = .ok (.iload 11, 2) := by decide +kernel
theorem dX3_make_74 : decode cX3_make 74 = .ok (.iload 4, 2) := by decide +kernel
theorem dX3_make_76 : decode cX3_make 76 = .ok (.if_icmp .ge 30, 3) := by decide +kernel
theorem dX3_make_79 : decode cX3_make 79 = .ok (.iload 10, 2) := by decide +kernel
theorem dX3_make_81 : decode cX3_make 81 = .ok (.aload_n 0, 1) := by decide +kernel
theorem dX3_make_82 : decode cX3_make 82 = .ok (.lload 5, 2) := by decide +kernel
theorem dX3_make_84 : decode cX3_make 84 = .ok (.iload 9, 2) := by decide +kernel
theorem dX3_make_86 : decode cX3_make 86 = .ok (.iload 11, 2) := by decide +kernel
theorem dX3_make_88 : decode cX3_make 88 = .ok (.iadd, 1) := by decide +kernel
theorem dX3_make_89 : decode cX3_make 89 = .ok (.aload_n 0, 1) := by decide +kernel
theorem dX3_make_90 : decode cX3_make 90 = .ok (.getfield 23, 3) := by decide +kernel
theorem dX3_make_93 : decode cX3_make 93 = .ok (.irem, 1) := by decide +kernel
theorem dX3_make_94 : decode cX3_make 94 = .ok (.invokevirtual 39, 3) := by decide +kernel
theorem dX3_make_97 : decode cX3_make 97 = .ok (.iadd, 1) := by decide +kernel
theorem dX3_make_98 : decode cX3_make 98 = .ok (.istore 10, 2) := by decide +kernel
theorem dX3_make_100 : decode cX3_make 100 = .ok (.iinc 11 1, 3) := by decide +kernel
theorem dX3_make_103 : decode cX3_make 103 = .ok (.goto (-31), 3) := by decide +kernel
theorem dX3_make_106 : decode cX3_make 106 = .ok (.aload_n 0, 1) := by decide +kernel
theorem dX3_make_107 : decode cX3_make 107 = .ok (.iload 4, 2) := by decide +kernel
theorem dX3_make_109 : decode cX3_make 109 = .ok (.iload 10, 2) := by decide +kernel
theorem dX3_make_111 : decode cX3_make 111 = .ok (.invokevirtual 146, 3) := by decide +kernel
theorem dX3_make_114 : decode cX3_make 114 = .ok (.lload 7, 2) := by decide +kernel
theorem dX3_make_116 : decode cX3_make 116 = .ok (.aload_n 0, 1) := by decide +kernel
theorem dX3_make_117 : decode cX3_make 117 = .ok (.getfield 132, 3) := by decide +kernel
theorem dX3_make_120 : decode cX3_make 120 = .ok (.aload_n 0, 1) := by decide +kernel
theorem dX3_make_121 : decode cX3_make 121 = .ok (.getfield 23, 3) := by decide +kernel
theorem dX3_make_124 : decode cX3_make 124 = .ok (.i2l, 1) := by decide +kernel
theorem dX3_make_125 : decode cX3_make 125 = .ok (.lmul, 1) := by decide +kernel
theorem dX3_make_126 : decode cX3_make 126 = .ok (.aload_n 0, 1) := by decide +kernel
theorem dX3_make_127 : decode cX3_make 127 = .ok (.iload 9, 2) := by decide +kernel
theorem dX3_make_129 : decode cX3_make 129 = .ok (.invokevirtual 43, 3) := by decide +kernel
theorem dX3_make_132 : decode cX3_make 132 = .ok (.i2l, 1) := by decide +kernel
theorem dX3_make_133 : decode cX3_make 133 = .ok (.aload_n 0, 1) := by decide +kernel
theorem dX3_make_134 : decode cX3_make 134 = .ok (.getfield 136, 3) := by decide +kernel
theorem dX3_make_137 : decode cX3_make 137 = .ok (.lmul, 1) := by decide +kernel
theorem dX3_make_138 : decode cX3_make 138 = .ok (.lcmp, 1) := by decide +kernel
theorem dX3_make_139 : decode cX3_make 139 = .ok (.ifCond .le 10, 3) := by decide +kernel
theorem dX3_make_142 : decode cX3_make 142 = .ok (.lconst 1, 1) := by decide +kernel
theorem dX3_make_143 : decode cX3_make 143 = .ok (.iload 9, 2) := by decide +kernel
theorem dX3_make_145 : decode cX3_make 145 = .ok (.lshl, 1) := by decide +kernel
theorem dX3_make_146 : decode cX3_make 146 = .ok (.goto 4, 3) := by decide +kernel
theorem dX3_make_149 : decode cX3_make 149 = .ok (.lconst 0, 1) := by decide +kernel
theorem dX3_make_150 : decode cX3_make 150 = .ok (.lor, 1) := by decide +kernel
theorem dX3_make_151 : decode cX3_make 151 = .ok (.lstore 7, 2) := by decide +kernel
theorem dX3_make_153 : decode cX3_make 153 = .ok (.iinc 9 1, 3) := by decide +kernel
theorem dX3_make_156 : decode cX3_make 156 = .ok (.goto (-99), 3) := by decide +kernel
theorem dX3_make_159 : decode cX3_make 159 = .ok (.aload_n 0, 1) := by decide +kernel
theorem dX3_make_160 : decode cX3_make 160 = .ok (.getfield 7, 3) := by decide +kernel
theorem dX3_make_163 : decode cX3_make 163 = .ok (.iload_n 1, 1) := by decide +kernel
theorem dX3_make_164 : decode cX3_make 164 = .ok (.lload 7, 2) := by decide +kernel
theorem dX3_make_166 : decode cX3_make 166 = .ok (.lastore, 1) := by decide +kernel
theorem dX3_make_167 : decode cX3_make 167 = .ok (.aload_n 0, 1) := by decide +kernel
theorem dX3_make_168 : decode cX3_make 168 = .ok (.lload 7, 2) := by decide +kernel
theorem dX3_make_170 : decode cX3_make 170 = .ok (.invokevirtual 61, 3) := by decide +kernel
theorem dX3_make_173 : decode cX3_make 173 = .ok (.ireturn, 1) := by decide +kernel
theorem dX3_count_0 : decode cX3_count 0 = .ok (.iload_n 1, 1) := by decide +kernel
theorem dX3_count_1 : decode cX3_count 1 = .ok (.ifCond .ne 10, 3) := by decide +kernel
theorem dX3_count_4 : decode cX3_count 4 = .ok (.aload_n 0, 1) := by decide +kernel
theorem dX3_count_5 : decode cX3_count 5 = .ok (.getfield 23, 3) := by decide +kernel
theorem dX3_count_8 : decode cX3_count 8 = .ok (.goto 41, 3) := by decide +kernel
theorem dX3_count_11 : decode cX3_count 11 = .ok (.iload_n 1, 1) := by decide +kernel
theorem dX3_count_12 : decode cX3_count 12 = .ok (.iconst 1, 1) := by decide +kernel
theorem dX3_count_13 : decode cX3_count 13 = .ok (.if_icmp .ne 10, 3) := by decide +kernel
theorem dX3_count_16 : decode cX3_count 16 = .ok (.aload_n 0, 1) := by decide +kernel
theorem dX3_count_17 : decode cX3_count 17 = .ok (.getfield 124, 3) := by decide +kernel
theorem dX3_count_20 : decode cX3_count 20 = .ok (.goto 29, 3) := by decide +kernel
theorem dX3_count_23 : decode cX3_count 23 = .ok (.iload_n 1, 1) := by decide +kernel
theorem dX3_count_24 : decode cX3_count 24 = .ok (.iconst 2, 1) := by decide +kernel
theorem dX3_count_25 : decode cX3_count 25 = .ok (.if_icmp .ne 10, 3) := by decide +kernel
theorem dX3_count_28 : decode cX3_count 28 = .ok (.aload_n 0, 1) := by decide +kernel
theorem dX3_count_29 : decode cX3_count 29 = .ok (.getfield 30, 3) := by decide +kernel
theorem dX3_count_32 : decode cX3_count 32 = .ok (.goto 17, 3) := by decide +kernel
theorem dX3_count_35 : decode cX3_count 35 = .ok (.iload_n 1, 1) := by decide +kernel
theorem dX3_count_36 : decode cX3_count 36 = .ok (.iconst 3, 1) := by decide +kernel
theorem dX3_count_37 : decode cX3_count 37 = .ok (.if_icmp .ne 10, 3) := by decide +kernel
theorem dX3_count_40 : decode cX3_count 40 = .ok (.aload_n 0, 1) := by decide +kernel
theorem dX3_count_41 : decode cX3_count 41 = .ok (.getfield 92, 3) := by decide +kernel
theorem dX3_count_44 : decode cX3_count 44 = .ok (.goto 5, 3) := by decide +kernel
theorem dX3_count_47 : decode cX3_count 47 = .ok (.bipush (-102), 2) := by decide +kernel
theorem dX3_count_49 : decode cX3_count 49 = .ok (.ireturn, 1) := by decide +kernel
set_option maxRecDepth 20000 in
theorem ggX3_digest_X3_onesOf : GoodIn wsX3_digest wsX3_onesOf := goodIn_r _ [14, 2, 15, 16, 17, 13, 18, 19, 20, 21, 22, 23, 24, 25, 26, 27, 28, 29, 30, 31] (by decide +kernel) (by decide +kernel)
set_option maxRecDepth 20000 in
theorem gX3_digest_X3_onesOf : GoodIn wsX3_digest (wsV RX3 61 RX3 yX3_onesOf wsX3_onesOf) := goodIn_app (goodIn_of _ (by decide +kernel)) ggX3_digest_X3_onesOf
theorem dX3_digest_0 : decode cX3_digest 0 = .ok (.ldc2_w 154, 3) := by decide +kernel
theorem dX3_digest_3 : decode cX3_digest 3 = .ok (.aload_n 0, 1) := by decide +kernel
theorem dX3_digest_4 : decode cX3_digest 4 = .ok (.getfield 23, 3) := by decide +kernel
theorem dX3_digest_7 : decode cX3_digest 7 = .ok (.i2l, 1) := by decide +kernel
theorem dX3_digest_8 : decode cX3_digest 8 = .ok (.ladd, 1) := by decide +kernel
theorem dX3_digest_9 : decode cX3_digest 9 = .ok (.lstore_n 1, 1) := by decide +kernel
theorem dX3_digest_10 : decode cX3_digest 10 = .ok (.iconst 0, 1) := by decide +kernel
theorem dX3_digest_11 : decode cX3_digest 11 = .ok (.istore_n 3, 1) := by decide +kernel
theorem dX3_digest_12 : decode cX3_digest 12 = .ok (.iload_n 3, 1) := by decide +kernel
theorem dX3_digest_13 : decode cX3_digest 13 = .ok (.bipush 12, 2) := by decide +kernel
theorem dX3_digest_15 : decode cX3_digest 15 = .ok (.if_icmp .ge 40, 3) := by decide +kernel
theorem dX3_digest_18 : decode cX3_digest 18 = .ok (.ldc2_w 156, 3) := by decide +kernel
theorem dX3_digest_21 : decode cX3_digest 21 = .ok (.lload_n 1, 1) := by decide +kernel
theorem dX3_digest_22 : decode cX3_digest 22 = .ok (.lmul, 1) := by decide +kernel
theorem dX3_digest_23 : decode cX3_digest 23 = .ok (.aload_n 0, 1) := by decide +kernel
theorem dX3_digest_24 : decode cX3_digest 24 = .ok (.aload_n 0, 1) := by decide +kernel
theorem dX3_digest_25 : decode cX3_digest 25 = .ok (.getfield 7, 3) := by decide +kernel
theorem dX3_digest_28 : decode cX3_digest 28 = .ok (.iload_n 3, 1) := by decide +kernel
theorem dX3_digest_29 : decode cX3_digest 29 = .ok (.laload, 1) := by decide +kernel
theorem dX3_digest_30 : decode cX3_digest 30 = .ok (.invokevirtual 61, 3) := by decide +kernel
theorem dX3_digest_33 : decode cX3_digest 33 = .ok (.i2l, 1) := by decide +kernel
theorem dX3_digest_34 : decode cX3_digest 34 = .ok (.ladd, 1) := by decide +kernel
theorem dX3_digest_35 : decode cX3_digest 35 = .ok (.lstore_n 1, 1) := by decide +kernel
theorem dX3_digest_36 : decode cX3_digest 36 = .ok (.ldc2_w 156, 3) := by decide +kernel
theorem dX3_digest_39 : decode cX3_digest 39 = .ok (.lload_n 1, 1) := by decide +kernel
theorem dX3_digest_40 : decode cX3_digest 40 = .ok (.lmul, 1) := by decide +kernel
theorem dX3_digest_41 : decode cX3_digest 41 = .ok (.aload_n 0, 1) := by decide +kernel
theorem dX3_digest_42 : decode cX3_digest 42 = .ok (.getfield 7, 3) := by decide +kernel
theorem dX3_digest_45 : decode cX3_digest 45 = .ok (.iload_n 3, 1) := by decide +kernel
theorem dX3_digest_46 : decode cX3_digest 46 = .ok (.laload, 1) := by decide +kernel
theorem dX3_digest_47 : decode cX3_digest 47 = .ok (.ladd, 1) := by decide +kernel
theorem dX3_digest_48 : decode cX3_digest 48 = .ok (.lstore_n 1, 1) := by decide +kernel
theorem dX3_digest_49 : decode cX3_digest 49 = .ok (.iinc 3 1, 3) := by decide +kernel
theorem dX3_digest_52 : decode cX3_digest 52 = .ok (.goto (-40), 3) := by decide +kernel
theorem dX3_digest_55 : decode cX3_digest 55 = .ok (.ldc2_w 156, 3) := by decide +kernel
theorem dX3_digest_58 : decode cX3_digest 58 = .ok (.lload_n 1, 1) := by decide +kernel
theorem dX3_digest_59 : decode cX3_digest 59 = .ok (.lmul, 1) := by decide +kernel
theorem dX3_digest_60 : decode cX3_digest 60 = .ok (.aload_n 0, 1) := by decide +kernel
theorem dX3_digest_61 : decode cX3_digest 61 = .ok (.getfield 27, 3) := by decide +kernel
theorem dX3_digest_64 : decode cX3_digest 64 = .ok (.i2l, 1) := by decide +kernel
theorem dX3_digest_65 : decode cX3_digest 65 = .ok (.ladd, 1) := by decide +kernel
theorem dX3_digest_66 : decode cX3_digest 66 = .ok (.lstore_n 1, 1) := by decide +kernel
theorem dX3_digest_67 : decode cX3_digest 67 = .ok (.ldc2_w 156, 3) := by decide +kernel
theorem dX3_digest_70 : decode cX3_digest 70 = .ok (.lload_n 1, 1) := by decide +kernel
theorem dX3_digest_71 : decode cX3_digest 71 = .ok (.lmul, 1) := by decide +kernel
theorem dX3_digest_72 : decode cX3_digest 72 = .ok (.aload_n 0, 1) := by decide +kernel
theorem dX3_digest_73 : decode cX3_digest 73 = .ok (.getfield 124, 3) := by decide +kernel
theorem dX3_digest_76 : decode cX3_digest 76 = .ok (.i2l, 1) := by decide +kernel
theorem dX3_digest_77 : decode cX3_digest 77 = .ok (.ladd, 1) := by decide +kernel
theorem dX3_digest_78 : decode cX3_digest 78 = .ok (.lstore_n 1, 1) := by decide +kernel
theorem dX3_digest_79 : decode cX3_digest 79 = .ok (.ldc2_w 156, 3) := by decide +kernel
theorem dX3_digest_82 : decode cX3_digest 82 = .ok (.lload_n 1, 1) := by decide +kernel
theorem dX3_digest_83 : decode cX3_digest 83 = .ok (.lmul, 1) := by decide +kernel
theorem dX3_digest_84 : decode cX3_digest 84 = .ok (.aload_n 0, 1) := by decide +kernel
theorem dX3_digest_85 : decode cX3_digest 85 = .ok (.getfield 30, 3) := by decide +kernel
theorem dX3_digest_88 : decode cX3_digest 88 = .ok (.i2l, 1) := by decide +kernel
theorem dX3_digest_89 : decode cX3_digest 89 = .ok (.ladd, 1) := by decide +kernel
theorem dX3_digest_90 : decode cX3_digest 90 = .ok (.lstore_n 1, 1) := by decide +kernel
theorem dX3_digest_91 : decode cX3_digest 91 = .ok (.iconst 0, 1) := by decide +kernel
theorem dX3_digest_92 : decode cX3_digest 92 = .ok (.istore_n 3, 1) := by decide +kernel
theorem dX3_digest_93 : decode cX3_digest 93 = .ok (.iload_n 3, 1) := by decide +kernel
theorem dX3_digest_94 : decode cX3_digest 94 = .ok (.iconst 5, 1) := by decide +kernel
theorem dX3_digest_95 : decode cX3_digest 95 = .ok (.if_icmp .ge 23, 3) := by decide +kernel
theorem dX3_digest_98 : decode cX3_digest 98 = .ok (.ldc2_w 156, 3) := by decide +kernel
theorem dX3_digest_101 : decode cX3_digest 101 = .ok (.lload_n 1, 1) := by decide +kernel
theorem dX3_digest_102 : decode cX3_digest 102 = .ok (.lmul, 1) := by decide +kernel
theorem dX3_digest_103 : decode cX3_digest 103 = .ok (.aload_n 0, 1) := by decide +kernel
theorem dX3_digest_104 : decode cX3_digest 104 = .ok (.getfield 19, 3) := by decide +kernel
theorem dX3_digest_107 : decode cX3_digest 107 = .ok (.iload_n 3, 1) := by decide +kernel
theorem dX3_digest_108 : decode cX3_digest 108 = .ok (.iaload, 1) := by decide +kernel
theorem dX3_digest_109 : decode cX3_digest 109 = .ok (.i2l, 1) := by decide +kernel
theorem dX3_digest_110 : decode cX3_digest 110 = .ok (.ladd, 1) := by decide +kernel
theorem dX3_digest_111 : decode cX3_digest 111 = .ok (.lstore_n 1, 1) := by decide +kernel
theorem dX3_digest_112 : decode cX3_digest 112 = .ok (.iinc 3 1, 3) := by decide +kernel
theorem dX3_digest_115 : decode cX3_digest 115 = .ok (.goto (-22), 3) := by decide +kernel
theorem dX3_digest_118 : decode cX3_digest 118 = .ok (.ldc2_w 156, 3) := by decide +kernel
theorem dX3_digest_121 : decode cX3_digest 121 = .ok (.lload_n 1, 1) := by decide +kernel
theorem dX3_digest_122 : decode cX3_digest 122 = .ok (.lmul, 1) := by decide +kernel
theorem dX3_digest_123 : decode cX3_digest 123 = .ok (.aload_n 0, 1) := by decide +kernel
theorem dX3_digest_124 : decode cX3_digest 124 = .ok (.getfield 92, 3) := by decide +kernel
theorem dX3_digest_127 : decode cX3_digest 127 = .ok (.i2l, 1) := by decide +kernel
theorem dX3_digest_128 : decode cX3_digest 128 = .ok (.ladd, 1) := by decide +kernel
theorem dX3_digest_129 : decode cX3_digest 129 = .ok (.lreturn, 1) := by decide +kernel
theorem dJ6_bitCount_0f7a4_0 : decode cJ6_bitCount_0f7a4 0 = .ok (.iload_n 0, 1) := by decide +kernel
theorem dJ6_bitCount_0f7a4_1 : decode cJ6_bitCount_0f7a4 1 = .ok (.iload_n 0, 1) := by decide +kernel
theorem dJ6_bitCount_0f7a4_2 : decode cJ6_bitCount_0f7a4 2 = .ok (.iconst 1, 1) := by decide +kernel
theorem dJ6_bitCount_0f7a4_3 : decode cJ6_bitCount_0f7a4 3 = .ok (.iushr, 1) := by decide +kernel
theorem dJ6_bitCount_0f7a4_4 : decode cJ6_bitCount_0f7a4 4 = .ok (.ldc_w 265, 3) := by decide +kernel
theorem dJ6_bitCount_0f7a4_7 : decode cJ6_bitCount_0f7a4 7 = .ok (.iand, 1) := by decide +kernel
theorem dJ6_bitCount_0f7a4_8 : decode cJ6_bitCount_0f7a4 8 = .ok (.isub, 1) := by decide +kernel
theorem dJ6_bitCount_0f7a4_9 : decode cJ6_bitCount_0f7a4 9 = .ok (.istore_n 0, 1) := by decide +kernel
theorem dJ6_bitCount_0f7a4_10 : decode cJ6_bitCount_0f7a4 10 = .ok (.iload_n 0, 1) := by decide +kernel
theorem dJ6_bitCount_0f7a4_11 : decode cJ6_bitCount_0f7a4 11 = .ok (.ldc_w 266, 3) := by decide +kernel
theorem dJ6_bitCount_0f7a4_14 : decode cJ6_bitCount_0f7a4 14 = .ok (.iand, 1) := by decide +kernel
theorem dJ6_bitCount_0f7a4_15 : decode cJ6_bitCount_0f7a4 15 = .ok (.iload_n 0, 1) := by decide +kernel
