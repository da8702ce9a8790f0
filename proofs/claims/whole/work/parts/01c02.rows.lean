theorem dX2_ever_35 : decode cX2_ever 35 = .ok (.istore 8, 2) := by decide +kernel
theorem dX2_ever_37 : decode cX2_ever 37 = .ok (.iload 8, 2) := by decide +kernel
theorem dX2_ever_39 : decode cX2_ever 39 = .ok (.iload_n 1, 1) := by decide +kernel
theorem dX2_ever_40 : decode cX2_ever 40 = .ok (.if_icmp .ge 61, 3) := by decide +kernel
theorem dX2_ever_43 : decode cX2_ever 43 = .ok (.iload_n 2, 1) := by decide +kernel
theorem dX2_ever_44 : decode cX2_ever 44 = .ok (.i2l, 1) := by decide +kernel
theorem dX2_ever_45 : decode cX2_ever 45 = .ok (.iload 8, 2) := by decide +kernel
theorem dX2_ever_47 : decode cX2_ever 47 = .ok (.invokestatic 131, 3) := by decide +kernel
theorem dX2_ever_50 : decode cX2_ever 50 = .ok (.aload_n 0, 1) := by decide +kernel
theorem dX2_ever_51 : decode cX2_ever 51 = .ok (.getfield 10, 3) := by decide +kernel
theorem dX2_ever_54 : decode cX2_ever 54 = .ok (.getfield 49, 3) := by decide +kernel
theorem dX2_ever_57 : decode cX2_ever 57 = .ok (.iload_n 2, 1) := by decide +kernel
theorem dX2_ever_58 : decode cX2_ever 58 = .ok (.isub, 1) := by decide +kernel
theorem dX2_ever_59 : decode cX2_ever 59 = .ok (.i2l, 1) := by decide +kernel
theorem dX2_ever_60 : decode cX2_ever 60 = .ok (.iload_n 1, 1) := by decide +kernel
theorem dX2_ever_61 : decode cX2_ever 61 = .ok (.iconst 1, 1) := by decide +kernel
theorem dX2_ever_62 : decode cX2_ever 62 = .ok (.isub, 1) := by decide +kernel
theorem dX2_ever_63 : decode cX2_ever 63 = .ok (.iload 8, 2) := by decide +kernel
theorem dX2_ever_65 : decode cX2_ever 65 = .ok (.isub, 1) := by decide +kernel
theorem dX2_ever_66 : decode cX2_ever 66 = .ok (.invokestatic 131, 3) := by decide +kernel
theorem dX2_ever_69 : decode cX2_ever 69 = .ok (.lmul, 1) := by decide +kernel
theorem dX2_ever_70 : decode cX2_ever 70 = .ok (.lstore 9, 2) := by decide +kernel
theorem dX2_ever_72 : decode cX2_ever 72 = .ok (.lload 6, 2) := by decide +kernel
theorem dX2_ever_74 : decode cX2_ever 74 = .ok (.lload 9, 2) := by decide +kernel
theorem dX2_ever_76 : decode cX2_ever 76 = .ok (.ladd, 1) := by decide +kernel
theorem dX2_ever_77 : decode cX2_ever 77 = .ok (.lstore 6, 2) := by decide +kernel
theorem dX2_ever_79 : decode cX2_ever 79 = .ok (.iload 8, 2) := by decide +kernel
theorem dX2_ever_81 : decode cX2_ever 81 = .ok (.iload_n 1, 1) := by decide +kernel
theorem dX2_ever_82 : decode cX2_ever 82 = .ok (.invokestatic 134, 3) := by decide +kernel
theorem dX2_ever_85 : decode cX2_ever 85 = .ok (.ifCond .eq 10, 3) := by decide +kernel
theorem dX2_ever_88 : decode cX2_ever 88 = .ok (.lload 4, 2) := by decide +kernel
theorem dX2_ever_90 : decode cX2_ever 90 = .ok (.lload 9, 2) := by decide +kernel
theorem dX2_ever_92 : decode cX2_ever 92 = .ok (.ladd, 1) := by decide +kernel
theorem dX2_ever_93 : decode cX2_ever 93 = .ok (.lstore 4, 2) := by decide +kernel
theorem dX2_ever_95 : decode cX2_ever 95 = .ok (.iinc 8 1, 3) := by decide +kernel
theorem dX2_ever_98 : decode cX2_ever 98 = .ok (.goto (-61), 3) := by decide +kernel
theorem dX2_ever_101 : decode cX2_ever 101 = .ok (.lload 4, 2) := by decide +kernel
theorem dX2_ever_103 : decode cX2_ever 103 = .ok (.lload 6, 2) := by decide +kernel
theorem dX2_ever_105 : decode cX2_ever 105 = .ok (.iload_n 3, 1) := by decide +kernel
theorem dX2_ever_106 : decode cX2_ever 106 = .ok (.invokestatic 138, 3) := by decide +kernel
theorem dX2_ever_109 : decode cX2_ever 109 = .ok (.lreturn, 1) := by decide +kernel
set_option maxRecDepth 20000 in
theorem ggX2_degree_X2_isWithin : GoodIn wsX2_degree wsX2_isWithin := goodIn_r _ [5] (by decide +kernel) (by decide +kernel)
set_option maxRecDepth 20000 in
theorem gX2_degree_X2_isWithin : GoodIn wsX2_degree (va_wsS RX2 89 yX2_isWithin wsX2_isWithin) := goodIn_app (goodIn_of _ (by decide +kernel)) ggX2_degree_X2_isWithin
set_option maxRecDepth 20000 in
theorem ggX2_degree_X0_setDegree : GoodIn wsX2_degree wsX0_setDegree := goodIn_r _ [9, 10, 11, 12, 23, 24, 25] (by decide +kernel) (by decide +kernel)
set_option maxRecDepth 20000 in
theorem gX2_degree_X0_setDegree_n142 : GoodIn wsX2_degree (wsX0_setDegree) := ggX2_degree_X0_setDegree
theorem dX2_degree_0 : decode cX2_degree 0 = .ok (.iload_n 1, 1) := by decide +kernel
theorem dX2_degree_1 : decode cX2_degree 1 = .ok (.iconst 0, 1) := by decide +kernel
theorem dX2_degree_2 : decode cX2_degree 2 = .ok (.iconst 4, 1) := by decide +kernel
theorem dX2_degree_3 : decode cX2_degree 3 = .ok (.invokestatic 89, 3) := by decide +kernel
theorem dX2_degree_6 : decode cX2_degree 6 = .ok (.ifCond .eq 14, 3) := by decide +kernel
theorem dX2_degree_9 : decode cX2_degree 9 = .ok (.iload_n 2, 1) := by decide +kernel
theorem dX2_degree_10 : decode cX2_degree 10 = .ok (.iconst 1, 1) := by decide +kernel
theorem dX2_degree_11 : decode cX2_degree 11 = .ok (.sipush 1000, 3) := by decide +kernel
theorem dX2_degree_14 : decode cX2_degree 14 = .ok (.invokestatic 89, 3) := by decide +kernel
theorem dX2_degree_17 : decode cX2_degree 17 = .ok (.ifCond .ne 6, 3) := by decide +kernel
theorem dX2_degree_20 : decode cX2_degree 20 = .ok (.bipush (-102), 2) := by decide +kernel
theorem dX2_degree_22 : decode cX2_degree 22 = .ok (.ireturn, 1) := by decide +kernel
theorem dX2_degree_23 : decode cX2_degree 23 = .ok (.aload_n 0, 1) := by decide +kernel
theorem dX2_degree_24 : decode cX2_degree 24 = .ok (.getfield 19, 3) := by decide +kernel
theorem dX2_degree_27 : decode cX2_degree 27 = .ok (.iload_n 1, 1) := by decide +kernel
theorem dX2_degree_28 : decode cX2_degree 28 = .ok (.iload_n 2, 1) := by decide +kernel
theorem dX2_degree_29 : decode cX2_degree 29 = .ok (.invokevirtual 142, 3) := by decide +kernel
theorem dX2_degree_32 : decode cX2_degree 32 = .ok (.iload_n 1, 1) := by decide +kernel
theorem dX2_degree_33 : decode cX2_degree 33 = .ok (.ireturn, 1) := by decide +kernel
set_option maxRecDepth 20000 in
theorem ggX2_term_X2_isWithin : GoodIn wsX2_term wsX2_isWithin := goodIn_r _ [5] (by decide +kernel) (by decide +kernel)
set_option maxRecDepth 20000 in
theorem gX2_term_X2_isWithin : GoodIn wsX2_term (va_wsS RX2 89 yX2_isWithin wsX2_isWithin) := goodIn_app (goodIn_of _ (by decide +kernel)) ggX2_term_X2_isWithin
theorem dX2_term_0 : decode cX2_term 0 = .ok (.iload_n 1, 1) := by decide +kernel
theorem dX2_term_1 : decode cX2_term 1 = .ok (.iconst 0, 1) := by decide +kernel
theorem dX2_term_2 : decode cX2_term 2 = .ok (.aload_n 0, 1) := by decide +kernel
theorem dX2_term_3 : decode cX2_term 3 = .ok (.getfield 19, 3) := by decide +kernel
theorem dX2_term_6 : decode cX2_term 6 = .ok (.getfield 146, 3) := by decide +kernel
theorem dX2_term_9 : decode cX2_term 9 = .ok (.invokestatic 89, 3) := by decide +kernel
theorem dX2_term_12 : decode cX2_term 12 = .ok (.ifCond .ne 6, 3) := by decide +kernel
theorem dX2_term_15 : decode cX2_term 15 = .ok (.bipush (-101), 2) := by decide +kernel
theorem dX2_term_17 : decode cX2_term 17 = .ok (.ireturn, 1) := by decide +kernel
theorem dX2_term_18 : decode cX2_term 18 = .ok (.iload_n 2, 1) := by decide +kernel
theorem dX2_term_19 : decode cX2_term 19 = .ok (.sipush (-1000), 3) := by decide +kernel
theorem dX2_term_22 : decode cX2_term 22 = .ok (.sipush 1000, 3) := by decide +kernel
theorem dX2_term_25 : decode cX2_term 25 = .ok (.invokestatic 89, 3) := by decide +kernel
theorem dX2_term_28 : decode cX2_term 28 = .ok (.ifCond .ne 6, 3) := by decide +kernel
theorem dX2_term_31 : decode cX2_term 31 = .ok (.bipush (-102), 2) := by decide +kernel
theorem dX2_term_33 : decode cX2_term 33 = .ok (.ireturn, 1) := by decide +kernel
theorem dX2_term_34 : decode cX2_term 34 = .ok (.aload_n 0, 1) := by decide +kernel
theorem dX2_term_35 : decode cX2_term 35 = .ok (.getfield 19, 3) := by decide +kernel
theorem dX2_term_38 : decode cX2_term 38 = .ok (.getfield 149, 3) := by decide +kernel
theorem dX2_term_41 : decode cX2_term 41 = .ok (.iload_n 1, 1) := by decide +kernel
theorem dX2_term_42 : decode cX2_term 42 = .ok (.iaload, 1) := by decide +kernel
theorem dX2_term_43 : decode cX2_term 43 = .ok (.istore_n 3, 1) := by decide +kernel
theorem dX2_term_44 : decode cX2_term 44 = .ok (.aload_n 0, 1) := by decide +kernel
theorem dX2_term_45 : decode cX2_term 45 = .ok (.getfield 19, 3) := by decide +kernel
theorem dX2_term_48 : decode cX2_term 48 = .ok (.getfield 149, 3) := by decide +kernel
theorem dX2_term_51 : decode cX2_term 51 = .ok (.iload_n 1, 1) := by decide +kernel
theorem dX2_term_52 : decode cX2_term 52 = .ok (.iload_n 2, 1) := by decide +kernel
theorem dX2_term_53 : decode cX2_term 53 = .ok (.iastore, 1) := by decide +kernel
theorem dX2_term_54 : decode cX2_term 54 = .ok (.iload_n 3, 1) := by decide +kernel
theorem dX2_term_55 : decode cX2_term 55 = .ok (.ireturn, 1) := by decide +kernel
set_option maxRecDepth 20000 in
theorem ggX2_part_X2_isWithin : GoodIn wsX2_part wsX2_isWithin := goodIn_r _ [7] (by decide +kernel) (by decide +kernel)
set_option maxRecDepth 20000 in
theorem gX2_part_X2_isWithin : GoodIn wsX2_part (va_wsS RX2 89 yX2_isWithin wsX2_isWithin) := goodIn_app (goodIn_of _ (by decide +kernel)) ggX2_part_X2_isWithin
set_option maxRecDepth 20000 in
theorem ggX2_part_X0_partAbove : GoodIn wsX2_part wsX0_partAbove := goodIn_r _ [11, 12, 13, 14, 15, 9, 16, 17, 18, 19, 20, 48, 49, 50] (by decide +kernel) (by decide +kernel)
set_option maxRecDepth 20000 in
theorem gX2_part_X0_partAbove_n155 : GoodIn wsX2_part (wsX0_partAbove) := ggX2_part_X0_partAbove
set_option maxRecDepth 20000 in
theorem ggX2_part_X0_partBelow : GoodIn wsX2_part wsX0_partBelow := goodIn_r _ [23, 24, 17, 18, 19, 9, 20, 12, 14, 15, 16, 48, 49, 50] (by decide +kernel) (by decide +kernel)
set_option maxRecDepth 20000 in
theorem gX2_part_X0_partBelow_n158 : GoodIn wsX2_part (wsX0_partBelow) := ggX2_part_X0_partBelow
set_option maxRecDepth 20000 in
theorem ggX2_part_X2_inLowestTerms : GoodIn wsX2_part wsX2_inLowestTerms := goodIn_r _ [27, 28, 29, 30, 31, 32, 33, 6, 34, 35, 36, 37] (by decide +kernel) (by decide +kernel)
set_option maxRecDepth 20000 in
theorem gX2_part_X2_inLowestTerms : GoodIn wsX2_part (va_wsS RX2 138 yX2_inLowestTerms wsX2_inLowestTerms) := goodIn_app (goodIn_of _ (by decide +kernel)) ggX2_part_X2_inLowestTerms
theorem dX2_part_0 : decode cX2_part 0 = .ok (.iload_n 1, 1) := by decide +kernel
theorem dX2_part_1 : decode cX2_part 1 = .ok (.aload_n 0, 1) := by decide +kernel
theorem dX2_part_2 : decode cX2_part 2 = .ok (.getfield 19, 3) := by decide +kernel
theorem dX2_part_5 : decode cX2_part 5 = .ok (.getfield 146, 3) := by decide +kernel
theorem dX2_part_8 : decode cX2_part 8 = .ok (.bipush 10, 2) := by decide +kernel
theorem dX2_part_10 : decode cX2_part 10 = .ok (.invokestatic 89, 3) := by decide +kernel
theorem dX2_part_13 : decode cX2_part 13 = .ok (.ifCond .eq 12, 3) := by decide +kernel
theorem dX2_part_16 : decode cX2_part 16 = .ok (.iload_n 3, 1) := by decide +kernel
theorem dX2_part_17 : decode cX2_part 17 = .ok (.iconst 0, 1) := by decide +kernel
theorem dX2_part_18 : decode cX2_part 18 = .ok (.iconst 1, 1) := by decide +kernel
theorem dX2_part_19 : decode cX2_part 19 = .ok (.invokestatic 89, 3) := by decide +kernel
theorem dX2_part_22 : decode cX2_part 22 = .ok (.ifCond .ne 7, 3) := by decide +kernel
theorem dX2_part_25 : decode cX2_part 25 = .ok (.ldc2_w 129, 3) := by decide +kernel
theorem dX2_part_28 : decode cX2_part 28 = .ok (.lreturn, 1) := by decide +kernel
theorem dX2_part_29 : decode cX2_part 29 = .ok (.iload_n 2, 1) := by decide +kernel
theorem dX2_part_30 : decode cX2_part 30 = .ok (.iconst 0, 1) := by decide +kernel
theorem dX2_part_31 : decode cX2_part 31 = .ok (.iload_n 1, 1) := by decide +kernel
theorem dX2_part_32 : decode cX2_part 32 = .ok (.invokestatic 89, 3) := by decide +kernel
theorem dX2_part_35 : decode cX2_part 35 = .ok (.ifCond .ne 7, 3) := by decide +kernel
theorem dX2_part_38 : decode cX2_part 38 = .ok (.ldc2_w 153, 3) := by decide +kernel
theorem dX2_part_41 : decode cX2_part 41 = .ok (.lreturn, 1) := by decide +kernel
theorem dX2_part_42 : decode cX2_part 42 = .ok (.aload_n 0, 1) := by decide +kernel
theorem dX2_part_43 : decode cX2_part 43 = .ok (.getfield 19, 3) := by decide +kernel
theorem dX2_part_46 : decode cX2_part 46 = .ok (.iload_n 1, 1) := by decide +kernel
theorem dX2_part_47 : decode cX2_part 47 = .ok (.iload_n 2, 1) := by decide +kernel
theorem dX2_part_48 : decode cX2_part 48 = .ok (.invokevirtual 155, 3) := by decide +kernel
theorem dX2_part_51 : decode cX2_part 51 = .ok (.aload_n 0, 1) := by decide +kernel
theorem dX2_part_52 : decode cX2_part 52 = .ok (.getfield 19, 3) := by decide +kernel
theorem dX2_part_55 : decode cX2_part 55 = .ok (.iload_n 1, 1) := by decide +kernel
theorem dX2_part_56 : decode cX2_part 56 = .ok (.invokevirtual 158, 3) := by decide +kernel
theorem dX2_part_59 : decode cX2_part 59 = .ok (.iload_n 3, 1) := by decide +kernel
theorem dX2_part_60 : decode cX2_part 60 = .ok (.invokestatic 138, 3) := by decide +kernel
theorem dX2_part_63 : decode cX2_part 63 = .ok (.lreturn, 1) := by decide +kernel
set_option maxRecDepth 20000 in
theorem ggX2_least_X0_mayBeMade : GoodIn wsX2_least wsX0_mayBeMade := goodIn_r _ [5, 6, 7, 8, 3, 9, 10, 11, 12, 13, 14, 15, 16, 17, 18, 19, 20, 21, 22, 23, 34, 35, 36] (by decide +kernel) (by decide +kernel)
set_option maxRecDepth 20000 in
theorem gX2_least_X0_mayBeMade_n161 : GoodIn wsX2_least (wsX0_mayBeMade) := ggX2_least_X0_mayBeMade
theorem dX2_least_0 : decode cX2_least 0 = .ok (.aload_n 0, 1) := by decide +kernel
theorem dX2_least_1 : decode cX2_least 1 = .ok (.getfield 19, 3) := by decide +kernel
theorem dX2_least_4 : decode cX2_least 4 = .ok (.getfield 146, 3) := by decide +kernel
theorem dX2_least_7 : decode cX2_least 7 = .ok (.istore_n 1, 1) := by decide +kernel
theorem dX2_least_8 : decode cX2_least 8 = .ok (.iload_n 1, 1) := by decide +kernel
theorem dX2_least_9 : decode cX2_least 9 = .ok (.bipush 10, 2) := by decide +kernel
theorem dX2_least_11 : decode cX2_least 11 = .ok (.if_icmp .gt 22, 3) := by decide +kernel
theorem dX2_least_14 : decode cX2_least 14 = .ok (.aload_n 0, 1) := by decide +kernel
theorem dX2_least_15 : decode cX2_least 15 = .ok (.getfield 19, 3) := by decide +kernel
theorem dX2_least_18 : decode cX2_least 18 = .ok (.iload_n 1, 1) := by decide +kernel
theorem dX2_least_19 : decode cX2_least 19 = .ok (.invokevirtual 161, 3) := by decide +kernel
theorem dX2_least_22 : decode cX2_least 22 = .ok (.ifCond .eq 5, 3) := by decide +kernel
theorem dX2_least_25 : decode cX2_least 25 = .ok (.iload_n 1, 1) := by decide +kernel
theorem dX2_least_26 : decode cX2_least 26 = .ok (.ireturn, 1) := by decide +kernel
theorem dX2_least_27 : decode cX2_least 27 = .ok (.iinc 1 1, 3) := by decide +kernel
theorem dX2_least_30 : decode cX2_least 30 = .ok (.goto (-22), 3) := by decide +kernel
theorem dX2_least_33 : decode cX2_least 33 = .ok (.iconst (-1), 1) := by decide +kernel
theorem dX2_least_34 : decode cX2_least 34 = .ok (.ireturn, 1) := by decide +kernel
set_option maxRecDepth 20000 in
theorem ggX2_at_X2_isValue : GoodIn wsX2_at wsX2_isValue := goodIn_r _ [8, 3, 9, 10, 7, 11, 30, 31, 32, 33, 34, 35, 36, 37, 38, 39, 40, 41] (by decide +kernel) (by decide +kernel)
set_option maxRecDepth 20000 in
theorem gX2_at_X2_isValue : GoodIn wsX2_at (wsV RX2 63 RX2 yX2_isValue wsX2_isValue) := goodIn_app (goodIn_of _ (by decide +kernel)) ggX2_at_X2_isValue
set_option maxRecDepth 20000 in
theorem ggX2_at_X0_thousandthsAt : GoodIn wsX2_at wsX0_thousandthsAt := goodIn_r _ [15, 16, 17, 18, 19, 20, 21, 22, 23, 24, 7, 25, 26, 27, 28, 29, 42, 43, 44] (by decide +kernel) (by decide +kernel)
set_option maxRecDepth 20000 in
theorem gX2_at_X0_thousandthsAt_n165 : GoodIn wsX2_at (wsX0_thousandthsAt) := ggX2_at_X0_thousandthsAt
theorem dX2_at_0 : decode cX2_at 0 = .ok (.aload_n 0, 1) := by decide +kernel
theorem dX2_at_1 : decode cX2_at 1 = .ok (.iload_n 1, 1) := by decide +kernel
theorem dX2_at_2 : decode cX2_at 2 = .ok (.invokevirtual 63, 3) := by decide +kernel
theorem dX2_at_5 : decode cX2_at 5 = .ok (.ifCond .ne 6, 3) := by decide +kernel
theorem dX2_at_8 : decode cX2_at 8 = .ok (.ldc 164, 2) := by decide +kernel
theorem dX2_at_10 : decode cX2_at 10 = .ok (.ireturn, 1) := by decide +kernel
theorem dX2_at_11 : decode cX2_at 11 = .ok (.aload_n 0, 1) := by decide +kernel
theorem dX2_at_12 : decode cX2_at 12 = .ok (.getfield 19, 3) := by decide +kernel
theorem dX2_at_15 : decode cX2_at 15 = .ok (.iload_n 1, 1) := by decide +kernel
theorem dX2_at_16 : decode cX2_at 16 = .ok (.aload_n 0, 1) := by decide +kernel
theorem dX2_at_17 : decode cX2_at 17 = .ok (.getfield 10, 3) := by decide +kernel
theorem dX2_at_20 : decode cX2_at 20 = .ok (.getfield 49, 3) := by decide +kernel
theorem dX2_at_23 : decode cX2_at 23 = .ok (.invokevirtual 165, 3) := by decide +kernel
theorem dX2_at_26 : decode cX2_at 26 = .ok (.ireturn, 1) := by decide +kernel
set_option maxRecDepth 20000 in
theorem ggX2_make_X2_isStream : GoodIn wsX2_make wsX2_isStream := goodIn_r _ [7, 8, 9, 6, 10] (by decide +kernel) (by decide +kernel)
set_option maxRecDepth 20000 in
theorem gX2_make_X2_isStream : GoodIn wsX2_make (va_wsS RX2 56 yX2_isStream wsX2_isStream) := goodIn_app (goodIn_of _ (by decide +kernel)) ggX2_make_X2_isStream
set_option maxRecDepth 20000 in
theorem ggX2_make_X2_isSource : GoodIn wsX2_make wsX2_isSource := goodIn_r _ [13, 8, 9, 6, 10] (by decide +kernel) (by decide +kernel)
set_option maxRecDepth 20000 in
theorem gX2_make_X2_isSource : GoodIn wsX2_make (va_wsS RX2 60 yX2_isSource wsX2_isSource) := goodIn_app (goodIn_of _ (by decide +kernel)) ggX2_make_X2_isSource
set_option maxRecDepth 20000 in
theorem ggX2_make_X2_isValue : GoodIn wsX2_make wsX2_isValue := goodIn_r _ [17, 3, 8, 9, 6, 10, 92, 93, 94, 95, 96, 97, 98, 99, 100, 101, 105, 106] (by decide +kernel) (by decide +kernel)
set_option maxRecDepth 20000 in
theorem gX2_make_X2_isValue : GoodIn wsX2_make (wsV RX2 63 RX2 yX2_isValue wsX2_isValue) := goodIn_app (goodIn_of _ (by decide +kernel)) ggX2_make_X2_isValue
set_option maxRecDepth 20000 in
theorem ggX2_make_X2_isWithin : GoodIn wsX2_make wsX2_isWithin := goodIn_r _ [10] (by decide +kernel) (by decide +kernel)
set_option maxRecDepth 20000 in
theorem gX2_make_X2_isWithin : GoodIn wsX2_make (va_wsS RX2 89 yX2_isWithin wsX2_isWithin) := goodIn_app (goodIn_of _ (by decide +kernel)) ggX2_make_X2_isWithin
set_option maxRecDepth 20000 in
theorem ggX2_make_X0_mayBeMade : GoodIn wsX2_make wsX0_mayBeMade := goodIn_r _ [21, 22, 23, 24, 19, 25, 26, 27, 28, 29, 30, 31, 32, 33, 34, 35, 36, 37, 38, 39, 102, 103, 104] (by decide +kernel) (by decide +kernel)
set_option maxRecDepth 20000 in
theorem gX2_make_X0_mayBeMade_n161 : GoodIn wsX2_make (wsX0_mayBeMade) := ggX2_make_X0_mayBeMade
set_option maxRecDepth 20000 in
theorem ggX2_make_X0_partAbove : GoodIn wsX2_make wsX0_partAbove := goodIn_r _ [38, 31, 39, 32, 33, 19, 34, 27, 28, 29, 30, 102, 103, 104] (by decide +kernel) (by decide +kernel)
set_option maxRecDepth 20000 in
theorem gX2_make_X0_partAbove_n155 : GoodIn wsX2_make (wsX0_partAbove) := ggX2_make_X0_partAbove
set_option maxRecDepth 20000 in
theorem ggX2_make_X1_ofSource : GoodIn wsX2_make wsX1_ofSource := goodIn_r _ [43, 44, 6, 45, 46, 47, 48, 49, 41, 50, 51, 52, 53, 54, 55, 56, 57, 58, 59, 60, 61, 62, 63, 64, 65, 66, 67, 68, 105, 106] (by decide +kernel) (by decide +kernel)
set_option maxRecDepth 20000 in
theorem gX2_make_X1_ofSource_n66 : GoodIn wsX2_make (wsX1_ofSource) := ggX2_make_X1_ofSource
set_option maxRecDepth 20000 in
theorem ggX2_make_X2_formed : GoodIn wsX2_make wsX2_formed := goodIn_r _ [72, 1, 3, 2, 23, 19, 24, 25, 26, 27, 28, 29, 30, 31, 32, 33, 34, 73, 41, 74, 75, 60, 76, 77, 6, 78, 52, 53, 54, 55, 92, 93, 94, 95, 96, 97, 98, 99, 100, 101, 105, 106, 102, 103, 104] (by decide +kernel) (by decide +kernel)
set_option maxRecDepth 20000 in
theorem gX2_make_X2_formed : GoodIn wsX2_make (wsV RX2 168 RX2 yX2_formed wsX2_formed) := goodIn_app (goodIn_of _ (by decide +kernel)) ggX2_make_X2_formed
set_option maxRecDepth 20000 in
theorem ggX2_make_X2_setStream : GoodIn wsX2_make wsX2_setStream := goodIn_r _ [82, 83, 3, 84, 44, 6, 45, 46, 85, 86, 87, 88, 89, 90, 91, 92, 93, 94, 95, 96, 97, 98, 99, 100, 101, 105, 106] (by decide +kernel) (by decide +kernel)
set_option maxRecDepth 20000 in
theorem gX2_make_X2_setStream : GoodIn wsX2_make (wsV RX2 70 RX2 yX2_setStream wsX2_setStream) := goodIn_app (goodIn_of _ (by decide +kernel)) ggX2_make_X2_setStream
theorem dX2_make_0 : decode cX2_make 0 = .ok (.iload_n 1, 1) := by decide +kernel
theorem dX2_make_1 : decode cX2_make 1 = .ok (.invokestatic 56, 3) := by decide +kernel
theorem dX2_make_4 : decode cX2_make 4 = .ok (.ifCond .ne 6, 3) := by decide +kernel
theorem dX2_make_7 : decode cX2_make 7 = .ok (.bipush (-101), 2) := by decide +kernel
theorem dX2_make_9 : decode cX2_make 9 = .ok (.ireturn, 1) := by decide +kernel
theorem dX2_make_10 : decode cX2_make 10 = .ok (.iload_n 2, 1) := by decide +kernel
theorem dX2_make_11 : decode cX2_make 11 = .ok (.invokestatic 60, 3) := by decide +kernel
theorem dX2_make_14 : decode cX2_make 14 = .ok (.ifCond .eq 28, 3) := by decide +kernel
theorem dX2_make_17 : decode cX2_make 17 = .ok (.aload_n 0, 1) := by decide +kernel
theorem dX2_make_18 : decode cX2_make 18 = .ok (.iload_n 3, 1) := by decide +kernel
theorem dX2_make_19 : decode cX2_make 19 = .ok (.invokevirtual 63, 3) := by decide +kernel
theorem dX2_make_22 : decode cX2_make 22 = .ok (.ifCond .eq 20, 3) := by decide +kernel
theorem dX2_make_25 : decode cX2_make 25 = .ok (.iload 4, 2) := by decide +kernel
theorem dX2_make_27 : decode cX2_make 27 = .ok (.aload_n 0, 1) := by decide +kernel
theorem dX2_make_28 : decode cX2_make 28 = .ok (.getfield 19, 3) := by decide +kernel
theorem dX2_make_31 : decode cX2_make 31 = .ok (.getfield 146, 3) := by decide +kernel
theorem dX2_make_34 : decode cX2_make 34 = .ok (.bipush 10, 2) := by decide +kernel
theorem dX2_make_36 : decode cX2_make 36 = .ok (.invokestatic 89, 3) := by decide +kernel
theorem dX2_make_39 : decode cX2_make 39 = .ok (.ifCond .ne 6, 3) := by decide +kernel
theorem dX2_make_42 : decode cX2_make 42 = .ok (.bipush (-102), 2) := by decide +kernel
theorem dX2_make_44 : decode cX2_make 44 = .ok (.ireturn, 1) := by decide +kernel
theorem dX2_make_45 : decode cX2_make 45 = .ok (.aload_n 0, 1) := by decide +kernel
theorem dX2_make_46 : decode cX2_make 46 = .ok (.getfield 19, 3) := by decide +kernel
theorem dX2_make_49 : decode cX2_make 49 = .ok (.iload 4, 2) := by decide +kernel
theorem dX2_make_51 : decode cX2_make 51 = .ok (.invokevirtual 161, 3) := by decide +kernel
theorem dX2_make_54 : decode cX2_make 54 = .ok (.ifCond .ne 6, 3) := by decide +kernel
theorem dX2_make_57 : decode cX2_make 57 = .ok (.bipush (-103), 2) := by decide +kernel
theorem dX2_make_59 : decode cX2_make 59 = .ok (.ireturn, 1) := by decide +kernel
theorem dX2_make_60 : decode cX2_make 60 = .ok (.iconst 0, 1) := by decide +kernel
theorem dX2_make_61 : decode cX2_make 61 = .ok (.istore 5, 2) := by decide +kernel
theorem dX2_make_63 : decode cX2_make 63 = .ok (.iload 5, 2) := by decide +kernel
theorem dX2_make_65 : decode cX2_make 65 = .ok (.iload 4, 2) := by decide +kernel
theorem dX2_make_67 : decode cX2_make 67 = .ok (.if_icmp .gt 27, 3) := by decide +kernel
theorem dX2_make_70 : decode cX2_make 70 = .ok (.aload_n 0, 1) := by decide +kernel
theorem dX2_make_71 : decode cX2_make 71 = .ok (.getfield 33, 3) := by decide +kernel
theorem dX2_make_74 : decode cX2_make 74 = .ok (.iload 5, 2) := by decide +kernel
theorem dX2_make_76 : decode cX2_make 76 = .ok (.aload_n 0, 1) := by decide +kernel
theorem dX2_make_77 : decode cX2_make 77 = .ok (.getfield 19, 3) := by decide +kernel
theorem dX2_make_80 : decode cX2_make 80 = .ok (.iload 4, 2) := by decide +kernel
theorem dX2_make_82 : decode cX2_make 82 = .ok (.iload 5, 2) := by decide +kernel
theorem dX2_make_84 : decode cX2_make 84 = .ok (.invokevirtual 155, 3) := by decide +kernel
theorem dX2_make_87 : decode cX2_make 87 = .ok (.lastore, 1) := by decide +kernel
theorem dX2_make_88 : decode cX2_make 88 = .ok (.iinc 5 1, 3) := by decide +kernel
theorem dX2_make_91 : decode cX2_make 91 = .ok (.goto (-28), 3) := by decide +kernel
theorem dX2_make_94 : decode cX2_make 94 = .ok (.aload_n 0, 1) := by decide +kernel
theorem dX2_make_95 : decode cX2_make 95 = .ok (.iload_n 1, 1) := by decide +kernel
theorem dX2_make_96 : decode cX2_make 96 = .ok (.aload_n 0, 1) := by decide +kernel
theorem dX2_make_97 : decode cX2_make 97 = .ok (.aload_n 0, 1) := by decide +kernel
theorem dX2_make_98 : decode cX2_make 98 = .ok (.getfield 10, 3) := by decide +kernel
theorem dX2_make_101 : decode cX2_make 101 = .ok (.iload_n 2, 1) := by decide +kernel
theorem dX2_make_102 : decode cX2_make 102 = .ok (.iload_n 3, 1) := by decide +kernel
theorem dX2_make_103 : decode cX2_make 103 = .ok (.invokevirtual 66, 3) := by decide +kernel
theorem dX2_make_106 : decode cX2_make 106 = .ok (.iload 4, 2) := by decide +kernel
theorem dX2_make_108 : decode cX2_make 108 = .ok (.invokevirtual 168, 3) := by decide +kernel
theorem dX2_make_111 : decode cX2_make 111 = .ok (.invokevirtual 70, 3) := by decide +kernel
theorem dX2_make_114 : decode cX2_make 114 = .ok (.ireturn, 1) := by decide +kernel
theorem dX2_count_0 : decode cX2_count 0 = .ok (.iload_n 1, 1) := by decide +kernel
theorem dX2_count_1 : decode cX2_count 1 = .ok (.tableswitch 60 0 3 #[31, 39, 47, 55], 31) := by decide +kernel
theorem dX2_count_32 : decode cX2_count 32 = .ok (.aload_n 0, 1) := by decide +kernel
theorem dX2_count_33 : decode cX2_count 33 = .ok (.getfield 10, 3) := by decide +kernel
theorem dX2_count_36 : decode cX2_count 36 = .ok (.getfield 49, 3) := by decide +kernel
theorem dX2_count_39 : decode cX2_count 39 = .ok (.ireturn, 1) := by decide +kernel
theorem dX2_count_40 : decode cX2_count 40 = .ok (.aload_n 0, 1) := by decide +kernel
theorem dX2_count_41 : decode cX2_count 41 = .ok (.getfield 19, 3) := by decide +kernel
theorem dX2_count_44 : decode cX2_count 44 = .ok (.getfield 146, 3) := by decide +kernel
theorem dX2_count_47 : decode cX2_count 47 = .ok (.ireturn, 1) := by decide +kernel
theorem dX2_count_48 : decode cX2_count 48 = .ok (.aload_n 0, 1) := by decide +kernel
theorem dX2_count_49 : decode cX2_count 49 = .ok (.getfield 19, 3) := by decide +kernel
theorem dX2_count_52 : decode cX2_count 52 = .ok (.getfield 171, 3) := by decide +kernel
theorem dX2_count_55 : decode cX2_count 55 = .ok (.ireturn, 1) := by decide +kernel
theorem dX2_count_56 : decode cX2_count 56 = .ok (.aload_n 0, 1) := by decide +kernel
theorem dX2_count_57 : decode cX2_count 57 = .ok (.getfield 40, 3) := by decide +kernel
theorem dX2_count_60 : decode cX2_count 60 = .ok (.ireturn, 1) := by decide +kernel
theorem dX2_count_61 : decode cX2_count 61 = .ok (.bipush (-102), 2) := by decide +kernel
theorem dX2_count_63 : decode cX2_count 63 = .ok (.ireturn, 1) := by decide +kernel
set_option maxRecDepth 20000 in
theorem ggX2_digest_J13_bitCount_95d88 : GoodIn wsX2_digest wsJ13_bitCount_95d88 := goodIn_r _ [11, 12, 13, 14] (by decide +kernel) (by decide +kernel)
set_option maxRecDepth 20000 in
theorem gX2_digest_J13_bitCount_95d88 : GoodIn wsX2_digest (va_wsS RX2 83 yJ13_bitCount_95d88 wsJ13_bitCount_95d88) := goodIn_app (goodIn_of _ (by decide +kernel)) ggX2_digest_J13_bitCount_95d88
theorem dX2_digest_0 : decode cX2_digest 0 = .ok (.ldc2_w 174, 3) := by decide +kernel
theorem dX2_digest_3 : decode cX2_digest 3 = .ok (.aload_n 0, 1) := by decide +kernel
theorem dX2_digest_4 : decode cX2_digest 4 = .ok (.getfield 10, 3) := by decide +kernel
theorem dX2_digest_7 : decode cX2_digest 7 = .ok (.getfield 49, 3) := by decide +kernel
theorem dX2_digest_10 : decode cX2_digest 10 = .ok (.i2l, 1) := by decide +kernel
theorem dX2_digest_11 : decode cX2_digest 11 = .ok (.ladd, 1) := by decide +kernel
theorem dX2_digest_12 : decode cX2_digest 12 = .ok (.lstore_n 1, 1) := by decide +kernel
theorem dX2_digest_13 : decode cX2_digest 13 = .ok (.iconst 0, 1) := by decide +kernel
theorem dX2_digest_14 : decode cX2_digest 14 = .ok (.istore_n 3, 1) := by decide +kernel
theorem dX2_digest_15 : decode cX2_digest 15 = .ok (.iload_n 3, 1) := by decide +kernel
theorem dX2_digest_16 : decode cX2_digest 16 = .ok (.bipush 12, 2) := by decide +kernel
theorem dX2_digest_18 : decode cX2_digest 18 = .ok (.if_icmp .ge 39, 3) := by decide +kernel
theorem dX2_digest_21 : decode cX2_digest 21 = .ok (.ldc2_w 176, 3) := by decide +kernel
theorem dX2_digest_24 : decode cX2_digest 24 = .ok (.lload_n 1, 1) := by decide +kernel
theorem dX2_digest_25 : decode cX2_digest 25 = .ok (.lmul, 1) := by decide +kernel
theorem dX2_digest_26 : decode cX2_digest 26 = .ok (.aload_n 0, 1) := by decide +kernel
theorem dX2_digest_27 : decode cX2_digest 27 = .ok (.getfield 23, 3) := by decide +kernel
theorem dX2_digest_30 : decode cX2_digest 30 = .ok (.iload_n 3, 1) := by decide +kernel
theorem dX2_digest_31 : decode cX2_digest 31 = .ok (.laload, 1) := by decide +kernel
theorem dX2_digest_32 : decode cX2_digest 32 = .ok (.invokestatic 83, 3) := by decide +kernel
theorem dX2_digest_35 : decode cX2_digest 35 = .ok (.i2l, 1) := by decide +kernel
theorem dX2_digest_36 : decode cX2_digest 36 = .ok (.ladd, 1) := by decide +kernel
theorem dX2_digest_37 : decode cX2_digest 37 = .ok (.lstore_n 1, 1) := by decide +kernel
theorem dX2_digest_38 : decode cX2_digest 38 = .ok (.ldc2_w 176, 3) := by decide +kernel
theorem dX2_digest_41 : decode cX2_digest 41 = .ok (.lload_n 1, 1) := by decide +kernel
theorem dX2_digest_42 : decode cX2_digest 42 = .ok (.lmul, 1) := by decide +kernel
theorem dX2_digest_43 : decode cX2_digest 43 = .ok (.aload_n 0, 1) := by decide +kernel
theorem dX2_digest_44 : decode cX2_digest 44 = .ok (.getfield 23, 3) := by decide +kernel
theorem dX2_digest_47 : decode cX2_digest 47 = .ok (.iload_n 3, 1) := by decide +kernel
theorem dX2_digest_48 : decode cX2_digest 48 = .ok (.laload, 1) := by decide +kernel
theorem dX2_digest_49 : decode cX2_digest 49 = .ok (.ladd, 1) := by decide +kernel
theorem dX2_digest_50 : decode cX2_digest 50 = .ok (.lstore_n 1, 1) := by decide +kernel
theorem dX2_digest_51 : decode cX2_digest 51 = .ok (.iinc 3 1, 3) := by decide +kernel
theorem dX2_digest_54 : decode cX2_digest 54 = .ok (.goto (-39), 3) := by decide +kernel
theorem dX2_digest_57 : decode cX2_digest 57 = .ok (.ldc2_w 176, 3) := by decide +kernel
theorem dX2_digest_60 : decode cX2_digest 60 = .ok (.lload_n 1, 1) := by decide +kernel
theorem dX2_digest_61 : decode cX2_digest 61 = .ok (.lmul, 1) := by decide +kernel
theorem dX2_digest_62 : decode cX2_digest 62 = .ok (.aload_n 0, 1) := by decide +kernel
theorem dX2_digest_63 : decode cX2_digest 63 = .ok (.getfield 36, 3) := by decide +kernel
theorem dX2_digest_66 : decode cX2_digest 66 = .ok (.i2l, 1) := by decide +kernel
theorem dX2_digest_67 : decode cX2_digest 67 = .ok (.ladd, 1) := by decide +kernel
theorem dX2_digest_68 : decode cX2_digest 68 = .ok (.lstore_n 1, 1) := by decide +kernel
theorem dX2_digest_69 : decode cX2_digest 69 = .ok (.ldc2_w 176, 3) := by decide +kernel
theorem dX2_digest_72 : decode cX2_digest 72 = .ok (.lload_n 1, 1) := by decide +kernel
theorem dX2_digest_73 : decode cX2_digest 73 = .ok (.lmul, 1) := by decide +kernel
theorem dX2_digest_74 : decode cX2_digest 74 = .ok (.aload_n 0, 1) := by decide +kernel
theorem dX2_digest_75 : decode cX2_digest 75 = .ok (.getfield 19, 3) := by decide +kernel
theorem dX2_digest_78 : decode cX2_digest 78 = .ok (.getfield 146, 3) := by decide +kernel
theorem dX2_digest_81 : decode cX2_digest 81 = .ok (.i2l, 1) := by decide +kernel
theorem dX2_digest_82 : decode cX2_digest 82 = .ok (.ladd, 1) := by decide +kernel
theorem dX2_digest_83 : decode cX2_digest 83 = .ok (.lstore_n 1, 1) := by decide +kernel
theorem dX2_digest_84 : decode cX2_digest 84 = .ok (.ldc2_w 176, 3) := by decide +kernel
theorem dX2_digest_87 : decode cX2_digest 87 = .ok (.lload_n 1, 1) := by decide +kernel
theorem dX2_digest_88 : decode cX2_digest 88 = .ok (.lmul, 1) := by decide +kernel
theorem dX2_digest_89 : decode cX2_digest 89 = .ok (.aload_n 0, 1) := by decide +kernel
theorem dX2_digest_90 : decode cX2_digest 90 = .ok (.getfield 19, 3) := by decide +kernel
theorem dX2_digest_93 : decode cX2_digest 93 = .ok (.getfield 171, 3) := by decide +kernel
theorem dX2_digest_96 : decode cX2_digest 96 = .ok (.i2l, 1) := by decide +kernel
theorem dX2_digest_97 : decode cX2_digest 97 = .ok (.ladd, 1) := by decide +kernel
theorem dX2_digest_98 : decode cX2_digest 98 = .ok (.lstore_n 1, 1) := by decide +kernel
theorem dX2_digest_99 : decode cX2_digest 99 = .ok (.iconst 0, 1) := by decide +kernel
theorem dX2_digest_100 : decode cX2_digest 100 = .ok (.istore_n 3, 1) := by decide +kernel
theorem dX2_digest_101 : decode cX2_digest 101 = .ok (.iload_n 3, 1) := by decide +kernel
theorem dX2_digest_102 : decode cX2_digest 102 = .ok (.iconst 4, 1) := by decide +kernel
theorem dX2_digest_103 : decode cX2_digest 103 = .ok (.if_icmp .gt 26, 3) := by decide +kernel
theorem dX2_digest_106 : decode cX2_digest 106 = .ok (.ldc2_w 176, 3) := by decide +kernel
theorem dX2_digest_109 : decode cX2_digest 109 = .ok (.lload_n 1, 1) := by decide +kernel
theorem dX2_digest_110 : decode cX2_digest 110 = .ok (.lmul, 1) := by decide +kernel
theorem dX2_digest_111 : decode cX2_digest 111 = .ok (.aload_n 0, 1) := by decide +kernel
theorem dX2_digest_112 : decode cX2_digest 112 = .ok (.getfield 19, 3) := by decide +kernel
theorem dX2_digest_115 : decode cX2_digest 115 = .ok (.getfield 149, 3) := by decide +kernel
theorem dX2_digest_118 : decode cX2_digest 118 = .ok (.iload_n 3, 1) := by decide +kernel
theorem dX2_digest_119 : decode cX2_digest 119 = .ok (.iaload, 1) := by decide +kernel
theorem dX2_digest_120 : decode cX2_digest 120 = .ok (.i2l, 1) := by decide +kernel
theorem dX2_digest_121 : decode cX2_digest 121 = .ok (.ladd, 1) := by decide +kernel
theorem dX2_digest_122 : decode cX2_digest 122 = .ok (.lstore_n 1, 1) := by decide +kernel
theorem dX2_digest_123 : decode cX2_digest 123 = .ok (.iinc 3 1, 3) := by decide +kernel
theorem dX2_digest_126 : decode cX2_digest 126 = .ok (.goto (-25), 3) := by decide +kernel
theorem dX2_digest_129 : decode cX2_digest 129 = .ok (.ldc2_w 176, 3) := by decide +kernel
theorem dX2_digest_132 : decode cX2_digest 132 = .ok (.lload_n 1, 1) := by decide +kernel
theorem dX2_digest_133 : decode cX2_digest 133 = .ok (.lmul, 1) := by decide +kernel
theorem dX2_digest_134 : decode cX2_digest 134 = .ok (.aload_n 0, 1) := by decide +kernel
theorem dX2_digest_135 : decode cX2_digest 135 = .ok (.getfield 40, 3) := by decide +kernel
theorem dX2_digest_138 : decode cX2_digest 138 = .ok (.i2l, 1) := by decide +kernel
theorem dX2_digest_139 : decode cX2_digest 139 = .ok (.ladd, 1) := by decide +kernel
theorem dX2_digest_140 : decode cX2_digest 140 = .ok (.lreturn, 1) := by decide +kernel
theorem dX2_isWithin_0 : decode cX2_isWithin 0 = .ok (.iload_n 1, 1) := by decide +kernel
theorem dX2_isWithin_1 : decode cX2_isWithin 1 = .ok (.iload_n 0, 1) := by decide +kernel
theorem dX2_isWithin_2 : decode cX2_isWithin 2 = .ok (.if_icmp .gt 12, 3) := by decide +kernel
theorem dX2_isWithin_5 : decode cX2_isWithin 5 = .ok (.iload_n 0, 1) := by decide +kernel
theorem dX2_isWithin_6 : decode cX2_isWithin 6 = .ok (.iload_n 2, 1) := by decide +kernel
theorem dX2_isWithin_7 : decode cX2_isWithin 7 = .ok (.if_icmp .gt 7, 3) := by decide +kernel
theorem dX2_isWithin_10 : decode cX2_isWithin 10 = .ok (.iconst 1, 1) := by decide +kernel
theorem dX2_isWithin_11 : decode cX2_isWithin 11 = .ok (.goto 4, 3) := by decide +kernel
theorem dX2_isWithin_14 : decode cX2_isWithin 14 = .ok (.iconst 0, 1) := by decide +kernel
theorem dX2_isWithin_15 : decode cX2_isWithin 15 = .ok (.ireturn, 1) := by decide +kernel
set_option maxRecDepth 20000 in
theorem ggX2_isStream_X2_isWithin : GoodIn wsX2_isStream wsX2_isWithin := goodIn_r _ [4] (by decide +kernel) (by decide +kernel)
set_option maxRecDepth 20000 in
theorem gX2_isStream_X2_isWithin : GoodIn wsX2_isStream (va_wsS RX2 89 yX2_isWithin wsX2_isWithin) := goodIn_app (goodIn_of _ (by decide +kernel)) ggX2_isStream_X2_isWithin
theorem dX2_isStream_0 : decode cX2_isStream 0 = .ok (.iload_n 0, 1) := by decide +kernel
theorem dX2_isStream_1 : decode cX2_isStream 1 = .ok (.iconst 0, 1) := by decide +kernel
theorem dX2_isStream_2 : decode cX2_isStream 2 = .ok (.bipush 11, 2) := by decide +kernel
theorem dX2_isStream_4 : decode cX2_isStream 4 = .ok (.invokestatic 89, 3) := by decide +kernel
theorem dX2_isStream_7 : decode cX2_isStream 7 = .ok (.ireturn, 1) := by decide +kernel
set_option maxRecDepth 20000 in
theorem ggX2_isSource_X2_isWithin : GoodIn wsX2_isSource wsX2_isWithin := goodIn_r _ [4] (by decide +kernel) (by decide +kernel)
set_option maxRecDepth 20000 in
theorem gX2_isSource_X2_isWithin : GoodIn wsX2_isSource (va_wsS RX2 89 yX2_isWithin wsX2_isWithin) := goodIn_app (goodIn_of _ (by decide +kernel)) ggX2_isSource_X2_isWithin
theorem dX2_isSource_0 : decode cX2_isSource 0 = .ok (.iload_n 0, 1) := by decide +kernel
theorem dX2_isSource_1 : decode cX2_isSource 1 = .ok (.iconst 0, 1) := by decide +kernel
theorem dX2_isSource_2 : decode cX2_isSource 2 = .ok (.iconst 3, 1) := by decide +kernel
theorem dX2_isSource_3 : decode cX2_isSource 3 = .ok (.invokestatic 89, 3) := by decide +kernel
theorem dX2_isSource_6 : decode cX2_isSource 6 = .ok (.ireturn, 1) := by decide +kernel
set_option maxRecDepth 20000 in
theorem ggX2_isMachine_X2_isWithin : GoodIn wsX2_isMachine wsX2_isWithin := goodIn_r _ [4] (by decide +kernel) (by decide +kernel)
set_option maxRecDepth 20000 in
theorem gX2_isMachine_X2_isWithin : GoodIn wsX2_isMachine (va_wsS RX2 89 yX2_isWithin wsX2_isWithin) := goodIn_app (goodIn_of _ (by decide +kernel)) ggX2_isMachine_X2_isWithin
theorem dX2_isMachine_0 : decode cX2_isMachine 0 = .ok (.iload_n 0, 1) := by decide +kernel
theorem dX2_isMachine_1 : decode cX2_isMachine 1 = .ok (.iconst 2, 1) := by decide +kernel
theorem dX2_isMachine_2 : decode cX2_isMachine 2 = .ok (.bipush 8, 2) := by decide +kernel
theorem dX2_isMachine_4 : decode cX2_isMachine 4 = .ok (.invokestatic 89, 3) := by decide +kernel
theorem dX2_isMachine_7 : decode cX2_isMachine 7 = .ok (.ifCond .eq 13, 3) := by decide +kernel
theorem dX2_isMachine_10 : decode cX2_isMachine 10 = .ok (.iload_n 0, 1) := by decide +kernel
theorem dX2_isMachine_11 : decode cX2_isMachine 11 = .ok (.iconst 2, 1) := by decide +kernel
theorem dX2_isMachine_12 : decode cX2_isMachine 12 = .ok (.irem, 1) := by decide +kernel
theorem dX2_isMachine_13 : decode cX2_isMachine 13 = .ok (.ifCond .ne 7, 3) := by decide +kernel
theorem dX2_isMachine_16 : decode cX2_isMachine 16 = .ok (.iconst 1, 1) := by decide +kernel
theorem dX2_isMachine_17 : decode cX2_isMachine 17 = .ok (.goto 4, 3) := by decide +kernel
theorem dX2_isMachine_20 : decode cX2_isMachine 20 = .ok (.iconst 0, 1) := by decide +kernel
theorem dX2_isMachine_21 : decode cX2_isMachine 21 = .ok (.ireturn, 1) := by decide +kernel
set_option maxRecDepth 20000 in
theorem ggX2_isBit_X2_isWithin : GoodIn wsX2_isBit wsX2_isWithin := goodIn_r _ [5] (by decide +kernel) (by decide +kernel)
set_option maxRecDepth 20000 in
theorem gX2_isBit_X2_isWithin : GoodIn wsX2_isBit (va_wsS RX2 89 yX2_isWithin wsX2_isWithin) := goodIn_app (goodIn_of _ (by decide +kernel)) ggX2_isBit_X2_isWithin
theorem dX2_isBit_0 : decode cX2_isBit 0 = .ok (.iload_n 1, 1) := by decide +kernel
theorem dX2_isBit_1 : decode cX2_isBit 1 = .ok (.iconst 0, 1) := by decide +kernel
theorem dX2_isBit_2 : decode cX2_isBit 2 = .ok (.aload_n 0, 1) := by decide +kernel
theorem dX2_isBit_3 : decode cX2_isBit 3 = .ok (.getfield 10, 3) := by decide +kernel
theorem dX2_isBit_6 : decode cX2_isBit 6 = .ok (.getfield 49, 3) := by decide +kernel
theorem dX2_isBit_9 : decode cX2_isBit 9 = .ok (.iconst 1, 1) := by decide +kernel
theorem dX2_isBit_10 : decode cX2_isBit 10 = .ok (.isub, 1) := by decide +kernel
theorem dX2_isBit_11 : decode cX2_isBit 11 = .ok (.invokestatic 89, 3) := by decide +kernel
theorem dX2_isBit_14 : decode cX2_isBit 14 = .ok (.ireturn, 1) := by decide +kernel
set_option maxRecDepth 20000 in
theorem ggX2_isValue_X2_isWithin : GoodIn wsX2_isValue wsX2_isWithin := goodIn_r _ [5] (by decide +kernel) (by decide +kernel)
set_option maxRecDepth 20000 in
theorem gX2_isValue_X2_isWithin : GoodIn wsX2_isValue (va_wsS RX2 89 yX2_isWithin wsX2_isWithin) := goodIn_app (goodIn_of _ (by decide +kernel)) ggX2_isValue_X2_isWithin
theorem dX2_isValue_0 : decode cX2_isValue 0 = .ok (.iload_n 1, 1) := by decide +kernel
theorem dX2_isValue_1 : decode cX2_isValue 1 = .ok (.iconst 0, 1) := by decide +kernel
theorem dX2_isValue_2 : decode cX2_isValue 2 = .ok (.aload_n 0, 1) := by decide +kernel
theorem dX2_isValue_3 : decode cX2_isValue 3 = .ok (.getfield 10, 3) := by decide +kernel
theorem dX2_isValue_6 : decode cX2_isValue 6 = .ok (.getfield 49, 3) := by decide +kernel
theorem dX2_isValue_9 : decode cX2_isValue 9 = .ok (.invokestatic 89, 3) := by decide +kernel
theorem dX2_isValue_12 : decode cX2_isValue 12 = .ok (.ireturn, 1) := by decide +kernel
theorem dX2_bitOf_0 : decode cX2_bitOf 0 = .ok (.lload_n 0, 1) := by decide +kernel
theorem dX2_bitOf_1 : decode cX2_bitOf 1 = .ok (.iload_n 2, 1) := by decide +kernel
theorem dX2_bitOf_2 : decode cX2_bitOf 2 = .ok (.lushr, 1) := by decide +kernel
theorem dX2_bitOf_3 : decode cX2_bitOf 3 = .ok (.lconst 1, 1) := by decide +kernel
theorem dX2_bitOf_4 : decode cX2_bitOf 4 = .ok (.land, 1) := by decide +kernel
theorem dX2_bitOf_5 : decode cX2_bitOf 5 = .ok (.l2i, 1) := by decide +kernel
theorem dX2_bitOf_6 : decode cX2_bitOf 6 = .ok (.ireturn, 1) := by decide +kernel
theorem dX2_lowBits_0 : decode cX2_lowBits 0 = .ok (.iload_n 0, 1) := by decide +kernel
theorem dX2_lowBits_1 : decode cX2_lowBits 1 = .ok (.bipush 64, 2) := by decide +kernel
theorem dX2_lowBits_3 : decode cX2_lowBits 3 = .ok (.if_icmp .lt 9, 3) := by decide +kernel
theorem dX2_lowBits_6 : decode cX2_lowBits 6 = .ok (.ldc2_w 81, 3) := by decide +kernel
theorem dX2_lowBits_9 : decode cX2_lowBits 9 = .ok (.goto 8, 3) := by decide +kernel
theorem dX2_lowBits_12 : decode cX2_lowBits 12 = .ok (.lconst 1, 1) := by decide +kernel
theorem dX2_lowBits_13 : decode cX2_lowBits 13 = .ok (.iload_n 0, 1) := by decide +kernel
theorem dX2_lowBits_14 : decode cX2_lowBits 14 = .ok (.lshl, 1) := by decide +kernel
theorem dX2_lowBits_15 : decode cX2_lowBits 15 = .ok (.lconst 1, 1) := by decide +kernel
theorem dX2_lowBits_16 : decode cX2_lowBits 16 = .ok (.lsub, 1) := by decide +kernel
theorem dX2_lowBits_17 : decode cX2_lowBits 17 = .ok (.lreturn, 1) := by decide +kernel
set_option maxRecDepth 20000 in
theorem ggX2_setStream_X2_lowBits : GoodIn wsX2_setStream wsX2_lowBits := goodIn_r _ [6, 7] (by decide +kernel) (by decide +kernel)
set_option maxRecDepth 20000 in
theorem gX2_setStream_X2_lowBits : GoodIn wsX2_setStream (va_wsS RX2 101 yX2_lowBits wsX2_lowBits) := goodIn_app (goodIn_of _ (by decide +kernel)) ggX2_setStream_X2_lowBits
set_option maxRecDepth 20000 in
theorem ggX2_setStream_J13_bitCount_95d88 : GoodIn wsX2_setStream wsJ13_bitCount_95d88 := goodIn_r _ [11, 12, 13, 14] (by decide +kernel) (by decide +kernel)
set_option maxRecDepth 20000 in
theorem gX2_setStream_J13_bitCount_95d88 : GoodIn wsX2_setStream (va_wsS RX2 83 yJ13_bitCount_95d88 wsJ13_bitCount_95d88) := goodIn_app (goodIn_of _ (by decide +kernel)) ggX2_setStream_J13_bitCount_95d88
theorem dX2_setStream_0 : decode cX2_setStream 0 = .ok (.aload_n 0, 1) := by decide +kernel
theorem dX2_setStream_1 : decode cX2_setStream 1 = .ok (.getfield 23, 3) := by decide +kernel
theorem dX2_setStream_4 : decode cX2_setStream 4 = .ok (.iload_n 1, 1) := by decide +kernel
theorem dX2_setStream_5 : decode cX2_setStream 5 = .ok (.lload_n 2, 1) := by decide +kernel
theorem dX2_setStream_6 : decode cX2_setStream 6 = .ok (.aload_n 0, 1) := by decide +kernel
theorem dX2_setStream_7 : decode cX2_setStream 7 = .ok (.getfield 10, 3) := by decide +kernel
theorem dX2_setStream_10 : decode cX2_setStream 10 = .ok (.getfield 49, 3) := by decide +kernel
theorem dX2_setStream_13 : decode cX2_setStream 13 = .ok (.invokestatic 101, 3) := by decide +kernel
theorem dX2_setStream_16 : decode cX2_setStream 16 = .ok (.land, 1) := by decide +kernel
theorem dX2_setStream_17 : decode cX2_setStream 17 = .ok (.lastore, 1) := by decide +kernel
theorem dX2_setStream_18 : decode cX2_setStream 18 = .ok (.aload_n 0, 1) := by decide +kernel
theorem dX2_setStream_19 : decode cX2_setStream 19 = .ok (.getfield 23, 3) := by decide +kernel
theorem dX2_setStream_22 : decode cX2_setStream 22 = .ok (.iload_n 1, 1) := by decide +kernel
theorem dX2_setStream_23 : decode cX2_setStream 23 = .ok (.laload, 1) := by decide +kernel
theorem dX2_setStream_24 : decode cX2_setStream 24 = .ok (.invokestatic 83, 3) := by decide +kernel
theorem dX2_setStream_27 : decode cX2_setStream 27 = .ok (.ireturn, 1) := by decide +kernel
theorem dX2_gated_0 : decode cX2_gated 0 = .ok (.iload_n 0, 1) := by decide +kernel
theorem dX2_gated_1 : decode cX2_gated 1 = .ok (.tableswitch 81 0 5 #[39, 43, 47, 51, 59, 67], 39) := by decide +kernel
theorem dX2_gated_40 : decode cX2_gated 40 = .ok (.lload_n 1, 1) := by decide +kernel
theorem dX2_gated_41 : decode cX2_gated 41 = .ok (.lload_n 3, 1) := by decide +kernel
theorem dX2_gated_42 : decode cX2_gated 42 = .ok (.land, 1) := by decide +kernel
theorem dX2_gated_43 : decode cX2_gated 43 = .ok (.lreturn, 1) := by decide +kernel
theorem dX2_gated_44 : decode cX2_gated 44 = .ok (.lload_n 1, 1) := by decide +kernel
theorem dX2_gated_45 : decode cX2_gated 45 = .ok (.lload_n 3, 1) := by decide +kernel
theorem dX2_gated_46 : decode cX2_gated 46 = .ok (.lor, 1) := by decide +kernel
theorem dX2_gated_47 : decode cX2_gated 47 = .ok (.lreturn, 1) := by decide +kernel
theorem dX2_gated_48 : decode cX2_gated 48 = .ok (.lload_n 1, 1) := by decide +kernel
theorem dX2_gated_49 : decode cX2_gated 49 = .ok (.lload_n 3, 1) := by decide +kernel
theorem dX2_gated_50 : decode cX2_gated 50 = .ok (.lxor, 1) := by decide +kernel
theorem dX2_gated_51 : decode cX2_gated 51 = .ok (.lreturn, 1) := by decide +kernel
theorem dX2_gated_52 : decode cX2_gated 52 = .ok (.lload_n 1, 1) := by decide +kernel
theorem dX2_gated_53 : decode cX2_gated 53 = .ok (.lload_n 3, 1) := by decide +kernel
theorem dX2_gated_54 : decode cX2_gated 54 = .ok (.lxor, 1) := by decide +kernel
theorem dX2_gated_55 : decode cX2_gated 55 = .ok (.ldc2_w 81, 3) := by decide +kernel
theorem dX2_gated_58 : decode cX2_gated 58 = .ok (.lxor, 1) := by decide +kernel
theorem dX2_gated_59 : decode cX2_gated 59 = .ok (.lreturn, 1) := by decide +kernel
theorem dX2_gated_60 : decode cX2_gated 60 = .ok (.lload_n 1, 1) := by decide +kernel
theorem dX2_gated_61 : decode cX2_gated 61 = .ok (.lload_n 3, 1) := by decide +kernel
theorem dX2_gated_62 : decode cX2_gated 62 = .ok (.ldc2_w 81, 3) := by decide +kernel
theorem dX2_gated_65 : decode cX2_gated 65 = .ok (.lxor, 1) := by decide +kernel
theorem dX2_gated_66 : decode cX2_gated 66 = .ok (.land, 1) := by decide +kernel
theorem dX2_gated_67 : decode cX2_gated 67 = .ok (.lreturn, 1) := by decide +kernel
theorem dX2_gated_68 : decode cX2_gated 68 = .ok (.lload_n 3, 1) := by decide +kernel
theorem dX2_gated_69 : decode cX2_gated 69 = .ok (.lload 5, 2) := by decide +kernel
theorem dX2_gated_71 : decode cX2_gated 71 = .ok (.land, 1) := by decide +kernel
theorem dX2_gated_72 : decode cX2_gated 72 = .ok (.lload_n 1, 1) := by decide +kernel
theorem dX2_gated_73 : decode cX2_gated 73 = .ok (.lload 5, 2) := by decide +kernel
theorem dX2_gated_75 : decode cX2_gated 75 = .ok (.ldc2_w 81, 3) := by decide +kernel
theorem dX2_gated_78 : decode cX2_gated 78 = .ok (.lxor, 1) := by decide +kernel
theorem dX2_gated_79 : decode cX2_gated 79 = .ok (.land, 1) := by decide +kernel
theorem dX2_gated_80 : decode cX2_gated 80 = .ok (.lor, 1) := by decide +kernel
theorem dX2_gated_81 : decode cX2_gated 81 = .ok (.lreturn, 1) := by decide +kernel
theorem dX2_gated_82 : decode cX2_gated 82 = .ok (.lload_n 1, 1) := by decide +kernel
theorem dX2_gated_83 : decode cX2_gated 83 = .ok (.lload_n 3, 1) := by decide +kernel
theorem dX2_gated_84 : decode cX2_gated 84 = .ok (.land, 1) := by decide +kernel
theorem dX2_gated_85 : decode cX2_gated 85 = .ok (.lload_n 1, 1) := by decide +kernel
theorem dX2_gated_86 : decode cX2_gated 86 = .ok (.lload 5, 2) := by decide +kernel
theorem dX2_gated_88 : decode cX2_gated 88 = .ok (.land, 1) := by decide +kernel
theorem dX2_gated_89 : decode cX2_gated 89 = .ok (.lor, 1) := by decide +kernel
theorem dX2_gated_90 : decode cX2_gated 90 = .ok (.lload_n 3, 1) := by decide +kernel
theorem dX2_gated_91 : decode cX2_gated 91 = .ok (.lload 5, 2) := by decide +kernel
theorem dX2_gated_93 : decode cX2_gated 93 = .ok (.land, 1) := by decide +kernel
theorem dX2_gated_94 : decode cX2_gated 94 = .ok (.lor, 1) := by decide +kernel
theorem dX2_gated_95 : decode cX2_gated 95 = .ok (.lreturn, 1) := by decide +kernel
set_option maxRecDepth 20000 in
theorem ggX2_onesOfSort_X2_lowBits : GoodIn wsX2_onesOfSort wsX2_lowBits := goodIn_r _ [6, 1] (by decide +kernel) (by decide +kernel)
set_option maxRecDepth 20000 in
theorem gX2_onesOfSort_X2_lowBits : GoodIn wsX2_onesOfSort (va_wsS RX2 101 yX2_lowBits wsX2_lowBits) := goodIn_app (goodIn_of _ (by decide +kernel)) ggX2_onesOfSort_X2_lowBits
set_option maxRecDepth 20000 in
theorem ggX2_onesOfSort_J13_bitCount_95d88 : GoodIn wsX2_onesOfSort wsJ13_bitCount_95d88 := goodIn_r _ [10, 11, 12, 13] (by decide +kernel) (by decide +kernel)
set_option maxRecDepth 20000 in
theorem gX2_onesOfSort_J13_bitCount_95d88 : GoodIn wsX2_onesOfSort (va_wsS RX2 83 yJ13_bitCount_95d88 wsJ13_bitCount_95d88) := goodIn_app (goodIn_of _ (by decide +kernel)) ggX2_onesOfSort_J13_bitCount_95d88
theorem dX2_onesOfSort_0 : decode cX2_onesOfSort 0 = .ok (.iload 5, 2) := by decide +kernel
theorem dX2_onesOfSort_2 : decode cX2_onesOfSort 2 = .ok (.ifCond .eq 9, 3) := by decide +kernel
theorem dX2_onesOfSort_5 : decode cX2_onesOfSort 5 = .ok (.iload 5, 2) := by decide +kernel
theorem dX2_onesOfSort_7 : decode cX2_onesOfSort 7 = .ok (.iconst 1, 1) := by decide +kernel
theorem dX2_onesOfSort_8 : decode cX2_onesOfSort 8 = .ok (.if_icmp .ne 7, 3) := by decide +kernel
theorem dX2_onesOfSort_11 : decode cX2_onesOfSort 11 = .ok (.lload_n 1, 1) := by decide +kernel
theorem dX2_onesOfSort_12 : decode cX2_onesOfSort 12 = .ok (.goto 8, 3) := by decide +kernel
theorem dX2_onesOfSort_15 : decode cX2_onesOfSort 15 = .ok (.lload_n 1, 1) := by decide +kernel
theorem dX2_onesOfSort_16 : decode cX2_onesOfSort 16 = .ok (.ldc2_w 81, 3) := by decide +kernel
theorem dX2_onesOfSort_19 : decode cX2_onesOfSort 19 = .ok (.lxor, 1) := by decide +kernel
theorem dX2_onesOfSort_20 : decode cX2_onesOfSort 20 = .ok (.lstore 6, 2) := by decide +kernel
theorem dX2_onesOfSort_22 : decode cX2_onesOfSort 22 = .ok (.iload 5, 2) := by decide +kernel
theorem dX2_onesOfSort_24 : decode cX2_onesOfSort 24 = .ok (.ifCond .eq 9, 3) := by decide +kernel
theorem dX2_onesOfSort_27 : decode cX2_onesOfSort 27 = .ok (.iload 5, 2) := by decide +kernel
theorem dX2_onesOfSort_29 : decode cX2_onesOfSort 29 = .ok (.iconst 2, 1) := by decide +kernel
theorem dX2_onesOfSort_30 : decode cX2_onesOfSort 30 = .ok (.if_icmp .ne 7, 3) := by decide +kernel
theorem dX2_onesOfSort_33 : decode cX2_onesOfSort 33 = .ok (.lload_n 3, 1) := by decide +kernel
theorem dX2_onesOfSort_34 : decode cX2_onesOfSort 34 = .ok (.goto 8, 3) := by decide +kernel
theorem dX2_onesOfSort_37 : decode cX2_onesOfSort 37 = .ok (.lload_n 3, 1) := by decide +kernel
theorem dX2_onesOfSort_38 : decode cX2_onesOfSort 38 = .ok (.ldc2_w 81, 3) := by decide +kernel
theorem dX2_onesOfSort_41 : decode cX2_onesOfSort 41 = .ok (.lxor, 1) := by decide +kernel
theorem dX2_onesOfSort_42 : decode cX2_onesOfSort 42 = .ok (.lstore 8, 2) := by decide +kernel
theorem dX2_onesOfSort_44 : decode cX2_onesOfSort 44 = .ok (.lload 6, 2) := by decide +kernel
theorem dX2_onesOfSort_46 : decode cX2_onesOfSort 46 = .ok (.lload 8, 2) := by decide +kernel
theorem dX2_onesOfSort_48 : decode cX2_onesOfSort 48 = .ok (.land, 1) := by decide +kernel
theorem dX2_onesOfSort_49 : decode cX2_onesOfSort 49 = .ok (.aload_n 0, 1) := by decide +kernel
theorem dX2_onesOfSort_50 : decode cX2_onesOfSort 50 = .ok (.getfield 10, 3) := by decide +kernel
theorem dX2_onesOfSort_53 : decode cX2_onesOfSort 53 = .ok (.getfield 49, 3) := by decide +kernel
theorem dX2_onesOfSort_56 : decode cX2_onesOfSort 56 = .ok (.invokestatic 101, 3) := by decide +kernel
theorem dX2_onesOfSort_59 : decode cX2_onesOfSort 59 = .ok (.land, 1) := by decide +kernel
theorem dX2_onesOfSort_60 : decode cX2_onesOfSort 60 = .ok (.invokestatic 83, 3) := by decide +kernel
theorem dX2_onesOfSort_63 : decode cX2_onesOfSort 63 = .ok (.ireturn, 1) := by decide +kernel
set_option maxRecDepth 20000 in
theorem ggX2_greatestMiss_X2_lowBits : GoodIn wsX2_greatestMiss wsX2_lowBits := goodIn_r _ [13, 14] (by decide +kernel) (by decide +kernel)
set_option maxRecDepth 20000 in
theorem gX2_greatestMiss_X2_lowBits : GoodIn wsX2_greatestMiss (va_wsS RX2 101 yX2_lowBits wsX2_lowBits) := goodIn_app (goodIn_of _ (by decide +kernel)) ggX2_greatestMiss_X2_lowBits
set_option maxRecDepth 20000 in
theorem ggX2_greatestMiss_X2_gated : GoodIn wsX2_greatestMiss wsX2_gated := goodIn_r _ [17, 14] (by decide +kernel) (by decide +kernel)
set_option maxRecDepth 20000 in
theorem gX2_greatestMiss_X2_gated : GoodIn wsX2_greatestMiss (va_wsS RX2 93 yX2_gated wsX2_gated) := goodIn_app (goodIn_of _ (by decide +kernel)) ggX2_greatestMiss_X2_gated
set_option maxRecDepth 20000 in
theorem ggX2_greatestMiss_J13_bitCount_95d88 : GoodIn wsX2_greatestMiss wsJ13_bitCount_95d88 := goodIn_r _ [21, 22, 23, 24] (by decide +kernel) (by decide +kernel)
set_option maxRecDepth 20000 in
theorem gX2_greatestMiss_J13_bitCount_95d88 : GoodIn wsX2_greatestMiss (va_wsS RX2 83 yJ13_bitCount_95d88 wsJ13_bitCount_95d88) := goodIn_app (goodIn_of _ (by decide +kernel)) ggX2_greatestMiss_J13_bitCount_95d88
set_option maxRecDepth 20000 in
theorem ggX2_greatestMiss_X2_dueOnes : GoodIn wsX2_greatestMiss wsX2_dueOnes := goodIn_r _ [28, 1, 29, 30, 31, 32, 33, 34, 35, 36, 37, 38, 39, 40] (by decide +kernel) (by decide +kernel)
set_option maxRecDepth 20000 in
theorem gX2_greatestMiss_X2_dueOnes : GoodIn wsX2_greatestMiss (wsV RX2 178 RX2 yX2_dueOnes wsX2_dueOnes) := goodIn_app (goodIn_of _ (by decide +kernel)) ggX2_greatestMiss_X2_dueOnes
theorem dX2_greatestMiss_0 : decode cX2_greatestMiss 0 = .ok (.aload_n 0, 1) := by decide +kernel
theorem dX2_greatestMiss_1 : decode cX2_greatestMiss 1 = .ok (.getfield 10, 3) := by decide +kernel
theorem dX2_greatestMiss_4 : decode cX2_greatestMiss 4 = .ok (.getfield 49, 3) := by decide +kernel
theorem dX2_greatestMiss_7 : decode cX2_greatestMiss 7 = .ok (.istore_n 2, 1) := by decide +kernel
theorem dX2_greatestMiss_8 : decode cX2_greatestMiss 8 = .ok (.iload_n 2, 1) := by decide +kernel
theorem dX2_greatestMiss_9 : decode cX2_greatestMiss 9 = .ok (.invokestatic 101, 3) := by decide +kernel
theorem dX2_greatestMiss_12 : decode cX2_greatestMiss 12 = .ok (.lstore_n 3, 1) := by decide +kernel
theorem dX2_greatestMiss_13 : decode cX2_greatestMiss 13 = .ok (.iconst (-1), 1) := by decide +kernel
theorem dX2_greatestMiss_14 : decode cX2_greatestMiss 14 = .ok (.istore 5, 2) := by decide +kernel
theorem dX2_greatestMiss_16 : decode cX2_greatestMiss 16 = .ok (.iconst 0, 1) := by decide +kernel
theorem dX2_greatestMiss_17 : decode cX2_greatestMiss 17 = .ok (.istore 6, 2) := by decide +kernel
theorem dX2_greatestMiss_19 : decode cX2_greatestMiss 19 = .ok (.iload 6, 2) := by decide +kernel
theorem dX2_greatestMiss_21 : decode cX2_greatestMiss 21 = .ok (.iload_n 2, 1) := by decide +kernel
theorem dX2_greatestMiss_22 : decode cX2_greatestMiss 22 = .ok (.if_icmp .gt 92, 3) := by decide +kernel
theorem dX2_greatestMiss_25 : decode cX2_greatestMiss 25 = .ok (.iconst 0, 1) := by decide +kernel
