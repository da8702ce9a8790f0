theorem inJ6 : ∀ w ∈ wsJ60, w ∈ lw_tbl := by decide +kernel
theorem inJ13 : ∀ w ∈ wsJ130, w ∈ lw_tbl := by decide +kernel
theorem inJ9 : ∀ w ∈ wsJ90, w ∈ lw_tbl := by decide +kernel
theorem dX0_init_0 : decode cX0_init 0 = .ok (.aload_n 0, 1) := by decide +kernel
theorem dX0_init_1 : decode cX0_init 1 = .ok (.invokespecial 3, 3) := by decide +kernel
theorem dX0_init_4 : decode cX0_init 4 = .ok (.aload_n 0, 1) := by decide +kernel
theorem dX0_init_5 : decode cX0_init 5 = .ok (.iconst 5, 1) := by decide +kernel
theorem dX0_init_6 : decode cX0_init 6 = .ok (.newarray .int, 2) := by decide +kernel
theorem dX0_init_8 : decode cX0_init 8 = .ok (.putfield 9, 3) := by decide +kernel
theorem dX0_init_11 : decode cX0_init 11 = .ok (.aload_n 0, 1) := by decide +kernel
theorem dX0_init_12 : decode cX0_init 12 = .ok (.iconst 0, 1) := by decide +kernel
theorem dX0_init_13 : decode cX0_init 13 = .ok (.putfield 15, 3) := by decide +kernel
theorem dX0_init_16 : decode cX0_init 16 = .ok (.aload_n 0, 1) := by decide +kernel
theorem dX0_init_17 : decode cX0_init 17 = .ok (.iconst 1, 1) := by decide +kernel
theorem dX0_init_18 : decode cX0_init 18 = .ok (.putfield 19, 3) := by decide +kernel
theorem dX0_init_21 : decode cX0_init 21 = .ok (.return_, 1) := by decide +kernel
theorem dX0_setDegree_0 : decode cX0_setDegree 0 = .ok (.aload_n 0, 1) := by decide +kernel
theorem dX0_setDegree_1 : decode cX0_setDegree 1 = .ok (.iload_n 1, 1) := by decide +kernel
theorem dX0_setDegree_2 : decode cX0_setDegree 2 = .ok (.putfield 15, 3) := by decide +kernel
theorem dX0_setDegree_5 : decode cX0_setDegree 5 = .ok (.aload_n 0, 1) := by decide +kernel
theorem dX0_setDegree_6 : decode cX0_setDegree 6 = .ok (.iload_n 2, 1) := by decide +kernel
theorem dX0_setDegree_7 : decode cX0_setDegree 7 = .ok (.putfield 19, 3) := by decide +kernel
theorem dX0_setDegree_10 : decode cX0_setDegree 10 = .ok (.iload_n 1, 1) := by decide +kernel
theorem dX0_setDegree_11 : decode cX0_setDegree 11 = .ok (.iconst 1, 1) := by decide +kernel
theorem dX0_setDegree_12 : decode cX0_setDegree 12 = .ok (.iadd, 1) := by decide +kernel
theorem dX0_setDegree_13 : decode cX0_setDegree 13 = .ok (.istore_n 3, 1) := by decide +kernel
theorem dX0_setDegree_14 : decode cX0_setDegree 14 = .ok (.iload_n 3, 1) := by decide +kernel
theorem dX0_setDegree_15 : decode cX0_setDegree 15 = .ok (.iconst 4, 1) := by decide +kernel
theorem dX0_setDegree_16 : decode cX0_setDegree 16 = .ok (.if_icmp .gt 16, 3) := by decide +kernel
theorem dX0_setDegree_19 : decode cX0_setDegree 19 = .ok (.aload_n 0, 1) := by decide +kernel
theorem dX0_setDegree_20 : decode cX0_setDegree 20 = .ok (.getfield 9, 3) := by decide +kernel
theorem dX0_setDegree_23 : decode cX0_setDegree 23 = .ok (.iload_n 3, 1) := by decide +kernel
theorem dX0_setDegree_24 : decode cX0_setDegree 24 = .ok (.iconst 0, 1) := by decide +kernel
theorem dX0_setDegree_25 : decode cX0_setDegree 25 = .ok (.iastore, 1) := by decide +kernel
theorem dX0_setDegree_26 : decode cX0_setDegree 26 = .ok (.iinc 3 1, 3) := by decide +kernel
theorem dX0_setDegree_29 : decode cX0_setDegree 29 = .ok (.goto (-15), 3) := by decide +kernel
theorem dX0_setDegree_32 : decode cX0_setDegree 32 = .ok (.return_, 1) := by decide +kernel
set_option maxRecDepth 20000 in
theorem ggX0_partBelow_X0_waysBut : GoodIn wsX0_partBelow wsX0_waysBut := goodIn_r _ [6, 7, 8, 9, 5, 10, 11, 12, 13] (by decide +kernel) (by decide +kernel)
set_option maxRecDepth 20000 in
theorem gX0_partBelow_X0_waysBut : GoodIn wsX0_partBelow (wsV RX0 22 RX0 yX0_waysBut wsX0_waysBut) := goodIn_app (goodIn_of _ (by decide +kernel)) ggX0_partBelow_X0_waysBut
theorem dX0_partBelow_0 : decode cX0_partBelow 0 = .ok (.aload_n 0, 1) := by decide +kernel
theorem dX0_partBelow_1 : decode cX0_partBelow 1 = .ok (.getfield 19, 3) := by decide +kernel
theorem dX0_partBelow_4 : decode cX0_partBelow 4 = .ok (.i2l, 1) := by decide +kernel
theorem dX0_partBelow_5 : decode cX0_partBelow 5 = .ok (.aload_n 0, 1) := by decide +kernel
theorem dX0_partBelow_6 : decode cX0_partBelow 6 = .ok (.iload_n 1, 1) := by decide +kernel
theorem dX0_partBelow_7 : decode cX0_partBelow 7 = .ok (.iconst (-1), 1) := by decide +kernel
theorem dX0_partBelow_8 : decode cX0_partBelow 8 = .ok (.invokevirtual 22, 3) := by decide +kernel
theorem dX0_partBelow_11 : decode cX0_partBelow 11 = .ok (.lmul, 1) := by decide +kernel
theorem dX0_partBelow_12 : decode cX0_partBelow 12 = .ok (.lreturn, 1) := by decide +kernel
set_option maxRecDepth 20000 in
theorem ggX0_partAbove_X0_ways : GoodIn wsX0_partAbove wsX0_ways := goodIn_r _ [6] (by decide +kernel) (by decide +kernel)
set_option maxRecDepth 20000 in
theorem gX0_partAbove_X0_ways : GoodIn wsX0_partAbove (va_wsS RX0 26 yX0_ways wsX0_ways) := goodIn_app (goodIn_of _ (by decide +kernel)) ggX0_partAbove_X0_ways
set_option maxRecDepth 20000 in
theorem ggX0_partAbove_X0_waysBut : GoodIn wsX0_partAbove wsX0_waysBut := goodIn_r _ [10, 1, 3, 4, 5, 6, 11, 12, 13] (by decide +kernel) (by decide +kernel)
set_option maxRecDepth 20000 in
theorem gX0_partAbove_X0_waysBut : GoodIn wsX0_partAbove (wsV RX0 22 RX0 yX0_waysBut wsX0_waysBut) := goodIn_app (goodIn_of _ (by decide +kernel)) ggX0_partAbove_X0_waysBut
theorem dX0_partAbove_0 : decode cX0_partAbove 0 = .ok (.lconst 0, 1) := by decide +kernel
theorem dX0_partAbove_1 : decode cX0_partAbove 1 = .ok (.lstore_n 3, 1) := by decide +kernel
theorem dX0_partAbove_2 : decode cX0_partAbove 2 = .ok (.iconst 0, 1) := by decide +kernel
theorem dX0_partAbove_3 : decode cX0_partAbove 3 = .ok (.istore 5, 2) := by decide +kernel
theorem dX0_partAbove_5 : decode cX0_partAbove 5 = .ok (.iload 5, 2) := by decide +kernel
theorem dX0_partAbove_7 : decode cX0_partAbove 7 = .ok (.aload_n 0, 1) := by decide +kernel
theorem dX0_partAbove_8 : decode cX0_partAbove 8 = .ok (.getfield 15, 3) := by decide +kernel
theorem dX0_partAbove_11 : decode cX0_partAbove 11 = .ok (.if_icmp .gt 41, 3) := by decide +kernel
theorem dX0_partAbove_14 : decode cX0_partAbove 14 = .ok (.iload 5, 2) := by decide +kernel
theorem dX0_partAbove_16 : decode cX0_partAbove 16 = .ok (.iload_n 2, 1) := by decide +kernel
theorem dX0_partAbove_17 : decode cX0_partAbove 17 = .ok (.if_icmp .gt 35, 3) := by decide +kernel
theorem dX0_partAbove_20 : decode cX0_partAbove 20 = .ok (.lload_n 3, 1) := by decide +kernel
theorem dX0_partAbove_21 : decode cX0_partAbove 21 = .ok (.iload_n 2, 1) := by decide +kernel
theorem dX0_partAbove_22 : decode cX0_partAbove 22 = .ok (.iload 5, 2) := by decide +kernel
theorem dX0_partAbove_24 : decode cX0_partAbove 24 = .ok (.invokestatic 26, 3) := by decide +kernel
theorem dX0_partAbove_27 : decode cX0_partAbove 27 = .ok (.aload_n 0, 1) := by decide +kernel
theorem dX0_partAbove_28 : decode cX0_partAbove 28 = .ok (.getfield 9, 3) := by decide +kernel
theorem dX0_partAbove_31 : decode cX0_partAbove 31 = .ok (.iload 5, 2) := by decide +kernel
theorem dX0_partAbove_33 : decode cX0_partAbove 33 = .ok (.iaload, 1) := by decide +kernel
theorem dX0_partAbove_34 : decode cX0_partAbove 34 = .ok (.i2l, 1) := by decide +kernel
theorem dX0_partAbove_35 : decode cX0_partAbove 35 = .ok (.lmul, 1) := by decide +kernel
theorem dX0_partAbove_36 : decode cX0_partAbove 36 = .ok (.aload_n 0, 1) := by decide +kernel
theorem dX0_partAbove_37 : decode cX0_partAbove 37 = .ok (.iload_n 1, 1) := by decide +kernel
theorem dX0_partAbove_38 : decode cX0_partAbove 38 = .ok (.iload 5, 2) := by decide +kernel
theorem dX0_partAbove_40 : decode cX0_partAbove 40 = .ok (.invokevirtual 22, 3) := by decide +kernel
theorem dX0_partAbove_43 : decode cX0_partAbove 43 = .ok (.lmul, 1) := by decide +kernel
theorem dX0_partAbove_44 : decode cX0_partAbove 44 = .ok (.ladd, 1) := by decide +kernel
theorem dX0_partAbove_45 : decode cX0_partAbove 45 = .ok (.lstore_n 3, 1) := by decide +kernel
theorem dX0_partAbove_46 : decode cX0_partAbove 46 = .ok (.iinc 5 1, 3) := by decide +kernel
theorem dX0_partAbove_49 : decode cX0_partAbove 49 = .ok (.goto (-44), 3) := by decide +kernel
theorem dX0_partAbove_52 : decode cX0_partAbove 52 = .ok (.lload_n 3, 1) := by decide +kernel
theorem dX0_partAbove_53 : decode cX0_partAbove 53 = .ok (.lreturn, 1) := by decide +kernel
set_option maxRecDepth 20000 in
theorem ggX0_mayBeMade_X0_partBelow : GoodIn wsX0_mayBeMade wsX0_partBelow := goodIn_r _ [5, 6, 7, 8, 9, 4, 10, 11, 12, 13, 14, 20, 21, 22] (by decide +kernel) (by decide +kernel)
set_option maxRecDepth 20000 in
theorem gX0_mayBeMade_X0_partBelow : GoodIn wsX0_mayBeMade (wsV RX0 29 RX0 yX0_partBelow wsX0_partBelow) := goodIn_app (goodIn_of _ (by decide +kernel)) ggX0_mayBeMade_X0_partBelow
set_option maxRecDepth 20000 in
theorem ggX0_mayBeMade_X0_partAbove : GoodIn wsX0_mayBeMade wsX0_partAbove := goodIn_r _ [18, 11, 19, 12, 13, 4, 14, 7, 8, 9, 10, 20, 21, 22] (by decide +kernel) (by decide +kernel)
set_option maxRecDepth 20000 in
theorem gX0_mayBeMade_X0_partAbove : GoodIn wsX0_mayBeMade (wsV RX0 33 RX0 yX0_partAbove wsX0_partAbove) := goodIn_app (goodIn_of _ (by decide +kernel)) ggX0_mayBeMade_X0_partAbove
theorem dX0_mayBeMade_0 : decode cX0_mayBeMade 0 = .ok (.aload_n 0, 1) := by decide +kernel
theorem dX0_mayBeMade_1 : decode cX0_mayBeMade 1 = .ok (.iload_n 1, 1) := by decide +kernel
theorem dX0_mayBeMade_2 : decode cX0_mayBeMade 2 = .ok (.invokevirtual 29, 3) := by decide +kernel
theorem dX0_mayBeMade_5 : decode cX0_mayBeMade 5 = .ok (.lstore_n 2, 1) := by decide +kernel
theorem dX0_mayBeMade_6 : decode cX0_mayBeMade 6 = .ok (.iconst 0, 1) := by decide +kernel
theorem dX0_mayBeMade_7 : decode cX0_mayBeMade 7 = .ok (.istore 4, 2) := by decide +kernel
theorem dX0_mayBeMade_9 : decode cX0_mayBeMade 9 = .ok (.iload 4, 2) := by decide +kernel
theorem dX0_mayBeMade_11 : decode cX0_mayBeMade 11 = .ok (.iload_n 1, 1) := by decide +kernel
theorem dX0_mayBeMade_12 : decode cX0_mayBeMade 12 = .ok (.if_icmp .gt 34, 3) := by decide +kernel
theorem dX0_mayBeMade_15 : decode cX0_mayBeMade 15 = .ok (.aload_n 0, 1) := by decide +kernel
theorem dX0_mayBeMade_16 : decode cX0_mayBeMade 16 = .ok (.iload_n 1, 1) := by decide +kernel
theorem dX0_mayBeMade_17 : decode cX0_mayBeMade 17 = .ok (.iload 4, 2) := by decide +kernel
theorem dX0_mayBeMade_19 : decode cX0_mayBeMade 19 = .ok (.invokevirtual 33, 3) := by decide +kernel
theorem dX0_mayBeMade_22 : decode cX0_mayBeMade 22 = .ok (.lstore 5, 2) := by decide +kernel
theorem dX0_mayBeMade_24 : decode cX0_mayBeMade 24 = .ok (.lload 5, 2) := by decide +kernel
theorem dX0_mayBeMade_26 : decode cX0_mayBeMade 26 = .ok (.lconst 0, 1) := by decide +kernel
theorem dX0_mayBeMade_27 : decode cX0_mayBeMade 27 = .ok (.lcmp, 1) := by decide +kernel
theorem dX0_mayBeMade_28 : decode cX0_mayBeMade 28 = .ok (.ifCond .lt 10, 3) := by decide +kernel
theorem dX0_mayBeMade_31 : decode cX0_mayBeMade 31 = .ok (.lload 5, 2) := by decide +kernel
theorem dX0_mayBeMade_33 : decode cX0_mayBeMade 33 = .ok (.lload_n 2, 1) := by decide +kernel
theorem dX0_mayBeMade_34 : decode cX0_mayBeMade 34 = .ok (.lcmp, 1) := by decide +kernel
theorem dX0_mayBeMade_35 : decode cX0_mayBeMade 35 = .ok (.ifCond .le 5, 3) := by decide +kernel
theorem dX0_mayBeMade_38 : decode cX0_mayBeMade 38 = .ok (.iconst 0, 1) := by decide +kernel
theorem dX0_mayBeMade_39 : decode cX0_mayBeMade 39 = .ok (.ireturn, 1) := by decide +kernel
theorem dX0_mayBeMade_40 : decode cX0_mayBeMade 40 = .ok (.iinc 4 1, 3) := by decide +kernel
theorem dX0_mayBeMade_43 : decode cX0_mayBeMade 43 = .ok (.goto (-34), 3) := by decide +kernel
theorem dX0_mayBeMade_46 : decode cX0_mayBeMade 46 = .ok (.iconst 1, 1) := by decide +kernel
theorem dX0_mayBeMade_47 : decode cX0_mayBeMade 47 = .ok (.ireturn, 1) := by decide +kernel
set_option maxRecDepth 20000 in
theorem ggX0_thousandthsAt_X2_power : GoodIn wsX0_thousandthsAt wsX2_power := goodIn_r _ [11] (by decide +kernel) (by decide +kernel)
set_option maxRecDepth 20000 in
theorem gX0_thousandthsAt_X2_power_n36 : GoodIn wsX0_thousandthsAt (wsX2_power) := ggX0_thousandthsAt_X2_power
set_option maxRecDepth 20000 in
theorem ggX0_thousandthsAt_J9_floorDiv_f86c9 : GoodIn wsX0_thousandthsAt wsJ9_floorDiv_f86c9 := goodIn_r _ [15] (by decide +kernel) (by decide +kernel)
set_option maxRecDepth 20000 in
theorem gX0_thousandthsAt_J9_floorDiv_f86c9 : GoodIn wsX0_thousandthsAt (va_wsS RX0 48 yJ9_floorDiv_f86c9 wsJ9_floorDiv_f86c9) := goodIn_app (goodIn_of _ (by decide +kernel)) ggX0_thousandthsAt_J9_floorDiv_f86c9
theorem dX0_thousandthsAt_0 : decode cX0_thousandthsAt 0 = .ok (.lconst 0, 1) := by decide +kernel
theorem dX0_thousandthsAt_1 : decode cX0_thousandthsAt 1 = .ok (.lstore_n 3, 1) := by decide +kernel
theorem dX0_thousandthsAt_2 : decode cX0_thousandthsAt 2 = .ok (.iconst 0, 1) := by decide +kernel
theorem dX0_thousandthsAt_3 : decode cX0_thousandthsAt 3 = .ok (.istore 5, 2) := by decide +kernel
theorem dX0_thousandthsAt_5 : decode cX0_thousandthsAt 5 = .ok (.iload 5, 2) := by decide +kernel
theorem dX0_thousandthsAt_7 : decode cX0_thousandthsAt 7 = .ok (.aload_n 0, 1) := by decide +kernel
theorem dX0_thousandthsAt_8 : decode cX0_thousandthsAt 8 = .ok (.getfield 15, 3) := by decide +kernel
theorem dX0_thousandthsAt_11 : decode cX0_thousandthsAt 11 = .ok (.if_icmp .gt 41, 3) := by decide +kernel
theorem dX0_thousandthsAt_14 : decode cX0_thousandthsAt 14 = .ok (.lload_n 3, 1) := by decide +kernel
theorem dX0_thousandthsAt_15 : decode cX0_thousandthsAt 15 = .ok (.aload_n 0, 1) := by decide +kernel
theorem dX0_thousandthsAt_16 : decode cX0_thousandthsAt 16 = .ok (.getfield 9, 3) := by decide +kernel
theorem dX0_thousandthsAt_19 : decode cX0_thousandthsAt 19 = .ok (.iload 5, 2) := by decide +kernel
theorem dX0_thousandthsAt_21 : decode cX0_thousandthsAt 21 = .ok (.iaload, 1) := by decide +kernel
theorem dX0_thousandthsAt_22 : decode cX0_thousandthsAt 22 = .ok (.i2l, 1) := by decide +kernel
theorem dX0_thousandthsAt_23 : decode cX0_thousandthsAt 23 = .ok (.iload_n 1, 1) := by decide +kernel
theorem dX0_thousandthsAt_24 : decode cX0_thousandthsAt 24 = .ok (.i2l, 1) := by decide +kernel
theorem dX0_thousandthsAt_25 : decode cX0_thousandthsAt 25 = .ok (.iload 5, 2) := by decide +kernel
theorem dX0_thousandthsAt_27 : decode cX0_thousandthsAt 27 = .ok (.invokestatic 36, 3) := by decide +kernel
theorem dX0_thousandthsAt_30 : decode cX0_thousandthsAt 30 = .ok (.lmul, 1) := by decide +kernel
theorem dX0_thousandthsAt_31 : decode cX0_thousandthsAt 31 = .ok (.iload_n 2, 1) := by decide +kernel
theorem dX0_thousandthsAt_32 : decode cX0_thousandthsAt 32 = .ok (.i2l, 1) := by decide +kernel
theorem dX0_thousandthsAt_33 : decode cX0_thousandthsAt 33 = .ok (.aload_n 0, 1) := by decide +kernel
theorem dX0_thousandthsAt_34 : decode cX0_thousandthsAt 34 = .ok (.getfield 15, 3) := by decide +kernel
theorem dX0_thousandthsAt_37 : decode cX0_thousandthsAt 37 = .ok (.iload 5, 2) := by decide +kernel
theorem dX0_thousandthsAt_39 : decode cX0_thousandthsAt 39 = .ok (.isub, 1) := by decide +kernel
theorem dX0_thousandthsAt_40 : decode cX0_thousandthsAt 40 = .ok (.invokestatic 36, 3) := by decide +kernel
theorem dX0_thousandthsAt_43 : decode cX0_thousandthsAt 43 = .ok (.lmul, 1) := by decide +kernel
theorem dX0_thousandthsAt_44 : decode cX0_thousandthsAt 44 = .ok (.ladd, 1) := by decide +kernel
theorem dX0_thousandthsAt_45 : decode cX0_thousandthsAt 45 = .ok (.lstore_n 3, 1) := by decide +kernel
theorem dX0_thousandthsAt_46 : decode cX0_thousandthsAt 46 = .ok (.iinc 5 1, 3) := by decide +kernel
theorem dX0_thousandthsAt_49 : decode cX0_thousandthsAt 49 = .ok (.goto (-44), 3) := by decide +kernel
theorem dX0_thousandthsAt_52 : decode cX0_thousandthsAt 52 = .ok (.aload_n 0, 1) := by decide +kernel
theorem dX0_thousandthsAt_53 : decode cX0_thousandthsAt 53 = .ok (.getfield 19, 3) := by decide +kernel
theorem dX0_thousandthsAt_56 : decode cX0_thousandthsAt 56 = .ok (.i2l, 1) := by decide +kernel
theorem dX0_thousandthsAt_57 : decode cX0_thousandthsAt 57 = .ok (.iload_n 2, 1) := by decide +kernel
theorem dX0_thousandthsAt_58 : decode cX0_thousandthsAt 58 = .ok (.i2l, 1) := by decide +kernel
theorem dX0_thousandthsAt_59 : decode cX0_thousandthsAt 59 = .ok (.aload_n 0, 1) := by decide +kernel
theorem dX0_thousandthsAt_60 : decode cX0_thousandthsAt 60 = .ok (.getfield 15, 3) := by decide +kernel
theorem dX0_thousandthsAt_63 : decode cX0_thousandthsAt 63 = .ok (.invokestatic 36, 3) := by decide +kernel
theorem dX0_thousandthsAt_66 : decode cX0_thousandthsAt 66 = .ok (.lmul, 1) := by decide +kernel
theorem dX0_thousandthsAt_67 : decode cX0_thousandthsAt 67 = .ok (.lconst 1, 1) := by decide +kernel
theorem dX0_thousandthsAt_68 : decode cX0_thousandthsAt 68 = .ok (.invokestatic 40, 3) := by decide +kernel
theorem dX0_thousandthsAt_71 : decode cX0_thousandthsAt 71 = .ok (.lstore 5, 2) := by decide +kernel
theorem dX0_thousandthsAt_73 : decode cX0_thousandthsAt 73 = .ok (.ldc2_w 46, 3) := by decide +kernel
theorem dX0_thousandthsAt_76 : decode cX0_thousandthsAt 76 = .ok (.lload_n 3, 1) := by decide +kernel
theorem dX0_thousandthsAt_77 : decode cX0_thousandthsAt 77 = .ok (.lmul, 1) := by decide +kernel
theorem dX0_thousandthsAt_78 : decode cX0_thousandthsAt 78 = .ok (.lload 5, 2) := by decide +kernel
theorem dX0_thousandthsAt_80 : decode cX0_thousandthsAt 80 = .ok (.invokestatic 48, 3) := by decide +kernel
theorem dX0_thousandthsAt_83 : decode cX0_thousandthsAt 83 = .ok (.l2i, 1) := by decide +kernel
theorem dX0_thousandthsAt_84 : decode cX0_thousandthsAt 84 = .ok (.ireturn, 1) := by decide +kernel
set_option maxRecDepth 20000 in
theorem ggX0_waysBut_X0_ways : GoodIn wsX0_waysBut wsX0_ways := goodIn_r _ [5] (by decide +kernel) (by decide +kernel)
set_option maxRecDepth 20000 in
theorem gX0_waysBut_X0_ways : GoodIn wsX0_waysBut (va_wsS RX0 26 yX0_ways wsX0_ways) := goodIn_app (goodIn_of _ (by decide +kernel)) ggX0_waysBut_X0_ways
theorem dX0_waysBut_0 : decode cX0_waysBut 0 = .ok (.lconst 1, 1) := by decide +kernel
theorem dX0_waysBut_1 : decode cX0_waysBut 1 = .ok (.lstore_n 3, 1) := by decide +kernel
theorem dX0_waysBut_2 : decode cX0_waysBut 2 = .ok (.iconst 0, 1) := by decide +kernel
theorem dX0_waysBut_3 : decode cX0_waysBut 3 = .ok (.istore 5, 2) := by decide +kernel
theorem dX0_waysBut_5 : decode cX0_waysBut 5 = .ok (.iload 5, 2) := by decide +kernel
theorem dX0_waysBut_7 : decode cX0_waysBut 7 = .ok (.aload_n 0, 1) := by decide +kernel
theorem dX0_waysBut_8 : decode cX0_waysBut 8 = .ok (.getfield 15, 3) := by decide +kernel
theorem dX0_waysBut_11 : decode cX0_waysBut 11 = .ok (.if_icmp .gt 24, 3) := by decide +kernel
theorem dX0_waysBut_14 : decode cX0_waysBut 14 = .ok (.iload 5, 2) := by decide +kernel
theorem dX0_waysBut_16 : decode cX0_waysBut 16 = .ok (.iload_n 2, 1) := by decide +kernel
theorem dX0_waysBut_17 : decode cX0_waysBut 17 = .ok (.if_icmp .eq 12, 3) := by decide +kernel
theorem dX0_waysBut_20 : decode cX0_waysBut 20 = .ok (.lload_n 3, 1) := by decide +kernel
theorem dX0_waysBut_21 : decode cX0_waysBut 21 = .ok (.iload_n 1, 1) := by decide +kernel
theorem dX0_waysBut_22 : decode cX0_waysBut 22 = .ok (.iload 5, 2) := by decide +kernel
theorem dX0_waysBut_24 : decode cX0_waysBut 24 = .ok (.invokestatic 26, 3) := by decide +kernel
theorem dX0_waysBut_27 : decode cX0_waysBut 27 = .ok (.lmul, 1) := by decide +kernel
theorem dX0_waysBut_28 : decode cX0_waysBut 28 = .ok (.lstore_n 3, 1) := by decide +kernel
theorem dX0_waysBut_29 : decode cX0_waysBut 29 = .ok (.iinc 5 1, 3) := by decide +kernel
theorem dX0_waysBut_32 : decode cX0_waysBut 32 = .ok (.goto (-27), 3) := by decide +kernel
theorem dX0_waysBut_35 : decode cX0_waysBut 35 = .ok (.lload_n 3, 1) := by decide +kernel
theorem dX0_waysBut_36 : decode cX0_waysBut 36 = .ok (.lreturn, 1) := by decide +kernel
theorem dX0_ways_0 : decode cX0_ways 0 = .ok (.lconst 1, 1) := by decide +kernel
theorem dX0_ways_1 : decode cX0_ways 1 = .ok (.lstore_n 2, 1) := by decide +kernel
theorem dX0_ways_2 : decode cX0_ways 2 = .ok (.iconst 1, 1) := by decide +kernel
theorem dX0_ways_3 : decode cX0_ways 3 = .ok (.istore 4, 2) := by decide +kernel
theorem dX0_ways_5 : decode cX0_ways 5 = .ok (.iload 4, 2) := by decide +kernel
theorem dX0_ways_7 : decode cX0_ways 7 = .ok (.iload_n 1, 1) := by decide +kernel
theorem dX0_ways_8 : decode cX0_ways 8 = .ok (.if_icmp .gt 23, 3) := by decide +kernel
theorem dX0_ways_11 : decode cX0_ways 11 = .ok (.lload_n 2, 1) := by decide +kernel
theorem dX0_ways_12 : decode cX0_ways 12 = .ok (.iload_n 0, 1) := by decide +kernel
theorem dX0_ways_13 : decode cX0_ways 13 = .ok (.iload_n 1, 1) := by decide +kernel
theorem dX0_ways_14 : decode cX0_ways 14 = .ok (.isub, 1) := by decide +kernel
theorem dX0_ways_15 : decode cX0_ways 15 = .ok (.iload 4, 2) := by decide +kernel
theorem dX0_ways_17 : decode cX0_ways 17 = .ok (.iadd, 1) := by decide +kernel
theorem dX0_ways_18 : decode cX0_ways 18 = .ok (.i2l, 1) := by decide +kernel
theorem dX0_ways_19 : decode cX0_ways 19 = .ok (.lmul, 1) := by decide +kernel
theorem dX0_ways_20 : decode cX0_ways 20 = .ok (.iload 4, 2) := by decide +kernel
theorem dX0_ways_22 : decode cX0_ways 22 = .ok (.i2l, 1) := by decide +kernel
theorem dX0_ways_23 : decode cX0_ways 23 = .ok (.ldiv, 1) := by decide +kernel
theorem dX0_ways_24 : decode cX0_ways 24 = .ok (.lstore_n 2, 1) := by decide +kernel
theorem dX0_ways_25 : decode cX0_ways 25 = .ok (.iinc 4 1, 3) := by decide +kernel
theorem dX0_ways_28 : decode cX0_ways 28 = .ok (.goto (-23), 3) := by decide +kernel
theorem dX0_ways_31 : decode cX0_ways 31 = .ok (.lload_n 2, 1) := by decide +kernel
theorem dX0_ways_32 : decode cX0_ways 32 = .ok (.lreturn, 1) := by decide +kernel
set_option maxRecDepth 20000 in
theorem ggX1_init_J6_bitCount_0f7a4 : GoodIn wsX1_init wsJ6_bitCount_0f7a4 := goodIn_r _ [9, 10, 11, 12] (by decide +kernel) (by decide +kernel)
set_option maxRecDepth 20000 in
theorem gX1_init_J6_bitCount_0f7a4 : GoodIn wsX1_init (va_wsS RX1 15 yJ6_bitCount_0f7a4 wsJ6_bitCount_0f7a4) := goodIn_app (goodIn_of _ (by decide +kernel)) ggX1_init_J6_bitCount_0f7a4
theorem dX1_init_0 : decode cX1_init 0 = .ok (.aload_n 0, 1) := by decide +kernel
theorem dX1_init_1 : decode cX1_init 1 = .ok (.invokespecial 3, 3) := by decide +kernel
theorem dX1_init_4 : decode cX1_init 4 = .ok (.aload_n 0, 1) := by decide +kernel
theorem dX1_init_5 : decode cX1_init 5 = .ok (.bipush 8, 2) := by decide +kernel
theorem dX1_init_7 : decode cX1_init 7 = .ok (.putfield 9, 3) := by decide +kernel
theorem dX1_init_10 : decode cX1_init 10 = .ok (.aload_n 0, 1) := by decide +kernel
theorem dX1_init_11 : decode cX1_init 11 = .ok (.bipush 7, 2) := by decide +kernel
theorem dX1_init_13 : decode cX1_init 13 = .ok (.invokestatic 15, 3) := by decide +kernel
theorem dX1_init_16 : decode cX1_init 16 = .ok (.putfield 21, 3) := by decide +kernel
theorem dX1_init_19 : decode cX1_init 19 = .ok (.return_, 1) := by decide +kernel
set_option maxRecDepth 20000 in
theorem ggX1_setLength_J6_bitCount_0f7a4 : GoodIn wsX1_setLength wsJ6_bitCount_0f7a4 := goodIn_r _ [6, 7, 8, 9] (by decide +kernel) (by decide +kernel)
set_option maxRecDepth 20000 in
theorem gX1_setLength_J6_bitCount_0f7a4 : GoodIn wsX1_setLength (va_wsS RX1 15 yJ6_bitCount_0f7a4 wsJ6_bitCount_0f7a4) := goodIn_app (goodIn_of _ (by decide +kernel)) ggX1_setLength_J6_bitCount_0f7a4
theorem dX1_setLength_0 : decode cX1_setLength 0 = .ok (.aload_n 0, 1) := by decide +kernel
theorem dX1_setLength_1 : decode cX1_setLength 1 = .ok (.iload_n 1, 1) := by decide +kernel
theorem dX1_setLength_2 : decode cX1_setLength 2 = .ok (.putfield 9, 3) := by decide +kernel
theorem dX1_setLength_5 : decode cX1_setLength 5 = .ok (.aload_n 0, 1) := by decide +kernel
theorem dX1_setLength_6 : decode cX1_setLength 6 = .ok (.iload_n 1, 1) := by decide +kernel
theorem dX1_setLength_7 : decode cX1_setLength 7 = .ok (.iconst 1, 1) := by decide +kernel
theorem dX1_setLength_8 : decode cX1_setLength 8 = .ok (.isub, 1) := by decide +kernel
theorem dX1_setLength_9 : decode cX1_setLength 9 = .ok (.invokestatic 15, 3) := by decide +kernel
theorem dX1_setLength_12 : decode cX1_setLength 12 = .ok (.putfield 21, 3) := by decide +kernel
theorem dX1_setLength_15 : decode cX1_setLength 15 = .ok (.return_, 1) := by decide +kernel
theorem dX1_round_0 : decode cX1_round 0 = .ok (.iload_n 1, 1) := by decide +kernel
theorem dX1_round_1 : decode cX1_round 1 = .ok (.aload_n 0, 1) := by decide +kernel
theorem dX1_round_2 : decode cX1_round 2 = .ok (.getfield 9, 3) := by decide +kernel
theorem dX1_round_5 : decode cX1_round 5 = .ok (.iconst 1, 1) := by decide +kernel
theorem dX1_round_6 : decode cX1_round 6 = .ok (.isub, 1) := by decide +kernel
theorem dX1_round_7 : decode cX1_round 7 = .ok (.iand, 1) := by decide +kernel
theorem dX1_round_8 : decode cX1_round 8 = .ok (.ireturn, 1) := by decide +kernel
theorem dX1_turned_0 : decode cX1_turned 0 = .ok (.iconst 0, 1) := by decide +kernel
theorem dX1_turned_1 : decode cX1_turned 1 = .ok (.istore_n 2, 1) := by decide +kernel
theorem dX1_turned_2 : decode cX1_turned 2 = .ok (.iconst 0, 1) := by decide +kernel
theorem dX1_turned_3 : decode cX1_turned 3 = .ok (.istore_n 3, 1) := by decide +kernel
theorem dX1_turned_4 : decode cX1_turned 4 = .ok (.iload_n 3, 1) := by decide +kernel
theorem dX1_turned_5 : decode cX1_turned 5 = .ok (.aload_n 0, 1) := by decide +kernel
theorem dX1_turned_6 : decode cX1_turned 6 = .ok (.getfield 21, 3) := by decide +kernel
theorem dX1_turned_9 : decode cX1_turned 9 = .ok (.if_icmp .ge 19, 3) := by decide +kernel
theorem dX1_turned_12 : decode cX1_turned 12 = .ok (.iload_n 2, 1) := by decide +kernel
theorem dX1_turned_13 : decode cX1_turned 13 = .ok (.iconst 1, 1) := by decide +kernel
theorem dX1_turned_14 : decode cX1_turned 14 = .ok (.ishl, 1) := by decide +kernel
theorem dX1_turned_15 : decode cX1_turned 15 = .ok (.iload_n 1, 1) := by decide +kernel
theorem dX1_turned_16 : decode cX1_turned 16 = .ok (.iload_n 3, 1) := by decide +kernel
theorem dX1_turned_17 : decode cX1_turned 17 = .ok (.ishr, 1) := by decide +kernel
theorem dX1_turned_18 : decode cX1_turned 18 = .ok (.iconst 1, 1) := by decide +kernel
theorem dX1_turned_19 : decode cX1_turned 19 = .ok (.iand, 1) := by decide +kernel
theorem dX1_turned_20 : decode cX1_turned 20 = .ok (.ior, 1) := by decide +kernel
theorem dX1_turned_21 : decode cX1_turned 21 = .ok (.istore_n 2, 1) := by decide +kernel
theorem dX1_turned_22 : decode cX1_turned 22 = .ok (.iinc 3 1, 3) := by decide +kernel
theorem dX1_turned_25 : decode cX1_turned 25 = .ok (.goto (-21), 3) := by decide +kernel
theorem dX1_turned_28 : decode cX1_turned 28 = .ok (.iload_n 2, 1) := by decide +kernel
theorem dX1_turned_29 : decode cX1_turned 29 = .ok (.ireturn, 1) := by decide +kernel
set_option maxRecDepth 20000 in
theorem ggX1_shifted_X1_round : GoodIn wsX1_shifted wsX1_round := goodIn_r _ [6, 1, 11, 12] (by decide +kernel) (by decide +kernel)
set_option maxRecDepth 20000 in
theorem gX1_shifted_X1_round : GoodIn wsX1_shifted (wsV RX1 24 RX1 yX1_round wsX1_round) := goodIn_app (goodIn_of _ (by decide +kernel)) ggX1_shifted_X1_round
set_option maxRecDepth 20000 in
theorem ggX1_shifted_X2_lowBits : GoodIn wsX1_shifted wsX2_lowBits := goodIn_r _ [9, 10] (by decide +kernel) (by decide +kernel)
set_option maxRecDepth 20000 in
theorem gX1_shifted_X2_lowBits_n27 : GoodIn wsX1_shifted (wsX2_lowBits) := ggX1_shifted_X2_lowBits
theorem dX1_shifted_0 : decode cX1_shifted 0 = .ok (.aload_n 0, 1) := by decide +kernel
theorem dX1_shifted_1 : decode cX1_shifted 1 = .ok (.iload_n 3, 1) := by decide +kernel
theorem dX1_shifted_2 : decode cX1_shifted 2 = .ok (.invokevirtual 24, 3) := by decide +kernel
theorem dX1_shifted_5 : decode cX1_shifted 5 = .ok (.istore 4, 2) := by decide +kernel
theorem dX1_shifted_7 : decode cX1_shifted 7 = .ok (.lload_n 1, 1) := by decide +kernel
theorem dX1_shifted_8 : decode cX1_shifted 8 = .ok (.iload 4, 2) := by decide +kernel
theorem dX1_shifted_10 : decode cX1_shifted 10 = .ok (.lushr, 1) := by decide +kernel
theorem dX1_shifted_11 : decode cX1_shifted 11 = .ok (.lload_n 1, 1) := by decide +kernel
theorem dX1_shifted_12 : decode cX1_shifted 12 = .ok (.aload_n 0, 1) := by decide +kernel
theorem dX1_shifted_13 : decode cX1_shifted 13 = .ok (.getfield 9, 3) := by decide +kernel
theorem dX1_shifted_16 : decode cX1_shifted 16 = .ok (.iload 4, 2) := by decide +kernel
theorem dX1_shifted_18 : decode cX1_shifted 18 = .ok (.isub, 1) := by decide +kernel
theorem dX1_shifted_19 : decode cX1_shifted 19 = .ok (.lshl, 1) := by decide +kernel
theorem dX1_shifted_20 : decode cX1_shifted 20 = .ok (.lor, 1) := by decide +kernel
theorem dX1_shifted_21 : decode cX1_shifted 21 = .ok (.aload_n 0, 1) := by decide +kernel
theorem dX1_shifted_22 : decode cX1_shifted 22 = .ok (.getfield 9, 3) := by decide +kernel
theorem dX1_shifted_25 : decode cX1_shifted 25 = .ok (.invokestatic 27, 3) := by decide +kernel
theorem dX1_shifted_28 : decode cX1_shifted 28 = .ok (.land, 1) := by decide +kernel
theorem dX1_shifted_29 : decode cX1_shifted 29 = .ok (.lreturn, 1) := by decide +kernel
set_option maxRecDepth 20000 in
theorem ggX1_ofSource_X2_lowBits : GoodIn wsX1_ofSource wsX2_lowBits := goodIn_r _ [3, 4] (by decide +kernel) (by decide +kernel)
set_option maxRecDepth 20000 in
theorem gX1_ofSource_X2_lowBits_n27 : GoodIn wsX1_ofSource (wsX2_lowBits) := ggX1_ofSource_X2_lowBits
set_option maxRecDepth 20000 in
theorem ggX1_ofSource_X1_turnedRow : GoodIn wsX1_ofSource wsX1_turnedRow := goodIn_r _ [9, 10, 11, 12, 8, 13, 14, 28, 29] (by decide +kernel) (by decide +kernel)
set_option maxRecDepth 20000 in
theorem gX1_ofSource_X1_turnedRow : GoodIn wsX1_ofSource (wsV RX1 31 RX1 yX1_turnedRow wsX1_turnedRow) := goodIn_app (goodIn_of _ (by decide +kernel)) ggX1_ofSource_X1_turnedRow
set_option maxRecDepth 20000 in
theorem ggX1_ofSource_X1_spreadRow : GoodIn wsX1_ofSource wsX1_spreadRow := goodIn_r _ [18, 19, 14, 28, 29] (by decide +kernel) (by decide +kernel)
set_option maxRecDepth 20000 in
theorem gX1_ofSource_X1_spreadRow : GoodIn wsX1_ofSource (wsV RX1 34 RX1 yX1_spreadRow wsX1_spreadRow) := goodIn_app (goodIn_of _ (by decide +kernel)) ggX1_ofSource_X1_spreadRow
set_option maxRecDepth 20000 in
theorem ggX1_ofSource_X1_registerRow : GoodIn wsX1_ofSource wsX1_registerRow := goodIn_r _ [23, 19, 24, 25, 26, 8, 27, 28, 29] (by decide +kernel) (by decide +kernel)
set_option maxRecDepth 20000 in
theorem gX1_ofSource_X1_registerRow : GoodIn wsX1_ofSource (wsV RX1 37 RX1 yX1_registerRow wsX1_registerRow) := goodIn_app (goodIn_of _ (by decide +kernel)) ggX1_ofSource_X1_registerRow
theorem dX1_ofSource_0 : decode cX1_ofSource 0 = .ok (.iload_n 1, 1) := by decide +kernel
theorem dX1_ofSource_1 : decode cX1_ofSource 1 = .ok (.tableswitch 44 0 2 #[27, 32, 38], 27) := by decide +kernel
theorem dX1_ofSource_28 : decode cX1_ofSource 28 = .ok (.iload_n 2, 1) := by decide +kernel
theorem dX1_ofSource_29 : decode cX1_ofSource 29 = .ok (.invokestatic 27, 3) := by decide +kernel
theorem dX1_ofSource_32 : decode cX1_ofSource 32 = .ok (.lreturn, 1) := by decide +kernel
theorem dX1_ofSource_33 : decode cX1_ofSource 33 = .ok (.aload_n 0, 1) := by decide +kernel
theorem dX1_ofSource_34 : decode cX1_ofSource 34 = .ok (.iload_n 2, 1) := by decide +kernel
theorem dX1_ofSource_35 : decode cX1_ofSource 35 = .ok (.invokevirtual 31, 3) := by decide +kernel
theorem dX1_ofSource_38 : decode cX1_ofSource 38 = .ok (.lreturn, 1) := by decide +kernel
theorem dX1_ofSource_39 : decode cX1_ofSource 39 = .ok (.aload_n 0, 1) := by decide +kernel
theorem dX1_ofSource_40 : decode cX1_ofSource 40 = .ok (.iload_n 2, 1) := by decide +kernel
theorem dX1_ofSource_41 : decode cX1_ofSource 41 = .ok (.invokevirtual 34, 3) := by decide +kernel
theorem dX1_ofSource_44 : decode cX1_ofSource 44 = .ok (.lreturn, 1) := by decide +kernel
theorem dX1_ofSource_45 : decode cX1_ofSource 45 = .ok (.aload_n 0, 1) := by decide +kernel
theorem dX1_ofSource_46 : decode cX1_ofSource 46 = .ok (.iload_n 2, 1) := by decide +kernel
theorem dX1_ofSource_47 : decode cX1_ofSource 47 = .ok (.invokevirtual 37, 3) := by decide +kernel
theorem dX1_ofSource_50 : decode cX1_ofSource 50 = .ok (.lreturn, 1) := by decide +kernel
set_option maxRecDepth 20000 in
theorem ggX1_turnedRow_X1_turned : GoodIn wsX1_turnedRow wsX1_turned := goodIn_r _ [5, 6, 7, 8] (by decide +kernel) (by decide +kernel)
set_option maxRecDepth 20000 in
theorem gX1_turnedRow_X1_turned : GoodIn wsX1_turnedRow (wsV RX1 40 RX1 yX1_turned wsX1_turned) := goodIn_app (goodIn_of _ (by decide +kernel)) ggX1_turnedRow_X1_turned
theorem dX1_turnedRow_0 : decode cX1_turnedRow 0 = .ok (.lconst 0, 1) := by decide +kernel
theorem dX1_turnedRow_1 : decode cX1_turnedRow 1 = .ok (.lstore_n 2, 1) := by decide +kernel
theorem dX1_turnedRow_2 : decode cX1_turnedRow 2 = .ok (.iconst 0, 1) := by decide +kernel
theorem dX1_turnedRow_3 : decode cX1_turnedRow 3 = .ok (.istore 4, 2) := by decide +kernel
theorem dX1_turnedRow_5 : decode cX1_turnedRow 5 = .ok (.iload 4, 2) := by decide +kernel
theorem dX1_turnedRow_7 : decode cX1_turnedRow 7 = .ok (.iload_n 1, 1) := by decide +kernel
theorem dX1_turnedRow_8 : decode cX1_turnedRow 8 = .ok (.if_icmp .ge 20, 3) := by decide +kernel
theorem dX1_turnedRow_11 : decode cX1_turnedRow 11 = .ok (.lload_n 2, 1) := by decide +kernel
theorem dX1_turnedRow_12 : decode cX1_turnedRow 12 = .ok (.lconst 1, 1) := by decide +kernel
theorem dX1_turnedRow_13 : decode cX1_turnedRow 13 = .ok (.aload_n 0, 1) := by decide +kernel
theorem dX1_turnedRow_14 : decode cX1_turnedRow 14 = .ok (.iload 4, 2) := by decide +kernel
theorem dX1_turnedRow_16 : decode cX1_turnedRow 16 = .ok (.invokevirtual 40, 3) := by decide +kernel
theorem dX1_turnedRow_19 : decode cX1_turnedRow 19 = .ok (.lshl, 1) := by decide +kernel
theorem dX1_turnedRow_20 : decode cX1_turnedRow 20 = .ok (.lor, 1) := by decide +kernel
theorem dX1_turnedRow_21 : decode cX1_turnedRow 21 = .ok (.lstore_n 2, 1) := by decide +kernel
theorem dX1_turnedRow_22 : decode cX1_turnedRow 22 = .ok (.iinc 4 1, 3) := by decide +kernel
theorem dX1_turnedRow_25 : decode cX1_turnedRow 25 = .ok (.goto (-20), 3) := by decide +kernel
theorem dX1_turnedRow_28 : decode cX1_turnedRow 28 = .ok (.lload_n 2, 1) := by decide +kernel
theorem dX1_turnedRow_29 : decode cX1_turnedRow 29 = .ok (.lreturn, 1) := by decide +kernel
theorem dX1_spreadRow_0 : decode cX1_spreadRow 0 = .ok (.lconst 0, 1) := by decide +kernel
theorem dX1_spreadRow_1 : decode cX1_spreadRow 1 = .ok (.lstore_n 2, 1) := by decide +kernel
theorem dX1_spreadRow_2 : decode cX1_spreadRow 2 = .ok (.iconst 0, 1) := by decide +kernel
theorem dX1_spreadRow_3 : decode cX1_spreadRow 3 = .ok (.istore 4, 2) := by decide +kernel
theorem dX1_spreadRow_5 : decode cX1_spreadRow 5 = .ok (.iload 4, 2) := by decide +kernel
theorem dX1_spreadRow_7 : decode cX1_spreadRow 7 = .ok (.aload_n 0, 1) := by decide +kernel
theorem dX1_spreadRow_8 : decode cX1_spreadRow 8 = .ok (.getfield 9, 3) := by decide +kernel
theorem dX1_spreadRow_11 : decode cX1_spreadRow 11 = .ok (.if_icmp .ge 39, 3) := by decide +kernel
theorem dX1_spreadRow_14 : decode cX1_spreadRow 14 = .ok (.iload_n 1, 1) := by decide +kernel
theorem dX1_spreadRow_15 : decode cX1_spreadRow 15 = .ok (.iload 4, 2) := by decide +kernel
theorem dX1_spreadRow_17 : decode cX1_spreadRow 17 = .ok (.iconst 1, 1) := by decide +kernel
theorem dX1_spreadRow_18 : decode cX1_spreadRow 18 = .ok (.iadd, 1) := by decide +kernel
theorem dX1_spreadRow_19 : decode cX1_spreadRow 19 = .ok (.imul, 1) := by decide +kernel
theorem dX1_spreadRow_20 : decode cX1_spreadRow 20 = .ok (.aload_n 0, 1) := by decide +kernel
theorem dX1_spreadRow_21 : decode cX1_spreadRow 21 = .ok (.getfield 21, 3) := by decide +kernel
theorem dX1_spreadRow_24 : decode cX1_spreadRow 24 = .ok (.ishr, 1) := by decide +kernel
theorem dX1_spreadRow_25 : decode cX1_spreadRow 25 = .ok (.iload_n 1, 1) := by decide +kernel
theorem dX1_spreadRow_26 : decode cX1_spreadRow 26 = .ok (.iload 4, 2) := by decide +kernel
theorem dX1_spreadRow_28 : decode cX1_spreadRow 28 = .ok (.imul, 1) := by decide +kernel
theorem dX1_spreadRow_29 : decode cX1_spreadRow 29 = .ok (.aload_n 0, 1) := by decide +kernel
theorem dX1_spreadRow_30 : decode cX1_spreadRow 30 = .ok (.getfield 21, 3) := by decide +kernel
theorem dX1_spreadRow_33 : decode cX1_spreadRow 33 = .ok (.ishr, 1) := by decide +kernel
theorem dX1_spreadRow_34 : decode cX1_spreadRow 34 = .ok (.if_icmp .le 10, 3) := by decide +kernel
theorem dX1_spreadRow_37 : decode cX1_spreadRow 37 = .ok (.lload_n 2, 1) := by decide +kernel
theorem dX1_spreadRow_38 : decode cX1_spreadRow 38 = .ok (.lconst 1, 1) := by decide +kernel
theorem dX1_spreadRow_39 : decode cX1_spreadRow 39 = .ok (.iload 4, 2) := by decide +kernel
theorem dX1_spreadRow_41 : decode cX1_spreadRow 41 = .ok (.lshl, 1) := by decide +kernel
theorem dX1_spreadRow_42 : decode cX1_spreadRow 42 = .ok (.lor, 1) := by decide +kernel
theorem dX1_spreadRow_43 : decode cX1_spreadRow 43 = .ok (.lstore_n 2, 1) := by decide +kernel
theorem dX1_spreadRow_44 : decode cX1_spreadRow 44 = .ok (.iinc 4 1, 3) := by decide +kernel
theorem dX1_spreadRow_47 : decode cX1_spreadRow 47 = .ok (.goto (-42), 3) := by decide +kernel
theorem dX1_spreadRow_50 : decode cX1_spreadRow 50 = .ok (.lload_n 2, 1) := by decide +kernel
theorem dX1_spreadRow_51 : decode cX1_spreadRow 51 = .ok (.lreturn, 1) := by decide +kernel
set_option maxRecDepth 20000 in
theorem ggX1_registerRow_X1_tapsOfLength : GoodIn wsX1_registerRow wsX1_tapsOfLength := goodIn_r _ [6, 1, 7, 8] (by decide +kernel) (by decide +kernel)
set_option maxRecDepth 20000 in
theorem gX1_registerRow_X1_tapsOfLength : GoodIn wsX1_registerRow (wsV RX1 43 RX1 yX1_tapsOfLength wsX1_tapsOfLength) := goodIn_app (goodIn_of _ (by decide +kernel)) ggX1_registerRow_X1_tapsOfLength
theorem dX1_registerRow_0 : decode cX1_registerRow 0 = .ok (.aload_n 0, 1) := by decide +kernel
theorem dX1_registerRow_1 : decode cX1_registerRow 1 = .ok (.invokevirtual 43, 3) := by decide +kernel
theorem dX1_registerRow_4 : decode cX1_registerRow 4 = .ok (.istore_n 2, 1) := by decide +kernel
theorem dX1_registerRow_5 : decode cX1_registerRow 5 = .ok (.iconst 1, 1) := by decide +kernel
theorem dX1_registerRow_6 : decode cX1_registerRow 6 = .ok (.istore_n 3, 1) := by decide +kernel
theorem dX1_registerRow_7 : decode cX1_registerRow 7 = .ok (.lconst 0, 1) := by decide +kernel
theorem dX1_registerRow_8 : decode cX1_registerRow 8 = .ok (.lstore 4, 2) := by decide +kernel
theorem dX1_registerRow_10 : decode cX1_registerRow 10 = .ok (.iconst 0, 1) := by decide +kernel
theorem dX1_registerRow_11 : decode cX1_registerRow 11 = .ok (.istore 6, 2) := by decide +kernel
theorem dX1_registerRow_13 : decode cX1_registerRow 13 = .ok (.iload 6, 2) := by decide +kernel
theorem dX1_registerRow_15 : decode cX1_registerRow 15 = .ok (.aload_n 0, 1) := by decide +kernel
theorem dX1_registerRow_16 : decode cX1_registerRow 16 = .ok (.getfield 9, 3) := by decide +kernel
theorem dX1_registerRow_19 : decode cX1_registerRow 19 = .ok (.iconst 1, 1) := by decide +kernel
theorem dX1_registerRow_20 : decode cX1_registerRow 20 = .ok (.isub, 1) := by decide +kernel
theorem dX1_registerRow_21 : decode cX1_registerRow 21 = .ok (.if_icmp .ge 42, 3) := by decide +kernel
theorem dX1_registerRow_24 : decode cX1_registerRow 24 = .ok (.iload_n 3, 1) := by decide +kernel
theorem dX1_registerRow_25 : decode cX1_registerRow 25 = .ok (.iload_n 1, 1) := by decide +kernel
theorem dX1_registerRow_26 : decode cX1_registerRow 26 = .ok (.if_icmp .gt 12, 3) := by decide +kernel
theorem dX1_registerRow_29 : decode cX1_registerRow 29 = .ok (.lload 4, 2) := by decide +kernel
theorem dX1_registerRow_31 : decode cX1_registerRow 31 = .ok (.lconst 1, 1) := by decide +kernel
theorem dX1_registerRow_32 : decode cX1_registerRow 32 = .ok (.iload 6, 2) := by decide +kernel
theorem dX1_registerRow_34 : decode cX1_registerRow 34 = .ok (.lshl, 1) := by decide +kernel
theorem dX1_registerRow_35 : decode cX1_registerRow 35 = .ok (.lor, 1) := by decide +kernel
theorem dX1_registerRow_36 : decode cX1_registerRow 36 = .ok (.lstore 4, 2) := by decide +kernel
theorem dX1_registerRow_38 : decode cX1_registerRow 38 = .ok (.iload_n 3, 1) := by decide +kernel
theorem dX1_registerRow_39 : decode cX1_registerRow 39 = .ok (.iconst 1, 1) := by decide +kernel
theorem dX1_registerRow_40 : decode cX1_registerRow 40 = .ok (.iand, 1) := by decide +kernel
theorem dX1_registerRow_41 : decode cX1_registerRow 41 = .ok (.iconst 1, 1) := by decide +kernel
theorem dX1_registerRow_42 : decode cX1_registerRow 42 = .ok (.if_icmp .ne 11, 3) := by decide +kernel
theorem dX1_registerRow_45 : decode cX1_registerRow 45 = .ok (.iload_n 3, 1) := by decide +kernel
theorem dX1_registerRow_46 : decode cX1_registerRow 46 = .ok (.iconst 1, 1) := by decide +kernel
theorem dX1_registerRow_47 : decode cX1_registerRow 47 = .ok (.ishr, 1) := by decide +kernel
theorem dX1_registerRow_48 : decode cX1_registerRow 48 = .ok (.iload_n 2, 1) := by decide +kernel
theorem dX1_registerRow_49 : decode cX1_registerRow 49 = .ok (.ixor, 1) := by decide +kernel
theorem dX1_registerRow_50 : decode cX1_registerRow 50 = .ok (.goto 6, 3) := by decide +kernel
theorem dX1_registerRow_53 : decode cX1_registerRow 53 = .ok (.iload_n 3, 1) := by decide +kernel
theorem dX1_registerRow_54 : decode cX1_registerRow 54 = .ok (.iconst 1, 1) := by decide +kernel
theorem dX1_registerRow_55 : decode cX1_registerRow 55 = .ok (.ishr, 1) := by decide +kernel
theorem dX1_registerRow_56 : decode cX1_registerRow 56 = .ok (.istore_n 3, 1) := by decide +kernel
theorem dX1_registerRow_57 : decode cX1_registerRow 57 = .ok (.iinc 6 1, 3) := by decide +kernel
theorem dX1_registerRow_60 : decode cX1_registerRow 60 = .ok (.goto (-47), 3) := by decide +kernel
theorem dX1_registerRow_63 : decode cX1_registerRow 63 = .ok (.aload_n 0, 1) := by decide +kernel
theorem dX1_registerRow_64 : decode cX1_registerRow 64 = .ok (.getfield 9, 3) := by decide +kernel
theorem dX1_registerRow_67 : decode cX1_registerRow 67 = .ok (.iload_n 1, 1) := by decide +kernel
theorem dX1_registerRow_68 : decode cX1_registerRow 68 = .ok (.if_icmp .gt 17, 3) := by decide +kernel
theorem dX1_registerRow_71 : decode cX1_registerRow 71 = .ok (.lload 4, 2) := by decide +kernel
theorem dX1_registerRow_73 : decode cX1_registerRow 73 = .ok (.lconst 1, 1) := by decide +kernel
theorem dX1_registerRow_74 : decode cX1_registerRow 74 = .ok (.aload_n 0, 1) := by decide +kernel
theorem dX1_registerRow_75 : decode cX1_registerRow 75 = .ok (.getfield 9, 3) := by decide +kernel
theorem dX1_registerRow_78 : decode cX1_registerRow 78 = .ok (.iconst 1, 1) := by decide +kernel
theorem dX1_registerRow_79 : decode cX1_registerRow 79 = .ok (.isub, 1) := by decide +kernel
theorem dX1_registerRow_80 : decode cX1_registerRow 80 = .ok (.lshl, 1) := by decide +kernel
theorem dX1_registerRow_81 : decode cX1_registerRow 81 = .ok (.lor, 1) := by decide +kernel
theorem dX1_registerRow_82 : decode cX1_registerRow 82 = .ok (.goto 5, 3) := by decide +kernel
theorem dX1_registerRow_85 : decode cX1_registerRow 85 = .ok (.lload 4, 2) := by decide +kernel
theorem dX1_registerRow_87 : decode cX1_registerRow 87 = .ok (.lreturn, 1) := by decide +kernel
theorem dX1_tapsOfLength_0 : decode cX1_tapsOfLength 0 = .ok (.aload_n 0, 1) := by decide +kernel
theorem dX1_tapsOfLength_1 : decode cX1_tapsOfLength 1 = .ok (.getfield 9, 3) := by decide +kernel
theorem dX1_tapsOfLength_4 : decode cX1_tapsOfLength 4 = .ok (.lookupswitch 45 #[(8, 36), (16, 39), (32, 42)], 36) := by decide +kernel
theorem dX1_tapsOfLength_40 : decode cX1_tapsOfLength 40 = .ok (.bipush 6, 2) := by decide +kernel
theorem dX1_tapsOfLength_42 : decode cX1_tapsOfLength 42 = .ok (.ireturn, 1) := by decide +kernel
theorem dX1_tapsOfLength_43 : decode cX1_tapsOfLength 43 = .ok (.bipush 12, 2) := by decide +kernel
theorem dX1_tapsOfLength_45 : decode cX1_tapsOfLength 45 = .ok (.ireturn, 1) := by decide +kernel
theorem dX1_tapsOfLength_46 : decode cX1_tapsOfLength 46 = .ok (.bipush 20, 2) := by decide +kernel
theorem dX1_tapsOfLength_48 : decode cX1_tapsOfLength 48 = .ok (.ireturn, 1) := by decide +kernel
theorem dX1_tapsOfLength_49 : decode cX1_tapsOfLength 49 = .ok (.bipush 48, 2) := by decide +kernel
theorem dX1_tapsOfLength_51 : decode cX1_tapsOfLength 51 = .ok (.ireturn, 1) := by decide +kernel
set_option maxRecDepth 20000 in
theorem ggX2_init_X1_init : GoodIn wsX2_init wsX1_init := goodIn_r _ [22, 23, 2, 3, 24, 25, 26, 27, 28, 29, 30, 31, 32, 40, 41] (by decide +kernel) (by decide +kernel)
set_option maxRecDepth 20000 in
theorem gX2_init_X1_init_n9 : GoodIn wsX2_init (wsX1_init) := ggX2_init_X1_init
set_option maxRecDepth 20000 in
theorem ggX2_init_X0_init : GoodIn wsX2_init wsX0_init := goodIn_r _ [34, 35, 2, 3, 36, 37, 38, 39, 52, 53, 54] (by decide +kernel) (by decide +kernel)
set_option maxRecDepth 20000 in
theorem gX2_init_X0_init_n18 : GoodIn wsX2_init (wsX0_init) := ggX2_init_X0_init
theorem dX2_init_0 : decode cX2_init 0 = .ok (.aload_n 0, 1) := by decide +kernel
theorem dX2_init_1 : decode cX2_init 1 = .ok (.invokespecial 1, 3) := by decide +kernel
theorem dX2_init_4 : decode cX2_init 4 = .ok (.aload_n 0, 1) := by decide +kernel
theorem dX2_init_5 : decode cX2_init 5 = .ok (.new 7, 3) := by decide +kernel
theorem dX2_init_8 : decode cX2_init 8 = .ok (.dup, 1) := by decide +kernel
theorem dX2_init_9 : decode cX2_init 9 = .ok (.invokespecial 9, 3) := by decide +kernel
theorem dX2_init_12 : decode cX2_init 12 = .ok (.putfield 10, 3) := by decide +kernel
theorem dX2_init_15 : decode cX2_init 15 = .ok (.aload_n 0, 1) := by decide +kernel
theorem dX2_init_16 : decode cX2_init 16 = .ok (.new 16, 3) := by decide +kernel
theorem dX2_init_19 : decode cX2_init 19 = .ok (.dup, 1) := by decide +kernel
theorem dX2_init_20 : decode cX2_init 20 = .ok (.invokespecial 18, 3) := by decide +kernel
theorem dX2_init_23 : decode cX2_init 23 = .ok (.putfield 19, 3) := by decide +kernel
theorem dX2_init_26 : decode cX2_init 26 = .ok (.aload_n 0, 1) := by decide +kernel
theorem dX2_init_27 : decode cX2_init 27 = .ok (.bipush 12, 2) := by decide +kernel
theorem dX2_init_29 : decode cX2_init 29 = .ok (.newarray .long, 2) := by decide +kernel
theorem dX2_init_31 : decode cX2_init 31 = .ok (.putfield 23, 3) := by decide +kernel
theorem dX2_init_34 : decode cX2_init 34 = .ok (.aload_n 0, 1) := by decide +kernel
theorem dX2_init_35 : decode cX2_init 35 = .ok (.bipush 65, 2) := by decide +kernel
theorem dX2_init_37 : decode cX2_init 37 = .ok (.newarray .long, 2) := by decide +kernel
theorem dX2_init_39 : decode cX2_init 39 = .ok (.putfield 27, 3) := by decide +kernel
theorem dX2_init_42 : decode cX2_init 42 = .ok (.aload_n 0, 1) := by decide +kernel
theorem dX2_init_43 : decode cX2_init 43 = .ok (.bipush 65, 2) := by decide +kernel
theorem dX2_init_45 : decode cX2_init 45 = .ok (.newarray .long, 2) := by decide +kernel
theorem dX2_init_47 : decode cX2_init 47 = .ok (.putfield 30, 3) := by decide +kernel
theorem dX2_init_50 : decode cX2_init 50 = .ok (.aload_n 0, 1) := by decide +kernel
theorem dX2_init_51 : decode cX2_init 51 = .ok (.bipush 11, 2) := by decide +kernel
theorem dX2_init_53 : decode cX2_init 53 = .ok (.newarray .long, 2) := by decide +kernel
theorem dX2_init_55 : decode cX2_init 55 = .ok (.putfield 33, 3) := by decide +kernel
theorem dX2_init_58 : decode cX2_init 58 = .ok (.aload_n 0, 1) := by decide +kernel
theorem dX2_init_59 : decode cX2_init 59 = .ok (.iconst (-1), 1) := by decide +kernel
theorem dX2_init_60 : decode cX2_init 60 = .ok (.putfield 36, 3) := by decide +kernel
theorem dX2_init_63 : decode cX2_init 63 = .ok (.aload_n 0, 1) := by decide +kernel
theorem dX2_init_64 : decode cX2_init 64 = .ok (.iconst 0, 1) := by decide +kernel
theorem dX2_init_65 : decode cX2_init 65 = .ok (.putfield 40, 3) := by decide +kernel
theorem dX2_init_68 : decode cX2_init 68 = .ok (.aload_n 0, 1) := by decide +kernel
theorem dX2_init_69 : decode cX2_init 69 = .ok (.iconst 0, 1) := by decide +kernel
theorem dX2_init_70 : decode cX2_init 70 = .ok (.putfield 43, 3) := by decide +kernel
theorem dX2_init_73 : decode cX2_init 73 = .ok (.aload_n 0, 1) := by decide +kernel
theorem dX2_init_74 : decode cX2_init 74 = .ok (.iconst 0, 1) := by decide +kernel
theorem dX2_init_75 : decode cX2_init 75 = .ok (.putfield 46, 3) := by decide +kernel
theorem dX2_init_78 : decode cX2_init 78 = .ok (.return_, 1) := by decide +kernel
set_option maxRecDepth 20000 in
theorem ggX2_length_X1_setLength : GoodIn wsX2_length wsX1_setLength := goodIn_r _ [6, 7, 8, 9, 10, 11, 12, 13, 14, 15, 26, 27] (by decide +kernel) (by decide +kernel)
set_option maxRecDepth 20000 in
theorem gX2_length_X1_setLength_n52 : GoodIn wsX2_length (wsX1_setLength) := ggX2_length_X1_setLength
theorem dX2_length_0 : decode cX2_length 0 = .ok (.iload_n 1, 1) := by decide +kernel
theorem dX2_length_1 : decode cX2_length 1 = .ok (.bipush 8, 2) := by decide +kernel
theorem dX2_length_3 : decode cX2_length 3 = .ok (.if_icmp .eq 24, 3) := by decide +kernel
theorem dX2_length_6 : decode cX2_length 6 = .ok (.iload_n 1, 1) := by decide +kernel
theorem dX2_length_7 : decode cX2_length 7 = .ok (.bipush 16, 2) := by decide +kernel
theorem dX2_length_9 : decode cX2_length 9 = .ok (.if_icmp .eq 18, 3) := by decide +kernel
theorem dX2_length_12 : decode cX2_length 12 = .ok (.iload_n 1, 1) := by decide +kernel
theorem dX2_length_13 : decode cX2_length 13 = .ok (.bipush 32, 2) := by decide +kernel
theorem dX2_length_15 : decode cX2_length 15 = .ok (.if_icmp .eq 12, 3) := by decide +kernel
theorem dX2_length_18 : decode cX2_length 18 = .ok (.iload_n 1, 1) := by decide +kernel
theorem dX2_length_19 : decode cX2_length 19 = .ok (.bipush 64, 2) := by decide +kernel
theorem dX2_length_21 : decode cX2_length 21 = .ok (.if_icmp .eq 6, 3) := by decide +kernel
theorem dX2_length_24 : decode cX2_length 24 = .ok (.bipush (-102), 2) := by decide +kernel
theorem dX2_length_26 : decode cX2_length 26 = .ok (.ireturn, 1) := by decide +kernel
theorem dX2_length_27 : decode cX2_length 27 = .ok (.aload_n 0, 1) := by decide +kernel
theorem dX2_length_28 : decode cX2_length 28 = .ok (.getfield 10, 3) := by decide +kernel
theorem dX2_length_31 : decode cX2_length 31 = .ok (.getfield 49, 3) := by decide +kernel
theorem dX2_length_34 : decode cX2_length 34 = .ok (.istore_n 2, 1) := by decide +kernel
theorem dX2_length_35 : decode cX2_length 35 = .ok (.aload_n 0, 1) := by decide +kernel
theorem dX2_length_36 : decode cX2_length 36 = .ok (.getfield 10, 3) := by decide +kernel
theorem dX2_length_39 : decode cX2_length 39 = .ok (.iload_n 1, 1) := by decide +kernel
theorem dX2_length_40 : decode cX2_length 40 = .ok (.invokevirtual 52, 3) := by decide +kernel
theorem dX2_length_43 : decode cX2_length 43 = .ok (.iconst 0, 1) := by decide +kernel
theorem dX2_length_44 : decode cX2_length 44 = .ok (.istore_n 3, 1) := by decide +kernel
theorem dX2_length_45 : decode cX2_length 45 = .ok (.iload_n 3, 1) := by decide +kernel
theorem dX2_length_46 : decode cX2_length 46 = .ok (.bipush 12, 2) := by decide +kernel
theorem dX2_length_48 : decode cX2_length 48 = .ok (.if_icmp .ge 16, 3) := by decide +kernel
theorem dX2_length_51 : decode cX2_length 51 = .ok (.aload_n 0, 1) := by decide +kernel
theorem dX2_length_52 : decode cX2_length 52 = .ok (.getfield 23, 3) := by decide +kernel
theorem dX2_length_55 : decode cX2_length 55 = .ok (.iload_n 3, 1) := by decide +kernel
theorem dX2_length_56 : decode cX2_length 56 = .ok (.lconst 0, 1) := by decide +kernel
theorem dX2_length_57 : decode cX2_length 57 = .ok (.lastore, 1) := by decide +kernel
theorem dX2_length_58 : decode cX2_length 58 = .ok (.iinc 3 1, 3) := by decide +kernel
theorem dX2_length_61 : decode cX2_length 61 = .ok (.goto (-16), 3) := by decide +kernel
theorem dX2_length_64 : decode cX2_length 64 = .ok (.iload_n 2, 1) := by decide +kernel
theorem dX2_length_65 : decode cX2_length 65 = .ok (.ireturn, 1) := by decide +kernel
set_option maxRecDepth 20000 in
theorem ggX2_source_X2_isStream : GoodIn wsX2_source wsX2_isStream := goodIn_r _ [5, 6, 7, 4, 8] (by decide +kernel) (by decide +kernel)
set_option maxRecDepth 20000 in
theorem gX2_source_X2_isStream : GoodIn wsX2_source (va_wsS RX2 56 yX2_isStream wsX2_isStream) := goodIn_app (goodIn_of _ (by decide +kernel)) ggX2_source_X2_isStream
set_option maxRecDepth 20000 in
theorem ggX2_source_X2_isSource : GoodIn wsX2_source wsX2_isSource := goodIn_r _ [11, 6, 7, 4, 8] (by decide +kernel) (by decide +kernel)
set_option maxRecDepth 20000 in
theorem gX2_source_X2_isSource : GoodIn wsX2_source (va_wsS RX2 60 yX2_isSource wsX2_isSource) := goodIn_app (goodIn_of _ (by decide +kernel)) ggX2_source_X2_isSource
set_option maxRecDepth 20000 in
theorem ggX2_source_X2_isValue : GoodIn wsX2_source wsX2_isValue := goodIn_r _ [15, 1, 6, 7, 4, 8, 58, 59, 60, 61, 62, 63, 64, 65, 66, 67, 68, 69] (by decide +kernel) (by decide +kernel)
set_option maxRecDepth 20000 in
theorem gX2_source_X2_isValue : GoodIn wsX2_source (wsV RX2 63 RX2 yX2_isValue wsX2_isValue) := goodIn_app (goodIn_of _ (by decide +kernel)) ggX2_source_X2_isValue
set_option maxRecDepth 20000 in
theorem ggX2_source_X1_ofSource : GoodIn wsX2_source wsX1_ofSource := goodIn_r _ [19, 20, 4, 21, 22, 23, 24, 25, 17, 26, 27, 28, 29, 30, 31, 32, 33, 34, 35, 36, 37, 38, 39, 40, 41, 42, 43, 44, 68, 69] (by decide +kernel) (by decide +kernel)
set_option maxRecDepth 20000 in
theorem gX2_source_X1_ofSource_n66 : GoodIn wsX2_source (wsX1_ofSource) := ggX2_source_X1_ofSource
set_option maxRecDepth 20000 in
theorem ggX2_source_X2_setStream : GoodIn wsX2_source wsX2_setStream := goodIn_r _ [48, 49, 1, 50, 20, 4, 21, 22, 51, 52, 53, 54, 55, 56, 57, 58, 59, 60, 61, 62, 63, 64, 65, 66, 67, 68, 69] (by decide +kernel) (by decide +kernel)
set_option maxRecDepth 20000 in
theorem gX2_source_X2_setStream : GoodIn wsX2_source (wsV RX2 70 RX2 yX2_setStream wsX2_setStream) := goodIn_app (goodIn_of _ (by decide +kernel)) ggX2_source_X2_setStream
theorem dX2_source_0 : decode cX2_source 0 = .ok (.iload_n 1, 1) := by decide +kernel
theorem dX2_source_1 : decode cX2_source 1 = .ok (.invokestatic 56, 3) := by decide +kernel
theorem dX2_source_4 : decode cX2_source 4 = .ok (.ifCond .ne 6, 3) := by decide +kernel
theorem dX2_source_7 : decode cX2_source 7 = .ok (.bipush (-101), 2) := by decide +kernel
theorem dX2_source_9 : decode cX2_source 9 = .ok (.ireturn, 1) := by decide +kernel
theorem dX2_source_10 : decode cX2_source 10 = .ok (.iload_n 2, 1) := by decide +kernel
theorem dX2_source_11 : decode cX2_source 11 = .ok (.invokestatic 60, 3) := by decide +kernel
theorem dX2_source_14 : decode cX2_source 14 = .ok (.ifCond .eq 11, 3) := by decide +kernel
theorem dX2_source_17 : decode cX2_source 17 = .ok (.aload_n 0, 1) := by decide +kernel
theorem dX2_source_18 : decode cX2_source 18 = .ok (.iload_n 3, 1) := by decide +kernel
theorem dX2_source_19 : decode cX2_source 19 = .ok (.invokevirtual 63, 3) := by decide +kernel
theorem dX2_source_22 : decode cX2_source 22 = .ok (.ifCond .ne 6, 3) := by decide +kernel
theorem dX2_source_25 : decode cX2_source 25 = .ok (.bipush (-102), 2) := by decide +kernel
theorem dX2_source_27 : decode cX2_source 27 = .ok (.ireturn, 1) := by decide +kernel
theorem dX2_source_28 : decode cX2_source 28 = .ok (.aload_n 0, 1) := by decide +kernel
theorem dX2_source_29 : decode cX2_source 29 = .ok (.iload_n 1, 1) := by decide +kernel
theorem dX2_source_30 : decode cX2_source 30 = .ok (.aload_n 0, 1) := by decide +kernel
theorem dX2_source_31 : decode cX2_source 31 = .ok (.getfield 10, 3) := by decide +kernel
theorem dX2_source_34 : decode cX2_source 34 = .ok (.iload_n 2, 1) := by decide +kernel
theorem dX2_source_35 : decode cX2_source 35 = .ok (.iload_n 3, 1) := by decide +kernel
theorem dX2_source_36 : decode cX2_source 36 = .ok (.invokevirtual 66, 3) := by decide +kernel
theorem dX2_source_39 : decode cX2_source 39 = .ok (.invokevirtual 70, 3) := by decide +kernel
theorem dX2_source_42 : decode cX2_source 42 = .ok (.ireturn, 1) := by decide +kernel
set_option maxRecDepth 20000 in
theorem ggX2_put_X2_isStream : GoodIn wsX2_put wsX2_isStream := goodIn_r _ [6, 7, 8, 5, 9] (by decide +kernel) (by decide +kernel)
set_option maxRecDepth 20000 in
theorem gX2_put_X2_isStream : GoodIn wsX2_put (va_wsS RX2 56 yX2_isStream wsX2_isStream) := goodIn_app (goodIn_of _ (by decide +kernel)) ggX2_put_X2_isStream
set_option maxRecDepth 20000 in
theorem ggX2_put_X2_isBit : GoodIn wsX2_put wsX2_isBit := goodIn_r _ [13, 14, 7, 8, 5, 9, 18, 19, 20, 21, 22, 23, 24, 25, 26, 27, 28, 29] (by decide +kernel) (by decide +kernel)
set_option maxRecDepth 20000 in
theorem gX2_put_X2_isBit : GoodIn wsX2_put (wsV RX2 74 RX2 yX2_isBit wsX2_isBit) := goodIn_app (goodIn_of _ (by decide +kernel)) ggX2_put_X2_isBit
