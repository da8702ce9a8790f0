theorem dX3_isSource_13 : decode cX3_isSource 13 = .ok (.i2l, 1) := by decide +kernel
theorem dX3_isSource_14 : decode cX3_isSource 14 = .ok (.lconst 0, 1) := by decide +kernel
theorem dX3_isSource_15 : decode cX3_isSource 15 = .ok (.aload_n 0, 1) := by decide +kernel
theorem dX3_isSource_16 : decode cX3_isSource 16 = .ok (.getfield 23, 3) := by decide +kernel
theorem dX3_isSource_19 : decode cX3_isSource 19 = .ok (.i2l, 1) := by decide +kernel
theorem dX3_isSource_20 : decode cX3_isSource 20 = .ok (.invokestatic 35, 3) := by decide +kernel
theorem dX3_isSource_23 : decode cX3_isSource 23 = .ok (.ifCond .eq 7, 3) := by decide +kernel
theorem dX3_isSource_26 : decode cX3_isSource 26 = .ok (.iconst 1, 1) := by decide +kernel
theorem dX3_isSource_27 : decode cX3_isSource 27 = .ok (.goto 4, 3) := by decide +kernel
theorem dX3_isSource_30 : decode cX3_isSource 30 = .ok (.iconst 0, 1) := by decide +kernel
theorem dX3_isSource_31 : decode cX3_isSource 31 = .ok (.ireturn, 1) := by decide +kernel
set_option maxRecDepth 20000 in
theorem ggX3_source_X3_isStream : GoodIn wsX3_source wsX3_isStream := goodIn_r _ [5, 6, 7, 8, 4, 9] (by decide +kernel) (by decide +kernel)
set_option maxRecDepth 20000 in
theorem gX3_source_X3_isStream : GoodIn wsX3_source (va_wsS RX3 49 yX3_isStream wsX3_isStream) := goodIn_app (goodIn_of _ (by decide +kernel)) ggX3_source_X3_isStream
set_option maxRecDepth 20000 in
theorem ggX3_source_X3_isSource : GoodIn wsX3_source wsX3_isSource := goodIn_r _ [13, 14, 15, 7, 8, 4, 9, 32, 33, 34, 35, 36, 37, 38, 39, 40, 41, 42, 43, 44] (by decide +kernel) (by decide +kernel)
set_option maxRecDepth 20000 in
theorem gX3_source_X3_isSource : GoodIn wsX3_source (wsV RX3 53 RX3 yX3_isSource wsX3_isSource) := goodIn_app (goodIn_of _ (by decide +kernel)) ggX3_source_X3_isSource
set_option maxRecDepth 20000 in
theorem ggX3_source_X3_sourceRow : GoodIn wsX3_source wsX3_sourceRow := goodIn_r _ [19, 15, 20, 21, 22, 4, 23, 32, 33, 34, 35, 36, 37, 38, 39, 40, 41, 42, 43, 44] (by decide +kernel) (by decide +kernel)
set_option maxRecDepth 20000 in
theorem gX3_source_X3_sourceRow : GoodIn wsX3_source (wsV RX3 57 RX3 yX3_sourceRow wsX3_sourceRow) := goodIn_app (goodIn_of _ (by decide +kernel)) ggX3_source_X3_sourceRow
set_option maxRecDepth 20000 in
theorem ggX3_source_X3_onesOf : GoodIn wsX3_source wsX3_onesOf := goodIn_r _ [27, 15, 28, 29, 30, 4, 31, 32, 33, 34, 35, 36, 37, 38, 39, 40, 41, 42, 43, 44] (by decide +kernel) (by decide +kernel)
set_option maxRecDepth 20000 in
theorem gX3_source_X3_onesOf : GoodIn wsX3_source (wsV RX3 61 RX3 yX3_onesOf wsX3_onesOf) := goodIn_app (goodIn_of _ (by decide +kernel)) ggX3_source_X3_onesOf
theorem dX3_source_0 : decode cX3_source 0 = .ok (.iload_n 1, 1) := by decide +kernel
theorem dX3_source_1 : decode cX3_source 1 = .ok (.invokestatic 49, 3) := by decide +kernel
theorem dX3_source_4 : decode cX3_source 4 = .ok (.ifCond .ne 6, 3) := by decide +kernel
theorem dX3_source_7 : decode cX3_source 7 = .ok (.bipush (-101), 2) := by decide +kernel
theorem dX3_source_9 : decode cX3_source 9 = .ok (.ireturn, 1) := by decide +kernel
theorem dX3_source_10 : decode cX3_source 10 = .ok (.aload_n 0, 1) := by decide +kernel
theorem dX3_source_11 : decode cX3_source 11 = .ok (.iload_n 2, 1) := by decide +kernel
theorem dX3_source_12 : decode cX3_source 12 = .ok (.iload_n 3, 1) := by decide +kernel
theorem dX3_source_13 : decode cX3_source 13 = .ok (.invokevirtual 53, 3) := by decide +kernel
theorem dX3_source_16 : decode cX3_source 16 = .ok (.ifCond .ne 6, 3) := by decide +kernel
theorem dX3_source_19 : decode cX3_source 19 = .ok (.bipush (-102), 2) := by decide +kernel
theorem dX3_source_21 : decode cX3_source 21 = .ok (.ireturn, 1) := by decide +kernel
theorem dX3_source_22 : decode cX3_source 22 = .ok (.aload_n 0, 1) := by decide +kernel
theorem dX3_source_23 : decode cX3_source 23 = .ok (.getfield 7, 3) := by decide +kernel
theorem dX3_source_26 : decode cX3_source 26 = .ok (.iload_n 1, 1) := by decide +kernel
theorem dX3_source_27 : decode cX3_source 27 = .ok (.aload_n 0, 1) := by decide +kernel
theorem dX3_source_28 : decode cX3_source 28 = .ok (.iload_n 2, 1) := by decide +kernel
theorem dX3_source_29 : decode cX3_source 29 = .ok (.iload_n 3, 1) := by decide +kernel
theorem dX3_source_30 : decode cX3_source 30 = .ok (.invokevirtual 57, 3) := by decide +kernel
theorem dX3_source_33 : decode cX3_source 33 = .ok (.lastore, 1) := by decide +kernel
theorem dX3_source_34 : decode cX3_source 34 = .ok (.aload_n 0, 1) := by decide +kernel
theorem dX3_source_35 : decode cX3_source 35 = .ok (.aload_n 0, 1) := by decide +kernel
theorem dX3_source_36 : decode cX3_source 36 = .ok (.getfield 7, 3) := by decide +kernel
theorem dX3_source_39 : decode cX3_source 39 = .ok (.iload_n 1, 1) := by decide +kernel
theorem dX3_source_40 : decode cX3_source 40 = .ok (.laload, 1) := by decide +kernel
theorem dX3_source_41 : decode cX3_source 41 = .ok (.invokevirtual 61, 3) := by decide +kernel
theorem dX3_source_44 : decode cX3_source 44 = .ok (.ireturn, 1) := by decide +kernel
set_option maxRecDepth 20000 in
theorem ggX3_put_X3_isStream : GoodIn wsX3_put wsX3_isStream := goodIn_r _ [7, 8, 9, 10, 6, 11] (by decide +kernel) (by decide +kernel)
set_option maxRecDepth 20000 in
theorem gX3_put_X3_isStream : GoodIn wsX3_put (va_wsS RX3 49 yX3_isStream wsX3_isStream) := goodIn_app (goodIn_of _ (by decide +kernel)) ggX3_put_X3_isStream
set_option maxRecDepth 20000 in
theorem ggX3_put_X3_in : GoodIn wsX3_put wsX3_in := goodIn_r _ [11] (by decide +kernel) (by decide +kernel)
set_option maxRecDepth 20000 in
theorem gX3_put_X3_in : GoodIn wsX3_put (va_wsS RX3 35 yX3_in wsX3_in) := goodIn_app (goodIn_of _ (by decide +kernel)) ggX3_put_X3_in
set_option maxRecDepth 20000 in
theorem ggX3_put_X3_bitOf : GoodIn wsX3_put wsX3_bitOf := goodIn_r _ [15] (by decide +kernel) (by decide +kernel)
set_option maxRecDepth 20000 in
theorem gX3_put_X3_bitOf : GoodIn wsX3_put (wsV RX3 39 RX3 yX3_bitOf wsX3_bitOf) := goodIn_app (goodIn_of _ (by decide +kernel)) ggX3_put_X3_bitOf
theorem dX3_put_0 : decode cX3_put 0 = .ok (.iload_n 1, 1) := by decide +kernel
theorem dX3_put_1 : decode cX3_put 1 = .ok (.invokestatic 49, 3) := by decide +kernel
theorem dX3_put_4 : decode cX3_put 4 = .ok (.ifCond .eq 19, 3) := by decide +kernel
theorem dX3_put_7 : decode cX3_put 7 = .ok (.iload_n 2, 1) := by decide +kernel
theorem dX3_put_8 : decode cX3_put 8 = .ok (.i2l, 1) := by decide +kernel
theorem dX3_put_9 : decode cX3_put 9 = .ok (.lconst 0, 1) := by decide +kernel
theorem dX3_put_10 : decode cX3_put 10 = .ok (.aload_n 0, 1) := by decide +kernel
theorem dX3_put_11 : decode cX3_put 11 = .ok (.getfield 23, 3) := by decide +kernel
theorem dX3_put_14 : decode cX3_put 14 = .ok (.iconst 1, 1) := by decide +kernel
theorem dX3_put_15 : decode cX3_put 15 = .ok (.isub, 1) := by decide +kernel
theorem dX3_put_16 : decode cX3_put 16 = .ok (.i2l, 1) := by decide +kernel
theorem dX3_put_17 : decode cX3_put 17 = .ok (.invokestatic 35, 3) := by decide +kernel
theorem dX3_put_20 : decode cX3_put 20 = .ok (.ifCond .ne 6, 3) := by decide +kernel
theorem dX3_put_23 : decode cX3_put 23 = .ok (.bipush (-101), 2) := by decide +kernel
theorem dX3_put_25 : decode cX3_put 25 = .ok (.ireturn, 1) := by decide +kernel
theorem dX3_put_26 : decode cX3_put 26 = .ok (.aload_n 0, 1) := by decide +kernel
theorem dX3_put_27 : decode cX3_put 27 = .ok (.aload_n 0, 1) := by decide +kernel
theorem dX3_put_28 : decode cX3_put 28 = .ok (.getfield 7, 3) := by decide +kernel
theorem dX3_put_31 : decode cX3_put 31 = .ok (.iload_n 1, 1) := by decide +kernel
theorem dX3_put_32 : decode cX3_put 32 = .ok (.laload, 1) := by decide +kernel
theorem dX3_put_33 : decode cX3_put 33 = .ok (.iload_n 2, 1) := by decide +kernel
theorem dX3_put_34 : decode cX3_put 34 = .ok (.invokevirtual 39, 3) := by decide +kernel
theorem dX3_put_37 : decode cX3_put 37 = .ok (.istore 4, 2) := by decide +kernel
theorem dX3_put_39 : decode cX3_put 39 = .ok (.aload_n 0, 1) := by decide +kernel
theorem dX3_put_40 : decode cX3_put 40 = .ok (.getfield 7, 3) := by decide +kernel
theorem dX3_put_43 : decode cX3_put 43 = .ok (.iload_n 1, 1) := by decide +kernel
theorem dX3_put_44 : decode cX3_put 44 = .ok (.iload_n 3, 1) := by decide +kernel
theorem dX3_put_45 : decode cX3_put 45 = .ok (.ifCond .eq 16, 3) := by decide +kernel
theorem dX3_put_48 : decode cX3_put 48 = .ok (.aload_n 0, 1) := by decide +kernel
theorem dX3_put_49 : decode cX3_put 49 = .ok (.getfield 7, 3) := by decide +kernel
theorem dX3_put_52 : decode cX3_put 52 = .ok (.iload_n 1, 1) := by decide +kernel
theorem dX3_put_53 : decode cX3_put 53 = .ok (.laload, 1) := by decide +kernel
theorem dX3_put_54 : decode cX3_put 54 = .ok (.lconst 1, 1) := by decide +kernel
theorem dX3_put_55 : decode cX3_put 55 = .ok (.iload_n 2, 1) := by decide +kernel
theorem dX3_put_56 : decode cX3_put 56 = .ok (.lshl, 1) := by decide +kernel
theorem dX3_put_57 : decode cX3_put 57 = .ok (.lor, 1) := by decide +kernel
theorem dX3_put_58 : decode cX3_put 58 = .ok (.goto 17, 3) := by decide +kernel
theorem dX3_put_61 : decode cX3_put 61 = .ok (.aload_n 0, 1) := by decide +kernel
theorem dX3_put_62 : decode cX3_put 62 = .ok (.getfield 7, 3) := by decide +kernel
theorem dX3_put_65 : decode cX3_put 65 = .ok (.iload_n 1, 1) := by decide +kernel
theorem dX3_put_66 : decode cX3_put 66 = .ok (.laload, 1) := by decide +kernel
theorem dX3_put_67 : decode cX3_put 67 = .ok (.lconst 1, 1) := by decide +kernel
theorem dX3_put_68 : decode cX3_put 68 = .ok (.iload_n 2, 1) := by decide +kernel
theorem dX3_put_69 : decode cX3_put 69 = .ok (.lshl, 1) := by decide +kernel
theorem dX3_put_70 : decode cX3_put 70 = .ok (.ldc2_w 65, 3) := by decide +kernel
theorem dX3_put_73 : decode cX3_put 73 = .ok (.lxor, 1) := by decide +kernel
theorem dX3_put_74 : decode cX3_put 74 = .ok (.land, 1) := by decide +kernel
theorem dX3_put_75 : decode cX3_put 75 = .ok (.lastore, 1) := by decide +kernel
theorem dX3_put_76 : decode cX3_put 76 = .ok (.iload 4, 2) := by decide +kernel
theorem dX3_put_78 : decode cX3_put 78 = .ok (.ireturn, 1) := by decide +kernel
set_option maxRecDepth 20000 in
theorem ggX3_bit_X3_isStream : GoodIn wsX3_bit wsX3_isStream := goodIn_r _ [6, 7, 8, 9, 5, 10] (by decide +kernel) (by decide +kernel)
set_option maxRecDepth 20000 in
theorem gX3_bit_X3_isStream : GoodIn wsX3_bit (va_wsS RX3 49 yX3_isStream wsX3_isStream) := goodIn_app (goodIn_of _ (by decide +kernel)) ggX3_bit_X3_isStream
set_option maxRecDepth 20000 in
theorem ggX3_bit_X3_in : GoodIn wsX3_bit wsX3_in := goodIn_r _ [10] (by decide +kernel) (by decide +kernel)
set_option maxRecDepth 20000 in
theorem gX3_bit_X3_in : GoodIn wsX3_bit (va_wsS RX3 35 yX3_in wsX3_in) := goodIn_app (goodIn_of _ (by decide +kernel)) ggX3_bit_X3_in
set_option maxRecDepth 20000 in
theorem ggX3_bit_X3_bitOf : GoodIn wsX3_bit wsX3_bitOf := goodIn_r _ [14] (by decide +kernel) (by decide +kernel)
set_option maxRecDepth 20000 in
theorem gX3_bit_X3_bitOf : GoodIn wsX3_bit (wsV RX3 39 RX3 yX3_bitOf wsX3_bitOf) := goodIn_app (goodIn_of _ (by decide +kernel)) ggX3_bit_X3_bitOf
theorem dX3_bit_0 : decode cX3_bit 0 = .ok (.iload_n 1, 1) := by decide +kernel
theorem dX3_bit_1 : decode cX3_bit 1 = .ok (.invokestatic 49, 3) := by decide +kernel
theorem dX3_bit_4 : decode cX3_bit 4 = .ok (.ifCond .eq 33, 3) := by decide +kernel
theorem dX3_bit_7 : decode cX3_bit 7 = .ok (.iload_n 2, 1) := by decide +kernel
theorem dX3_bit_8 : decode cX3_bit 8 = .ok (.i2l, 1) := by decide +kernel
theorem dX3_bit_9 : decode cX3_bit 9 = .ok (.lconst 0, 1) := by decide +kernel
theorem dX3_bit_10 : decode cX3_bit 10 = .ok (.aload_n 0, 1) := by decide +kernel
theorem dX3_bit_11 : decode cX3_bit 11 = .ok (.getfield 23, 3) := by decide +kernel
theorem dX3_bit_14 : decode cX3_bit 14 = .ok (.iconst 1, 1) := by decide +kernel
theorem dX3_bit_15 : decode cX3_bit 15 = .ok (.isub, 1) := by decide +kernel
theorem dX3_bit_16 : decode cX3_bit 16 = .ok (.i2l, 1) := by decide +kernel
theorem dX3_bit_17 : decode cX3_bit 17 = .ok (.invokestatic 35, 3) := by decide +kernel
theorem dX3_bit_20 : decode cX3_bit 20 = .ok (.ifCond .eq 17, 3) := by decide +kernel
theorem dX3_bit_23 : decode cX3_bit 23 = .ok (.aload_n 0, 1) := by decide +kernel
theorem dX3_bit_24 : decode cX3_bit 24 = .ok (.aload_n 0, 1) := by decide +kernel
theorem dX3_bit_25 : decode cX3_bit 25 = .ok (.getfield 7, 3) := by decide +kernel
theorem dX3_bit_28 : decode cX3_bit 28 = .ok (.iload_n 1, 1) := by decide +kernel
theorem dX3_bit_29 : decode cX3_bit 29 = .ok (.laload, 1) := by decide +kernel
theorem dX3_bit_30 : decode cX3_bit 30 = .ok (.iload_n 2, 1) := by decide +kernel
theorem dX3_bit_31 : decode cX3_bit 31 = .ok (.invokevirtual 39, 3) := by decide +kernel
theorem dX3_bit_34 : decode cX3_bit 34 = .ok (.goto 5, 3) := by decide +kernel
theorem dX3_bit_37 : decode cX3_bit 37 = .ok (.bipush (-101), 2) := by decide +kernel
theorem dX3_bit_39 : decode cX3_bit 39 = .ok (.ireturn, 1) := by decide +kernel
set_option maxRecDepth 20000 in
theorem ggX3_ones_X3_isStream : GoodIn wsX3_ones wsX3_isStream := goodIn_r _ [5, 6, 7, 8, 4, 9] (by decide +kernel) (by decide +kernel)
set_option maxRecDepth 20000 in
theorem gX3_ones_X3_isStream : GoodIn wsX3_ones (va_wsS RX3 49 yX3_isStream wsX3_isStream) := goodIn_app (goodIn_of _ (by decide +kernel)) ggX3_ones_X3_isStream
set_option maxRecDepth 20000 in
theorem ggX3_ones_X3_onesOf : GoodIn wsX3_ones wsX3_onesOf := goodIn_r _ [13, 14, 15, 16, 17, 4, 18, 19, 20, 21, 22, 23, 24, 25, 26, 27, 28, 29, 30, 31] (by decide +kernel) (by decide +kernel)
set_option maxRecDepth 20000 in
theorem gX3_ones_X3_onesOf : GoodIn wsX3_ones (wsV RX3 61 RX3 yX3_onesOf wsX3_onesOf) := goodIn_app (goodIn_of _ (by decide +kernel)) ggX3_ones_X3_onesOf
theorem dX3_ones_0 : decode cX3_ones 0 = .ok (.iload_n 1, 1) := by decide +kernel
theorem dX3_ones_1 : decode cX3_ones 1 = .ok (.invokestatic 49, 3) := by decide +kernel
theorem dX3_ones_4 : decode cX3_ones 4 = .ok (.ifCond .eq 16, 3) := by decide +kernel
theorem dX3_ones_7 : decode cX3_ones 7 = .ok (.aload_n 0, 1) := by decide +kernel
theorem dX3_ones_8 : decode cX3_ones 8 = .ok (.aload_n 0, 1) := by decide +kernel
theorem dX3_ones_9 : decode cX3_ones 9 = .ok (.getfield 7, 3) := by decide +kernel
theorem dX3_ones_12 : decode cX3_ones 12 = .ok (.iload_n 1, 1) := by decide +kernel
theorem dX3_ones_13 : decode cX3_ones 13 = .ok (.laload, 1) := by decide +kernel
theorem dX3_ones_14 : decode cX3_ones 14 = .ok (.invokevirtual 61, 3) := by decide +kernel
theorem dX3_ones_17 : decode cX3_ones 17 = .ok (.goto 5, 3) := by decide +kernel
theorem dX3_ones_20 : decode cX3_ones 20 = .ok (.bipush (-101), 2) := by decide +kernel
theorem dX3_ones_22 : decode cX3_ones 22 = .ok (.ireturn, 1) := by decide +kernel
theorem dX3_gated_0 : decode cX3_gated 0 = .ok (.iload_n 0, 1) := by decide +kernel
theorem dX3_gated_1 : decode cX3_gated 1 = .ok (.tableswitch 103 0 5 #[39, 43, 55, 66, 77, 92], 39) := by decide +kernel
theorem dX3_gated_40 : decode cX3_gated 40 = .ok (.iload_n 1, 1) := by decide +kernel
theorem dX3_gated_41 : decode cX3_gated 41 = .ok (.iload_n 2, 1) := by decide +kernel
theorem dX3_gated_42 : decode cX3_gated 42 = .ok (.imul, 1) := by decide +kernel
theorem dX3_gated_43 : decode cX3_gated 43 = .ok (.ireturn, 1) := by decide +kernel
theorem dX3_gated_44 : decode cX3_gated 44 = .ok (.iload_n 1, 1) := by decide +kernel
theorem dX3_gated_45 : decode cX3_gated 45 = .ok (.iload_n 2, 1) := by decide +kernel
theorem dX3_gated_46 : decode cX3_gated 46 = .ok (.iadd, 1) := by decide +kernel
theorem dX3_gated_47 : decode cX3_gated 47 = .ok (.ifCond .le 7, 3) := by decide +kernel
theorem dX3_gated_50 : decode cX3_gated 50 = .ok (.iconst 1, 1) := by decide +kernel
theorem dX3_gated_51 : decode cX3_gated 51 = .ok (.goto 4, 3) := by decide +kernel
theorem dX3_gated_54 : decode cX3_gated 54 = .ok (.iconst 0, 1) := by decide +kernel
theorem dX3_gated_55 : decode cX3_gated 55 = .ok (.ireturn, 1) := by decide +kernel
theorem dX3_gated_56 : decode cX3_gated 56 = .ok (.iload_n 1, 1) := by decide +kernel
theorem dX3_gated_57 : decode cX3_gated 57 = .ok (.iload_n 2, 1) := by decide +kernel
theorem dX3_gated_58 : decode cX3_gated 58 = .ok (.if_icmp .ne 7, 3) := by decide +kernel
theorem dX3_gated_61 : decode cX3_gated 61 = .ok (.iconst 0, 1) := by decide +kernel
theorem dX3_gated_62 : decode cX3_gated 62 = .ok (.goto 4, 3) := by decide +kernel
theorem dX3_gated_65 : decode cX3_gated 65 = .ok (.iconst 1, 1) := by decide +kernel
theorem dX3_gated_66 : decode cX3_gated 66 = .ok (.ireturn, 1) := by decide +kernel
theorem dX3_gated_67 : decode cX3_gated 67 = .ok (.iload_n 1, 1) := by decide +kernel
theorem dX3_gated_68 : decode cX3_gated 68 = .ok (.iload_n 2, 1) := by decide +kernel
theorem dX3_gated_69 : decode cX3_gated 69 = .ok (.if_icmp .ne 7, 3) := by decide +kernel
theorem dX3_gated_72 : decode cX3_gated 72 = .ok (.iconst 1, 1) := by decide +kernel
theorem dX3_gated_73 : decode cX3_gated 73 = .ok (.goto 4, 3) := by decide +kernel
theorem dX3_gated_76 : decode cX3_gated 76 = .ok (.iconst 0, 1) := by decide +kernel
theorem dX3_gated_77 : decode cX3_gated 77 = .ok (.ireturn, 1) := by decide +kernel
theorem dX3_gated_78 : decode cX3_gated 78 = .ok (.iload_n 1, 1) := by decide +kernel
theorem dX3_gated_79 : decode cX3_gated 79 = .ok (.iconst 1, 1) := by decide +kernel
theorem dX3_gated_80 : decode cX3_gated 80 = .ok (.if_icmp .ne 11, 3) := by decide +kernel
theorem dX3_gated_83 : decode cX3_gated 83 = .ok (.iload_n 2, 1) := by decide +kernel
theorem dX3_gated_84 : decode cX3_gated 84 = .ok (.ifCond .ne 7, 3) := by decide +kernel
theorem dX3_gated_87 : decode cX3_gated 87 = .ok (.iconst 1, 1) := by decide +kernel
theorem dX3_gated_88 : decode cX3_gated 88 = .ok (.goto 4, 3) := by decide +kernel
theorem dX3_gated_91 : decode cX3_gated 91 = .ok (.iconst 0, 1) := by decide +kernel
theorem dX3_gated_92 : decode cX3_gated 92 = .ok (.ireturn, 1) := by decide +kernel
theorem dX3_gated_93 : decode cX3_gated 93 = .ok (.iload_n 3, 1) := by decide +kernel
theorem dX3_gated_94 : decode cX3_gated 94 = .ok (.iconst 1, 1) := by decide +kernel
theorem dX3_gated_95 : decode cX3_gated 95 = .ok (.if_icmp .ne 7, 3) := by decide +kernel
theorem dX3_gated_98 : decode cX3_gated 98 = .ok (.iload_n 2, 1) := by decide +kernel
theorem dX3_gated_99 : decode cX3_gated 99 = .ok (.goto 4, 3) := by decide +kernel
theorem dX3_gated_102 : decode cX3_gated 102 = .ok (.iload_n 1, 1) := by decide +kernel
theorem dX3_gated_103 : decode cX3_gated 103 = .ok (.ireturn, 1) := by decide +kernel
theorem dX3_gated_104 : decode cX3_gated 104 = .ok (.iload_n 1, 1) := by decide +kernel
theorem dX3_gated_105 : decode cX3_gated 105 = .ok (.iload_n 2, 1) := by decide +kernel
theorem dX3_gated_106 : decode cX3_gated 106 = .ok (.iadd, 1) := by decide +kernel
theorem dX3_gated_107 : decode cX3_gated 107 = .ok (.iload_n 3, 1) := by decide +kernel
theorem dX3_gated_108 : decode cX3_gated 108 = .ok (.iadd, 1) := by decide +kernel
theorem dX3_gated_109 : decode cX3_gated 109 = .ok (.iconst 1, 1) := by decide +kernel
theorem dX3_gated_110 : decode cX3_gated 110 = .ok (.if_icmp .le 7, 3) := by decide +kernel
theorem dX3_gated_113 : decode cX3_gated 113 = .ok (.iconst 1, 1) := by decide +kernel
theorem dX3_gated_114 : decode cX3_gated 114 = .ok (.goto 4, 3) := by decide +kernel
theorem dX3_gated_117 : decode cX3_gated 117 = .ok (.iconst 0, 1) := by decide +kernel
theorem dX3_gated_118 : decode cX3_gated 118 = .ok (.ireturn, 1) := by decide +kernel
set_option maxRecDepth 20000 in
theorem ggX3_gateRow_X3_bitOf : GoodIn wsX3_gateRow wsX3_bitOf := goodIn_r _ [6] (by decide +kernel) (by decide +kernel)
set_option maxRecDepth 20000 in
theorem gX3_gateRow_X3_bitOf : GoodIn wsX3_gateRow (wsV RX3 39 RX3 yX3_bitOf wsX3_bitOf) := goodIn_app (goodIn_of _ (by decide +kernel)) ggX3_gateRow_X3_bitOf
set_option maxRecDepth 20000 in
theorem ggX3_gateRow_X3_gated : GoodIn wsX3_gateRow wsX3_gated := goodIn_r _ [9] (by decide +kernel) (by decide +kernel)
set_option maxRecDepth 20000 in
theorem gX3_gateRow_X3_gated : GoodIn wsX3_gateRow (va_wsS RX3 67 yX3_gated wsX3_gated) := goodIn_app (goodIn_of _ (by decide +kernel)) ggX3_gateRow_X3_gated
theorem dX3_gateRow_0 : decode cX3_gateRow 0 = .ok (.lconst 0, 1) := by decide +kernel
theorem dX3_gateRow_1 : decode cX3_gateRow 1 = .ok (.lstore 8, 2) := by decide +kernel
theorem dX3_gateRow_3 : decode cX3_gateRow 3 = .ok (.iconst 0, 1) := by decide +kernel
theorem dX3_gateRow_4 : decode cX3_gateRow 4 = .ok (.istore 10, 2) := by decide +kernel
theorem dX3_gateRow_6 : decode cX3_gateRow 6 = .ok (.iload 10, 2) := by decide +kernel
theorem dX3_gateRow_8 : decode cX3_gateRow 8 = .ok (.aload_n 0, 1) := by decide +kernel
theorem dX3_gateRow_9 : decode cX3_gateRow 9 = .ok (.getfield 23, 3) := by decide +kernel
theorem dX3_gateRow_12 : decode cX3_gateRow 12 = .ok (.if_icmp .ge 45, 3) := by decide +kernel
theorem dX3_gateRow_15 : decode cX3_gateRow 15 = .ok (.lload 8, 2) := by decide +kernel
theorem dX3_gateRow_17 : decode cX3_gateRow 17 = .ok (.iload_n 1, 1) := by decide +kernel
theorem dX3_gateRow_18 : decode cX3_gateRow 18 = .ok (.aload_n 0, 1) := by decide +kernel
theorem dX3_gateRow_19 : decode cX3_gateRow 19 = .ok (.lload_n 2, 1) := by decide +kernel
theorem dX3_gateRow_20 : decode cX3_gateRow 20 = .ok (.iload 10, 2) := by decide +kernel
theorem dX3_gateRow_22 : decode cX3_gateRow 22 = .ok (.invokevirtual 39, 3) := by decide +kernel
theorem dX3_gateRow_25 : decode cX3_gateRow 25 = .ok (.aload_n 0, 1) := by decide +kernel
theorem dX3_gateRow_26 : decode cX3_gateRow 26 = .ok (.lload 4, 2) := by decide +kernel
theorem dX3_gateRow_28 : decode cX3_gateRow 28 = .ok (.iload 10, 2) := by decide +kernel
theorem dX3_gateRow_30 : decode cX3_gateRow 30 = .ok (.invokevirtual 39, 3) := by decide +kernel
theorem dX3_gateRow_33 : decode cX3_gateRow 33 = .ok (.aload_n 0, 1) := by decide +kernel
theorem dX3_gateRow_34 : decode cX3_gateRow 34 = .ok (.lload 6, 2) := by decide +kernel
theorem dX3_gateRow_36 : decode cX3_gateRow 36 = .ok (.iload 10, 2) := by decide +kernel
theorem dX3_gateRow_38 : decode cX3_gateRow 38 = .ok (.invokevirtual 39, 3) := by decide +kernel
theorem dX3_gateRow_41 : decode cX3_gateRow 41 = .ok (.invokestatic 67, 3) := by decide +kernel
theorem dX3_gateRow_44 : decode cX3_gateRow 44 = .ok (.i2l, 1) := by decide +kernel
theorem dX3_gateRow_45 : decode cX3_gateRow 45 = .ok (.iload 10, 2) := by decide +kernel
theorem dX3_gateRow_47 : decode cX3_gateRow 47 = .ok (.lshl, 1) := by decide +kernel
theorem dX3_gateRow_48 : decode cX3_gateRow 48 = .ok (.lor, 1) := by decide +kernel
theorem dX3_gateRow_49 : decode cX3_gateRow 49 = .ok (.lstore 8, 2) := by decide +kernel
theorem dX3_gateRow_51 : decode cX3_gateRow 51 = .ok (.iinc 10 1, 3) := by decide +kernel
theorem dX3_gateRow_54 : decode cX3_gateRow 54 = .ok (.goto (-48), 3) := by decide +kernel
theorem dX3_gateRow_57 : decode cX3_gateRow 57 = .ok (.lload 8, 2) := by decide +kernel
theorem dX3_gateRow_59 : decode cX3_gateRow 59 = .ok (.lreturn, 1) := by decide +kernel
set_option maxRecDepth 20000 in
theorem ggX3_gate_X3_in : GoodIn wsX3_gate wsX3_in := goodIn_r _ [6] (by decide +kernel) (by decide +kernel)
set_option maxRecDepth 20000 in
theorem gX3_gate_X3_in : GoodIn wsX3_gate (va_wsS RX3 35 yX3_in wsX3_in) := goodIn_app (goodIn_of _ (by decide +kernel)) ggX3_gate_X3_in
set_option maxRecDepth 20000 in
theorem ggX3_gate_X3_isStream : GoodIn wsX3_gate wsX3_isStream := goodIn_r _ [9, 10, 3, 4, 5, 6] (by decide +kernel) (by decide +kernel)
set_option maxRecDepth 20000 in
theorem gX3_gate_X3_isStream : GoodIn wsX3_gate (va_wsS RX3 49 yX3_isStream wsX3_isStream) := goodIn_app (goodIn_of _ (by decide +kernel)) ggX3_gate_X3_isStream
set_option maxRecDepth 20000 in
theorem ggX3_gate_X3_gateRow : GoodIn wsX3_gate wsX3_gateRow := goodIn_r _ [14, 15, 16, 17, 18, 5, 19, 20, 21, 22, 27, 28, 29, 30, 31, 32, 33, 34, 35, 36, 37, 38, 39] (by decide +kernel) (by decide +kernel)
set_option maxRecDepth 20000 in
theorem gX3_gate_X3_gateRow : GoodIn wsX3_gate (wsV RX3 73 RX3 yX3_gateRow wsX3_gateRow) := goodIn_app (goodIn_of _ (by decide +kernel)) ggX3_gate_X3_gateRow
set_option maxRecDepth 20000 in
theorem ggX3_gate_X3_onesOf : GoodIn wsX3_gate wsX3_onesOf := goodIn_r _ [26, 15, 16, 17, 18, 5, 19, 27, 28, 29, 30, 31, 32, 33, 34, 35, 36, 37, 38, 39] (by decide +kernel) (by decide +kernel)
set_option maxRecDepth 20000 in
theorem gX3_gate_X3_onesOf : GoodIn wsX3_gate (wsV RX3 61 RX3 yX3_onesOf wsX3_onesOf) := goodIn_app (goodIn_of _ (by decide +kernel)) ggX3_gate_X3_onesOf
theorem dX3_gate_0 : decode cX3_gate 0 = .ok (.iload_n 1, 1) := by decide +kernel
theorem dX3_gate_1 : decode cX3_gate 1 = .ok (.i2l, 1) := by decide +kernel
theorem dX3_gate_2 : decode cX3_gate 2 = .ok (.lconst 0, 1) := by decide +kernel
theorem dX3_gate_3 : decode cX3_gate 3 = .ok (.ldc2_w 71, 3) := by decide +kernel
theorem dX3_gate_6 : decode cX3_gate 6 = .ok (.invokestatic 35, 3) := by decide +kernel
theorem dX3_gate_9 : decode cX3_gate 9 = .ok (.ifCond .ne 6, 3) := by decide +kernel
theorem dX3_gate_12 : decode cX3_gate 12 = .ok (.bipush (-102), 2) := by decide +kernel
theorem dX3_gate_14 : decode cX3_gate 14 = .ok (.ireturn, 1) := by decide +kernel
theorem dX3_gate_15 : decode cX3_gate 15 = .ok (.iload 5, 2) := by decide +kernel
theorem dX3_gate_17 : decode cX3_gate 17 = .ok (.invokestatic 49, 3) := by decide +kernel
theorem dX3_gate_20 : decode cX3_gate 20 = .ok (.ifCond .eq 30, 3) := by decide +kernel
theorem dX3_gate_23 : decode cX3_gate 23 = .ok (.iload_n 2, 1) := by decide +kernel
theorem dX3_gate_24 : decode cX3_gate 24 = .ok (.invokestatic 49, 3) := by decide +kernel
theorem dX3_gate_27 : decode cX3_gate 27 = .ok (.ifCond .eq 23, 3) := by decide +kernel
theorem dX3_gate_30 : decode cX3_gate 30 = .ok (.iload_n 3, 1) := by decide +kernel
theorem dX3_gate_31 : decode cX3_gate 31 = .ok (.invokestatic 49, 3) := by decide +kernel
theorem dX3_gate_34 : decode cX3_gate 34 = .ok (.ifCond .eq 16, 3) := by decide +kernel
theorem dX3_gate_37 : decode cX3_gate 37 = .ok (.iload_n 1, 1) := by decide +kernel
theorem dX3_gate_38 : decode cX3_gate 38 = .ok (.iconst 4, 1) := by decide +kernel
theorem dX3_gate_39 : decode cX3_gate 39 = .ok (.if_icmp .le 14, 3) := by decide +kernel
theorem dX3_gate_42 : decode cX3_gate 42 = .ok (.iload 4, 2) := by decide +kernel
theorem dX3_gate_44 : decode cX3_gate 44 = .ok (.invokestatic 49, 3) := by decide +kernel
theorem dX3_gate_47 : decode cX3_gate 47 = .ok (.ifCond .ne 6, 3) := by decide +kernel
theorem dX3_gate_50 : decode cX3_gate 50 = .ok (.bipush (-101), 2) := by decide +kernel
theorem dX3_gate_52 : decode cX3_gate 52 = .ok (.ireturn, 1) := by decide +kernel
theorem dX3_gate_53 : decode cX3_gate 53 = .ok (.aload_n 0, 1) := by decide +kernel
theorem dX3_gate_54 : decode cX3_gate 54 = .ok (.getfield 7, 3) := by decide +kernel
theorem dX3_gate_57 : decode cX3_gate 57 = .ok (.iload 5, 2) := by decide +kernel
theorem dX3_gate_59 : decode cX3_gate 59 = .ok (.aload_n 0, 1) := by decide +kernel
theorem dX3_gate_60 : decode cX3_gate 60 = .ok (.iload_n 1, 1) := by decide +kernel
theorem dX3_gate_61 : decode cX3_gate 61 = .ok (.aload_n 0, 1) := by decide +kernel
theorem dX3_gate_62 : decode cX3_gate 62 = .ok (.getfield 7, 3) := by decide +kernel
theorem dX3_gate_65 : decode cX3_gate 65 = .ok (.iload_n 2, 1) := by decide +kernel
theorem dX3_gate_66 : decode cX3_gate 66 = .ok (.laload, 1) := by decide +kernel
theorem dX3_gate_67 : decode cX3_gate 67 = .ok (.aload_n 0, 1) := by decide +kernel
theorem dX3_gate_68 : decode cX3_gate 68 = .ok (.getfield 7, 3) := by decide +kernel
theorem dX3_gate_71 : decode cX3_gate 71 = .ok (.iload_n 3, 1) := by decide +kernel
theorem dX3_gate_72 : decode cX3_gate 72 = .ok (.laload, 1) := by decide +kernel
theorem dX3_gate_73 : decode cX3_gate 73 = .ok (.iload_n 1, 1) := by decide +kernel
theorem dX3_gate_74 : decode cX3_gate 74 = .ok (.iconst 4, 1) := by decide +kernel
theorem dX3_gate_75 : decode cX3_gate 75 = .ok (.if_icmp .le 13, 3) := by decide +kernel
theorem dX3_gate_78 : decode cX3_gate 78 = .ok (.aload_n 0, 1) := by decide +kernel
theorem dX3_gate_79 : decode cX3_gate 79 = .ok (.getfield 7, 3) := by decide +kernel
theorem dX3_gate_82 : decode cX3_gate 82 = .ok (.iload 4, 2) := by decide +kernel
theorem dX3_gate_84 : decode cX3_gate 84 = .ok (.laload, 1) := by decide +kernel
theorem dX3_gate_85 : decode cX3_gate 85 = .ok (.goto 4, 3) := by decide +kernel
theorem dX3_gate_88 : decode cX3_gate 88 = .ok (.lconst 0, 1) := by decide +kernel
theorem dX3_gate_89 : decode cX3_gate 89 = .ok (.invokevirtual 73, 3) := by decide +kernel
theorem dX3_gate_92 : decode cX3_gate 92 = .ok (.lastore, 1) := by decide +kernel
theorem dX3_gate_93 : decode cX3_gate 93 = .ok (.aload_n 0, 1) := by decide +kernel
theorem dX3_gate_94 : decode cX3_gate 94 = .ok (.aload_n 0, 1) := by decide +kernel
theorem dX3_gate_95 : decode cX3_gate 95 = .ok (.getfield 7, 3) := by decide +kernel
theorem dX3_gate_98 : decode cX3_gate 98 = .ok (.iload 5, 2) := by decide +kernel
theorem dX3_gate_100 : decode cX3_gate 100 = .ok (.laload, 1) := by decide +kernel
theorem dX3_gate_101 : decode cX3_gate 101 = .ok (.invokevirtual 61, 3) := by decide +kernel
theorem dX3_gate_104 : decode cX3_gate 104 = .ok (.ireturn, 1) := by decide +kernel
set_option maxRecDepth 20000 in
theorem ggX3_not_X3_isStream : GoodIn wsX3_not wsX3_isStream := goodIn_r _ [5, 6, 7, 8, 4, 9] (by decide +kernel) (by decide +kernel)
set_option maxRecDepth 20000 in
theorem gX3_not_X3_isStream : GoodIn wsX3_not (va_wsS RX3 49 yX3_isStream wsX3_isStream) := goodIn_app (goodIn_of _ (by decide +kernel)) ggX3_not_X3_isStream
set_option maxRecDepth 20000 in
theorem ggX3_not_X3_gateRow : GoodIn wsX3_not wsX3_gateRow := goodIn_r _ [13, 14, 15, 16, 17, 4, 18, 19, 20, 21, 26, 27, 28, 29, 30, 31, 32, 33, 34, 35, 36, 37, 38] (by decide +kernel) (by decide +kernel)
set_option maxRecDepth 20000 in
theorem gX3_not_X3_gateRow : GoodIn wsX3_not (wsV RX3 73 RX3 yX3_gateRow wsX3_gateRow) := goodIn_app (goodIn_of _ (by decide +kernel)) ggX3_not_X3_gateRow
set_option maxRecDepth 20000 in
theorem ggX3_not_X3_onesOf : GoodIn wsX3_not wsX3_onesOf := goodIn_r _ [25, 14, 15, 16, 17, 4, 18, 26, 27, 28, 29, 30, 31, 32, 33, 34, 35, 36, 37, 38] (by decide +kernel) (by decide +kernel)
set_option maxRecDepth 20000 in
theorem gX3_not_X3_onesOf : GoodIn wsX3_not (wsV RX3 61 RX3 yX3_onesOf wsX3_onesOf) := goodIn_app (goodIn_of _ (by decide +kernel)) ggX3_not_X3_onesOf
theorem dX3_not_0 : decode cX3_not 0 = .ok (.iload_n 1, 1) := by decide +kernel
theorem dX3_not_1 : decode cX3_not 1 = .ok (.invokestatic 49, 3) := by decide +kernel
theorem dX3_not_4 : decode cX3_not 4 = .ok (.ifCond .eq 10, 3) := by decide +kernel
theorem dX3_not_7 : decode cX3_not 7 = .ok (.iload_n 2, 1) := by decide +kernel
theorem dX3_not_8 : decode cX3_not 8 = .ok (.invokestatic 49, 3) := by decide +kernel
theorem dX3_not_11 : decode cX3_not 11 = .ok (.ifCond .ne 6, 3) := by decide +kernel
theorem dX3_not_14 : decode cX3_not 14 = .ok (.bipush (-101), 2) := by decide +kernel
theorem dX3_not_16 : decode cX3_not 16 = .ok (.ireturn, 1) := by decide +kernel
theorem dX3_not_17 : decode cX3_not 17 = .ok (.aload_n 0, 1) := by decide +kernel
theorem dX3_not_18 : decode cX3_not 18 = .ok (.getfield 7, 3) := by decide +kernel
theorem dX3_not_21 : decode cX3_not 21 = .ok (.iload_n 2, 1) := by decide +kernel
theorem dX3_not_22 : decode cX3_not 22 = .ok (.aload_n 0, 1) := by decide +kernel
theorem dX3_not_23 : decode cX3_not 23 = .ok (.iconst 3, 1) := by decide +kernel
theorem dX3_not_24 : decode cX3_not 24 = .ok (.aload_n 0, 1) := by decide +kernel
theorem dX3_not_25 : decode cX3_not 25 = .ok (.getfield 7, 3) := by decide +kernel
theorem dX3_not_28 : decode cX3_not 28 = .ok (.iload_n 1, 1) := by decide +kernel
theorem dX3_not_29 : decode cX3_not 29 = .ok (.laload, 1) := by decide +kernel
theorem dX3_not_30 : decode cX3_not 30 = .ok (.lconst 0, 1) := by decide +kernel
theorem dX3_not_31 : decode cX3_not 31 = .ok (.lconst 0, 1) := by decide +kernel
theorem dX3_not_32 : decode cX3_not 32 = .ok (.invokevirtual 73, 3) := by decide +kernel
theorem dX3_not_35 : decode cX3_not 35 = .ok (.lastore, 1) := by decide +kernel
theorem dX3_not_36 : decode cX3_not 36 = .ok (.aload_n 0, 1) := by decide +kernel
theorem dX3_not_37 : decode cX3_not 37 = .ok (.aload_n 0, 1) := by decide +kernel
theorem dX3_not_38 : decode cX3_not 38 = .ok (.getfield 7, 3) := by decide +kernel
theorem dX3_not_41 : decode cX3_not 41 = .ok (.iload_n 2, 1) := by decide +kernel
theorem dX3_not_42 : decode cX3_not 42 = .ok (.laload, 1) := by decide +kernel
theorem dX3_not_43 : decode cX3_not 43 = .ok (.invokevirtual 61, 3) := by decide +kernel
theorem dX3_not_46 : decode cX3_not 46 = .ok (.ireturn, 1) := by decide +kernel
set_option maxRecDepth 20000 in
theorem ggX3_shifted_X3_bitOf : GoodIn wsX3_shifted wsX3_bitOf := goodIn_r _ [6] (by decide +kernel) (by decide +kernel)
set_option maxRecDepth 20000 in
theorem gX3_shifted_X3_bitOf : GoodIn wsX3_shifted (wsV RX3 39 RX3 yX3_bitOf wsX3_bitOf) := goodIn_app (goodIn_of _ (by decide +kernel)) ggX3_shifted_X3_bitOf
theorem dX3_shifted_0 : decode cX3_shifted 0 = .ok (.lconst 0, 1) := by decide +kernel
theorem dX3_shifted_1 : decode cX3_shifted 1 = .ok (.lstore 4, 2) := by decide +kernel
theorem dX3_shifted_3 : decode cX3_shifted 3 = .ok (.iconst 0, 1) := by decide +kernel
theorem dX3_shifted_4 : decode cX3_shifted 4 = .ok (.istore 6, 2) := by decide +kernel
theorem dX3_shifted_6 : decode cX3_shifted 6 = .ok (.iload 6, 2) := by decide +kernel
theorem dX3_shifted_8 : decode cX3_shifted 8 = .ok (.aload_n 0, 1) := by decide +kernel
theorem dX3_shifted_9 : decode cX3_shifted 9 = .ok (.getfield 23, 3) := by decide +kernel
theorem dX3_shifted_12 : decode cX3_shifted 12 = .ok (.if_icmp .ge 32, 3) := by decide +kernel
theorem dX3_shifted_15 : decode cX3_shifted 15 = .ok (.lload 4, 2) := by decide +kernel
theorem dX3_shifted_17 : decode cX3_shifted 17 = .ok (.aload_n 0, 1) := by decide +kernel
theorem dX3_shifted_18 : decode cX3_shifted 18 = .ok (.lload_n 1, 1) := by decide +kernel
theorem dX3_shifted_19 : decode cX3_shifted 19 = .ok (.iload 6, 2) := by decide +kernel
theorem dX3_shifted_21 : decode cX3_shifted 21 = .ok (.iload_n 3, 1) := by decide +kernel
theorem dX3_shifted_22 : decode cX3_shifted 22 = .ok (.iadd, 1) := by decide +kernel
theorem dX3_shifted_23 : decode cX3_shifted 23 = .ok (.aload_n 0, 1) := by decide +kernel
theorem dX3_shifted_24 : decode cX3_shifted 24 = .ok (.getfield 23, 3) := by decide +kernel
theorem dX3_shifted_27 : decode cX3_shifted 27 = .ok (.irem, 1) := by decide +kernel
theorem dX3_shifted_28 : decode cX3_shifted 28 = .ok (.invokevirtual 39, 3) := by decide +kernel
theorem dX3_shifted_31 : decode cX3_shifted 31 = .ok (.i2l, 1) := by decide +kernel
theorem dX3_shifted_32 : decode cX3_shifted 32 = .ok (.iload 6, 2) := by decide +kernel
theorem dX3_shifted_34 : decode cX3_shifted 34 = .ok (.lshl, 1) := by decide +kernel
theorem dX3_shifted_35 : decode cX3_shifted 35 = .ok (.lor, 1) := by decide +kernel
theorem dX3_shifted_36 : decode cX3_shifted 36 = .ok (.lstore 4, 2) := by decide +kernel
theorem dX3_shifted_38 : decode cX3_shifted 38 = .ok (.iinc 6 1, 3) := by decide +kernel
theorem dX3_shifted_41 : decode cX3_shifted 41 = .ok (.goto (-35), 3) := by decide +kernel
theorem dX3_shifted_44 : decode cX3_shifted 44 = .ok (.lload 4, 2) := by decide +kernel
theorem dX3_shifted_46 : decode cX3_shifted 46 = .ok (.lreturn, 1) := by decide +kernel
set_option maxRecDepth 20000 in
theorem ggX3_later_X3_isStream : GoodIn wsX3_later wsX3_isStream := goodIn_r _ [8, 9, 10, 11, 7, 12] (by decide +kernel) (by decide +kernel)
set_option maxRecDepth 20000 in
theorem gX3_later_X3_isStream : GoodIn wsX3_later (va_wsS RX3 49 yX3_isStream wsX3_isStream) := goodIn_app (goodIn_of _ (by decide +kernel)) ggX3_later_X3_isStream
set_option maxRecDepth 20000 in
theorem ggX3_later_X3_in : GoodIn wsX3_later wsX3_in := goodIn_r _ [12] (by decide +kernel) (by decide +kernel)
set_option maxRecDepth 20000 in
theorem gX3_later_X3_in : GoodIn wsX3_later (va_wsS RX3 35 yX3_in wsX3_in) := goodIn_app (goodIn_of _ (by decide +kernel)) ggX3_later_X3_in
set_option maxRecDepth 20000 in
theorem ggX3_later_X3_shifted : GoodIn wsX3_later wsX3_shifted := goodIn_r _ [16, 4, 17, 18, 19, 7, 20, 25, 26, 27, 28, 29, 30, 31, 32, 33, 34, 35, 36, 37] (by decide +kernel) (by decide +kernel)
set_option maxRecDepth 20000 in
theorem gX3_later_X3_shifted : GoodIn wsX3_later (wsV RX3 81 RX3 yX3_shifted wsX3_shifted) := goodIn_app (goodIn_of _ (by decide +kernel)) ggX3_later_X3_shifted
set_option maxRecDepth 20000 in
theorem ggX3_later_X3_onesOf : GoodIn wsX3_later wsX3_onesOf := goodIn_r _ [24, 4, 17, 18, 19, 7, 20, 25, 26, 27, 28, 29, 30, 31, 32, 33, 34, 35, 36, 37] (by decide +kernel) (by decide +kernel)
set_option maxRecDepth 20000 in
theorem gX3_later_X3_onesOf : GoodIn wsX3_later (wsV RX3 61 RX3 yX3_onesOf wsX3_onesOf) := goodIn_app (goodIn_of _ (by decide +kernel)) ggX3_later_X3_onesOf
theorem dX3_later_0 : decode cX3_later 0 = .ok (.iload_n 1, 1) := by decide +kernel
theorem dX3_later_1 : decode cX3_later 1 = .ok (.invokestatic 49, 3) := by decide +kernel
theorem dX3_later_4 : decode cX3_later 4 = .ok (.ifCond .eq 10, 3) := by decide +kernel
theorem dX3_later_7 : decode cX3_later 7 = .ok (.iload_n 3, 1) := by decide +kernel
theorem dX3_later_8 : decode cX3_later 8 = .ok (.invokestatic 49, 3) := by decide +kernel
theorem dX3_later_11 : decode cX3_later 11 = .ok (.ifCond .ne 6, 3) := by decide +kernel
theorem dX3_later_14 : decode cX3_later 14 = .ok (.bipush (-101), 2) := by decide +kernel
theorem dX3_later_16 : decode cX3_later 16 = .ok (.ireturn, 1) := by decide +kernel
theorem dX3_later_17 : decode cX3_later 17 = .ok (.iload_n 2, 1) := by decide +kernel
theorem dX3_later_18 : decode cX3_later 18 = .ok (.i2l, 1) := by decide +kernel
theorem dX3_later_19 : decode cX3_later 19 = .ok (.ldc2_w 77, 3) := by decide +kernel
theorem dX3_later_22 : decode cX3_later 22 = .ok (.ldc2_w 79, 3) := by decide +kernel
theorem dX3_later_25 : decode cX3_later 25 = .ok (.invokestatic 35, 3) := by decide +kernel
theorem dX3_later_28 : decode cX3_later 28 = .ok (.ifCond .ne 6, 3) := by decide +kernel
theorem dX3_later_31 : decode cX3_later 31 = .ok (.bipush (-102), 2) := by decide +kernel
theorem dX3_later_33 : decode cX3_later 33 = .ok (.ireturn, 1) := by decide +kernel
theorem dX3_later_34 : decode cX3_later 34 = .ok (.aload_n 0, 1) := by decide +kernel
theorem dX3_later_35 : decode cX3_later 35 = .ok (.getfield 7, 3) := by decide +kernel
theorem dX3_later_38 : decode cX3_later 38 = .ok (.iload_n 3, 1) := by decide +kernel
theorem dX3_later_39 : decode cX3_later 39 = .ok (.aload_n 0, 1) := by decide +kernel
theorem dX3_later_40 : decode cX3_later 40 = .ok (.aload_n 0, 1) := by decide +kernel
theorem dX3_later_41 : decode cX3_later 41 = .ok (.getfield 7, 3) := by decide +kernel
theorem dX3_later_44 : decode cX3_later 44 = .ok (.iload_n 1, 1) := by decide +kernel
theorem dX3_later_45 : decode cX3_later 45 = .ok (.laload, 1) := by decide +kernel
theorem dX3_later_46 : decode cX3_later 46 = .ok (.bipush 64, 2) := by decide +kernel
theorem dX3_later_48 : decode cX3_later 48 = .ok (.aload_n 0, 1) := by decide +kernel
theorem dX3_later_49 : decode cX3_later 49 = .ok (.getfield 23, 3) := by decide +kernel
theorem dX3_later_52 : decode cX3_later 52 = .ok (.iadd, 1) := by decide +kernel
theorem dX3_later_53 : decode cX3_later 53 = .ok (.iload_n 2, 1) := by decide +kernel
theorem dX3_later_54 : decode cX3_later 54 = .ok (.isub, 1) := by decide +kernel
theorem dX3_later_55 : decode cX3_later 55 = .ok (.aload_n 0, 1) := by decide +kernel
theorem dX3_later_56 : decode cX3_later 56 = .ok (.getfield 23, 3) := by decide +kernel
theorem dX3_later_59 : decode cX3_later 59 = .ok (.irem, 1) := by decide +kernel
theorem dX3_later_60 : decode cX3_later 60 = .ok (.invokevirtual 81, 3) := by decide +kernel
theorem dX3_later_63 : decode cX3_later 63 = .ok (.lastore, 1) := by decide +kernel
theorem dX3_later_64 : decode cX3_later 64 = .ok (.aload_n 0, 1) := by decide +kernel
theorem dX3_later_65 : decode cX3_later 65 = .ok (.aload_n 0, 1) := by decide +kernel
theorem dX3_later_66 : decode cX3_later 66 = .ok (.getfield 7, 3) := by decide +kernel
theorem dX3_later_69 : decode cX3_later 69 = .ok (.iload_n 3, 1) := by decide +kernel
theorem dX3_later_70 : decode cX3_later 70 = .ok (.laload, 1) := by decide +kernel
theorem dX3_later_71 : decode cX3_later 71 = .ok (.invokevirtual 61, 3) := by decide +kernel
theorem dX3_later_74 : decode cX3_later 74 = .ok (.ireturn, 1) := by decide +kernel
set_option maxRecDepth 20000 in
theorem ggX3_flip_X3_isStream : GoodIn wsX3_flip wsX3_isStream := goodIn_r _ [6, 7, 8, 9, 5, 10] (by decide +kernel) (by decide +kernel)
set_option maxRecDepth 20000 in
theorem gX3_flip_X3_isStream : GoodIn wsX3_flip (va_wsS RX3 49 yX3_isStream wsX3_isStream) := goodIn_app (goodIn_of _ (by decide +kernel)) ggX3_flip_X3_isStream
set_option maxRecDepth 20000 in
theorem ggX3_flip_X3_in : GoodIn wsX3_flip wsX3_in := goodIn_r _ [10] (by decide +kernel) (by decide +kernel)
set_option maxRecDepth 20000 in
theorem gX3_flip_X3_in : GoodIn wsX3_flip (va_wsS RX3 35 yX3_in wsX3_in) := goodIn_app (goodIn_of _ (by decide +kernel)) ggX3_flip_X3_in
set_option maxRecDepth 20000 in
theorem ggX3_flip_X3_bitOf : GoodIn wsX3_flip wsX3_bitOf := goodIn_r _ [14] (by decide +kernel) (by decide +kernel)
set_option maxRecDepth 20000 in
theorem gX3_flip_X3_bitOf : GoodIn wsX3_flip (wsV RX3 39 RX3 yX3_bitOf wsX3_bitOf) := goodIn_app (goodIn_of _ (by decide +kernel)) ggX3_flip_X3_bitOf
theorem dX3_flip_0 : decode cX3_flip 0 = .ok (.iload_n 1, 1) := by decide +kernel
theorem dX3_flip_1 : decode cX3_flip 1 = .ok (.invokestatic 49, 3) := by decide +kernel
theorem dX3_flip_4 : decode cX3_flip 4 = .ok (.ifCond .ne 6, 3) := by decide +kernel
theorem dX3_flip_7 : decode cX3_flip 7 = .ok (.bipush (-101), 2) := by decide +kernel
theorem dX3_flip_9 : decode cX3_flip 9 = .ok (.ireturn, 1) := by decide +kernel
theorem dX3_flip_10 : decode cX3_flip 10 = .ok (.iload 4, 2) := by decide +kernel
theorem dX3_flip_12 : decode cX3_flip 12 = .ok (.i2l, 1) := by decide +kernel
theorem dX3_flip_13 : decode cX3_flip 13 = .ok (.lconst 0, 1) := by decide +kernel
theorem dX3_flip_14 : decode cX3_flip 14 = .ok (.aload_n 0, 1) := by decide +kernel
theorem dX3_flip_15 : decode cX3_flip 15 = .ok (.getfield 23, 3) := by decide +kernel
theorem dX3_flip_18 : decode cX3_flip 18 = .ok (.i2l, 1) := by decide +kernel
theorem dX3_flip_19 : decode cX3_flip 19 = .ok (.invokestatic 35, 3) := by decide +kernel
theorem dX3_flip_22 : decode cX3_flip 22 = .ok (.ifCond .ne 6, 3) := by decide +kernel
theorem dX3_flip_25 : decode cX3_flip 25 = .ok (.bipush (-102), 2) := by decide +kernel
theorem dX3_flip_27 : decode cX3_flip 27 = .ok (.ireturn, 1) := by decide +kernel
theorem dX3_flip_28 : decode cX3_flip 28 = .ok (.iconst 0, 1) := by decide +kernel
theorem dX3_flip_29 : decode cX3_flip 29 = .ok (.istore 5, 2) := by decide +kernel
theorem dX3_flip_31 : decode cX3_flip 31 = .ok (.iconst 0, 1) := by decide +kernel
theorem dX3_flip_32 : decode cX3_flip 32 = .ok (.istore 6, 2) := by decide +kernel
theorem dX3_flip_34 : decode cX3_flip 34 = .ok (.iload 6, 2) := by decide +kernel
theorem dX3_flip_36 : decode cX3_flip 36 = .ok (.iload 4, 2) := by decide +kernel
theorem dX3_flip_38 : decode cX3_flip 38 = .ok (.if_icmp .ge 40, 3) := by decide +kernel
theorem dX3_flip_41 : decode cX3_flip 41 = .ok (.aload_n 0, 1) := by decide +kernel
theorem dX3_flip_42 : decode cX3_flip 42 = .ok (.lload_n 2, 1) := by decide +kernel
theorem dX3_flip_43 : decode cX3_flip 43 = .ok (.iload 6, 2) := by decide +kernel
theorem dX3_flip_45 : decode cX3_flip 45 = .ok (.invokevirtual 39, 3) := by decide +kernel
theorem dX3_flip_48 : decode cX3_flip 48 = .ok (.istore 7, 2) := by decide +kernel
theorem dX3_flip_50 : decode cX3_flip 50 = .ok (.aload_n 0, 1) := by decide +kernel
theorem dX3_flip_51 : decode cX3_flip 51 = .ok (.getfield 7, 3) := by decide +kernel
theorem dX3_flip_54 : decode cX3_flip 54 = .ok (.iload_n 1, 1) := by decide +kernel
theorem dX3_flip_55 : decode cX3_flip 55 = .ok (.dup2, 1) := by decide +kernel
theorem dX3_flip_56 : decode cX3_flip 56 = .ok (.laload, 1) := by decide +kernel
theorem dX3_flip_57 : decode cX3_flip 57 = .ok (.iload 7, 2) := by decide +kernel
theorem dX3_flip_59 : decode cX3_flip 59 = .ok (.i2l, 1) := by decide +kernel
theorem dX3_flip_60 : decode cX3_flip 60 = .ok (.iload 6, 2) := by decide +kernel
theorem dX3_flip_62 : decode cX3_flip 62 = .ok (.lshl, 1) := by decide +kernel
theorem dX3_flip_63 : decode cX3_flip 63 = .ok (.lxor, 1) := by decide +kernel
theorem dX3_flip_64 : decode cX3_flip 64 = .ok (.lastore, 1) := by decide +kernel
theorem dX3_flip_65 : decode cX3_flip 65 = .ok (.iload 5, 2) := by decide +kernel
theorem dX3_flip_67 : decode cX3_flip 67 = .ok (.iload 7, 2) := by decide +kernel
theorem dX3_flip_69 : decode cX3_flip 69 = .ok (.iadd, 1) := by decide +kernel
theorem dX3_flip_70 : decode cX3_flip 70 = .ok (.istore 5, 2) := by decide +kernel
theorem dX3_flip_72 : decode cX3_flip 72 = .ok (.iinc 6 1, 3) := by decide +kernel
theorem dX3_flip_75 : decode cX3_flip 75 = .ok (.goto (-41), 3) := by decide +kernel
theorem dX3_flip_78 : decode cX3_flip 78 = .ok (.iload 5, 2) := by decide +kernel
theorem dX3_flip_80 : decode cX3_flip 80 = .ok (.ireturn, 1) := by decide +kernel
set_option maxRecDepth 20000 in
theorem ggX3_bothOf_X3_bitOf : GoodIn wsX3_bothOf wsX3_bitOf := goodIn_r _ [7] (by decide +kernel) (by decide +kernel)
set_option maxRecDepth 20000 in
theorem gX3_bothOf_X3_bitOf : GoodIn wsX3_bothOf (wsV RX3 39 RX3 yX3_bitOf wsX3_bitOf) := goodIn_app (goodIn_of _ (by decide +kernel)) ggX3_bothOf_X3_bitOf
theorem dX3_bothOf_0 : decode cX3_bothOf 0 = .ok (.iconst 0, 1) := by decide +kernel
theorem dX3_bothOf_1 : decode cX3_bothOf 1 = .ok (.istore 4, 2) := by decide +kernel
theorem dX3_bothOf_3 : decode cX3_bothOf 3 = .ok (.iconst 0, 1) := by decide +kernel
theorem dX3_bothOf_4 : decode cX3_bothOf 4 = .ok (.istore 5, 2) := by decide +kernel
theorem dX3_bothOf_6 : decode cX3_bothOf 6 = .ok (.iload 5, 2) := by decide +kernel
theorem dX3_bothOf_8 : decode cX3_bothOf 8 = .ok (.aload_n 0, 1) := by decide +kernel
theorem dX3_bothOf_9 : decode cX3_bothOf 9 = .ok (.getfield 23, 3) := by decide +kernel
theorem dX3_bothOf_12 : decode cX3_bothOf 12 = .ok (.if_icmp .ge 93, 3) := by decide +kernel
theorem dX3_bothOf_15 : decode cX3_bothOf 15 = .ok (.aload_n 0, 1) := by decide +kernel
theorem dX3_bothOf_16 : decode cX3_bothOf 16 = .ok (.aload_n 0, 1) := by decide +kernel
theorem dX3_bothOf_17 : decode cX3_bothOf 17 = .ok (.getfield 7, 3) := by decide +kernel
theorem dX3_bothOf_20 : decode cX3_bothOf 20 = .ok (.iload_n 1, 1) := by decide +kernel
theorem dX3_bothOf_21 : decode cX3_bothOf 21 = .ok (.laload, 1) := by decide +kernel
theorem dX3_bothOf_22 : decode cX3_bothOf 22 = .ok (.iload 5, 2) := by decide +kernel
theorem dX3_bothOf_24 : decode cX3_bothOf 24 = .ok (.invokevirtual 39, 3) := by decide +kernel
theorem dX3_bothOf_27 : decode cX3_bothOf 27 = .ok (.istore 6, 2) := by decide +kernel
theorem dX3_bothOf_29 : decode cX3_bothOf 29 = .ok (.aload_n 0, 1) := by decide +kernel
theorem dX3_bothOf_30 : decode cX3_bothOf 30 = .ok (.aload_n 0, 1) := by decide +kernel
theorem dX3_bothOf_31 : decode cX3_bothOf 31 = .ok (.getfield 7, 3) := by decide +kernel
theorem dX3_bothOf_34 : decode cX3_bothOf 34 = .ok (.iload_n 2, 1) := by decide +kernel
theorem dX3_bothOf_35 : decode cX3_bothOf 35 = .ok (.laload, 1) := by decide +kernel
theorem dX3_bothOf_36 : decode cX3_bothOf 36 = .ok (.iload 5, 2) := by decide +kernel
theorem dX3_bothOf_38 : decode cX3_bothOf 38 = .ok (.invokevirtual 39, 3) := by decide +kernel
theorem dX3_bothOf_41 : decode cX3_bothOf 41 = .ok (.istore 7, 2) := by decide +kernel
theorem dX3_bothOf_43 : decode cX3_bothOf 43 = .ok (.iload 4, 2) := by decide +kernel
theorem dX3_bothOf_45 : decode cX3_bothOf 45 = .ok (.iload_n 3, 1) := by decide +kernel
theorem dX3_bothOf_46 : decode cX3_bothOf 46 = .ok (.ifCond .ne 11, 3) := by decide +kernel
theorem dX3_bothOf_49 : decode cX3_bothOf 49 = .ok (.iload 6, 2) := by decide +kernel
theorem dX3_bothOf_51 : decode cX3_bothOf 51 = .ok (.iload 7, 2) := by decide +kernel
theorem dX3_bothOf_53 : decode cX3_bothOf 53 = .ok (.imul, 1) := by decide +kernel
theorem dX3_bothOf_54 : decode cX3_bothOf 54 = .ok (.goto 42, 3) := by decide +kernel
theorem dX3_bothOf_57 : decode cX3_bothOf 57 = .ok (.iload_n 3, 1) := by decide +kernel
theorem dX3_bothOf_58 : decode cX3_bothOf 58 = .ok (.iconst 1, 1) := by decide +kernel
theorem dX3_bothOf_59 : decode cX3_bothOf 59 = .ok (.if_icmp .ne 13, 3) := by decide +kernel
theorem dX3_bothOf_62 : decode cX3_bothOf 62 = .ok (.iload 6, 2) := by decide +kernel
theorem dX3_bothOf_64 : decode cX3_bothOf 64 = .ok (.iconst 1, 1) := by decide +kernel
theorem dX3_bothOf_65 : decode cX3_bothOf 65 = .ok (.iload 7, 2) := by decide +kernel
theorem dX3_bothOf_67 : decode cX3_bothOf 67 = .ok (.isub, 1) := by decide +kernel
theorem dX3_bothOf_68 : decode cX3_bothOf 68 = .ok (.imul, 1) := by decide +kernel
theorem dX3_bothOf_69 : decode cX3_bothOf 69 = .ok (.goto 27, 3) := by decide +kernel
theorem dX3_bothOf_72 : decode cX3_bothOf 72 = .ok (.iload_n 3, 1) := by decide +kernel
theorem dX3_bothOf_73 : decode cX3_bothOf 73 = .ok (.iconst 2, 1) := by decide +kernel
theorem dX3_bothOf_74 : decode cX3_bothOf 74 = .ok (.if_icmp .ne 13, 3) := by decide +kernel
theorem dX3_bothOf_77 : decode cX3_bothOf 77 = .ok (.iconst 1, 1) := by decide +kernel
theorem dX3_bothOf_78 : decode cX3_bothOf 78 = .ok (.iload 6, 2) := by decide +kernel
theorem dX3_bothOf_80 : decode cX3_bothOf 80 = .ok (.isub, 1) := by decide +kernel
theorem dX3_bothOf_81 : decode cX3_bothOf 81 = .ok (.iload 7, 2) := by decide +kernel
theorem dX3_bothOf_83 : decode cX3_bothOf 83 = .ok (.imul, 1) := by decide +kernel
theorem dX3_bothOf_84 : decode cX3_bothOf 84 = .ok (.goto 12, 3) := by decide +kernel
theorem dX3_bothOf_87 : decode cX3_bothOf 87 = .ok (.iconst 1, 1) := by decide +kernel
theorem dX3_bothOf_88 : decode cX3_bothOf 88 = .ok (.iload 6, 2) := by decide +kernel
theorem dX3_bothOf_90 : decode cX3_bothOf 90 = .ok (.isub, 1) := by decide +kernel
theorem dX3_bothOf_91 : decode cX3_bothOf 91 = .ok (.iconst 1, 1) := by decide +kernel
theorem dX3_bothOf_92 : decode cX3_bothOf 92 = .ok (.iload 7, 2) := by decide +kernel
theorem dX3_bothOf_94 : decode cX3_bothOf 94 = .ok (.isub, 1) := by decide +kernel
theorem dX3_bothOf_95 : decode cX3_bothOf 95 = .ok (.imul, 1) := by decide +kernel
theorem dX3_bothOf_96 : decode cX3_bothOf 96 = .ok (.iadd, 1) := by decide +kernel
theorem dX3_bothOf_97 : decode cX3_bothOf 97 = .ok (.istore 4, 2) := by decide +kernel
theorem dX3_bothOf_99 : decode cX3_bothOf 99 = .ok (.iinc 5 1, 3) := by decide +kernel
theorem dX3_bothOf_102 : decode cX3_bothOf 102 = .ok (.goto (-96), 3) := by decide +kernel
theorem dX3_bothOf_105 : decode cX3_bothOf 105 = .ok (.iload 4, 2) := by decide +kernel
theorem dX3_bothOf_107 : decode cX3_bothOf 107 = .ok (.ireturn, 1) := by decide +kernel
set_option maxRecDepth 20000 in
theorem ggX3_both_X3_isStream : GoodIn wsX3_both wsX3_isStream := goodIn_r _ [5, 6, 7, 8, 4, 9] (by decide +kernel) (by decide +kernel)
set_option maxRecDepth 20000 in
theorem gX3_both_X3_isStream : GoodIn wsX3_both (va_wsS RX3 49 yX3_isStream wsX3_isStream) := goodIn_app (goodIn_of _ (by decide +kernel)) ggX3_both_X3_isStream
set_option maxRecDepth 20000 in
theorem ggX3_both_X3_in : GoodIn wsX3_both wsX3_in := goodIn_r _ [9] (by decide +kernel) (by decide +kernel)
set_option maxRecDepth 20000 in
theorem gX3_both_X3_in : GoodIn wsX3_both (va_wsS RX3 35 yX3_in wsX3_in) := goodIn_app (goodIn_of _ (by decide +kernel)) ggX3_both_X3_in
set_option maxRecDepth 20000 in
theorem ggX3_both_X3_bothOf : GoodIn wsX3_both wsX3_bothOf := goodIn_r _ [13, 14, 15, 16, 17, 18, 4, 19, 20, 21, 22, 23, 24, 25, 26, 27, 28, 29, 30, 31, 32] (by decide +kernel) (by decide +kernel)
set_option maxRecDepth 20000 in
theorem gX3_both_X3_bothOf : GoodIn wsX3_both (wsV RX3 85 RX3 yX3_bothOf wsX3_bothOf) := goodIn_app (goodIn_of _ (by decide +kernel)) ggX3_both_X3_bothOf
theorem dX3_both_0 : decode cX3_both 0 = .ok (.iload_n 1, 1) := by decide +kernel
theorem dX3_both_1 : decode cX3_both 1 = .ok (.invokestatic 49, 3) := by decide +kernel
theorem dX3_both_4 : decode cX3_both 4 = .ok (.ifCond .eq 10, 3) := by decide +kernel
theorem dX3_both_7 : decode cX3_both 7 = .ok (.iload_n 2, 1) := by decide +kernel
theorem dX3_both_8 : decode cX3_both 8 = .ok (.invokestatic 49, 3) := by decide +kernel
theorem dX3_both_11 : decode cX3_both 11 = .ok (.ifCond .ne 6, 3) := by decide +kernel
theorem dX3_both_14 : decode cX3_both 14 = .ok (.bipush (-101), 2) := by decide +kernel
theorem dX3_both_16 : decode cX3_both 16 = .ok (.ireturn, 1) := by decide +kernel
theorem dX3_both_17 : decode cX3_both 17 = .ok (.iload_n 3, 1) := by decide +kernel
theorem dX3_both_18 : decode cX3_both 18 = .ok (.i2l, 1) := by decide +kernel
theorem dX3_both_19 : decode cX3_both 19 = .ok (.lconst 0, 1) := by decide +kernel
theorem dX3_both_20 : decode cX3_both 20 = .ok (.ldc2_w 47, 3) := by decide +kernel
theorem dX3_both_23 : decode cX3_both 23 = .ok (.invokestatic 35, 3) := by decide +kernel
theorem dX3_both_26 : decode cX3_both 26 = .ok (.ifCond .eq 13, 3) := by decide +kernel
theorem dX3_both_29 : decode cX3_both 29 = .ok (.aload_n 0, 1) := by decide +kernel
theorem dX3_both_30 : decode cX3_both 30 = .ok (.iload_n 1, 1) := by decide +kernel
theorem dX3_both_31 : decode cX3_both 31 = .ok (.iload_n 2, 1) := by decide +kernel
theorem dX3_both_32 : decode cX3_both 32 = .ok (.iload_n 3, 1) := by decide +kernel
theorem dX3_both_33 : decode cX3_both 33 = .ok (.invokevirtual 85, 3) := by decide +kernel
theorem dX3_both_36 : decode cX3_both 36 = .ok (.goto 5, 3) := by decide +kernel
theorem dX3_both_39 : decode cX3_both 39 = .ok (.bipush (-102), 2) := by decide +kernel
theorem dX3_both_41 : decode cX3_both 41 = .ok (.ireturn, 1) := by decide +kernel
set_option maxRecDepth 20000 in
theorem ggX3_together_X3_isStream : GoodIn wsX3_together wsX3_isStream := goodIn_r _ [6, 7, 8, 9, 5, 10] (by decide +kernel) (by decide +kernel)
