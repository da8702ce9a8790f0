set_option maxRecDepth 20000 in
theorem ggX2_put_X2_bitOf : GoodIn wsX2_put wsX2_bitOf := goodIn_r _ [17] (by decide +kernel) (by decide +kernel)
set_option maxRecDepth 20000 in
theorem gX2_put_X2_bitOf : GoodIn wsX2_put (va_wsS RX2 77 yX2_bitOf wsX2_bitOf) := goodIn_app (goodIn_of _ (by decide +kernel)) ggX2_put_X2_bitOf
theorem dX2_put_0 : decode cX2_put 0 = .ok (.iload_n 1, 1) := by decide +kernel
theorem dX2_put_1 : decode cX2_put 1 = .ok (.invokestatic 56, 3) := by decide +kernel
theorem dX2_put_4 : decode cX2_put 4 = .ok (.ifCond .eq 11, 3) := by decide +kernel
theorem dX2_put_7 : decode cX2_put 7 = .ok (.aload_n 0, 1) := by decide +kernel
theorem dX2_put_8 : decode cX2_put 8 = .ok (.iload_n 2, 1) := by decide +kernel
theorem dX2_put_9 : decode cX2_put 9 = .ok (.invokevirtual 74, 3) := by decide +kernel
theorem dX2_put_12 : decode cX2_put 12 = .ok (.ifCond .ne 6, 3) := by decide +kernel
theorem dX2_put_15 : decode cX2_put 15 = .ok (.bipush (-101), 2) := by decide +kernel
theorem dX2_put_17 : decode cX2_put 17 = .ok (.ireturn, 1) := by decide +kernel
theorem dX2_put_18 : decode cX2_put 18 = .ok (.aload_n 0, 1) := by decide +kernel
theorem dX2_put_19 : decode cX2_put 19 = .ok (.getfield 23, 3) := by decide +kernel
theorem dX2_put_22 : decode cX2_put 22 = .ok (.iload_n 1, 1) := by decide +kernel
theorem dX2_put_23 : decode cX2_put 23 = .ok (.laload, 1) := by decide +kernel
theorem dX2_put_24 : decode cX2_put 24 = .ok (.iload_n 2, 1) := by decide +kernel
theorem dX2_put_25 : decode cX2_put 25 = .ok (.invokestatic 77, 3) := by decide +kernel
theorem dX2_put_28 : decode cX2_put 28 = .ok (.istore 4, 2) := by decide +kernel
theorem dX2_put_30 : decode cX2_put 30 = .ok (.lconst 1, 1) := by decide +kernel
theorem dX2_put_31 : decode cX2_put 31 = .ok (.iload_n 2, 1) := by decide +kernel
theorem dX2_put_32 : decode cX2_put 32 = .ok (.lshl, 1) := by decide +kernel
theorem dX2_put_33 : decode cX2_put 33 = .ok (.lstore 5, 2) := by decide +kernel
theorem dX2_put_35 : decode cX2_put 35 = .ok (.aload_n 0, 1) := by decide +kernel
theorem dX2_put_36 : decode cX2_put 36 = .ok (.getfield 23, 3) := by decide +kernel
theorem dX2_put_39 : decode cX2_put 39 = .ok (.iload_n 1, 1) := by decide +kernel
theorem dX2_put_40 : decode cX2_put 40 = .ok (.iload_n 3, 1) := by decide +kernel
theorem dX2_put_41 : decode cX2_put 41 = .ok (.ifCond .eq 15, 3) := by decide +kernel
theorem dX2_put_44 : decode cX2_put 44 = .ok (.aload_n 0, 1) := by decide +kernel
theorem dX2_put_45 : decode cX2_put 45 = .ok (.getfield 23, 3) := by decide +kernel
theorem dX2_put_48 : decode cX2_put 48 = .ok (.iload_n 1, 1) := by decide +kernel
theorem dX2_put_49 : decode cX2_put 49 = .ok (.laload, 1) := by decide +kernel
theorem dX2_put_50 : decode cX2_put 50 = .ok (.lload 5, 2) := by decide +kernel
theorem dX2_put_52 : decode cX2_put 52 = .ok (.lor, 1) := by decide +kernel
theorem dX2_put_53 : decode cX2_put 53 = .ok (.goto 16, 3) := by decide +kernel
theorem dX2_put_56 : decode cX2_put 56 = .ok (.aload_n 0, 1) := by decide +kernel
theorem dX2_put_57 : decode cX2_put 57 = .ok (.getfield 23, 3) := by decide +kernel
theorem dX2_put_60 : decode cX2_put 60 = .ok (.iload_n 1, 1) := by decide +kernel
theorem dX2_put_61 : decode cX2_put 61 = .ok (.laload, 1) := by decide +kernel
theorem dX2_put_62 : decode cX2_put 62 = .ok (.lload 5, 2) := by decide +kernel
theorem dX2_put_64 : decode cX2_put 64 = .ok (.ldc2_w 81, 3) := by decide +kernel
theorem dX2_put_67 : decode cX2_put 67 = .ok (.lxor, 1) := by decide +kernel
theorem dX2_put_68 : decode cX2_put 68 = .ok (.land, 1) := by decide +kernel
theorem dX2_put_69 : decode cX2_put 69 = .ok (.lastore, 1) := by decide +kernel
theorem dX2_put_70 : decode cX2_put 70 = .ok (.iload 4, 2) := by decide +kernel
theorem dX2_put_72 : decode cX2_put 72 = .ok (.ireturn, 1) := by decide +kernel
set_option maxRecDepth 20000 in
theorem ggX2_bit_X2_isStream : GoodIn wsX2_bit wsX2_isStream := goodIn_r _ [5, 6, 7, 4, 8] (by decide +kernel) (by decide +kernel)
set_option maxRecDepth 20000 in
theorem gX2_bit_X2_isStream : GoodIn wsX2_bit (va_wsS RX2 56 yX2_isStream wsX2_isStream) := goodIn_app (goodIn_of _ (by decide +kernel)) ggX2_bit_X2_isStream
set_option maxRecDepth 20000 in
theorem ggX2_bit_X2_isBit : GoodIn wsX2_bit wsX2_isBit := goodIn_r _ [12, 13, 6, 7, 4, 8, 17, 18, 19, 20, 21, 22, 23, 24, 25, 26, 27, 28] (by decide +kernel) (by decide +kernel)
set_option maxRecDepth 20000 in
theorem gX2_bit_X2_isBit : GoodIn wsX2_bit (wsV RX2 74 RX2 yX2_isBit wsX2_isBit) := goodIn_app (goodIn_of _ (by decide +kernel)) ggX2_bit_X2_isBit
set_option maxRecDepth 20000 in
theorem ggX2_bit_X2_bitOf : GoodIn wsX2_bit wsX2_bitOf := goodIn_r _ [16] (by decide +kernel) (by decide +kernel)
set_option maxRecDepth 20000 in
theorem gX2_bit_X2_bitOf : GoodIn wsX2_bit (va_wsS RX2 77 yX2_bitOf wsX2_bitOf) := goodIn_app (goodIn_of _ (by decide +kernel)) ggX2_bit_X2_bitOf
theorem dX2_bit_0 : decode cX2_bit 0 = .ok (.iload_n 1, 1) := by decide +kernel
theorem dX2_bit_1 : decode cX2_bit 1 = .ok (.invokestatic 56, 3) := by decide +kernel
theorem dX2_bit_4 : decode cX2_bit 4 = .ok (.ifCond .eq 11, 3) := by decide +kernel
theorem dX2_bit_7 : decode cX2_bit 7 = .ok (.aload_n 0, 1) := by decide +kernel
theorem dX2_bit_8 : decode cX2_bit 8 = .ok (.iload_n 2, 1) := by decide +kernel
theorem dX2_bit_9 : decode cX2_bit 9 = .ok (.invokevirtual 74, 3) := by decide +kernel
theorem dX2_bit_12 : decode cX2_bit 12 = .ok (.ifCond .ne 6, 3) := by decide +kernel
theorem dX2_bit_15 : decode cX2_bit 15 = .ok (.bipush (-101), 2) := by decide +kernel
theorem dX2_bit_17 : decode cX2_bit 17 = .ok (.ireturn, 1) := by decide +kernel
theorem dX2_bit_18 : decode cX2_bit 18 = .ok (.aload_n 0, 1) := by decide +kernel
theorem dX2_bit_19 : decode cX2_bit 19 = .ok (.getfield 23, 3) := by decide +kernel
theorem dX2_bit_22 : decode cX2_bit 22 = .ok (.iload_n 1, 1) := by decide +kernel
theorem dX2_bit_23 : decode cX2_bit 23 = .ok (.laload, 1) := by decide +kernel
theorem dX2_bit_24 : decode cX2_bit 24 = .ok (.iload_n 2, 1) := by decide +kernel
theorem dX2_bit_25 : decode cX2_bit 25 = .ok (.invokestatic 77, 3) := by decide +kernel
theorem dX2_bit_28 : decode cX2_bit 28 = .ok (.ireturn, 1) := by decide +kernel
set_option maxRecDepth 20000 in
theorem ggX2_ones_X2_isStream : GoodIn wsX2_ones wsX2_isStream := goodIn_r _ [5, 6, 7, 4, 8] (by decide +kernel) (by decide +kernel)
set_option maxRecDepth 20000 in
theorem gX2_ones_X2_isStream : GoodIn wsX2_ones (va_wsS RX2 56 yX2_isStream wsX2_isStream) := goodIn_app (goodIn_of _ (by decide +kernel)) ggX2_ones_X2_isStream
set_option maxRecDepth 20000 in
theorem ggX2_ones_J13_bitCount_95d88 : GoodIn wsX2_ones wsJ13_bitCount_95d88 := goodIn_r _ [12, 13, 14, 15] (by decide +kernel) (by decide +kernel)
set_option maxRecDepth 20000 in
theorem gX2_ones_J13_bitCount_95d88 : GoodIn wsX2_ones (va_wsS RX2 83 yJ13_bitCount_95d88 wsJ13_bitCount_95d88) := goodIn_app (goodIn_of _ (by decide +kernel)) ggX2_ones_J13_bitCount_95d88
theorem dX2_ones_0 : decode cX2_ones 0 = .ok (.iload_n 1, 1) := by decide +kernel
theorem dX2_ones_1 : decode cX2_ones 1 = .ok (.invokestatic 56, 3) := by decide +kernel
theorem dX2_ones_4 : decode cX2_ones 4 = .ok (.ifCond .ne 6, 3) := by decide +kernel
theorem dX2_ones_7 : decode cX2_ones 7 = .ok (.bipush (-101), 2) := by decide +kernel
theorem dX2_ones_9 : decode cX2_ones 9 = .ok (.ireturn, 1) := by decide +kernel
theorem dX2_ones_10 : decode cX2_ones 10 = .ok (.aload_n 0, 1) := by decide +kernel
theorem dX2_ones_11 : decode cX2_ones 11 = .ok (.getfield 23, 3) := by decide +kernel
theorem dX2_ones_14 : decode cX2_ones 14 = .ok (.iload_n 1, 1) := by decide +kernel
theorem dX2_ones_15 : decode cX2_ones 15 = .ok (.laload, 1) := by decide +kernel
theorem dX2_ones_16 : decode cX2_ones 16 = .ok (.invokestatic 83, 3) := by decide +kernel
theorem dX2_ones_19 : decode cX2_ones 19 = .ok (.ireturn, 1) := by decide +kernel
set_option maxRecDepth 20000 in
theorem ggX2_gate_X2_isWithin : GoodIn wsX2_gate wsX2_isWithin := goodIn_r _ [5] (by decide +kernel) (by decide +kernel)
set_option maxRecDepth 20000 in
theorem gX2_gate_X2_isWithin : GoodIn wsX2_gate (va_wsS RX2 89 yX2_isWithin wsX2_isWithin) := goodIn_app (goodIn_of _ (by decide +kernel)) ggX2_gate_X2_isWithin
set_option maxRecDepth 20000 in
theorem ggX2_gate_X2_isStream : GoodIn wsX2_gate wsX2_isStream := goodIn_r _ [8, 2, 3, 4, 5] (by decide +kernel) (by decide +kernel)
set_option maxRecDepth 20000 in
theorem gX2_gate_X2_isStream : GoodIn wsX2_gate (va_wsS RX2 56 yX2_isStream wsX2_isStream) := goodIn_app (goodIn_of _ (by decide +kernel)) ggX2_gate_X2_isStream
set_option maxRecDepth 20000 in
theorem ggX2_gate_X2_gated : GoodIn wsX2_gate wsX2_gated := goodIn_r _ [11, 12] (by decide +kernel) (by decide +kernel)
set_option maxRecDepth 20000 in
theorem gX2_gate_X2_gated : GoodIn wsX2_gate (va_wsS RX2 93 yX2_gated wsX2_gated) := goodIn_app (goodIn_of _ (by decide +kernel)) ggX2_gate_X2_gated
set_option maxRecDepth 20000 in
theorem ggX2_gate_X2_setStream : GoodIn wsX2_gate wsX2_setStream := goodIn_r _ [16, 1, 17, 18, 19, 4, 20, 12, 21, 22, 23, 24, 25, 26, 27, 28, 29, 30, 31, 32, 33, 34, 35, 36, 37, 38, 39] (by decide +kernel) (by decide +kernel)
set_option maxRecDepth 20000 in
theorem gX2_gate_X2_setStream : GoodIn wsX2_gate (wsV RX2 70 RX2 yX2_setStream wsX2_setStream) := goodIn_app (goodIn_of _ (by decide +kernel)) ggX2_gate_X2_setStream
theorem dX2_gate_0 : decode cX2_gate 0 = .ok (.iload_n 1, 1) := by decide +kernel
theorem dX2_gate_1 : decode cX2_gate 1 = .ok (.iconst 0, 1) := by decide +kernel
theorem dX2_gate_2 : decode cX2_gate 2 = .ok (.bipush 6, 2) := by decide +kernel
theorem dX2_gate_4 : decode cX2_gate 4 = .ok (.invokestatic 89, 3) := by decide +kernel
theorem dX2_gate_7 : decode cX2_gate 7 = .ok (.ifCond .ne 6, 3) := by decide +kernel
theorem dX2_gate_10 : decode cX2_gate 10 = .ok (.bipush (-102), 2) := by decide +kernel
theorem dX2_gate_12 : decode cX2_gate 12 = .ok (.ireturn, 1) := by decide +kernel
theorem dX2_gate_13 : decode cX2_gate 13 = .ok (.iload 5, 2) := by decide +kernel
theorem dX2_gate_15 : decode cX2_gate 15 = .ok (.invokestatic 56, 3) := by decide +kernel
theorem dX2_gate_18 : decode cX2_gate 18 = .ok (.ifCond .eq 17, 3) := by decide +kernel
theorem dX2_gate_21 : decode cX2_gate 21 = .ok (.iload_n 2, 1) := by decide +kernel
theorem dX2_gate_22 : decode cX2_gate 22 = .ok (.invokestatic 56, 3) := by decide +kernel
theorem dX2_gate_25 : decode cX2_gate 25 = .ok (.ifCond .eq 10, 3) := by decide +kernel
theorem dX2_gate_28 : decode cX2_gate 28 = .ok (.iload_n 3, 1) := by decide +kernel
theorem dX2_gate_29 : decode cX2_gate 29 = .ok (.invokestatic 56, 3) := by decide +kernel
theorem dX2_gate_32 : decode cX2_gate 32 = .ok (.ifCond .ne 6, 3) := by decide +kernel
theorem dX2_gate_35 : decode cX2_gate 35 = .ok (.bipush (-101), 2) := by decide +kernel
theorem dX2_gate_37 : decode cX2_gate 37 = .ok (.ireturn, 1) := by decide +kernel
theorem dX2_gate_38 : decode cX2_gate 38 = .ok (.iload_n 1, 1) := by decide +kernel
theorem dX2_gate_39 : decode cX2_gate 39 = .ok (.iconst 5, 1) := by decide +kernel
theorem dX2_gate_40 : decode cX2_gate 40 = .ok (.if_icmp .eq 33, 3) := by decide +kernel
theorem dX2_gate_43 : decode cX2_gate 43 = .ok (.iload_n 1, 1) := by decide +kernel
theorem dX2_gate_44 : decode cX2_gate 44 = .ok (.bipush 6, 2) := by decide +kernel
theorem dX2_gate_46 : decode cX2_gate 46 = .ok (.if_icmp .eq 27, 3) := by decide +kernel
theorem dX2_gate_49 : decode cX2_gate 49 = .ok (.aload_n 0, 1) := by decide +kernel
theorem dX2_gate_50 : decode cX2_gate 50 = .ok (.iload 5, 2) := by decide +kernel
theorem dX2_gate_52 : decode cX2_gate 52 = .ok (.iload_n 1, 1) := by decide +kernel
theorem dX2_gate_53 : decode cX2_gate 53 = .ok (.aload_n 0, 1) := by decide +kernel
theorem dX2_gate_54 : decode cX2_gate 54 = .ok (.getfield 23, 3) := by decide +kernel
theorem dX2_gate_57 : decode cX2_gate 57 = .ok (.iload_n 2, 1) := by decide +kernel
theorem dX2_gate_58 : decode cX2_gate 58 = .ok (.laload, 1) := by decide +kernel
theorem dX2_gate_59 : decode cX2_gate 59 = .ok (.aload_n 0, 1) := by decide +kernel
theorem dX2_gate_60 : decode cX2_gate 60 = .ok (.getfield 23, 3) := by decide +kernel
theorem dX2_gate_63 : decode cX2_gate 63 = .ok (.iload_n 3, 1) := by decide +kernel
theorem dX2_gate_64 : decode cX2_gate 64 = .ok (.laload, 1) := by decide +kernel
theorem dX2_gate_65 : decode cX2_gate 65 = .ok (.lconst 0, 1) := by decide +kernel
theorem dX2_gate_66 : decode cX2_gate 66 = .ok (.invokestatic 93, 3) := by decide +kernel
theorem dX2_gate_69 : decode cX2_gate 69 = .ok (.invokevirtual 70, 3) := by decide +kernel
theorem dX2_gate_72 : decode cX2_gate 72 = .ok (.ireturn, 1) := by decide +kernel
theorem dX2_gate_73 : decode cX2_gate 73 = .ok (.iload 4, 2) := by decide +kernel
theorem dX2_gate_75 : decode cX2_gate 75 = .ok (.invokestatic 56, 3) := by decide +kernel
theorem dX2_gate_78 : decode cX2_gate 78 = .ok (.ifCond .ne 6, 3) := by decide +kernel
theorem dX2_gate_81 : decode cX2_gate 81 = .ok (.bipush (-101), 2) := by decide +kernel
theorem dX2_gate_83 : decode cX2_gate 83 = .ok (.ireturn, 1) := by decide +kernel
theorem dX2_gate_84 : decode cX2_gate 84 = .ok (.aload_n 0, 1) := by decide +kernel
theorem dX2_gate_85 : decode cX2_gate 85 = .ok (.iload 5, 2) := by decide +kernel
theorem dX2_gate_87 : decode cX2_gate 87 = .ok (.iload_n 1, 1) := by decide +kernel
theorem dX2_gate_88 : decode cX2_gate 88 = .ok (.aload_n 0, 1) := by decide +kernel
theorem dX2_gate_89 : decode cX2_gate 89 = .ok (.getfield 23, 3) := by decide +kernel
theorem dX2_gate_92 : decode cX2_gate 92 = .ok (.iload_n 2, 1) := by decide +kernel
theorem dX2_gate_93 : decode cX2_gate 93 = .ok (.laload, 1) := by decide +kernel
theorem dX2_gate_94 : decode cX2_gate 94 = .ok (.aload_n 0, 1) := by decide +kernel
theorem dX2_gate_95 : decode cX2_gate 95 = .ok (.getfield 23, 3) := by decide +kernel
theorem dX2_gate_98 : decode cX2_gate 98 = .ok (.iload_n 3, 1) := by decide +kernel
theorem dX2_gate_99 : decode cX2_gate 99 = .ok (.laload, 1) := by decide +kernel
theorem dX2_gate_100 : decode cX2_gate 100 = .ok (.aload_n 0, 1) := by decide +kernel
theorem dX2_gate_101 : decode cX2_gate 101 = .ok (.getfield 23, 3) := by decide +kernel
theorem dX2_gate_104 : decode cX2_gate 104 = .ok (.iload 4, 2) := by decide +kernel
theorem dX2_gate_106 : decode cX2_gate 106 = .ok (.laload, 1) := by decide +kernel
theorem dX2_gate_107 : decode cX2_gate 107 = .ok (.invokestatic 93, 3) := by decide +kernel
theorem dX2_gate_110 : decode cX2_gate 110 = .ok (.invokevirtual 70, 3) := by decide +kernel
theorem dX2_gate_113 : decode cX2_gate 113 = .ok (.ireturn, 1) := by decide +kernel
set_option maxRecDepth 20000 in
theorem ggX2_not_X2_isStream : GoodIn wsX2_not wsX2_isStream := goodIn_r _ [6, 7, 8, 5, 9] (by decide +kernel) (by decide +kernel)
set_option maxRecDepth 20000 in
theorem gX2_not_X2_isStream : GoodIn wsX2_not (va_wsS RX2 56 yX2_isStream wsX2_isStream) := goodIn_app (goodIn_of _ (by decide +kernel)) ggX2_not_X2_isStream
set_option maxRecDepth 20000 in
theorem ggX2_not_X2_setStream : GoodIn wsX2_not wsX2_setStream := goodIn_r _ [13, 1, 14, 15, 16, 5, 17, 2, 18, 19, 20, 21, 22, 23, 24, 25, 26, 27, 28, 29, 30, 31, 32, 33, 34, 35, 36] (by decide +kernel) (by decide +kernel)
set_option maxRecDepth 20000 in
theorem gX2_not_X2_setStream : GoodIn wsX2_not (wsV RX2 70 RX2 yX2_setStream wsX2_setStream) := goodIn_app (goodIn_of _ (by decide +kernel)) ggX2_not_X2_setStream
theorem dX2_not_0 : decode cX2_not 0 = .ok (.iload_n 1, 1) := by decide +kernel
theorem dX2_not_1 : decode cX2_not 1 = .ok (.invokestatic 56, 3) := by decide +kernel
theorem dX2_not_4 : decode cX2_not 4 = .ok (.ifCond .eq 10, 3) := by decide +kernel
theorem dX2_not_7 : decode cX2_not 7 = .ok (.iload_n 2, 1) := by decide +kernel
theorem dX2_not_8 : decode cX2_not 8 = .ok (.invokestatic 56, 3) := by decide +kernel
theorem dX2_not_11 : decode cX2_not 11 = .ok (.ifCond .ne 6, 3) := by decide +kernel
theorem dX2_not_14 : decode cX2_not 14 = .ok (.bipush (-101), 2) := by decide +kernel
theorem dX2_not_16 : decode cX2_not 16 = .ok (.ireturn, 1) := by decide +kernel
theorem dX2_not_17 : decode cX2_not 17 = .ok (.aload_n 0, 1) := by decide +kernel
theorem dX2_not_18 : decode cX2_not 18 = .ok (.iload_n 2, 1) := by decide +kernel
theorem dX2_not_19 : decode cX2_not 19 = .ok (.aload_n 0, 1) := by decide +kernel
theorem dX2_not_20 : decode cX2_not 20 = .ok (.getfield 23, 3) := by decide +kernel
theorem dX2_not_23 : decode cX2_not 23 = .ok (.iload_n 1, 1) := by decide +kernel
theorem dX2_not_24 : decode cX2_not 24 = .ok (.laload, 1) := by decide +kernel
theorem dX2_not_25 : decode cX2_not 25 = .ok (.ldc2_w 81, 3) := by decide +kernel
theorem dX2_not_28 : decode cX2_not 28 = .ok (.lxor, 1) := by decide +kernel
theorem dX2_not_29 : decode cX2_not 29 = .ok (.invokevirtual 70, 3) := by decide +kernel
theorem dX2_not_32 : decode cX2_not 32 = .ok (.ireturn, 1) := by decide +kernel
set_option maxRecDepth 20000 in
theorem ggX2_later_X2_isStream : GoodIn wsX2_later wsX2_isStream := goodIn_r _ [6, 7, 8, 5, 9] (by decide +kernel) (by decide +kernel)
set_option maxRecDepth 20000 in
theorem gX2_later_X2_isStream : GoodIn wsX2_later (va_wsS RX2 56 yX2_isStream wsX2_isStream) := goodIn_app (goodIn_of _ (by decide +kernel)) ggX2_later_X2_isStream
set_option maxRecDepth 20000 in
theorem ggX2_later_X2_isWithin : GoodIn wsX2_later wsX2_isWithin := goodIn_r _ [9] (by decide +kernel) (by decide +kernel)
set_option maxRecDepth 20000 in
theorem gX2_later_X2_isWithin : GoodIn wsX2_later (va_wsS RX2 89 yX2_isWithin wsX2_isWithin) := goodIn_app (goodIn_of _ (by decide +kernel)) ggX2_later_X2_isWithin
set_option maxRecDepth 20000 in
theorem ggX2_later_X1_shifted : GoodIn wsX2_later wsX1_shifted := goodIn_r _ [13, 14, 15, 16, 17, 11, 18, 19, 5, 20, 21, 44, 45] (by decide +kernel) (by decide +kernel)
set_option maxRecDepth 20000 in
theorem gX2_later_X1_shifted_n97 : GoodIn wsX2_later (wsX1_shifted) := ggX2_later_X1_shifted
set_option maxRecDepth 20000 in
theorem ggX2_later_X2_setStream : GoodIn wsX2_later wsX2_setStream := goodIn_r _ [25, 2, 1, 26, 19, 5, 20, 21, 27, 28, 29, 30, 31, 32, 33, 34, 35, 36, 37, 38, 39, 40, 41, 42, 43, 44, 45] (by decide +kernel) (by decide +kernel)
set_option maxRecDepth 20000 in
theorem gX2_later_X2_setStream : GoodIn wsX2_later (wsV RX2 70 RX2 yX2_setStream wsX2_setStream) := goodIn_app (goodIn_of _ (by decide +kernel)) ggX2_later_X2_setStream
theorem dX2_later_0 : decode cX2_later 0 = .ok (.iload_n 1, 1) := by decide +kernel
theorem dX2_later_1 : decode cX2_later 1 = .ok (.invokestatic 56, 3) := by decide +kernel
theorem dX2_later_4 : decode cX2_later 4 = .ok (.ifCond .eq 10, 3) := by decide +kernel
theorem dX2_later_7 : decode cX2_later 7 = .ok (.iload_n 3, 1) := by decide +kernel
theorem dX2_later_8 : decode cX2_later 8 = .ok (.invokestatic 56, 3) := by decide +kernel
theorem dX2_later_11 : decode cX2_later 11 = .ok (.ifCond .ne 6, 3) := by decide +kernel
theorem dX2_later_14 : decode cX2_later 14 = .ok (.bipush (-101), 2) := by decide +kernel
theorem dX2_later_16 : decode cX2_later 16 = .ok (.ireturn, 1) := by decide +kernel
theorem dX2_later_17 : decode cX2_later 17 = .ok (.iload_n 2, 1) := by decide +kernel
theorem dX2_later_18 : decode cX2_later 18 = .ok (.bipush (-64), 2) := by decide +kernel
theorem dX2_later_20 : decode cX2_later 20 = .ok (.bipush 64, 2) := by decide +kernel
theorem dX2_later_22 : decode cX2_later 22 = .ok (.invokestatic 89, 3) := by decide +kernel
theorem dX2_later_25 : decode cX2_later 25 = .ok (.ifCond .ne 6, 3) := by decide +kernel
theorem dX2_later_28 : decode cX2_later 28 = .ok (.bipush (-102), 2) := by decide +kernel
theorem dX2_later_30 : decode cX2_later 30 = .ok (.ireturn, 1) := by decide +kernel
theorem dX2_later_31 : decode cX2_later 31 = .ok (.aload_n 0, 1) := by decide +kernel
theorem dX2_later_32 : decode cX2_later 32 = .ok (.iload_n 3, 1) := by decide +kernel
theorem dX2_later_33 : decode cX2_later 33 = .ok (.aload_n 0, 1) := by decide +kernel
theorem dX2_later_34 : decode cX2_later 34 = .ok (.getfield 10, 3) := by decide +kernel
theorem dX2_later_37 : decode cX2_later 37 = .ok (.aload_n 0, 1) := by decide +kernel
theorem dX2_later_38 : decode cX2_later 38 = .ok (.getfield 23, 3) := by decide +kernel
theorem dX2_later_41 : decode cX2_later 41 = .ok (.iload_n 1, 1) := by decide +kernel
theorem dX2_later_42 : decode cX2_later 42 = .ok (.laload, 1) := by decide +kernel
theorem dX2_later_43 : decode cX2_later 43 = .ok (.iload_n 2, 1) := by decide +kernel
theorem dX2_later_44 : decode cX2_later 44 = .ok (.ineg, 1) := by decide +kernel
theorem dX2_later_45 : decode cX2_later 45 = .ok (.invokevirtual 97, 3) := by decide +kernel
theorem dX2_later_48 : decode cX2_later 48 = .ok (.invokevirtual 70, 3) := by decide +kernel
theorem dX2_later_51 : decode cX2_later 51 = .ok (.ireturn, 1) := by decide +kernel
set_option maxRecDepth 20000 in
theorem ggX2_flip_X2_isStream : GoodIn wsX2_flip wsX2_isStream := goodIn_r _ [6, 7, 8, 5, 9] (by decide +kernel) (by decide +kernel)
set_option maxRecDepth 20000 in
theorem gX2_flip_X2_isStream : GoodIn wsX2_flip (va_wsS RX2 56 yX2_isStream wsX2_isStream) := goodIn_app (goodIn_of _ (by decide +kernel)) ggX2_flip_X2_isStream
set_option maxRecDepth 20000 in
theorem ggX2_flip_X2_isWithin : GoodIn wsX2_flip wsX2_isWithin := goodIn_r _ [9] (by decide +kernel) (by decide +kernel)
set_option maxRecDepth 20000 in
theorem gX2_flip_X2_isWithin : GoodIn wsX2_flip (va_wsS RX2 89 yX2_isWithin wsX2_isWithin) := goodIn_app (goodIn_of _ (by decide +kernel)) ggX2_flip_X2_isWithin
set_option maxRecDepth 20000 in
theorem ggX2_flip_X2_lowBits : GoodIn wsX2_flip wsX2_lowBits := goodIn_r _ [12, 13] (by decide +kernel) (by decide +kernel)
set_option maxRecDepth 20000 in
theorem gX2_flip_X2_lowBits : GoodIn wsX2_flip (va_wsS RX2 101 yX2_lowBits wsX2_lowBits) := goodIn_app (goodIn_of _ (by decide +kernel)) ggX2_flip_X2_lowBits
set_option maxRecDepth 20000 in
theorem ggX2_flip_J13_bitCount_95d88 : GoodIn wsX2_flip wsJ13_bitCount_95d88 := goodIn_r _ [17, 18, 19, 20] (by decide +kernel) (by decide +kernel)
set_option maxRecDepth 20000 in
theorem gX2_flip_J13_bitCount_95d88 : GoodIn wsX2_flip (va_wsS RX2 83 yJ13_bitCount_95d88 wsJ13_bitCount_95d88) := goodIn_app (goodIn_of _ (by decide +kernel)) ggX2_flip_J13_bitCount_95d88
theorem dX2_flip_0 : decode cX2_flip 0 = .ok (.iload_n 1, 1) := by decide +kernel
theorem dX2_flip_1 : decode cX2_flip 1 = .ok (.invokestatic 56, 3) := by decide +kernel
theorem dX2_flip_4 : decode cX2_flip 4 = .ok (.ifCond .ne 6, 3) := by decide +kernel
theorem dX2_flip_7 : decode cX2_flip 7 = .ok (.bipush (-101), 2) := by decide +kernel
theorem dX2_flip_9 : decode cX2_flip 9 = .ok (.ireturn, 1) := by decide +kernel
theorem dX2_flip_10 : decode cX2_flip 10 = .ok (.iload 4, 2) := by decide +kernel
theorem dX2_flip_12 : decode cX2_flip 12 = .ok (.iconst 0, 1) := by decide +kernel
theorem dX2_flip_13 : decode cX2_flip 13 = .ok (.aload_n 0, 1) := by decide +kernel
theorem dX2_flip_14 : decode cX2_flip 14 = .ok (.getfield 10, 3) := by decide +kernel
theorem dX2_flip_17 : decode cX2_flip 17 = .ok (.getfield 49, 3) := by decide +kernel
theorem dX2_flip_20 : decode cX2_flip 20 = .ok (.invokestatic 89, 3) := by decide +kernel
theorem dX2_flip_23 : decode cX2_flip 23 = .ok (.ifCond .ne 6, 3) := by decide +kernel
theorem dX2_flip_26 : decode cX2_flip 26 = .ok (.bipush (-102), 2) := by decide +kernel
theorem dX2_flip_28 : decode cX2_flip 28 = .ok (.ireturn, 1) := by decide +kernel
theorem dX2_flip_29 : decode cX2_flip 29 = .ok (.lload_n 2, 1) := by decide +kernel
theorem dX2_flip_30 : decode cX2_flip 30 = .ok (.iload 4, 2) := by decide +kernel
theorem dX2_flip_32 : decode cX2_flip 32 = .ok (.invokestatic 101, 3) := by decide +kernel
theorem dX2_flip_35 : decode cX2_flip 35 = .ok (.land, 1) := by decide +kernel
theorem dX2_flip_36 : decode cX2_flip 36 = .ok (.lstore 5, 2) := by decide +kernel
theorem dX2_flip_38 : decode cX2_flip 38 = .ok (.aload_n 0, 1) := by decide +kernel
theorem dX2_flip_39 : decode cX2_flip 39 = .ok (.getfield 23, 3) := by decide +kernel
theorem dX2_flip_42 : decode cX2_flip 42 = .ok (.iload_n 1, 1) := by decide +kernel
theorem dX2_flip_43 : decode cX2_flip 43 = .ok (.dup2, 1) := by decide +kernel
theorem dX2_flip_44 : decode cX2_flip 44 = .ok (.laload, 1) := by decide +kernel
theorem dX2_flip_45 : decode cX2_flip 45 = .ok (.lload 5, 2) := by decide +kernel
theorem dX2_flip_47 : decode cX2_flip 47 = .ok (.lxor, 1) := by decide +kernel
theorem dX2_flip_48 : decode cX2_flip 48 = .ok (.lastore, 1) := by decide +kernel
theorem dX2_flip_49 : decode cX2_flip 49 = .ok (.lload 5, 2) := by decide +kernel
theorem dX2_flip_51 : decode cX2_flip 51 = .ok (.invokestatic 83, 3) := by decide +kernel
theorem dX2_flip_54 : decode cX2_flip 54 = .ok (.ireturn, 1) := by decide +kernel
set_option maxRecDepth 20000 in
theorem ggX2_both_X2_isStream : GoodIn wsX2_both wsX2_isStream := goodIn_r _ [5, 6, 7, 4, 8] (by decide +kernel) (by decide +kernel)
set_option maxRecDepth 20000 in
theorem gX2_both_X2_isStream : GoodIn wsX2_both (va_wsS RX2 56 yX2_isStream wsX2_isStream) := goodIn_app (goodIn_of _ (by decide +kernel)) ggX2_both_X2_isStream
set_option maxRecDepth 20000 in
theorem ggX2_both_X2_isWithin : GoodIn wsX2_both wsX2_isWithin := goodIn_r _ [8] (by decide +kernel) (by decide +kernel)
set_option maxRecDepth 20000 in
theorem gX2_both_X2_isWithin : GoodIn wsX2_both (va_wsS RX2 89 yX2_isWithin wsX2_isWithin) := goodIn_app (goodIn_of _ (by decide +kernel)) ggX2_both_X2_isWithin
set_option maxRecDepth 20000 in
theorem ggX2_both_X2_onesOfSort : GoodIn wsX2_both wsX2_onesOfSort := goodIn_r _ [12, 13, 14, 15, 16, 4, 17, 18, 19, 20, 21, 22, 23, 24, 25, 26, 27, 28, 29, 30, 31, 32, 33, 34, 35, 36] (by decide +kernel) (by decide +kernel)
set_option maxRecDepth 20000 in
theorem gX2_both_X2_onesOfSort : GoodIn wsX2_both (wsV RX2 105 RX2 yX2_onesOfSort wsX2_onesOfSort) := goodIn_app (goodIn_of _ (by decide +kernel)) ggX2_both_X2_onesOfSort
theorem dX2_both_0 : decode cX2_both 0 = .ok (.iload_n 1, 1) := by decide +kernel
theorem dX2_both_1 : decode cX2_both 1 = .ok (.invokestatic 56, 3) := by decide +kernel
theorem dX2_both_4 : decode cX2_both 4 = .ok (.ifCond .eq 10, 3) := by decide +kernel
theorem dX2_both_7 : decode cX2_both 7 = .ok (.iload_n 2, 1) := by decide +kernel
theorem dX2_both_8 : decode cX2_both 8 = .ok (.invokestatic 56, 3) := by decide +kernel
theorem dX2_both_11 : decode cX2_both 11 = .ok (.ifCond .ne 6, 3) := by decide +kernel
theorem dX2_both_14 : decode cX2_both 14 = .ok (.bipush (-101), 2) := by decide +kernel
theorem dX2_both_16 : decode cX2_both 16 = .ok (.ireturn, 1) := by decide +kernel
theorem dX2_both_17 : decode cX2_both 17 = .ok (.iload_n 3, 1) := by decide +kernel
theorem dX2_both_18 : decode cX2_both 18 = .ok (.iconst 0, 1) := by decide +kernel
theorem dX2_both_19 : decode cX2_both 19 = .ok (.iconst 3, 1) := by decide +kernel
theorem dX2_both_20 : decode cX2_both 20 = .ok (.invokestatic 89, 3) := by decide +kernel
theorem dX2_both_23 : decode cX2_both 23 = .ok (.ifCond .ne 6, 3) := by decide +kernel
theorem dX2_both_26 : decode cX2_both 26 = .ok (.bipush (-102), 2) := by decide +kernel
theorem dX2_both_28 : decode cX2_both 28 = .ok (.ireturn, 1) := by decide +kernel
theorem dX2_both_29 : decode cX2_both 29 = .ok (.aload_n 0, 1) := by decide +kernel
theorem dX2_both_30 : decode cX2_both 30 = .ok (.aload_n 0, 1) := by decide +kernel
theorem dX2_both_31 : decode cX2_both 31 = .ok (.getfield 23, 3) := by decide +kernel
theorem dX2_both_34 : decode cX2_both 34 = .ok (.iload_n 1, 1) := by decide +kernel
theorem dX2_both_35 : decode cX2_both 35 = .ok (.laload, 1) := by decide +kernel
theorem dX2_both_36 : decode cX2_both 36 = .ok (.aload_n 0, 1) := by decide +kernel
theorem dX2_both_37 : decode cX2_both 37 = .ok (.getfield 23, 3) := by decide +kernel
theorem dX2_both_40 : decode cX2_both 40 = .ok (.iload_n 2, 1) := by decide +kernel
theorem dX2_both_41 : decode cX2_both 41 = .ok (.laload, 1) := by decide +kernel
theorem dX2_both_42 : decode cX2_both 42 = .ok (.iload_n 3, 1) := by decide +kernel
theorem dX2_both_43 : decode cX2_both 43 = .ok (.invokevirtual 105, 3) := by decide +kernel
theorem dX2_both_46 : decode cX2_both 46 = .ok (.ireturn, 1) := by decide +kernel
set_option maxRecDepth 20000 in
theorem ggX2_together_X2_isStream : GoodIn wsX2_together wsX2_isStream := goodIn_r _ [14, 15, 16, 13, 17] (by decide +kernel) (by decide +kernel)
set_option maxRecDepth 20000 in
theorem gX2_together_X2_isStream : GoodIn wsX2_together (va_wsS RX2 56 yX2_isStream wsX2_isStream) := goodIn_app (goodIn_of _ (by decide +kernel)) ggX2_together_X2_isStream
set_option maxRecDepth 20000 in
theorem ggX2_together_X2_onesOfSort : GoodIn wsX2_together wsX2_onesOfSort := goodIn_r _ [21, 22, 3, 23, 24, 13, 25, 26, 27, 28, 29, 30, 31, 32, 33, 34, 35, 36, 37, 38, 39, 40, 41, 42, 43, 44] (by decide +kernel) (by decide +kernel)
set_option maxRecDepth 20000 in
theorem gX2_together_X2_onesOfSort : GoodIn wsX2_together (wsV RX2 105 RX2 yX2_onesOfSort wsX2_onesOfSort) := goodIn_app (goodIn_of _ (by decide +kernel)) ggX2_together_X2_onesOfSort
theorem dX2_together_0 : decode cX2_together 0 = .ok (.iload_n 1, 1) := by decide +kernel
theorem dX2_together_1 : decode cX2_together 1 = .ok (.invokestatic 56, 3) := by decide +kernel
theorem dX2_together_4 : decode cX2_together 4 = .ok (.ifCond .eq 10, 3) := by decide +kernel
theorem dX2_together_7 : decode cX2_together 7 = .ok (.iload_n 2, 1) := by decide +kernel
theorem dX2_together_8 : decode cX2_together 8 = .ok (.invokestatic 56, 3) := by decide +kernel
theorem dX2_together_11 : decode cX2_together 11 = .ok (.ifCond .ne 6, 3) := by decide +kernel
theorem dX2_together_14 : decode cX2_together 14 = .ok (.ldc 109, 2) := by decide +kernel
theorem dX2_together_16 : decode cX2_together 16 = .ok (.ireturn, 1) := by decide +kernel
theorem dX2_together_17 : decode cX2_together 17 = .ok (.aload_n 0, 1) := by decide +kernel
theorem dX2_together_18 : decode cX2_together 18 = .ok (.aload_n 0, 1) := by decide +kernel
theorem dX2_together_19 : decode cX2_together 19 = .ok (.getfield 23, 3) := by decide +kernel
theorem dX2_together_22 : decode cX2_together 22 = .ok (.iload_n 1, 1) := by decide +kernel
theorem dX2_together_23 : decode cX2_together 23 = .ok (.laload, 1) := by decide +kernel
theorem dX2_together_24 : decode cX2_together 24 = .ok (.aload_n 0, 1) := by decide +kernel
theorem dX2_together_25 : decode cX2_together 25 = .ok (.getfield 23, 3) := by decide +kernel
theorem dX2_together_28 : decode cX2_together 28 = .ok (.iload_n 2, 1) := by decide +kernel
theorem dX2_together_29 : decode cX2_together 29 = .ok (.laload, 1) := by decide +kernel
theorem dX2_together_30 : decode cX2_together 30 = .ok (.iconst 0, 1) := by decide +kernel
theorem dX2_together_31 : decode cX2_together 31 = .ok (.invokevirtual 105, 3) := by decide +kernel
theorem dX2_together_34 : decode cX2_together 34 = .ok (.istore_n 3, 1) := by decide +kernel
theorem dX2_together_35 : decode cX2_together 35 = .ok (.aload_n 0, 1) := by decide +kernel
theorem dX2_together_36 : decode cX2_together 36 = .ok (.aload_n 0, 1) := by decide +kernel
theorem dX2_together_37 : decode cX2_together 37 = .ok (.getfield 23, 3) := by decide +kernel
theorem dX2_together_40 : decode cX2_together 40 = .ok (.iload_n 1, 1) := by decide +kernel
theorem dX2_together_41 : decode cX2_together 41 = .ok (.laload, 1) := by decide +kernel
theorem dX2_together_42 : decode cX2_together 42 = .ok (.aload_n 0, 1) := by decide +kernel
theorem dX2_together_43 : decode cX2_together 43 = .ok (.getfield 23, 3) := by decide +kernel
theorem dX2_together_46 : decode cX2_together 46 = .ok (.iload_n 2, 1) := by decide +kernel
theorem dX2_together_47 : decode cX2_together 47 = .ok (.laload, 1) := by decide +kernel
theorem dX2_together_48 : decode cX2_together 48 = .ok (.iconst 1, 1) := by decide +kernel
theorem dX2_together_49 : decode cX2_together 49 = .ok (.invokevirtual 105, 3) := by decide +kernel
theorem dX2_together_52 : decode cX2_together 52 = .ok (.istore 4, 2) := by decide +kernel
theorem dX2_together_54 : decode cX2_together 54 = .ok (.aload_n 0, 1) := by decide +kernel
theorem dX2_together_55 : decode cX2_together 55 = .ok (.aload_n 0, 1) := by decide +kernel
theorem dX2_together_56 : decode cX2_together 56 = .ok (.getfield 23, 3) := by decide +kernel
theorem dX2_together_59 : decode cX2_together 59 = .ok (.iload_n 1, 1) := by decide +kernel
theorem dX2_together_60 : decode cX2_together 60 = .ok (.laload, 1) := by decide +kernel
theorem dX2_together_61 : decode cX2_together 61 = .ok (.aload_n 0, 1) := by decide +kernel
theorem dX2_together_62 : decode cX2_together 62 = .ok (.getfield 23, 3) := by decide +kernel
theorem dX2_together_65 : decode cX2_together 65 = .ok (.iload_n 2, 1) := by decide +kernel
theorem dX2_together_66 : decode cX2_together 66 = .ok (.laload, 1) := by decide +kernel
theorem dX2_together_67 : decode cX2_together 67 = .ok (.iconst 2, 1) := by decide +kernel
theorem dX2_together_68 : decode cX2_together 68 = .ok (.invokevirtual 105, 3) := by decide +kernel
theorem dX2_together_71 : decode cX2_together 71 = .ok (.istore 5, 2) := by decide +kernel
theorem dX2_together_73 : decode cX2_together 73 = .ok (.aload_n 0, 1) := by decide +kernel
theorem dX2_together_74 : decode cX2_together 74 = .ok (.aload_n 0, 1) := by decide +kernel
theorem dX2_together_75 : decode cX2_together 75 = .ok (.getfield 23, 3) := by decide +kernel
theorem dX2_together_78 : decode cX2_together 78 = .ok (.iload_n 1, 1) := by decide +kernel
theorem dX2_together_79 : decode cX2_together 79 = .ok (.laload, 1) := by decide +kernel
theorem dX2_together_80 : decode cX2_together 80 = .ok (.aload_n 0, 1) := by decide +kernel
theorem dX2_together_81 : decode cX2_together 81 = .ok (.getfield 23, 3) := by decide +kernel
theorem dX2_together_84 : decode cX2_together 84 = .ok (.iload_n 2, 1) := by decide +kernel
theorem dX2_together_85 : decode cX2_together 85 = .ok (.laload, 1) := by decide +kernel
theorem dX2_together_86 : decode cX2_together 86 = .ok (.iconst 3, 1) := by decide +kernel
theorem dX2_together_87 : decode cX2_together 87 = .ok (.invokevirtual 105, 3) := by decide +kernel
theorem dX2_together_90 : decode cX2_together 90 = .ok (.istore 6, 2) := by decide +kernel
theorem dX2_together_92 : decode cX2_together 92 = .ok (.iload_n 3, 1) := by decide +kernel
theorem dX2_together_93 : decode cX2_together 93 = .ok (.iload 6, 2) := by decide +kernel
theorem dX2_together_95 : decode cX2_together 95 = .ok (.imul, 1) := by decide +kernel
theorem dX2_together_96 : decode cX2_together 96 = .ok (.iload 4, 2) := by decide +kernel
theorem dX2_together_98 : decode cX2_together 98 = .ok (.iload 5, 2) := by decide +kernel
theorem dX2_together_100 : decode cX2_together 100 = .ok (.imul, 1) := by decide +kernel
theorem dX2_together_101 : decode cX2_together 101 = .ok (.isub, 1) := by decide +kernel
theorem dX2_together_102 : decode cX2_together 102 = .ok (.istore 7, 2) := by decide +kernel
theorem dX2_together_104 : decode cX2_together 104 = .ok (.iload_n 3, 1) := by decide +kernel
theorem dX2_together_105 : decode cX2_together 105 = .ok (.iload 4, 2) := by decide +kernel
theorem dX2_together_107 : decode cX2_together 107 = .ok (.iadd, 1) := by decide +kernel
theorem dX2_together_108 : decode cX2_together 108 = .ok (.iload_n 3, 1) := by decide +kernel
theorem dX2_together_109 : decode cX2_together 109 = .ok (.iload 5, 2) := by decide +kernel
theorem dX2_together_111 : decode cX2_together 111 = .ok (.iadd, 1) := by decide +kernel
theorem dX2_together_112 : decode cX2_together 112 = .ok (.imul, 1) := by decide +kernel
theorem dX2_together_113 : decode cX2_together 113 = .ok (.istore 8, 2) := by decide +kernel
theorem dX2_together_115 : decode cX2_together 115 = .ok (.iload 7, 2) := by decide +kernel
theorem dX2_together_117 : decode cX2_together 117 = .ok (.ifCond .le 28, 3) := by decide +kernel
theorem dX2_together_120 : decode cX2_together 120 = .ok (.aload_n 0, 1) := by decide +kernel
theorem dX2_together_121 : decode cX2_together 121 = .ok (.getfield 10, 3) := by decide +kernel
theorem dX2_together_124 : decode cX2_together 124 = .ok (.getfield 49, 3) := by decide +kernel
theorem dX2_together_127 : decode cX2_together 127 = .ok (.iload_n 3, 1) := by decide +kernel
theorem dX2_together_128 : decode cX2_together 128 = .ok (.iload 4, 2) := by decide +kernel
theorem dX2_together_130 : decode cX2_together 130 = .ok (.iadd, 1) := by decide +kernel
theorem dX2_together_131 : decode cX2_together 131 = .ok (.iload_n 3, 1) := by decide +kernel
theorem dX2_together_132 : decode cX2_together 132 = .ok (.iload 5, 2) := by decide +kernel
theorem dX2_together_134 : decode cX2_together 134 = .ok (.iadd, 1) := by decide +kernel
theorem dX2_together_135 : decode cX2_together 135 = .ok (.invokestatic 110, 3) := by decide +kernel
theorem dX2_together_138 : decode cX2_together 138 = .ok (.imul, 1) := by decide +kernel
theorem dX2_together_139 : decode cX2_together 139 = .ok (.iload 8, 2) := by decide +kernel
theorem dX2_together_141 : decode cX2_together 141 = .ok (.isub, 1) := by decide +kernel
theorem dX2_together_142 : decode cX2_together 142 = .ok (.goto 22, 3) := by decide +kernel
theorem dX2_together_145 : decode cX2_together 145 = .ok (.iload 8, 2) := by decide +kernel
theorem dX2_together_147 : decode cX2_together 147 = .ok (.aload_n 0, 1) := by decide +kernel
theorem dX2_together_148 : decode cX2_together 148 = .ok (.getfield 10, 3) := by decide +kernel
theorem dX2_together_151 : decode cX2_together 151 = .ok (.getfield 49, 3) := by decide +kernel
theorem dX2_together_154 : decode cX2_together 154 = .ok (.iload_n 3, 1) := by decide +kernel
theorem dX2_together_155 : decode cX2_together 155 = .ok (.iload 6, 2) := by decide +kernel
theorem dX2_together_157 : decode cX2_together 157 = .ok (.isub, 1) := by decide +kernel
theorem dX2_together_158 : decode cX2_together 158 = .ok (.iconst 0, 1) := by decide +kernel
theorem dX2_together_159 : decode cX2_together 159 = .ok (.invokestatic 116, 3) := by decide +kernel
theorem dX2_together_162 : decode cX2_together 162 = .ok (.imul, 1) := by decide +kernel
theorem dX2_together_163 : decode cX2_together 163 = .ok (.isub, 1) := by decide +kernel
theorem dX2_together_164 : decode cX2_together 164 = .ok (.istore 9, 2) := by decide +kernel
theorem dX2_together_166 : decode cX2_together 166 = .ok (.iload 7, 2) := by decide +kernel
theorem dX2_together_168 : decode cX2_together 168 = .ok (.ifCond .eq 8, 3) := by decide +kernel
theorem dX2_together_171 : decode cX2_together 171 = .ok (.iload 9, 2) := by decide +kernel
theorem dX2_together_173 : decode cX2_together 173 = .ok (.ifCond .ne 5, 3) := by decide +kernel
theorem dX2_together_176 : decode cX2_together 176 = .ok (.iconst 0, 1) := by decide +kernel
theorem dX2_together_177 : decode cX2_together 177 = .ok (.ireturn, 1) := by decide +kernel
theorem dX2_together_178 : decode cX2_together 178 = .ok (.sipush 1000, 3) := by decide +kernel
theorem dX2_together_181 : decode cX2_together 181 = .ok (.iload 7, 2) := by decide +kernel
theorem dX2_together_183 : decode cX2_together 183 = .ok (.imul, 1) := by decide +kernel
theorem dX2_together_184 : decode cX2_together 184 = .ok (.iload 9, 2) := by decide +kernel
theorem dX2_together_186 : decode cX2_together 186 = .ok (.idiv, 1) := by decide +kernel
theorem dX2_together_187 : decode cX2_together 187 = .ok (.ireturn, 1) := by decide +kernel
set_option maxRecDepth 20000 in
theorem ggX2_miss_X2_isWithin : GoodIn wsX2_miss wsX2_isWithin := goodIn_r _ [8] (by decide +kernel) (by decide +kernel)
set_option maxRecDepth 20000 in
theorem gX2_miss_X2_isWithin : GoodIn wsX2_miss (va_wsS RX2 89 yX2_isWithin wsX2_isWithin) := goodIn_app (goodIn_of _ (by decide +kernel)) ggX2_miss_X2_isWithin
set_option maxRecDepth 20000 in
theorem ggX2_miss_X2_isSource : GoodIn wsX2_miss wsX2_isSource := goodIn_r _ [11, 5, 6, 7, 8] (by decide +kernel) (by decide +kernel)
set_option maxRecDepth 20000 in
theorem gX2_miss_X2_isSource : GoodIn wsX2_miss (va_wsS RX2 60 yX2_isSource wsX2_isSource) := goodIn_app (goodIn_of _ (by decide +kernel)) ggX2_miss_X2_isSource
set_option maxRecDepth 20000 in
theorem ggX2_miss_X1_ofSource : GoodIn wsX2_miss wsX1_ofSource := goodIn_r _ [15, 16, 7, 17, 18, 19, 20, 21, 13, 22, 23, 24, 25, 26, 27, 28, 29, 30, 31, 32, 33, 34, 35, 36, 37, 38, 39, 40, 83, 84] (by decide +kernel) (by decide +kernel)
set_option maxRecDepth 20000 in
theorem gX2_miss_X1_ofSource_n66 : GoodIn wsX2_miss (wsX1_ofSource) := ggX2_miss_X1_ofSource
set_option maxRecDepth 20000 in
theorem ggX2_miss_X1_shifted : GoodIn wsX2_miss wsX1_shifted := goodIn_r _ [43, 32, 44, 45, 46, 13, 47, 16, 7, 17, 18, 83, 84] (by decide +kernel) (by decide +kernel)
set_option maxRecDepth 20000 in
theorem gX2_miss_X1_shifted_n97 : GoodIn wsX2_miss (wsX1_shifted) := ggX2_miss_X1_shifted
set_option maxRecDepth 20000 in
theorem ggX2_miss_X2_greatestMiss : GoodIn wsX2_miss wsX2_greatestMiss := goodIn_r _ [51, 2, 3, 4, 52, 53, 54, 55, 56, 57, 58, 16, 7, 17, 18, 59, 60, 61, 62, 63, 64, 65, 66, 67, 68, 69, 70, 71, 72, 73, 74, 75, 76, 77, 78, 79, 80, 81, 82, 83, 84] (by decide +kernel) (by decide +kernel)
set_option maxRecDepth 20000 in
theorem gX2_miss_X2_greatestMiss : GoodIn wsX2_miss (wsV RX2 119 RX2 yX2_greatestMiss wsX2_greatestMiss) := goodIn_app (goodIn_of _ (by decide +kernel)) ggX2_miss_X2_greatestMiss
theorem dX2_miss_0 : decode cX2_miss 0 = .ok (.iload_n 1, 1) := by decide +kernel
theorem dX2_miss_1 : decode cX2_miss 1 = .ok (.iconst 0, 1) := by decide +kernel
theorem dX2_miss_2 : decode cX2_miss 2 = .ok (.iconst 3, 1) := by decide +kernel
theorem dX2_miss_3 : decode cX2_miss 3 = .ok (.invokestatic 89, 3) := by decide +kernel
theorem dX2_miss_6 : decode cX2_miss 6 = .ok (.ifCond .eq 28, 3) := by decide +kernel
theorem dX2_miss_9 : decode cX2_miss 9 = .ok (.iload_n 2, 1) := by decide +kernel
theorem dX2_miss_10 : decode cX2_miss 10 = .ok (.invokestatic 60, 3) := by decide +kernel
theorem dX2_miss_13 : decode cX2_miss 13 = .ok (.ifCond .eq 21, 3) := by decide +kernel
theorem dX2_miss_16 : decode cX2_miss 16 = .ok (.iload_n 3, 1) := by decide +kernel
theorem dX2_miss_17 : decode cX2_miss 17 = .ok (.invokestatic 60, 3) := by decide +kernel
theorem dX2_miss_20 : decode cX2_miss 20 = .ok (.ifCond .eq 14, 3) := by decide +kernel
theorem dX2_miss_23 : decode cX2_miss 23 = .ok (.iload 4, 2) := by decide +kernel
theorem dX2_miss_25 : decode cX2_miss 25 = .ok (.iconst 0, 1) := by decide +kernel
theorem dX2_miss_26 : decode cX2_miss 26 = .ok (.bipush 63, 2) := by decide +kernel
theorem dX2_miss_28 : decode cX2_miss 28 = .ok (.invokestatic 89, 3) := by decide +kernel
theorem dX2_miss_31 : decode cX2_miss 31 = .ok (.ifCond .ne 6, 3) := by decide +kernel
theorem dX2_miss_34 : decode cX2_miss 34 = .ok (.bipush (-102), 2) := by decide +kernel
theorem dX2_miss_36 : decode cX2_miss 36 = .ok (.ireturn, 1) := by decide +kernel
theorem dX2_miss_37 : decode cX2_miss 37 = .ok (.aload_n 0, 1) := by decide +kernel
theorem dX2_miss_38 : decode cX2_miss 38 = .ok (.getfield 40, 3) := by decide +kernel
theorem dX2_miss_41 : decode cX2_miss 41 = .ok (.bipush 60, 2) := by decide +kernel
theorem dX2_miss_43 : decode cX2_miss 43 = .ok (.if_icmp .lt 6, 3) := by decide +kernel
theorem dX2_miss_46 : decode cX2_miss 46 = .ok (.bipush (-103), 2) := by decide +kernel
theorem dX2_miss_48 : decode cX2_miss 48 = .ok (.ireturn, 1) := by decide +kernel
theorem dX2_miss_49 : decode cX2_miss 49 = .ok (.aload_n 0, 1) := by decide +kernel
theorem dX2_miss_50 : decode cX2_miss 50 = .ok (.dup, 1) := by decide +kernel
theorem dX2_miss_51 : decode cX2_miss 51 = .ok (.getfield 40, 3) := by decide +kernel
theorem dX2_miss_54 : decode cX2_miss 54 = .ok (.iconst 1, 1) := by decide +kernel
theorem dX2_miss_55 : decode cX2_miss 55 = .ok (.iadd, 1) := by decide +kernel
theorem dX2_miss_56 : decode cX2_miss 56 = .ok (.putfield 40, 3) := by decide +kernel
theorem dX2_miss_59 : decode cX2_miss 59 = .ok (.iconst 0, 1) := by decide +kernel
theorem dX2_miss_60 : decode cX2_miss 60 = .ok (.istore 5, 2) := by decide +kernel
theorem dX2_miss_62 : decode cX2_miss 62 = .ok (.iload 5, 2) := by decide +kernel
theorem dX2_miss_64 : decode cX2_miss 64 = .ok (.aload_n 0, 1) := by decide +kernel
theorem dX2_miss_65 : decode cX2_miss 65 = .ok (.getfield 10, 3) := by decide +kernel
theorem dX2_miss_68 : decode cX2_miss 68 = .ok (.getfield 49, 3) := by decide +kernel
theorem dX2_miss_71 : decode cX2_miss 71 = .ok (.if_icmp .gt 52, 3) := by decide +kernel
theorem dX2_miss_74 : decode cX2_miss 74 = .ok (.aload_n 0, 1) := by decide +kernel
theorem dX2_miss_75 : decode cX2_miss 75 = .ok (.getfield 27, 3) := by decide +kernel
theorem dX2_miss_78 : decode cX2_miss 78 = .ok (.iload 5, 2) := by decide +kernel
theorem dX2_miss_80 : decode cX2_miss 80 = .ok (.aload_n 0, 1) := by decide +kernel
theorem dX2_miss_81 : decode cX2_miss 81 = .ok (.getfield 10, 3) := by decide +kernel
theorem dX2_miss_84 : decode cX2_miss 84 = .ok (.iload_n 2, 1) := by decide +kernel
theorem dX2_miss_85 : decode cX2_miss 85 = .ok (.iload 5, 2) := by decide +kernel
theorem dX2_miss_87 : decode cX2_miss 87 = .ok (.invokevirtual 66, 3) := by decide +kernel
theorem dX2_miss_90 : decode cX2_miss 90 = .ok (.lastore, 1) := by decide +kernel
theorem dX2_miss_91 : decode cX2_miss 91 = .ok (.aload_n 0, 1) := by decide +kernel
theorem dX2_miss_92 : decode cX2_miss 92 = .ok (.getfield 30, 3) := by decide +kernel
theorem dX2_miss_95 : decode cX2_miss 95 = .ok (.iload 5, 2) := by decide +kernel
theorem dX2_miss_97 : decode cX2_miss 97 = .ok (.aload_n 0, 1) := by decide +kernel
theorem dX2_miss_98 : decode cX2_miss 98 = .ok (.getfield 10, 3) := by decide +kernel
theorem dX2_miss_101 : decode cX2_miss 101 = .ok (.aload_n 0, 1) := by decide +kernel
theorem dX2_miss_102 : decode cX2_miss 102 = .ok (.getfield 10, 3) := by decide +kernel
theorem dX2_miss_105 : decode cX2_miss 105 = .ok (.iload_n 3, 1) := by decide +kernel
theorem dX2_miss_106 : decode cX2_miss 106 = .ok (.iload 5, 2) := by decide +kernel
theorem dX2_miss_108 : decode cX2_miss 108 = .ok (.invokevirtual 66, 3) := by decide +kernel
theorem dX2_miss_111 : decode cX2_miss 111 = .ok (.iload 4, 2) := by decide +kernel
theorem dX2_miss_113 : decode cX2_miss 113 = .ok (.invokevirtual 97, 3) := by decide +kernel
theorem dX2_miss_116 : decode cX2_miss 116 = .ok (.lastore, 1) := by decide +kernel
theorem dX2_miss_117 : decode cX2_miss 117 = .ok (.iinc 5 1, 3) := by decide +kernel
theorem dX2_miss_120 : decode cX2_miss 120 = .ok (.goto (-58), 3) := by decide +kernel
theorem dX2_miss_123 : decode cX2_miss 123 = .ok (.aload_n 0, 1) := by decide +kernel
theorem dX2_miss_124 : decode cX2_miss 124 = .ok (.iload_n 1, 1) := by decide +kernel
theorem dX2_miss_125 : decode cX2_miss 125 = .ok (.invokevirtual 119, 3) := by decide +kernel
theorem dX2_miss_128 : decode cX2_miss 128 = .ok (.ireturn, 1) := by decide +kernel
set_option maxRecDepth 20000 in
theorem ggX2_where_X2_isWithin : GoodIn wsX2_where wsX2_isWithin := goodIn_r _ [7] (by decide +kernel) (by decide +kernel)
set_option maxRecDepth 20000 in
theorem gX2_where_X2_isWithin : GoodIn wsX2_where (va_wsS RX2 89 yX2_isWithin wsX2_isWithin) := goodIn_app (goodIn_of _ (by decide +kernel)) ggX2_where_X2_isWithin
theorem dX2_where_0 : decode cX2_where 0 = .ok (.aload_n 0, 1) := by decide +kernel
theorem dX2_where_1 : decode cX2_where 1 = .ok (.getfield 40, 3) := by decide +kernel
theorem dX2_where_4 : decode cX2_where 4 = .ok (.ifCond .ne 6, 3) := by decide +kernel
theorem dX2_where_7 : decode cX2_where 7 = .ok (.bipush (-103), 2) := by decide +kernel
theorem dX2_where_9 : decode cX2_where 9 = .ok (.ireturn, 1) := by decide +kernel
theorem dX2_where_10 : decode cX2_where 10 = .ok (.iload_n 1, 1) := by decide +kernel
theorem dX2_where_11 : decode cX2_where 11 = .ok (.iconst 0, 1) := by decide +kernel
theorem dX2_where_12 : decode cX2_where 12 = .ok (.iconst 1, 1) := by decide +kernel
theorem dX2_where_13 : decode cX2_where 13 = .ok (.invokestatic 89, 3) := by decide +kernel
theorem dX2_where_16 : decode cX2_where 16 = .ok (.ifCond .ne 6, 3) := by decide +kernel
theorem dX2_where_19 : decode cX2_where 19 = .ok (.bipush (-102), 2) := by decide +kernel
theorem dX2_where_21 : decode cX2_where 21 = .ok (.ireturn, 1) := by decide +kernel
theorem dX2_where_22 : decode cX2_where 22 = .ok (.iload_n 1, 1) := by decide +kernel
theorem dX2_where_23 : decode cX2_where 23 = .ok (.ifCond .ne 10, 3) := by decide +kernel
theorem dX2_where_26 : decode cX2_where 26 = .ok (.aload_n 0, 1) := by decide +kernel
theorem dX2_where_27 : decode cX2_where 27 = .ok (.getfield 43, 3) := by decide +kernel
theorem dX2_where_30 : decode cX2_where 30 = .ok (.goto 7, 3) := by decide +kernel
theorem dX2_where_33 : decode cX2_where 33 = .ok (.aload_n 0, 1) := by decide +kernel
theorem dX2_where_34 : decode cX2_where 34 = .ok (.getfield 46, 3) := by decide +kernel
theorem dX2_where_37 : decode cX2_where 37 = .ok (.ireturn, 1) := by decide +kernel
set_option maxRecDepth 20000 in
theorem ggX2_machine_X2_isStream : GoodIn wsX2_machine wsX2_isStream := goodIn_r _ [5, 6, 7, 4, 8] (by decide +kernel) (by decide +kernel)
set_option maxRecDepth 20000 in
theorem gX2_machine_X2_isStream : GoodIn wsX2_machine (va_wsS RX2 56 yX2_isStream wsX2_isStream) := goodIn_app (goodIn_of _ (by decide +kernel)) ggX2_machine_X2_isStream
set_option maxRecDepth 20000 in
theorem ggX2_machine_X2_isMachine : GoodIn wsX2_machine wsX2_isMachine := goodIn_r _ [11, 6, 7, 4, 8] (by decide +kernel) (by decide +kernel)
set_option maxRecDepth 20000 in
theorem gX2_machine_X2_isMachine : GoodIn wsX2_machine (va_wsS RX2 123 yX2_isMachine wsX2_isMachine) := goodIn_app (goodIn_of _ (by decide +kernel)) ggX2_machine_X2_isMachine
set_option maxRecDepth 20000 in
theorem ggX2_machine_X2_ranThrough : GoodIn wsX2_machine wsX2_ranThrough := goodIn_r _ [15, 16, 17, 18, 19, 20, 21, 22, 23, 24, 25, 26, 4, 27, 28, 29, 30, 46, 47, 48, 49, 50, 51, 52, 53, 54, 55, 56, 57] (by decide +kernel) (by decide +kernel)
set_option maxRecDepth 20000 in
theorem gX2_machine_X2_ranThrough : GoodIn wsX2_machine (wsV RX2 126 RX2 yX2_ranThrough wsX2_ranThrough) := goodIn_app (goodIn_of _ (by decide +kernel)) ggX2_machine_X2_ranThrough
set_option maxRecDepth 20000 in
theorem ggX2_machine_X2_setStream : GoodIn wsX2_machine wsX2_setStream := goodIn_r _ [34, 1, 16, 35, 36, 4, 37, 38, 39, 40, 41, 42, 43, 44, 45, 46, 47, 48, 49, 50, 51, 52, 53, 54, 55, 56, 57] (by decide +kernel) (by decide +kernel)
set_option maxRecDepth 20000 in
theorem gX2_machine_X2_setStream : GoodIn wsX2_machine (wsV RX2 70 RX2 yX2_setStream wsX2_setStream) := goodIn_app (goodIn_of _ (by decide +kernel)) ggX2_machine_X2_setStream
theorem dX2_machine_0 : decode cX2_machine 0 = .ok (.iload_n 1, 1) := by decide +kernel
theorem dX2_machine_1 : decode cX2_machine 1 = .ok (.invokestatic 56, 3) := by decide +kernel
theorem dX2_machine_4 : decode cX2_machine 4 = .ok (.ifCond .eq 10, 3) := by decide +kernel
theorem dX2_machine_7 : decode cX2_machine 7 = .ok (.iload_n 3, 1) := by decide +kernel
theorem dX2_machine_8 : decode cX2_machine 8 = .ok (.invokestatic 56, 3) := by decide +kernel
theorem dX2_machine_11 : decode cX2_machine 11 = .ok (.ifCond .ne 6, 3) := by decide +kernel
theorem dX2_machine_14 : decode cX2_machine 14 = .ok (.bipush (-101), 2) := by decide +kernel
theorem dX2_machine_16 : decode cX2_machine 16 = .ok (.ireturn, 1) := by decide +kernel
theorem dX2_machine_17 : decode cX2_machine 17 = .ok (.iload_n 2, 1) := by decide +kernel
theorem dX2_machine_18 : decode cX2_machine 18 = .ok (.invokestatic 123, 3) := by decide +kernel
theorem dX2_machine_21 : decode cX2_machine 21 = .ok (.ifCond .ne 6, 3) := by decide +kernel
theorem dX2_machine_24 : decode cX2_machine 24 = .ok (.bipush (-102), 2) := by decide +kernel
theorem dX2_machine_26 : decode cX2_machine 26 = .ok (.ireturn, 1) := by decide +kernel
theorem dX2_machine_27 : decode cX2_machine 27 = .ok (.aload_n 0, 1) := by decide +kernel
theorem dX2_machine_28 : decode cX2_machine 28 = .ok (.iload_n 3, 1) := by decide +kernel
theorem dX2_machine_29 : decode cX2_machine 29 = .ok (.aload_n 0, 1) := by decide +kernel
theorem dX2_machine_30 : decode cX2_machine 30 = .ok (.aload_n 0, 1) := by decide +kernel
theorem dX2_machine_31 : decode cX2_machine 31 = .ok (.getfield 23, 3) := by decide +kernel
theorem dX2_machine_34 : decode cX2_machine 34 = .ok (.iload_n 1, 1) := by decide +kernel
theorem dX2_machine_35 : decode cX2_machine 35 = .ok (.laload, 1) := by decide +kernel
theorem dX2_machine_36 : decode cX2_machine 36 = .ok (.iload_n 2, 1) := by decide +kernel
theorem dX2_machine_37 : decode cX2_machine 37 = .ok (.invokevirtual 126, 3) := by decide +kernel
theorem dX2_machine_40 : decode cX2_machine 40 = .ok (.invokevirtual 70, 3) := by decide +kernel
theorem dX2_machine_43 : decode cX2_machine 43 = .ok (.ireturn, 1) := by decide +kernel
theorem dX2_state_0 : decode cX2_state 0 = .ok (.aload_n 0, 1) := by decide +kernel
theorem dX2_state_1 : decode cX2_state 1 = .ok (.getfield 36, 3) := by decide +kernel
theorem dX2_state_4 : decode cX2_state 4 = .ok (.ireturn, 1) := by decide +kernel
set_option maxRecDepth 20000 in
theorem ggX2_ever_X2_isMachine : GoodIn wsX2_ever wsX2_isMachine := goodIn_r _ [6, 7, 8, 5, 9] (by decide +kernel) (by decide +kernel)
set_option maxRecDepth 20000 in
theorem gX2_ever_X2_isMachine : GoodIn wsX2_ever (va_wsS RX2 123 yX2_isMachine wsX2_isMachine) := goodIn_app (goodIn_of _ (by decide +kernel)) ggX2_ever_X2_isMachine
set_option maxRecDepth 20000 in
theorem ggX2_ever_X2_isValue : GoodIn wsX2_ever wsX2_isValue := goodIn_r _ [13, 2, 7, 8, 5, 9, 33, 34, 35, 36, 37, 38, 39, 40, 41, 42, 43, 44] (by decide +kernel) (by decide +kernel)
set_option maxRecDepth 20000 in
theorem gX2_ever_X2_isValue : GoodIn wsX2_ever (wsV RX2 63 RX2 yX2_isValue wsX2_isValue) := goodIn_app (goodIn_of _ (by decide +kernel)) ggX2_ever_X2_isValue
set_option maxRecDepth 20000 in
theorem ggX2_ever_X2_isWithin : GoodIn wsX2_ever wsX2_isWithin := goodIn_r _ [9] (by decide +kernel) (by decide +kernel)
set_option maxRecDepth 20000 in
theorem gX2_ever_X2_isWithin : GoodIn wsX2_ever (va_wsS RX2 89 yX2_isWithin wsX2_isWithin) := goodIn_app (goodIn_of _ (by decide +kernel)) ggX2_ever_X2_isWithin
set_option maxRecDepth 20000 in
theorem ggX2_ever_X2_power : GoodIn wsX2_ever wsX2_power := goodIn_r _ [16] (by decide +kernel) (by decide +kernel)
set_option maxRecDepth 20000 in
theorem gX2_ever_X2_power : GoodIn wsX2_ever (va_wsS RX2 131 yX2_power wsX2_power) := goodIn_app (goodIn_of _ (by decide +kernel)) ggX2_ever_X2_power
set_option maxRecDepth 20000 in
theorem ggX2_ever_X2_isUpper : GoodIn wsX2_ever wsX2_isUpper := goodIn_r _ [19] (by decide +kernel) (by decide +kernel)
set_option maxRecDepth 20000 in
theorem gX2_ever_X2_isUpper : GoodIn wsX2_ever (va_wsS RX2 134 yX2_isUpper wsX2_isUpper) := goodIn_app (goodIn_of _ (by decide +kernel)) ggX2_ever_X2_isUpper
set_option maxRecDepth 20000 in
theorem ggX2_ever_X2_inLowestTerms : GoodIn wsX2_ever wsX2_inLowestTerms := goodIn_r _ [22, 23, 24, 25, 26, 27, 28, 5, 29, 30, 31, 32] (by decide +kernel) (by decide +kernel)
set_option maxRecDepth 20000 in
theorem gX2_ever_X2_inLowestTerms : GoodIn wsX2_ever (va_wsS RX2 138 yX2_inLowestTerms wsX2_inLowestTerms) := goodIn_app (goodIn_of _ (by decide +kernel)) ggX2_ever_X2_inLowestTerms
theorem dX2_ever_0 : decode cX2_ever 0 = .ok (.iload_n 1, 1) := by decide +kernel
theorem dX2_ever_1 : decode cX2_ever 1 = .ok (.invokestatic 123, 3) := by decide +kernel
theorem dX2_ever_4 : decode cX2_ever 4 = .ok (.ifCond .eq 20, 3) := by decide +kernel
theorem dX2_ever_7 : decode cX2_ever 7 = .ok (.aload_n 0, 1) := by decide +kernel
theorem dX2_ever_8 : decode cX2_ever 8 = .ok (.iload_n 2, 1) := by decide +kernel
theorem dX2_ever_9 : decode cX2_ever 9 = .ok (.invokevirtual 63, 3) := by decide +kernel
theorem dX2_ever_12 : decode cX2_ever 12 = .ok (.ifCond .eq 12, 3) := by decide +kernel
theorem dX2_ever_15 : decode cX2_ever 15 = .ok (.iload_n 3, 1) := by decide +kernel
theorem dX2_ever_16 : decode cX2_ever 16 = .ok (.iconst 0, 1) := by decide +kernel
theorem dX2_ever_17 : decode cX2_ever 17 = .ok (.iconst 1, 1) := by decide +kernel
theorem dX2_ever_18 : decode cX2_ever 18 = .ok (.invokestatic 89, 3) := by decide +kernel
theorem dX2_ever_21 : decode cX2_ever 21 = .ok (.ifCond .ne 7, 3) := by decide +kernel
theorem dX2_ever_24 : decode cX2_ever 24 = .ok (.ldc2_w 129, 3) := by decide +kernel
theorem dX2_ever_27 : decode cX2_ever 27 = .ok (.lreturn, 1) := by decide +kernel
theorem dX2_ever_28 : decode cX2_ever 28 = .ok (.lconst 0, 1) := by decide +kernel
theorem dX2_ever_29 : decode cX2_ever 29 = .ok (.lstore 4, 2) := by decide +kernel
theorem dX2_ever_31 : decode cX2_ever 31 = .ok (.lconst 0, 1) := by decide +kernel
theorem dX2_ever_32 : decode cX2_ever 32 = .ok (.lstore 6, 2) := by decide +kernel
theorem dX2_ever_34 : decode cX2_ever 34 = .ok (.iconst 0, 1) := by decide +kernel
