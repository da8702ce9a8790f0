theorem dX2_greatestMiss_26 : decode cX2_greatestMiss 26 = .ok (.istore 7, 2) := by decide +kernel
theorem dX2_greatestMiss_28 : decode cX2_greatestMiss 28 = .ok (.iload 7, 2) := by decide +kernel
theorem dX2_greatestMiss_30 : decode cX2_greatestMiss 30 = .ok (.iload_n 2, 1) := by decide +kernel
theorem dX2_greatestMiss_31 : decode cX2_greatestMiss 31 = .ok (.if_icmp .gt 77, 3) := by decide +kernel
theorem dX2_greatestMiss_34 : decode cX2_greatestMiss 34 = .ok (.iload_n 1, 1) := by decide +kernel
theorem dX2_greatestMiss_35 : decode cX2_greatestMiss 35 = .ok (.aload_n 0, 1) := by decide +kernel
theorem dX2_greatestMiss_36 : decode cX2_greatestMiss 36 = .ok (.getfield 27, 3) := by decide +kernel
theorem dX2_greatestMiss_39 : decode cX2_greatestMiss 39 = .ok (.iload 6, 2) := by decide +kernel
theorem dX2_greatestMiss_41 : decode cX2_greatestMiss 41 = .ok (.laload, 1) := by decide +kernel
theorem dX2_greatestMiss_42 : decode cX2_greatestMiss 42 = .ok (.aload_n 0, 1) := by decide +kernel
theorem dX2_greatestMiss_43 : decode cX2_greatestMiss 43 = .ok (.getfield 30, 3) := by decide +kernel
theorem dX2_greatestMiss_46 : decode cX2_greatestMiss 46 = .ok (.iload 7, 2) := by decide +kernel
theorem dX2_greatestMiss_48 : decode cX2_greatestMiss 48 = .ok (.laload, 1) := by decide +kernel
theorem dX2_greatestMiss_49 : decode cX2_greatestMiss 49 = .ok (.lconst 0, 1) := by decide +kernel
theorem dX2_greatestMiss_50 : decode cX2_greatestMiss 50 = .ok (.invokestatic 93, 3) := by decide +kernel
theorem dX2_greatestMiss_53 : decode cX2_greatestMiss 53 = .ok (.lload_n 3, 1) := by decide +kernel
theorem dX2_greatestMiss_54 : decode cX2_greatestMiss 54 = .ok (.land, 1) := by decide +kernel
theorem dX2_greatestMiss_55 : decode cX2_greatestMiss 55 = .ok (.lstore 8, 2) := by decide +kernel
theorem dX2_greatestMiss_57 : decode cX2_greatestMiss 57 = .ok (.lload 8, 2) := by decide +kernel
theorem dX2_greatestMiss_59 : decode cX2_greatestMiss 59 = .ok (.invokestatic 83, 3) := by decide +kernel
theorem dX2_greatestMiss_62 : decode cX2_greatestMiss 62 = .ok (.iload_n 2, 1) := by decide +kernel
theorem dX2_greatestMiss_63 : decode cX2_greatestMiss 63 = .ok (.imul, 1) := by decide +kernel
theorem dX2_greatestMiss_64 : decode cX2_greatestMiss 64 = .ok (.aload_n 0, 1) := by decide +kernel
theorem dX2_greatestMiss_65 : decode cX2_greatestMiss 65 = .ok (.iload_n 1, 1) := by decide +kernel
theorem dX2_greatestMiss_66 : decode cX2_greatestMiss 66 = .ok (.iload 6, 2) := by decide +kernel
theorem dX2_greatestMiss_68 : decode cX2_greatestMiss 68 = .ok (.iload 7, 2) := by decide +kernel
theorem dX2_greatestMiss_70 : decode cX2_greatestMiss 70 = .ok (.invokevirtual 178, 3) := by decide +kernel
theorem dX2_greatestMiss_73 : decode cX2_greatestMiss 73 = .ok (.isub, 1) := by decide +kernel
theorem dX2_greatestMiss_74 : decode cX2_greatestMiss 74 = .ok (.invokestatic 182, 3) := by decide +kernel
theorem dX2_greatestMiss_77 : decode cX2_greatestMiss 77 = .ok (.istore 10, 2) := by decide +kernel
theorem dX2_greatestMiss_79 : decode cX2_greatestMiss 79 = .ok (.iload 10, 2) := by decide +kernel
theorem dX2_greatestMiss_81 : decode cX2_greatestMiss 81 = .ok (.iload 5, 2) := by decide +kernel
theorem dX2_greatestMiss_83 : decode cX2_greatestMiss 83 = .ok (.if_icmp .le 19, 3) := by decide +kernel
theorem dX2_greatestMiss_86 : decode cX2_greatestMiss 86 = .ok (.iload 10, 2) := by decide +kernel
theorem dX2_greatestMiss_88 : decode cX2_greatestMiss 88 = .ok (.istore 5, 2) := by decide +kernel
theorem dX2_greatestMiss_90 : decode cX2_greatestMiss 90 = .ok (.aload_n 0, 1) := by decide +kernel
theorem dX2_greatestMiss_91 : decode cX2_greatestMiss 91 = .ok (.iload 6, 2) := by decide +kernel
theorem dX2_greatestMiss_93 : decode cX2_greatestMiss 93 = .ok (.putfield 43, 3) := by decide +kernel
theorem dX2_greatestMiss_96 : decode cX2_greatestMiss 96 = .ok (.aload_n 0, 1) := by decide +kernel
theorem dX2_greatestMiss_97 : decode cX2_greatestMiss 97 = .ok (.iload 7, 2) := by decide +kernel
theorem dX2_greatestMiss_99 : decode cX2_greatestMiss 99 = .ok (.putfield 46, 3) := by decide +kernel
theorem dX2_greatestMiss_102 : decode cX2_greatestMiss 102 = .ok (.iinc 7 1, 3) := by decide +kernel
theorem dX2_greatestMiss_105 : decode cX2_greatestMiss 105 = .ok (.goto (-77), 3) := by decide +kernel
theorem dX2_greatestMiss_108 : decode cX2_greatestMiss 108 = .ok (.iinc 6 1, 3) := by decide +kernel
theorem dX2_greatestMiss_111 : decode cX2_greatestMiss 111 = .ok (.goto (-92), 3) := by decide +kernel
theorem dX2_greatestMiss_114 : decode cX2_greatestMiss 114 = .ok (.iload 5, 2) := by decide +kernel
theorem dX2_greatestMiss_116 : decode cX2_greatestMiss 116 = .ok (.ireturn, 1) := by decide +kernel
theorem dX2_dueOnes_0 : decode cX2_dueOnes 0 = .ok (.aload_n 0, 1) := by decide +kernel
theorem dX2_dueOnes_1 : decode cX2_dueOnes 1 = .ok (.getfield 10, 3) := by decide +kernel
theorem dX2_dueOnes_4 : decode cX2_dueOnes 4 = .ok (.getfield 49, 3) := by decide +kernel
theorem dX2_dueOnes_7 : decode cX2_dueOnes 7 = .ok (.istore 4, 2) := by decide +kernel
theorem dX2_dueOnes_9 : decode cX2_dueOnes 9 = .ok (.iload_n 1, 1) := by decide +kernel
theorem dX2_dueOnes_10 : decode cX2_dueOnes 10 = .ok (.tableswitch 54 0 2 #[26, 30, 41], 26) := by decide +kernel
theorem dX2_dueOnes_36 : decode cX2_dueOnes 36 = .ok (.iload_n 2, 1) := by decide +kernel
theorem dX2_dueOnes_37 : decode cX2_dueOnes 37 = .ok (.iload_n 3, 1) := by decide +kernel
theorem dX2_dueOnes_38 : decode cX2_dueOnes 38 = .ok (.imul, 1) := by decide +kernel
theorem dX2_dueOnes_39 : decode cX2_dueOnes 39 = .ok (.ireturn, 1) := by decide +kernel
theorem dX2_dueOnes_40 : decode cX2_dueOnes 40 = .ok (.iload 4, 2) := by decide +kernel
theorem dX2_dueOnes_42 : decode cX2_dueOnes 42 = .ok (.iload_n 2, 1) := by decide +kernel
theorem dX2_dueOnes_43 : decode cX2_dueOnes 43 = .ok (.iload_n 3, 1) := by decide +kernel
theorem dX2_dueOnes_44 : decode cX2_dueOnes 44 = .ok (.iadd, 1) := by decide +kernel
theorem dX2_dueOnes_45 : decode cX2_dueOnes 45 = .ok (.imul, 1) := by decide +kernel
theorem dX2_dueOnes_46 : decode cX2_dueOnes 46 = .ok (.iload_n 2, 1) := by decide +kernel
theorem dX2_dueOnes_47 : decode cX2_dueOnes 47 = .ok (.iload_n 3, 1) := by decide +kernel
theorem dX2_dueOnes_48 : decode cX2_dueOnes 48 = .ok (.imul, 1) := by decide +kernel
theorem dX2_dueOnes_49 : decode cX2_dueOnes 49 = .ok (.isub, 1) := by decide +kernel
theorem dX2_dueOnes_50 : decode cX2_dueOnes 50 = .ok (.ireturn, 1) := by decide +kernel
theorem dX2_dueOnes_51 : decode cX2_dueOnes 51 = .ok (.iload 4, 2) := by decide +kernel
theorem dX2_dueOnes_53 : decode cX2_dueOnes 53 = .ok (.iload_n 2, 1) := by decide +kernel
theorem dX2_dueOnes_54 : decode cX2_dueOnes 54 = .ok (.iload_n 3, 1) := by decide +kernel
theorem dX2_dueOnes_55 : decode cX2_dueOnes 55 = .ok (.iadd, 1) := by decide +kernel
theorem dX2_dueOnes_56 : decode cX2_dueOnes 56 = .ok (.imul, 1) := by decide +kernel
theorem dX2_dueOnes_57 : decode cX2_dueOnes 57 = .ok (.iconst 2, 1) := by decide +kernel
theorem dX2_dueOnes_58 : decode cX2_dueOnes 58 = .ok (.iload_n 2, 1) := by decide +kernel
theorem dX2_dueOnes_59 : decode cX2_dueOnes 59 = .ok (.imul, 1) := by decide +kernel
theorem dX2_dueOnes_60 : decode cX2_dueOnes 60 = .ok (.iload_n 3, 1) := by decide +kernel
theorem dX2_dueOnes_61 : decode cX2_dueOnes 61 = .ok (.imul, 1) := by decide +kernel
theorem dX2_dueOnes_62 : decode cX2_dueOnes 62 = .ok (.isub, 1) := by decide +kernel
theorem dX2_dueOnes_63 : decode cX2_dueOnes 63 = .ok (.ireturn, 1) := by decide +kernel
theorem dX2_dueOnes_64 : decode cX2_dueOnes 64 = .ok (.iload 4, 2) := by decide +kernel
theorem dX2_dueOnes_66 : decode cX2_dueOnes 66 = .ok (.iload 4, 2) := by decide +kernel
theorem dX2_dueOnes_68 : decode cX2_dueOnes 68 = .ok (.imul, 1) := by decide +kernel
theorem dX2_dueOnes_69 : decode cX2_dueOnes 69 = .ok (.iload 4, 2) := by decide +kernel
theorem dX2_dueOnes_71 : decode cX2_dueOnes 71 = .ok (.iload_n 2, 1) := by decide +kernel
theorem dX2_dueOnes_72 : decode cX2_dueOnes 72 = .ok (.iload_n 3, 1) := by decide +kernel
theorem dX2_dueOnes_73 : decode cX2_dueOnes 73 = .ok (.iadd, 1) := by decide +kernel
theorem dX2_dueOnes_74 : decode cX2_dueOnes 74 = .ok (.imul, 1) := by decide +kernel
theorem dX2_dueOnes_75 : decode cX2_dueOnes 75 = .ok (.iconst 2, 1) := by decide +kernel
theorem dX2_dueOnes_76 : decode cX2_dueOnes 76 = .ok (.iload_n 2, 1) := by decide +kernel
theorem dX2_dueOnes_77 : decode cX2_dueOnes 77 = .ok (.imul, 1) := by decide +kernel
theorem dX2_dueOnes_78 : decode cX2_dueOnes 78 = .ok (.iload_n 3, 1) := by decide +kernel
theorem dX2_dueOnes_79 : decode cX2_dueOnes 79 = .ok (.imul, 1) := by decide +kernel
theorem dX2_dueOnes_80 : decode cX2_dueOnes 80 = .ok (.isub, 1) := by decide +kernel
theorem dX2_dueOnes_81 : decode cX2_dueOnes 81 = .ok (.isub, 1) := by decide +kernel
theorem dX2_dueOnes_82 : decode cX2_dueOnes 82 = .ok (.ireturn, 1) := by decide +kernel
theorem dX2_isUpper_0 : decode cX2_isUpper 0 = .ok (.iload_n 0, 1) := by decide +kernel
theorem dX2_isUpper_1 : decode cX2_isUpper 1 = .ok (.iload_n 1, 1) := by decide +kernel
theorem dX2_isUpper_2 : decode cX2_isUpper 2 = .ok (.iconst 2, 1) := by decide +kernel
theorem dX2_isUpper_3 : decode cX2_isUpper 3 = .ok (.idiv, 1) := by decide +kernel
theorem dX2_isUpper_4 : decode cX2_isUpper 4 = .ok (.if_icmp .lt 7, 3) := by decide +kernel
theorem dX2_isUpper_7 : decode cX2_isUpper 7 = .ok (.iconst 1, 1) := by decide +kernel
theorem dX2_isUpper_8 : decode cX2_isUpper 8 = .ok (.goto 4, 3) := by decide +kernel
theorem dX2_isUpper_11 : decode cX2_isUpper 11 = .ok (.iconst 0, 1) := by decide +kernel
theorem dX2_isUpper_12 : decode cX2_isUpper 12 = .ok (.ireturn, 1) := by decide +kernel
set_option maxRecDepth 20000 in
theorem ggX2_ranThrough_X2_bitOf : GoodIn wsX2_ranThrough wsX2_bitOf := goodIn_r _ [13] (by decide +kernel) (by decide +kernel)
set_option maxRecDepth 20000 in
theorem gX2_ranThrough_X2_bitOf : GoodIn wsX2_ranThrough (va_wsS RX2 77 yX2_bitOf wsX2_bitOf) := goodIn_app (goodIn_of _ (by decide +kernel)) ggX2_ranThrough_X2_bitOf
set_option maxRecDepth 20000 in
theorem ggX2_ranThrough_X2_isUpper : GoodIn wsX2_ranThrough wsX2_isUpper := goodIn_r _ [16] (by decide +kernel) (by decide +kernel)
set_option maxRecDepth 20000 in
theorem gX2_ranThrough_X2_isUpper : GoodIn wsX2_ranThrough (va_wsS RX2 134 yX2_isUpper wsX2_isUpper) := goodIn_app (goodIn_of _ (by decide +kernel)) ggX2_ranThrough_X2_isUpper
theorem dX2_ranThrough_0 : decode cX2_ranThrough 0 = .ok (.iload_n 3, 1) := by decide +kernel
theorem dX2_ranThrough_1 : decode cX2_ranThrough 1 = .ok (.iconst 2, 1) := by decide +kernel
theorem dX2_ranThrough_2 : decode cX2_ranThrough 2 = .ok (.idiv, 1) := by decide +kernel
theorem dX2_ranThrough_3 : decode cX2_ranThrough 3 = .ok (.iconst 1, 1) := by decide +kernel
theorem dX2_ranThrough_4 : decode cX2_ranThrough 4 = .ok (.isub, 1) := by decide +kernel
theorem dX2_ranThrough_5 : decode cX2_ranThrough 5 = .ok (.istore 4, 2) := by decide +kernel
theorem dX2_ranThrough_7 : decode cX2_ranThrough 7 = .ok (.lconst 0, 1) := by decide +kernel
theorem dX2_ranThrough_8 : decode cX2_ranThrough 8 = .ok (.lstore 5, 2) := by decide +kernel
theorem dX2_ranThrough_10 : decode cX2_ranThrough 10 = .ok (.iconst 0, 1) := by decide +kernel
theorem dX2_ranThrough_11 : decode cX2_ranThrough 11 = .ok (.istore 7, 2) := by decide +kernel
theorem dX2_ranThrough_13 : decode cX2_ranThrough 13 = .ok (.iload 7, 2) := by decide +kernel
theorem dX2_ranThrough_15 : decode cX2_ranThrough 15 = .ok (.aload_n 0, 1) := by decide +kernel
theorem dX2_ranThrough_16 : decode cX2_ranThrough 16 = .ok (.getfield 10, 3) := by decide +kernel
theorem dX2_ranThrough_19 : decode cX2_ranThrough 19 = .ok (.getfield 49, 3) := by decide +kernel
theorem dX2_ranThrough_22 : decode cX2_ranThrough 22 = .ok (.if_icmp .ge 60, 3) := by decide +kernel
theorem dX2_ranThrough_25 : decode cX2_ranThrough 25 = .ok (.lload_n 1, 1) := by decide +kernel
theorem dX2_ranThrough_26 : decode cX2_ranThrough 26 = .ok (.iload 7, 2) := by decide +kernel
theorem dX2_ranThrough_28 : decode cX2_ranThrough 28 = .ok (.invokestatic 77, 3) := by decide +kernel
theorem dX2_ranThrough_31 : decode cX2_ranThrough 31 = .ok (.iconst 1, 1) := by decide +kernel
theorem dX2_ranThrough_32 : decode cX2_ranThrough 32 = .ok (.if_icmp .ne 16, 3) := by decide +kernel
theorem dX2_ranThrough_35 : decode cX2_ranThrough 35 = .ok (.iload 4, 2) := by decide +kernel
theorem dX2_ranThrough_37 : decode cX2_ranThrough 37 = .ok (.iconst 1, 1) := by decide +kernel
theorem dX2_ranThrough_38 : decode cX2_ranThrough 38 = .ok (.iadd, 1) := by decide +kernel
theorem dX2_ranThrough_39 : decode cX2_ranThrough 39 = .ok (.iload_n 3, 1) := by decide +kernel
theorem dX2_ranThrough_40 : decode cX2_ranThrough 40 = .ok (.iconst 1, 1) := by decide +kernel
theorem dX2_ranThrough_41 : decode cX2_ranThrough 41 = .ok (.isub, 1) := by decide +kernel
theorem dX2_ranThrough_42 : decode cX2_ranThrough 42 = .ok (.invokestatic 110, 3) := by decide +kernel
theorem dX2_ranThrough_45 : decode cX2_ranThrough 45 = .ok (.goto 11, 3) := by decide +kernel
theorem dX2_ranThrough_48 : decode cX2_ranThrough 48 = .ok (.iload 4, 2) := by decide +kernel
theorem dX2_ranThrough_50 : decode cX2_ranThrough 50 = .ok (.iconst 1, 1) := by decide +kernel
theorem dX2_ranThrough_51 : decode cX2_ranThrough 51 = .ok (.isub, 1) := by decide +kernel
theorem dX2_ranThrough_52 : decode cX2_ranThrough 52 = .ok (.iconst 0, 1) := by decide +kernel
theorem dX2_ranThrough_53 : decode cX2_ranThrough 53 = .ok (.invokestatic 116, 3) := by decide +kernel
theorem dX2_ranThrough_56 : decode cX2_ranThrough 56 = .ok (.istore 4, 2) := by decide +kernel
theorem dX2_ranThrough_58 : decode cX2_ranThrough 58 = .ok (.iload 4, 2) := by decide +kernel
theorem dX2_ranThrough_60 : decode cX2_ranThrough 60 = .ok (.iload_n 3, 1) := by decide +kernel
theorem dX2_ranThrough_61 : decode cX2_ranThrough 61 = .ok (.invokestatic 134, 3) := by decide +kernel
theorem dX2_ranThrough_64 : decode cX2_ranThrough 64 = .ok (.ifCond .eq 12, 3) := by decide +kernel
theorem dX2_ranThrough_67 : decode cX2_ranThrough 67 = .ok (.lload 5, 2) := by decide +kernel
theorem dX2_ranThrough_69 : decode cX2_ranThrough 69 = .ok (.lconst 1, 1) := by decide +kernel
theorem dX2_ranThrough_70 : decode cX2_ranThrough 70 = .ok (.iload 7, 2) := by decide +kernel
theorem dX2_ranThrough_72 : decode cX2_ranThrough 72 = .ok (.lshl, 1) := by decide +kernel
theorem dX2_ranThrough_73 : decode cX2_ranThrough 73 = .ok (.lor, 1) := by decide +kernel
theorem dX2_ranThrough_74 : decode cX2_ranThrough 74 = .ok (.lstore 5, 2) := by decide +kernel
theorem dX2_ranThrough_76 : decode cX2_ranThrough 76 = .ok (.iinc 7 1, 3) := by decide +kernel
theorem dX2_ranThrough_79 : decode cX2_ranThrough 79 = .ok (.goto (-66), 3) := by decide +kernel
theorem dX2_ranThrough_82 : decode cX2_ranThrough 82 = .ok (.aload_n 0, 1) := by decide +kernel
theorem dX2_ranThrough_83 : decode cX2_ranThrough 83 = .ok (.iload 4, 2) := by decide +kernel
theorem dX2_ranThrough_85 : decode cX2_ranThrough 85 = .ok (.putfield 36, 3) := by decide +kernel
theorem dX2_ranThrough_88 : decode cX2_ranThrough 88 = .ok (.lload 5, 2) := by decide +kernel
theorem dX2_ranThrough_90 : decode cX2_ranThrough 90 = .ok (.lreturn, 1) := by decide +kernel
set_option maxRecDepth 20000 in
theorem ggX2_formed_X0_partBelow : GoodIn wsX2_formed wsX0_partBelow := goodIn_r _ [7, 8, 9, 10, 11, 5, 12, 13, 14, 15, 16, 42, 43, 44] (by decide +kernel) (by decide +kernel)
set_option maxRecDepth 20000 in
theorem gX2_formed_X0_partBelow_n158 : GoodIn wsX2_formed (wsX0_partBelow) := ggX2_formed_X0_partBelow
set_option maxRecDepth 20000 in
theorem ggX2_formed_X1_round : GoodIn wsX2_formed wsX1_round := goodIn_r _ [20, 21, 40, 41] (by decide +kernel) (by decide +kernel)
set_option maxRecDepth 20000 in
theorem gX2_formed_X1_round_n185 : GoodIn wsX2_formed (wsX1_round) := ggX2_formed_X1_round
set_option maxRecDepth 20000 in
theorem ggX2_formed_X2_bitOf : GoodIn wsX2_formed wsX2_bitOf := goodIn_r _ [25] (by decide +kernel) (by decide +kernel)
set_option maxRecDepth 20000 in
theorem gX2_formed_X2_bitOf : GoodIn wsX2_formed (va_wsS RX2 77 yX2_bitOf wsX2_bitOf) := goodIn_app (goodIn_of _ (by decide +kernel)) ggX2_formed_X2_bitOf
set_option maxRecDepth 20000 in
theorem ggX2_formed_X1_turned : GoodIn wsX2_formed wsX1_turned := goodIn_r _ [28, 29, 40, 41] (by decide +kernel) (by decide +kernel)
set_option maxRecDepth 20000 in
theorem gX2_formed_X1_turned_n188 : GoodIn wsX2_formed (wsX1_turned) := ggX2_formed_X1_turned
theorem dX2_formed_0 : decode cX2_formed 0 = .ok (.aload_n 0, 1) := by decide +kernel
theorem dX2_formed_1 : decode cX2_formed 1 = .ok (.getfield 19, 3) := by decide +kernel
theorem dX2_formed_4 : decode cX2_formed 4 = .ok (.iload_n 3, 1) := by decide +kernel
theorem dX2_formed_5 : decode cX2_formed 5 = .ok (.invokevirtual 158, 3) := by decide +kernel
theorem dX2_formed_8 : decode cX2_formed 8 = .ok (.lstore 4, 2) := by decide +kernel
theorem dX2_formed_10 : decode cX2_formed 10 = .ok (.lconst 0, 1) := by decide +kernel
theorem dX2_formed_11 : decode cX2_formed 11 = .ok (.lstore 6, 2) := by decide +kernel
theorem dX2_formed_13 : decode cX2_formed 13 = .ok (.iconst 0, 1) := by decide +kernel
theorem dX2_formed_14 : decode cX2_formed 14 = .ok (.istore 8, 2) := by decide +kernel
theorem dX2_formed_16 : decode cX2_formed 16 = .ok (.iload 8, 2) := by decide +kernel
theorem dX2_formed_18 : decode cX2_formed 18 = .ok (.aload_n 0, 1) := by decide +kernel
theorem dX2_formed_19 : decode cX2_formed 19 = .ok (.getfield 10, 3) := by decide +kernel
theorem dX2_formed_22 : decode cX2_formed 22 = .ok (.getfield 49, 3) := by decide +kernel
theorem dX2_formed_25 : decode cX2_formed 25 = .ok (.if_icmp .ge 90, 3) := by decide +kernel
theorem dX2_formed_28 : decode cX2_formed 28 = .ok (.iconst 0, 1) := by decide +kernel
theorem dX2_formed_29 : decode cX2_formed 29 = .ok (.istore 9, 2) := by decide +kernel
theorem dX2_formed_31 : decode cX2_formed 31 = .ok (.iconst 0, 1) := by decide +kernel
theorem dX2_formed_32 : decode cX2_formed 32 = .ok (.istore 10, 2) := by decide +kernel
theorem dX2_formed_34 : decode cX2_formed 34 = .ok (.iload 10, 2) := by decide +kernel
theorem dX2_formed_36 : decode cX2_formed 36 = .ok (.iload_n 3, 1) := by decide +kernel
theorem dX2_formed_37 : decode cX2_formed 37 = .ok (.if_icmp .ge 30, 3) := by decide +kernel
theorem dX2_formed_40 : decode cX2_formed 40 = .ok (.iload 9, 2) := by decide +kernel
theorem dX2_formed_42 : decode cX2_formed 42 = .ok (.lload_n 1, 1) := by decide +kernel
theorem dX2_formed_43 : decode cX2_formed 43 = .ok (.aload_n 0, 1) := by decide +kernel
theorem dX2_formed_44 : decode cX2_formed 44 = .ok (.getfield 10, 3) := by decide +kernel
theorem dX2_formed_47 : decode cX2_formed 47 = .ok (.iload 8, 2) := by decide +kernel
theorem dX2_formed_49 : decode cX2_formed 49 = .ok (.iload 10, 2) := by decide +kernel
theorem dX2_formed_51 : decode cX2_formed 51 = .ok (.iadd, 1) := by decide +kernel
theorem dX2_formed_52 : decode cX2_formed 52 = .ok (.invokevirtual 185, 3) := by decide +kernel
theorem dX2_formed_55 : decode cX2_formed 55 = .ok (.invokestatic 77, 3) := by decide +kernel
theorem dX2_formed_58 : decode cX2_formed 58 = .ok (.iadd, 1) := by decide +kernel
theorem dX2_formed_59 : decode cX2_formed 59 = .ok (.istore 9, 2) := by decide +kernel
theorem dX2_formed_61 : decode cX2_formed 61 = .ok (.iinc 10 1, 3) := by decide +kernel
theorem dX2_formed_64 : decode cX2_formed 64 = .ok (.goto (-30), 3) := by decide +kernel
theorem dX2_formed_67 : decode cX2_formed 67 = .ok (.aload_n 0, 1) := by decide +kernel
theorem dX2_formed_68 : decode cX2_formed 68 = .ok (.getfield 33, 3) := by decide +kernel
theorem dX2_formed_71 : decode cX2_formed 71 = .ok (.iload 9, 2) := by decide +kernel
theorem dX2_formed_73 : decode cX2_formed 73 = .ok (.laload, 1) := by decide +kernel
theorem dX2_formed_74 : decode cX2_formed 74 = .ok (.aload_n 0, 1) := by decide +kernel
theorem dX2_formed_75 : decode cX2_formed 75 = .ok (.getfield 10, 3) := by decide +kernel
theorem dX2_formed_78 : decode cX2_formed 78 = .ok (.getfield 49, 3) := by decide +kernel
theorem dX2_formed_81 : decode cX2_formed 81 = .ok (.i2l, 1) := by decide +kernel
theorem dX2_formed_82 : decode cX2_formed 82 = .ok (.lmul, 1) := by decide +kernel
theorem dX2_formed_83 : decode cX2_formed 83 = .ok (.aload_n 0, 1) := by decide +kernel
theorem dX2_formed_84 : decode cX2_formed 84 = .ok (.getfield 10, 3) := by decide +kernel
theorem dX2_formed_87 : decode cX2_formed 87 = .ok (.iload 8, 2) := by decide +kernel
theorem dX2_formed_89 : decode cX2_formed 89 = .ok (.invokevirtual 188, 3) := by decide +kernel
theorem dX2_formed_92 : decode cX2_formed 92 = .ok (.i2l, 1) := by decide +kernel
theorem dX2_formed_93 : decode cX2_formed 93 = .ok (.lload 4, 2) := by decide +kernel
theorem dX2_formed_95 : decode cX2_formed 95 = .ok (.lmul, 1) := by decide +kernel
theorem dX2_formed_96 : decode cX2_formed 96 = .ok (.lcmp, 1) := by decide +kernel
theorem dX2_formed_97 : decode cX2_formed 97 = .ok (.ifCond .le 12, 3) := by decide +kernel
theorem dX2_formed_100 : decode cX2_formed 100 = .ok (.lload 6, 2) := by decide +kernel
theorem dX2_formed_102 : decode cX2_formed 102 = .ok (.lconst 1, 1) := by decide +kernel
theorem dX2_formed_103 : decode cX2_formed 103 = .ok (.iload 8, 2) := by decide +kernel
theorem dX2_formed_105 : decode cX2_formed 105 = .ok (.lshl, 1) := by decide +kernel
theorem dX2_formed_106 : decode cX2_formed 106 = .ok (.lor, 1) := by decide +kernel
theorem dX2_formed_107 : decode cX2_formed 107 = .ok (.lstore 6, 2) := by decide +kernel
theorem dX2_formed_109 : decode cX2_formed 109 = .ok (.iinc 8 1, 3) := by decide +kernel
theorem dX2_formed_112 : decode cX2_formed 112 = .ok (.goto (-96), 3) := by decide +kernel
theorem dX2_formed_115 : decode cX2_formed 115 = .ok (.lload 6, 2) := by decide +kernel
theorem dX2_formed_117 : decode cX2_formed 117 = .ok (.lreturn, 1) := by decide +kernel
theorem dX2_power_0 : decode cX2_power 0 = .ok (.lconst 1, 1) := by decide +kernel
theorem dX2_power_1 : decode cX2_power 1 = .ok (.lstore_n 3, 1) := by decide +kernel
theorem dX2_power_2 : decode cX2_power 2 = .ok (.iconst 0, 1) := by decide +kernel
theorem dX2_power_3 : decode cX2_power 3 = .ok (.istore 5, 2) := by decide +kernel
theorem dX2_power_5 : decode cX2_power 5 = .ok (.iload 5, 2) := by decide +kernel
theorem dX2_power_7 : decode cX2_power 7 = .ok (.iload_n 2, 1) := by decide +kernel
theorem dX2_power_8 : decode cX2_power 8 = .ok (.if_icmp .ge 13, 3) := by decide +kernel
theorem dX2_power_11 : decode cX2_power 11 = .ok (.lload_n 3, 1) := by decide +kernel
theorem dX2_power_12 : decode cX2_power 12 = .ok (.lload_n 0, 1) := by decide +kernel
theorem dX2_power_13 : decode cX2_power 13 = .ok (.lmul, 1) := by decide +kernel
theorem dX2_power_14 : decode cX2_power 14 = .ok (.lstore_n 3, 1) := by decide +kernel
theorem dX2_power_15 : decode cX2_power 15 = .ok (.iinc 5 1, 3) := by decide +kernel
theorem dX2_power_18 : decode cX2_power 18 = .ok (.goto (-13), 3) := by decide +kernel
theorem dX2_power_21 : decode cX2_power 21 = .ok (.lload_n 3, 1) := by decide +kernel
theorem dX2_power_22 : decode cX2_power 22 = .ok (.lreturn, 1) := by decide +kernel
set_option maxRecDepth 20000 in
theorem ggX2_inLowestTerms_X2_commonDivisor : GoodIn wsX2_inLowestTerms wsX2_commonDivisor := goodIn_r _ [8, 9, 10, 3, 11] (by decide +kernel) (by decide +kernel)
set_option maxRecDepth 20000 in
theorem gX2_inLowestTerms_X2_commonDivisor : GoodIn wsX2_inLowestTerms (va_wsS RX2 194 yX2_commonDivisor wsX2_commonDivisor) := goodIn_app (goodIn_of _ (by decide +kernel)) ggX2_inLowestTerms_X2_commonDivisor
theorem dX2_inLowestTerms_0 : decode cX2_inLowestTerms 0 = .ok (.lload_n 0, 1) := by decide +kernel
theorem dX2_inLowestTerms_1 : decode cX2_inLowestTerms 1 = .ok (.invokestatic 191, 3) := by decide +kernel
theorem dX2_inLowestTerms_4 : decode cX2_inLowestTerms 4 = .ok (.lload_n 2, 1) := by decide +kernel
theorem dX2_inLowestTerms_5 : decode cX2_inLowestTerms 5 = .ok (.invokestatic 194, 3) := by decide +kernel
theorem dX2_inLowestTerms_8 : decode cX2_inLowestTerms 8 = .ok (.lstore 5, 2) := by decide +kernel
theorem dX2_inLowestTerms_10 : decode cX2_inLowestTerms 10 = .ok (.iload 4, 2) := by decide +kernel
theorem dX2_inLowestTerms_12 : decode cX2_inLowestTerms 12 = .ok (.ifCond .ne 10, 3) := by decide +kernel
theorem dX2_inLowestTerms_15 : decode cX2_inLowestTerms 15 = .ok (.lload_n 0, 1) := by decide +kernel
theorem dX2_inLowestTerms_16 : decode cX2_inLowestTerms 16 = .ok (.lload 5, 2) := by decide +kernel
theorem dX2_inLowestTerms_18 : decode cX2_inLowestTerms 18 = .ok (.ldiv, 1) := by decide +kernel
theorem dX2_inLowestTerms_19 : decode cX2_inLowestTerms 19 = .ok (.goto 7, 3) := by decide +kernel
theorem dX2_inLowestTerms_22 : decode cX2_inLowestTerms 22 = .ok (.lload_n 2, 1) := by decide +kernel
theorem dX2_inLowestTerms_23 : decode cX2_inLowestTerms 23 = .ok (.lload 5, 2) := by decide +kernel
theorem dX2_inLowestTerms_25 : decode cX2_inLowestTerms 25 = .ok (.ldiv, 1) := by decide +kernel
theorem dX2_inLowestTerms_26 : decode cX2_inLowestTerms 26 = .ok (.lreturn, 1) := by decide +kernel
theorem dX2_commonDivisor_0 : decode cX2_commonDivisor 0 = .ok (.iconst 0, 1) := by decide +kernel
theorem dX2_commonDivisor_1 : decode cX2_commonDivisor 1 = .ok (.istore 4, 2) := by decide +kernel
theorem dX2_commonDivisor_3 : decode cX2_commonDivisor 3 = .ok (.iload 4, 2) := by decide +kernel
theorem dX2_commonDivisor_5 : decode cX2_commonDivisor 5 = .ok (.bipush 100, 2) := by decide +kernel
theorem dX2_commonDivisor_7 : decode cX2_commonDivisor 7 = .ok (.if_icmp .ge 25, 3) := by decide +kernel
theorem dX2_commonDivisor_10 : decode cX2_commonDivisor 10 = .ok (.lload_n 2, 1) := by decide +kernel
theorem dX2_commonDivisor_11 : decode cX2_commonDivisor 11 = .ok (.lconst 0, 1) := by decide +kernel
theorem dX2_commonDivisor_12 : decode cX2_commonDivisor 12 = .ok (.lcmp, 1) := by decide +kernel
theorem dX2_commonDivisor_13 : decode cX2_commonDivisor 13 = .ok (.ifCond .eq 19, 3) := by decide +kernel
theorem dX2_commonDivisor_16 : decode cX2_commonDivisor 16 = .ok (.lload_n 0, 1) := by decide +kernel
theorem dX2_commonDivisor_17 : decode cX2_commonDivisor 17 = .ok (.lload_n 2, 1) := by decide +kernel
theorem dX2_commonDivisor_18 : decode cX2_commonDivisor 18 = .ok (.lrem, 1) := by decide +kernel
theorem dX2_commonDivisor_19 : decode cX2_commonDivisor 19 = .ok (.lstore 5, 2) := by decide +kernel
theorem dX2_commonDivisor_21 : decode cX2_commonDivisor 21 = .ok (.lload_n 2, 1) := by decide +kernel
theorem dX2_commonDivisor_22 : decode cX2_commonDivisor 22 = .ok (.lstore_n 0, 1) := by decide +kernel
theorem dX2_commonDivisor_23 : decode cX2_commonDivisor 23 = .ok (.lload 5, 2) := by decide +kernel
theorem dX2_commonDivisor_25 : decode cX2_commonDivisor 25 = .ok (.lstore_n 2, 1) := by decide +kernel
theorem dX2_commonDivisor_26 : decode cX2_commonDivisor 26 = .ok (.iinc 4 1, 3) := by decide +kernel
theorem dX2_commonDivisor_29 : decode cX2_commonDivisor 29 = .ok (.goto (-26), 3) := by decide +kernel
theorem dX2_commonDivisor_32 : decode cX2_commonDivisor 32 = .ok (.lload_n 0, 1) := by decide +kernel
theorem dX2_commonDivisor_33 : decode cX2_commonDivisor 33 = .ok (.lconst 1, 1) := by decide +kernel
theorem dX2_commonDivisor_34 : decode cX2_commonDivisor 34 = .ok (.invokestatic 198, 3) := by decide +kernel
theorem dX2_commonDivisor_37 : decode cX2_commonDivisor 37 = .ok (.lreturn, 1) := by decide +kernel
theorem dX3_init_0 : decode cX3_init 0 = .ok (.aload_n 0, 1) := by decide +kernel
theorem dX3_init_1 : decode cX3_init 1 = .ok (.invokespecial 1, 3) := by decide +kernel
theorem dX3_init_4 : decode cX3_init 4 = .ok (.aload_n 0, 1) := by decide +kernel
theorem dX3_init_5 : decode cX3_init 5 = .ok (.bipush 12, 2) := by decide +kernel
theorem dX3_init_7 : decode cX3_init 7 = .ok (.newarray .long, 2) := by decide +kernel
theorem dX3_init_9 : decode cX3_init 9 = .ok (.putfield 7, 3) := by decide +kernel
theorem dX3_init_12 : decode cX3_init 12 = .ok (.aload_n 0, 1) := by decide +kernel
theorem dX3_init_13 : decode cX3_init 13 = .ok (.bipush 65, 2) := by decide +kernel
theorem dX3_init_15 : decode cX3_init 15 = .ok (.newarray .long, 2) := by decide +kernel
theorem dX3_init_17 : decode cX3_init 17 = .ok (.putfield 13, 3) := by decide +kernel
theorem dX3_init_20 : decode cX3_init 20 = .ok (.aload_n 0, 1) := by decide +kernel
theorem dX3_init_21 : decode cX3_init 21 = .ok (.bipush 65, 2) := by decide +kernel
theorem dX3_init_23 : decode cX3_init 23 = .ok (.newarray .long, 2) := by decide +kernel
theorem dX3_init_25 : decode cX3_init 25 = .ok (.putfield 16, 3) := by decide +kernel
theorem dX3_init_28 : decode cX3_init 28 = .ok (.aload_n 0, 1) := by decide +kernel
theorem dX3_init_29 : decode cX3_init 29 = .ok (.iconst 5, 1) := by decide +kernel
theorem dX3_init_30 : decode cX3_init 30 = .ok (.newarray .int, 2) := by decide +kernel
theorem dX3_init_32 : decode cX3_init 32 = .ok (.putfield 19, 3) := by decide +kernel
theorem dX3_init_35 : decode cX3_init 35 = .ok (.aload_n 0, 1) := by decide +kernel
theorem dX3_init_36 : decode cX3_init 36 = .ok (.bipush 8, 2) := by decide +kernel
theorem dX3_init_38 : decode cX3_init 38 = .ok (.putfield 23, 3) := by decide +kernel
theorem dX3_init_41 : decode cX3_init 41 = .ok (.aload_n 0, 1) := by decide +kernel
theorem dX3_init_42 : decode cX3_init 42 = .ok (.iconst (-1), 1) := by decide +kernel
theorem dX3_init_43 : decode cX3_init 43 = .ok (.putfield 27, 3) := by decide +kernel
theorem dX3_init_46 : decode cX3_init 46 = .ok (.aload_n 0, 1) := by decide +kernel
theorem dX3_init_47 : decode cX3_init 47 = .ok (.iconst 1, 1) := by decide +kernel
theorem dX3_init_48 : decode cX3_init 48 = .ok (.putfield 30, 3) := by decide +kernel
theorem dX3_init_51 : decode cX3_init 51 = .ok (.return_, 1) := by decide +kernel
theorem dX3_in_0 : decode cX3_in 0 = .ok (.lload_n 0, 1) := by decide +kernel
theorem dX3_in_1 : decode cX3_in 1 = .ok (.lload_n 2, 1) := by decide +kernel
theorem dX3_in_2 : decode cX3_in 2 = .ok (.lcmp, 1) := by decide +kernel
theorem dX3_in_3 : decode cX3_in 3 = .ok (.ifCond .lt 14, 3) := by decide +kernel
theorem dX3_in_6 : decode cX3_in 6 = .ok (.lload_n 0, 1) := by decide +kernel
theorem dX3_in_7 : decode cX3_in 7 = .ok (.lload 4, 2) := by decide +kernel
theorem dX3_in_9 : decode cX3_in 9 = .ok (.lcmp, 1) := by decide +kernel
theorem dX3_in_10 : decode cX3_in 10 = .ok (.ifCond .gt 7, 3) := by decide +kernel
theorem dX3_in_13 : decode cX3_in 13 = .ok (.iconst 1, 1) := by decide +kernel
theorem dX3_in_14 : decode cX3_in 14 = .ok (.goto 4, 3) := by decide +kernel
theorem dX3_in_17 : decode cX3_in 17 = .ok (.iconst 0, 1) := by decide +kernel
theorem dX3_in_18 : decode cX3_in 18 = .ok (.ireturn, 1) := by decide +kernel
set_option maxRecDepth 20000 in
theorem ggX3_isStream_X3_in : GoodIn wsX3_isStream wsX3_in := goodIn_r _ [5] (by decide +kernel) (by decide +kernel)
set_option maxRecDepth 20000 in
theorem gX3_isStream_X3_in : GoodIn wsX3_isStream (va_wsS RX3 35 yX3_in wsX3_in) := goodIn_app (goodIn_of _ (by decide +kernel)) ggX3_isStream_X3_in
theorem dX3_isStream_0 : decode cX3_isStream 0 = .ok (.iload_n 0, 1) := by decide +kernel
theorem dX3_isStream_1 : decode cX3_isStream 1 = .ok (.i2l, 1) := by decide +kernel
theorem dX3_isStream_2 : decode cX3_isStream 2 = .ok (.lconst 0, 1) := by decide +kernel
theorem dX3_isStream_3 : decode cX3_isStream 3 = .ok (.ldc2_w 33, 3) := by decide +kernel
theorem dX3_isStream_6 : decode cX3_isStream 6 = .ok (.invokestatic 35, 3) := by decide +kernel
theorem dX3_isStream_9 : decode cX3_isStream 9 = .ok (.ireturn, 1) := by decide +kernel
theorem dX3_bitOf_0 : decode cX3_bitOf 0 = .ok (.lload_n 1, 1) := by decide +kernel
theorem dX3_bitOf_1 : decode cX3_bitOf 1 = .ok (.iload_n 3, 1) := by decide +kernel
theorem dX3_bitOf_2 : decode cX3_bitOf 2 = .ok (.lushr, 1) := by decide +kernel
theorem dX3_bitOf_3 : decode cX3_bitOf 3 = .ok (.l2i, 1) := by decide +kernel
theorem dX3_bitOf_4 : decode cX3_bitOf 4 = .ok (.iconst 1, 1) := by decide +kernel
theorem dX3_bitOf_5 : decode cX3_bitOf 5 = .ok (.iand, 1) := by decide +kernel
theorem dX3_bitOf_6 : decode cX3_bitOf 6 = .ok (.ireturn, 1) := by decide +kernel
set_option maxRecDepth 20000 in
theorem ggX3_onesOf_X3_bitOf : GoodIn wsX3_onesOf wsX3_bitOf := goodIn_r _ [6] (by decide +kernel) (by decide +kernel)
set_option maxRecDepth 20000 in
theorem gX3_onesOf_X3_bitOf : GoodIn wsX3_onesOf (wsV RX3 39 RX3 yX3_bitOf wsX3_bitOf) := goodIn_app (goodIn_of _ (by decide +kernel)) ggX3_onesOf_X3_bitOf
theorem dX3_onesOf_0 : decode cX3_onesOf 0 = .ok (.iconst 0, 1) := by decide +kernel
theorem dX3_onesOf_1 : decode cX3_onesOf 1 = .ok (.istore_n 3, 1) := by decide +kernel
theorem dX3_onesOf_2 : decode cX3_onesOf 2 = .ok (.iconst 0, 1) := by decide +kernel
theorem dX3_onesOf_3 : decode cX3_onesOf 3 = .ok (.istore 4, 2) := by decide +kernel
theorem dX3_onesOf_5 : decode cX3_onesOf 5 = .ok (.iload 4, 2) := by decide +kernel
theorem dX3_onesOf_7 : decode cX3_onesOf 7 = .ok (.aload_n 0, 1) := by decide +kernel
theorem dX3_onesOf_8 : decode cX3_onesOf 8 = .ok (.getfield 23, 3) := by decide +kernel
theorem dX3_onesOf_11 : decode cX3_onesOf 11 = .ok (.if_icmp .ge 19, 3) := by decide +kernel
theorem dX3_onesOf_14 : decode cX3_onesOf 14 = .ok (.iload_n 3, 1) := by decide +kernel
theorem dX3_onesOf_15 : decode cX3_onesOf 15 = .ok (.aload_n 0, 1) := by decide +kernel
theorem dX3_onesOf_16 : decode cX3_onesOf 16 = .ok (.lload_n 1, 1) := by decide +kernel
theorem dX3_onesOf_17 : decode cX3_onesOf 17 = .ok (.iload 4, 2) := by decide +kernel
theorem dX3_onesOf_19 : decode cX3_onesOf 19 = .ok (.invokevirtual 39, 3) := by decide +kernel
theorem dX3_onesOf_22 : decode cX3_onesOf 22 = .ok (.iadd, 1) := by decide +kernel
theorem dX3_onesOf_23 : decode cX3_onesOf 23 = .ok (.istore_n 3, 1) := by decide +kernel
theorem dX3_onesOf_24 : decode cX3_onesOf 24 = .ok (.iinc 4 1, 3) := by decide +kernel
theorem dX3_onesOf_27 : decode cX3_onesOf 27 = .ok (.goto (-22), 3) := by decide +kernel
theorem dX3_onesOf_30 : decode cX3_onesOf 30 = .ok (.iload_n 3, 1) := by decide +kernel
theorem dX3_onesOf_31 : decode cX3_onesOf 31 = .ok (.ireturn, 1) := by decide +kernel
theorem dX3_length_0 : decode cX3_length 0 = .ok (.iload_n 1, 1) := by decide +kernel
theorem dX3_length_1 : decode cX3_length 1 = .ok (.bipush 8, 2) := by decide +kernel
theorem dX3_length_3 : decode cX3_length 3 = .ok (.if_icmp .eq 24, 3) := by decide +kernel
theorem dX3_length_6 : decode cX3_length 6 = .ok (.iload_n 1, 1) := by decide +kernel
theorem dX3_length_7 : decode cX3_length 7 = .ok (.bipush 16, 2) := by decide +kernel
theorem dX3_length_9 : decode cX3_length 9 = .ok (.if_icmp .eq 18, 3) := by decide +kernel
theorem dX3_length_12 : decode cX3_length 12 = .ok (.iload_n 1, 1) := by decide +kernel
theorem dX3_length_13 : decode cX3_length 13 = .ok (.bipush 32, 2) := by decide +kernel
theorem dX3_length_15 : decode cX3_length 15 = .ok (.if_icmp .eq 12, 3) := by decide +kernel
theorem dX3_length_18 : decode cX3_length 18 = .ok (.iload_n 1, 1) := by decide +kernel
theorem dX3_length_19 : decode cX3_length 19 = .ok (.bipush 64, 2) := by decide +kernel
theorem dX3_length_21 : decode cX3_length 21 = .ok (.if_icmp .eq 6, 3) := by decide +kernel
theorem dX3_length_24 : decode cX3_length 24 = .ok (.bipush (-102), 2) := by decide +kernel
theorem dX3_length_26 : decode cX3_length 26 = .ok (.ireturn, 1) := by decide +kernel
theorem dX3_length_27 : decode cX3_length 27 = .ok (.aload_n 0, 1) := by decide +kernel
theorem dX3_length_28 : decode cX3_length 28 = .ok (.getfield 23, 3) := by decide +kernel
theorem dX3_length_31 : decode cX3_length 31 = .ok (.istore_n 2, 1) := by decide +kernel
theorem dX3_length_32 : decode cX3_length 32 = .ok (.aload_n 0, 1) := by decide +kernel
theorem dX3_length_33 : decode cX3_length 33 = .ok (.iload_n 1, 1) := by decide +kernel
theorem dX3_length_34 : decode cX3_length 34 = .ok (.putfield 23, 3) := by decide +kernel
theorem dX3_length_37 : decode cX3_length 37 = .ok (.iconst 0, 1) := by decide +kernel
theorem dX3_length_38 : decode cX3_length 38 = .ok (.istore_n 3, 1) := by decide +kernel
theorem dX3_length_39 : decode cX3_length 39 = .ok (.iload_n 3, 1) := by decide +kernel
theorem dX3_length_40 : decode cX3_length 40 = .ok (.bipush 12, 2) := by decide +kernel
theorem dX3_length_42 : decode cX3_length 42 = .ok (.if_icmp .ge 16, 3) := by decide +kernel
theorem dX3_length_45 : decode cX3_length 45 = .ok (.aload_n 0, 1) := by decide +kernel
theorem dX3_length_46 : decode cX3_length 46 = .ok (.getfield 7, 3) := by decide +kernel
theorem dX3_length_49 : decode cX3_length 49 = .ok (.iload_n 3, 1) := by decide +kernel
theorem dX3_length_50 : decode cX3_length 50 = .ok (.lconst 0, 1) := by decide +kernel
theorem dX3_length_51 : decode cX3_length 51 = .ok (.lastore, 1) := by decide +kernel
theorem dX3_length_52 : decode cX3_length 52 = .ok (.iinc 3 1, 3) := by decide +kernel
theorem dX3_length_55 : decode cX3_length 55 = .ok (.goto (-16), 3) := by decide +kernel
theorem dX3_length_58 : decode cX3_length 58 = .ok (.iload_n 2, 1) := by decide +kernel
theorem dX3_length_59 : decode cX3_length 59 = .ok (.ireturn, 1) := by decide +kernel
theorem dX3_round_0 : decode cX3_round 0 = .ok (.iconst 0, 1) := by decide +kernel
theorem dX3_round_1 : decode cX3_round 1 = .ok (.istore_n 2, 1) := by decide +kernel
theorem dX3_round_2 : decode cX3_round 2 = .ok (.iload_n 1, 1) := by decide +kernel
theorem dX3_round_3 : decode cX3_round 3 = .ok (.istore_n 3, 1) := by decide +kernel
theorem dX3_round_4 : decode cX3_round 4 = .ok (.iconst 1, 1) := by decide +kernel
theorem dX3_round_5 : decode cX3_round 5 = .ok (.istore 4, 2) := by decide +kernel
theorem dX3_round_7 : decode cX3_round 7 = .ok (.iload 4, 2) := by decide +kernel
theorem dX3_round_9 : decode cX3_round 9 = .ok (.aload_n 0, 1) := by decide +kernel
theorem dX3_round_10 : decode cX3_round 10 = .ok (.getfield 23, 3) := by decide +kernel
theorem dX3_round_13 : decode cX3_round 13 = .ok (.if_icmp .ge 24, 3) := by decide +kernel
theorem dX3_round_16 : decode cX3_round 16 = .ok (.iconst 2, 1) := by decide +kernel
theorem dX3_round_17 : decode cX3_round 17 = .ok (.iload_n 2, 1) := by decide +kernel
theorem dX3_round_18 : decode cX3_round 18 = .ok (.imul, 1) := by decide +kernel
theorem dX3_round_19 : decode cX3_round 19 = .ok (.iload_n 3, 1) := by decide +kernel
theorem dX3_round_20 : decode cX3_round 20 = .ok (.iconst 2, 1) := by decide +kernel
theorem dX3_round_21 : decode cX3_round 21 = .ok (.irem, 1) := by decide +kernel
theorem dX3_round_22 : decode cX3_round 22 = .ok (.iadd, 1) := by decide +kernel
theorem dX3_round_23 : decode cX3_round 23 = .ok (.istore_n 2, 1) := by decide +kernel
theorem dX3_round_24 : decode cX3_round 24 = .ok (.iload_n 3, 1) := by decide +kernel
theorem dX3_round_25 : decode cX3_round 25 = .ok (.iconst 2, 1) := by decide +kernel
theorem dX3_round_26 : decode cX3_round 26 = .ok (.idiv, 1) := by decide +kernel
theorem dX3_round_27 : decode cX3_round 27 = .ok (.istore_n 3, 1) := by decide +kernel
theorem dX3_round_28 : decode cX3_round 28 = .ok (.iload 4, 2) := by decide +kernel
theorem dX3_round_30 : decode cX3_round 30 = .ok (.iconst 2, 1) := by decide +kernel
theorem dX3_round_31 : decode cX3_round 31 = .ok (.imul, 1) := by decide +kernel
theorem dX3_round_32 : decode cX3_round 32 = .ok (.istore 4, 2) := by decide +kernel
theorem dX3_round_34 : decode cX3_round 34 = .ok (.goto (-27), 3) := by decide +kernel
theorem dX3_round_37 : decode cX3_round 37 = .ok (.iload_n 2, 1) := by decide +kernel
theorem dX3_round_38 : decode cX3_round 38 = .ok (.ireturn, 1) := by decide +kernel
set_option maxRecDepth 20000 in
theorem ggX3_sourceRow_X3_round : GoodIn wsX3_sourceRow wsX3_round := goodIn_r _ [6, 1, 7, 8, 9, 10, 11, 12, 13, 14, 15, 16, 17, 18, 19] (by decide +kernel) (by decide +kernel)
set_option maxRecDepth 20000 in
theorem gX3_sourceRow_X3_round : GoodIn wsX3_sourceRow (wsV RX3 43 RX3 yX3_round wsX3_round) := goodIn_app (goodIn_of _ (by decide +kernel)) ggX3_sourceRow_X3_round
theorem dX3_sourceRow_0 : decode cX3_sourceRow 0 = .ok (.lconst 0, 1) := by decide +kernel
theorem dX3_sourceRow_1 : decode cX3_sourceRow 1 = .ok (.lstore_n 3, 1) := by decide +kernel
theorem dX3_sourceRow_2 : decode cX3_sourceRow 2 = .ok (.aload_n 0, 1) := by decide +kernel
theorem dX3_sourceRow_3 : decode cX3_sourceRow 3 = .ok (.getfield 23, 3) := by decide +kernel
theorem dX3_sourceRow_6 : decode cX3_sourceRow 6 = .ok (.bipush 8, 2) := by decide +kernel
theorem dX3_sourceRow_8 : decode cX3_sourceRow 8 = .ok (.if_icmp .ne 8, 3) := by decide +kernel
theorem dX3_sourceRow_11 : decode cX3_sourceRow 11 = .ok (.bipush 6, 2) := by decide +kernel
theorem dX3_sourceRow_13 : decode cX3_sourceRow 13 = .ok (.goto 33, 3) := by decide +kernel
theorem dX3_sourceRow_16 : decode cX3_sourceRow 16 = .ok (.aload_n 0, 1) := by decide +kernel
theorem dX3_sourceRow_17 : decode cX3_sourceRow 17 = .ok (.getfield 23, 3) := by decide +kernel
theorem dX3_sourceRow_20 : decode cX3_sourceRow 20 = .ok (.bipush 16, 2) := by decide +kernel
theorem dX3_sourceRow_22 : decode cX3_sourceRow 22 = .ok (.if_icmp .ne 8, 3) := by decide +kernel
theorem dX3_sourceRow_25 : decode cX3_sourceRow 25 = .ok (.bipush 12, 2) := by decide +kernel
theorem dX3_sourceRow_27 : decode cX3_sourceRow 27 = .ok (.goto 19, 3) := by decide +kernel
theorem dX3_sourceRow_30 : decode cX3_sourceRow 30 = .ok (.aload_n 0, 1) := by decide +kernel
theorem dX3_sourceRow_31 : decode cX3_sourceRow 31 = .ok (.getfield 23, 3) := by decide +kernel
theorem dX3_sourceRow_34 : decode cX3_sourceRow 34 = .ok (.bipush 32, 2) := by decide +kernel
theorem dX3_sourceRow_36 : decode cX3_sourceRow 36 = .ok (.if_icmp .ne 8, 3) := by decide +kernel
theorem dX3_sourceRow_39 : decode cX3_sourceRow 39 = .ok (.bipush 20, 2) := by decide +kernel
theorem dX3_sourceRow_41 : decode cX3_sourceRow 41 = .ok (.goto 5, 3) := by decide +kernel
theorem dX3_sourceRow_44 : decode cX3_sourceRow 44 = .ok (.bipush 48, 2) := by decide +kernel
theorem dX3_sourceRow_46 : decode cX3_sourceRow 46 = .ok (.istore 5, 2) := by decide +kernel
theorem dX3_sourceRow_48 : decode cX3_sourceRow 48 = .ok (.iconst 1, 1) := by decide +kernel
theorem dX3_sourceRow_49 : decode cX3_sourceRow 49 = .ok (.istore 6, 2) := by decide +kernel
theorem dX3_sourceRow_51 : decode cX3_sourceRow 51 = .ok (.iconst 0, 1) := by decide +kernel
theorem dX3_sourceRow_52 : decode cX3_sourceRow 52 = .ok (.istore 7, 2) := by decide +kernel
theorem dX3_sourceRow_54 : decode cX3_sourceRow 54 = .ok (.iload 7, 2) := by decide +kernel
theorem dX3_sourceRow_56 : decode cX3_sourceRow 56 = .ok (.aload_n 0, 1) := by decide +kernel
theorem dX3_sourceRow_57 : decode cX3_sourceRow 57 = .ok (.getfield 23, 3) := by decide +kernel
theorem dX3_sourceRow_60 : decode cX3_sourceRow 60 = .ok (.if_icmp .ge 172, 3) := by decide +kernel
theorem dX3_sourceRow_63 : decode cX3_sourceRow 63 = .ok (.iload_n 1, 1) := by decide +kernel
theorem dX3_sourceRow_64 : decode cX3_sourceRow 64 = .ok (.ifCond .ne 19, 3) := by decide +kernel
theorem dX3_sourceRow_67 : decode cX3_sourceRow 67 = .ok (.iload 7, 2) := by decide +kernel
theorem dX3_sourceRow_69 : decode cX3_sourceRow 69 = .ok (.iload_n 2, 1) := by decide +kernel
theorem dX3_sourceRow_70 : decode cX3_sourceRow 70 = .ok (.if_icmp .ge 7, 3) := by decide +kernel
theorem dX3_sourceRow_73 : decode cX3_sourceRow 73 = .ok (.iconst 1, 1) := by decide +kernel
theorem dX3_sourceRow_74 : decode cX3_sourceRow 74 = .ok (.goto 4, 3) := by decide +kernel
theorem dX3_sourceRow_77 : decode cX3_sourceRow 77 = .ok (.iconst 0, 1) := by decide +kernel
theorem dX3_sourceRow_78 : decode cX3_sourceRow 78 = .ok (.istore 8, 2) := by decide +kernel
theorem dX3_sourceRow_80 : decode cX3_sourceRow 80 = .ok (.goto 130, 3) := by decide +kernel
theorem dX3_sourceRow_83 : decode cX3_sourceRow 83 = .ok (.iload_n 1, 1) := by decide +kernel
theorem dX3_sourceRow_84 : decode cX3_sourceRow 84 = .ok (.iconst 1, 1) := by decide +kernel
theorem dX3_sourceRow_85 : decode cX3_sourceRow 85 = .ok (.if_icmp .ne 23, 3) := by decide +kernel
theorem dX3_sourceRow_88 : decode cX3_sourceRow 88 = .ok (.aload_n 0, 1) := by decide +kernel
theorem dX3_sourceRow_89 : decode cX3_sourceRow 89 = .ok (.iload 7, 2) := by decide +kernel
theorem dX3_sourceRow_91 : decode cX3_sourceRow 91 = .ok (.invokevirtual 43, 3) := by decide +kernel
theorem dX3_sourceRow_94 : decode cX3_sourceRow 94 = .ok (.iload_n 2, 1) := by decide +kernel
theorem dX3_sourceRow_95 : decode cX3_sourceRow 95 = .ok (.if_icmp .ge 7, 3) := by decide +kernel
theorem dX3_sourceRow_98 : decode cX3_sourceRow 98 = .ok (.iconst 1, 1) := by decide +kernel
theorem dX3_sourceRow_99 : decode cX3_sourceRow 99 = .ok (.goto 4, 3) := by decide +kernel
theorem dX3_sourceRow_102 : decode cX3_sourceRow 102 = .ok (.iconst 0, 1) := by decide +kernel
theorem dX3_sourceRow_103 : decode cX3_sourceRow 103 = .ok (.istore 8, 2) := by decide +kernel
theorem dX3_sourceRow_105 : decode cX3_sourceRow 105 = .ok (.goto 105, 3) := by decide +kernel
theorem dX3_sourceRow_108 : decode cX3_sourceRow 108 = .ok (.iload_n 1, 1) := by decide +kernel
theorem dX3_sourceRow_109 : decode cX3_sourceRow 109 = .ok (.iconst 2, 1) := by decide +kernel
theorem dX3_sourceRow_110 : decode cX3_sourceRow 110 = .ok (.if_icmp .ne 36, 3) := by decide +kernel
theorem dX3_sourceRow_113 : decode cX3_sourceRow 113 = .ok (.iload_n 2, 1) := by decide +kernel
theorem dX3_sourceRow_114 : decode cX3_sourceRow 114 = .ok (.iload 7, 2) := by decide +kernel
theorem dX3_sourceRow_116 : decode cX3_sourceRow 116 = .ok (.iconst 1, 1) := by decide +kernel
theorem dX3_sourceRow_117 : decode cX3_sourceRow 117 = .ok (.iadd, 1) := by decide +kernel
theorem dX3_sourceRow_118 : decode cX3_sourceRow 118 = .ok (.imul, 1) := by decide +kernel
theorem dX3_sourceRow_119 : decode cX3_sourceRow 119 = .ok (.aload_n 0, 1) := by decide +kernel
theorem dX3_sourceRow_120 : decode cX3_sourceRow 120 = .ok (.getfield 23, 3) := by decide +kernel
theorem dX3_sourceRow_123 : decode cX3_sourceRow 123 = .ok (.idiv, 1) := by decide +kernel
theorem dX3_sourceRow_124 : decode cX3_sourceRow 124 = .ok (.iload_n 2, 1) := by decide +kernel
theorem dX3_sourceRow_125 : decode cX3_sourceRow 125 = .ok (.iload 7, 2) := by decide +kernel
theorem dX3_sourceRow_127 : decode cX3_sourceRow 127 = .ok (.imul, 1) := by decide +kernel
theorem dX3_sourceRow_128 : decode cX3_sourceRow 128 = .ok (.aload_n 0, 1) := by decide +kernel
theorem dX3_sourceRow_129 : decode cX3_sourceRow 129 = .ok (.getfield 23, 3) := by decide +kernel
theorem dX3_sourceRow_132 : decode cX3_sourceRow 132 = .ok (.idiv, 1) := by decide +kernel
theorem dX3_sourceRow_133 : decode cX3_sourceRow 133 = .ok (.if_icmp .le 7, 3) := by decide +kernel
theorem dX3_sourceRow_136 : decode cX3_sourceRow 136 = .ok (.iconst 1, 1) := by decide +kernel
theorem dX3_sourceRow_137 : decode cX3_sourceRow 137 = .ok (.goto 4, 3) := by decide +kernel
theorem dX3_sourceRow_140 : decode cX3_sourceRow 140 = .ok (.iconst 0, 1) := by decide +kernel
theorem dX3_sourceRow_141 : decode cX3_sourceRow 141 = .ok (.istore 8, 2) := by decide +kernel
theorem dX3_sourceRow_143 : decode cX3_sourceRow 143 = .ok (.goto 67, 3) := by decide +kernel
theorem dX3_sourceRow_146 : decode cX3_sourceRow 146 = .ok (.iload 7, 2) := by decide +kernel
theorem dX3_sourceRow_148 : decode cX3_sourceRow 148 = .ok (.aload_n 0, 1) := by decide +kernel
theorem dX3_sourceRow_149 : decode cX3_sourceRow 149 = .ok (.getfield 23, 3) := by decide +kernel
theorem dX3_sourceRow_152 : decode cX3_sourceRow 152 = .ok (.iconst 1, 1) := by decide +kernel
theorem dX3_sourceRow_153 : decode cX3_sourceRow 153 = .ok (.isub, 1) := by decide +kernel
theorem dX3_sourceRow_154 : decode cX3_sourceRow 154 = .ok (.if_icmp .ne 19, 3) := by decide +kernel
theorem dX3_sourceRow_157 : decode cX3_sourceRow 157 = .ok (.aload_n 0, 1) := by decide +kernel
theorem dX3_sourceRow_158 : decode cX3_sourceRow 158 = .ok (.getfield 23, 3) := by decide +kernel
theorem dX3_sourceRow_161 : decode cX3_sourceRow 161 = .ok (.iload_n 2, 1) := by decide +kernel
theorem dX3_sourceRow_162 : decode cX3_sourceRow 162 = .ok (.if_icmp .gt 7, 3) := by decide +kernel
theorem dX3_sourceRow_165 : decode cX3_sourceRow 165 = .ok (.iconst 1, 1) := by decide +kernel
theorem dX3_sourceRow_166 : decode cX3_sourceRow 166 = .ok (.goto 18, 3) := by decide +kernel
theorem dX3_sourceRow_169 : decode cX3_sourceRow 169 = .ok (.iconst 0, 1) := by decide +kernel
theorem dX3_sourceRow_170 : decode cX3_sourceRow 170 = .ok (.goto 14, 3) := by decide +kernel
theorem dX3_sourceRow_173 : decode cX3_sourceRow 173 = .ok (.iload 6, 2) := by decide +kernel
theorem dX3_sourceRow_175 : decode cX3_sourceRow 175 = .ok (.iload_n 2, 1) := by decide +kernel
theorem dX3_sourceRow_176 : decode cX3_sourceRow 176 = .ok (.if_icmp .gt 7, 3) := by decide +kernel
theorem dX3_sourceRow_179 : decode cX3_sourceRow 179 = .ok (.iconst 1, 1) := by decide +kernel
theorem dX3_sourceRow_180 : decode cX3_sourceRow 180 = .ok (.goto 4, 3) := by decide +kernel
theorem dX3_sourceRow_183 : decode cX3_sourceRow 183 = .ok (.iconst 0, 1) := by decide +kernel
theorem dX3_sourceRow_184 : decode cX3_sourceRow 184 = .ok (.istore 8, 2) := by decide +kernel
theorem dX3_sourceRow_186 : decode cX3_sourceRow 186 = .ok (.iload 6, 2) := by decide +kernel
theorem dX3_sourceRow_188 : decode cX3_sourceRow 188 = .ok (.iconst 2, 1) := by decide +kernel
theorem dX3_sourceRow_189 : decode cX3_sourceRow 189 = .ok (.irem, 1) := by decide +kernel
theorem dX3_sourceRow_190 : decode cX3_sourceRow 190 = .ok (.iconst 1, 1) := by decide +kernel
theorem dX3_sourceRow_191 : decode cX3_sourceRow 191 = .ok (.if_icmp .ne 13, 3) := by decide +kernel
theorem dX3_sourceRow_194 : decode cX3_sourceRow 194 = .ok (.iload 6, 2) := by decide +kernel
theorem dX3_sourceRow_196 : decode cX3_sourceRow 196 = .ok (.iconst 2, 1) := by decide +kernel
theorem dX3_sourceRow_197 : decode cX3_sourceRow 197 = .ok (.idiv, 1) := by decide +kernel
theorem dX3_sourceRow_198 : decode cX3_sourceRow 198 = .ok (.iload 5, 2) := by decide +kernel
theorem dX3_sourceRow_200 : decode cX3_sourceRow 200 = .ok (.ixor, 1) := by decide +kernel
theorem dX3_sourceRow_201 : decode cX3_sourceRow 201 = .ok (.goto 7, 3) := by decide +kernel
theorem dX3_sourceRow_204 : decode cX3_sourceRow 204 = .ok (.iload 6, 2) := by decide +kernel
theorem dX3_sourceRow_206 : decode cX3_sourceRow 206 = .ok (.iconst 2, 1) := by decide +kernel
theorem dX3_sourceRow_207 : decode cX3_sourceRow 207 = .ok (.idiv, 1) := by decide +kernel
theorem dX3_sourceRow_208 : decode cX3_sourceRow 208 = .ok (.istore 6, 2) := by decide +kernel
theorem dX3_sourceRow_210 : decode cX3_sourceRow 210 = .ok (.lload_n 3, 1) := by decide +kernel
theorem dX3_sourceRow_211 : decode cX3_sourceRow 211 = .ok (.iload 8, 2) := by decide +kernel
theorem dX3_sourceRow_213 : decode cX3_sourceRow 213 = .ok (.ifCond .eq 10, 3) := by decide +kernel
theorem dX3_sourceRow_216 : decode cX3_sourceRow 216 = .ok (.lconst 1, 1) := by decide +kernel
theorem dX3_sourceRow_217 : decode cX3_sourceRow 217 = .ok (.iload 7, 2) := by decide +kernel
theorem dX3_sourceRow_219 : decode cX3_sourceRow 219 = .ok (.lshl, 1) := by decide +kernel
theorem dX3_sourceRow_220 : decode cX3_sourceRow 220 = .ok (.goto 4, 3) := by decide +kernel
theorem dX3_sourceRow_223 : decode cX3_sourceRow 223 = .ok (.lconst 0, 1) := by decide +kernel
theorem dX3_sourceRow_224 : decode cX3_sourceRow 224 = .ok (.lor, 1) := by decide +kernel
theorem dX3_sourceRow_225 : decode cX3_sourceRow 225 = .ok (.lstore_n 3, 1) := by decide +kernel
theorem dX3_sourceRow_226 : decode cX3_sourceRow 226 = .ok (.iinc 7 1, 3) := by decide +kernel
theorem dX3_sourceRow_229 : decode cX3_sourceRow 229 = .ok (.goto (-175), 3) := by decide +kernel
theorem dX3_sourceRow_232 : decode cX3_sourceRow 232 = .ok (.lload_n 3, 1) := by decide +kernel
theorem dX3_sourceRow_233 : decode cX3_sourceRow 233 = .ok (.lreturn, 1) := by decide +kernel
set_option maxRecDepth 20000 in
theorem ggX3_isSource_X3_in : GoodIn wsX3_isSource wsX3_in := goodIn_r _ [6] (by decide +kernel) (by decide +kernel)
set_option maxRecDepth 20000 in
theorem gX3_isSource_X3_in : GoodIn wsX3_isSource (va_wsS RX3 35 yX3_in wsX3_in) := goodIn_app (goodIn_of _ (by decide +kernel)) ggX3_isSource_X3_in
theorem dX3_isSource_0 : decode cX3_isSource 0 = .ok (.iload_n 1, 1) := by decide +kernel
theorem dX3_isSource_1 : decode cX3_isSource 1 = .ok (.i2l, 1) := by decide +kernel
theorem dX3_isSource_2 : decode cX3_isSource 2 = .ok (.lconst 0, 1) := by decide +kernel
theorem dX3_isSource_3 : decode cX3_isSource 3 = .ok (.ldc2_w 47, 3) := by decide +kernel
theorem dX3_isSource_6 : decode cX3_isSource 6 = .ok (.invokestatic 35, 3) := by decide +kernel
theorem dX3_isSource_9 : decode cX3_isSource 9 = .ok (.ifCond .eq 21, 3) := by decide +kernel
theorem dX3_isSource_12 : decode cX3_isSource 12 = .ok (.iload_n 2, 1) := by decide +kernel
