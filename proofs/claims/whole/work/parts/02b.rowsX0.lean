abbrev vwCl : List vw_C := [(RX1, TX1, 6), (RX2, TX2, 3), (RX3, TX3, 10)]
set_option maxRecDepth 20000 in
theorem ggX0_make_X0_makeWide : GoodIn wsX0_make wsX0_makeWide := goodIn_r _ [5, 6, 7, 4, 8, 9, 10, 11, 12, 13, 14, 15] (by decide +kernel) (by decide +kernel)
set_option maxRecDepth 20000 in
theorem gX0_make_X0_makeWide : GoodIn wsX0_make (va_wsS RX0 9 yX0_makeWide wsX0_makeWide) := goodIn_app (goodIn_of _ (by decide +kernel)) ggX0_make_X0_makeWide
theorem dX0_make_0 : decode cX0_make 0 = .ok (.iload 5, 2) := by decide +kernel
theorem dX0_make_2 : decode cX0_make 2 = .ok (.ifCond .ne 12, 3) := by decide +kernel
theorem dX0_make_5 : decode cX0_make 5 = .ok (.iload_n 0, 1) := by decide +kernel
theorem dX0_make_6 : decode cX0_make 6 = .ok (.lload_n 1, 1) := by decide +kernel
theorem dX0_make_7 : decode cX0_make 7 = .ok (.lload_n 3, 1) := by decide +kernel
theorem dX0_make_8 : decode cX0_make 8 = .ok (.bipush 63, 2) := by decide +kernel
theorem dX0_make_10 : decode cX0_make 10 = .ok (.invokestatic 9, 3) := by decide +kernel
theorem dX0_make_13 : decode cX0_make 13 = .ok (.lreturn, 1) := by decide +kernel
theorem dX0_make_14 : decode cX0_make 14 = .ok (.iload_n 0, 1) := by decide +kernel
theorem dX0_make_15 : decode cX0_make 15 = .ok (.bipush 11, 2) := by decide +kernel
theorem dX0_make_17 : decode cX0_make 17 = .ok (.if_icmp .ne 9, 3) := by decide +kernel
theorem dX0_make_20 : decode cX0_make 20 = .ok (.lload_n 1, 1) := by decide +kernel
theorem dX0_make_21 : decode cX0_make 21 = .ok (.l2i, 1) := by decide +kernel
theorem dX0_make_22 : decode cX0_make 22 = .ok (.i2l, 1) := by decide +kernel
theorem dX0_make_23 : decode cX0_make 23 = .ok (.goto 8, 3) := by decide +kernel
theorem dX0_make_26 : decode cX0_make 26 = .ok (.lload_n 1, 1) := by decide +kernel
theorem dX0_make_27 : decode cX0_make 27 = .ok (.ldc2_w 13, 3) := by decide +kernel
theorem dX0_make_30 : decode cX0_make 30 = .ok (.land, 1) := by decide +kernel
theorem dX0_make_31 : decode cX0_make 31 = .ok (.lstore 6, 2) := by decide +kernel
theorem dX0_make_33 : decode cX0_make 33 = .ok (.iload_n 0, 1) := by decide +kernel
theorem dX0_make_34 : decode cX0_make 34 = .ok (.lload 6, 2) := by decide +kernel
theorem dX0_make_36 : decode cX0_make 36 = .ok (.lload_n 3, 1) := by decide +kernel
theorem dX0_make_37 : decode cX0_make 37 = .ok (.ldc2_w 13, 3) := by decide +kernel
theorem dX0_make_40 : decode cX0_make 40 = .ok (.land, 1) := by decide +kernel
theorem dX0_make_41 : decode cX0_make 41 = .ok (.bipush 31, 2) := by decide +kernel
theorem dX0_make_43 : decode cX0_make 43 = .ok (.invokestatic 9, 3) := by decide +kernel
theorem dX0_make_46 : decode cX0_make 46 = .ok (.ldc2_w 13, 3) := by decide +kernel
theorem dX0_make_49 : decode cX0_make 49 = .ok (.land, 1) := by decide +kernel
theorem dX0_make_50 : decode cX0_make 50 = .ok (.lreturn, 1) := by decide +kernel
set_option maxRecDepth 20000 in
theorem ggX0_makeWide_X0_divide : GoodIn wsX0_makeWide wsX0_divide := goodIn_r _ [4, 5, 6, 3, 7, 8] (by decide +kernel) (by decide +kernel)
set_option maxRecDepth 20000 in
theorem gX0_makeWide_X0_divide : GoodIn wsX0_makeWide (va_wsS RX0 15 yX0_divide wsX0_divide) := goodIn_app (goodIn_of _ (by decide +kernel)) ggX0_makeWide_X0_divide
set_option maxRecDepth 20000 in
theorem ggX0_makeWide_X0_rest : GoodIn wsX0_makeWide wsX0_rest := goodIn_r _ [11, 1, 2, 3, 4, 5, 6, 7, 8] (by decide +kernel) (by decide +kernel)
set_option maxRecDepth 20000 in
theorem gX0_makeWide_X0_rest : GoodIn wsX0_makeWide (va_wsS RX0 19 yX0_rest wsX0_rest) := goodIn_app (goodIn_of _ (by decide +kernel)) ggX0_makeWide_X0_rest
theorem dX0_makeWide_0 : decode cX0_makeWide 0 = .ok (.lload_n 3, 1) := by decide +kernel
theorem dX0_makeWide_1 : decode cX0_makeWide 1 = .ok (.l2i, 1) := by decide +kernel
theorem dX0_makeWide_2 : decode cX0_makeWide 2 = .ok (.iload 5, 2) := by decide +kernel
theorem dX0_makeWide_4 : decode cX0_makeWide 4 = .ok (.iand, 1) := by decide +kernel
theorem dX0_makeWide_5 : decode cX0_makeWide 5 = .ok (.istore 6, 2) := by decide +kernel
theorem dX0_makeWide_7 : decode cX0_makeWide 7 = .ok (.iload_n 0, 1) := by decide +kernel
theorem dX0_makeWide_8 : decode cX0_makeWide 8 = .ok (.tableswitch 117 0 11 #[64, 66, 70, 74, 78, 84, 90, 94, 98, 102, 107, 112], 64) := by decide +kernel
theorem dX0_makeWide_72 : decode cX0_makeWide 72 = .ok (.lload_n 3, 1) := by decide +kernel
theorem dX0_makeWide_73 : decode cX0_makeWide 73 = .ok (.lreturn, 1) := by decide +kernel
theorem dX0_makeWide_74 : decode cX0_makeWide 74 = .ok (.lload_n 1, 1) := by decide +kernel
theorem dX0_makeWide_75 : decode cX0_makeWide 75 = .ok (.lload_n 3, 1) := by decide +kernel
theorem dX0_makeWide_76 : decode cX0_makeWide 76 = .ok (.ladd, 1) := by decide +kernel
theorem dX0_makeWide_77 : decode cX0_makeWide 77 = .ok (.lreturn, 1) := by decide +kernel
theorem dX0_makeWide_78 : decode cX0_makeWide 78 = .ok (.lload_n 1, 1) := by decide +kernel
theorem dX0_makeWide_79 : decode cX0_makeWide 79 = .ok (.lload_n 3, 1) := by decide +kernel
theorem dX0_makeWide_80 : decode cX0_makeWide 80 = .ok (.lsub, 1) := by decide +kernel
theorem dX0_makeWide_81 : decode cX0_makeWide 81 = .ok (.lreturn, 1) := by decide +kernel
theorem dX0_makeWide_82 : decode cX0_makeWide 82 = .ok (.lload_n 1, 1) := by decide +kernel
theorem dX0_makeWide_83 : decode cX0_makeWide 83 = .ok (.lload_n 3, 1) := by decide +kernel
theorem dX0_makeWide_84 : decode cX0_makeWide 84 = .ok (.lmul, 1) := by decide +kernel
theorem dX0_makeWide_85 : decode cX0_makeWide 85 = .ok (.lreturn, 1) := by decide +kernel
theorem dX0_makeWide_86 : decode cX0_makeWide 86 = .ok (.lload_n 1, 1) := by decide +kernel
theorem dX0_makeWide_87 : decode cX0_makeWide 87 = .ok (.lload_n 3, 1) := by decide +kernel
theorem dX0_makeWide_88 : decode cX0_makeWide 88 = .ok (.invokestatic 15, 3) := by decide +kernel
theorem dX0_makeWide_91 : decode cX0_makeWide 91 = .ok (.lreturn, 1) := by decide +kernel
theorem dX0_makeWide_92 : decode cX0_makeWide 92 = .ok (.lload_n 1, 1) := by decide +kernel
theorem dX0_makeWide_93 : decode cX0_makeWide 93 = .ok (.lload_n 3, 1) := by decide +kernel
theorem dX0_makeWide_94 : decode cX0_makeWide 94 = .ok (.invokestatic 19, 3) := by decide +kernel
theorem dX0_makeWide_97 : decode cX0_makeWide 97 = .ok (.lreturn, 1) := by decide +kernel
theorem dX0_makeWide_98 : decode cX0_makeWide 98 = .ok (.lload_n 1, 1) := by decide +kernel
theorem dX0_makeWide_99 : decode cX0_makeWide 99 = .ok (.lload_n 3, 1) := by decide +kernel
theorem dX0_makeWide_100 : decode cX0_makeWide 100 = .ok (.land, 1) := by decide +kernel
theorem dX0_makeWide_101 : decode cX0_makeWide 101 = .ok (.lreturn, 1) := by decide +kernel
theorem dX0_makeWide_102 : decode cX0_makeWide 102 = .ok (.lload_n 1, 1) := by decide +kernel
theorem dX0_makeWide_103 : decode cX0_makeWide 103 = .ok (.lload_n 3, 1) := by decide +kernel
theorem dX0_makeWide_104 : decode cX0_makeWide 104 = .ok (.lor, 1) := by decide +kernel
theorem dX0_makeWide_105 : decode cX0_makeWide 105 = .ok (.lreturn, 1) := by decide +kernel
theorem dX0_makeWide_106 : decode cX0_makeWide 106 = .ok (.lload_n 1, 1) := by decide +kernel
theorem dX0_makeWide_107 : decode cX0_makeWide 107 = .ok (.lload_n 3, 1) := by decide +kernel
theorem dX0_makeWide_108 : decode cX0_makeWide 108 = .ok (.lxor, 1) := by decide +kernel
theorem dX0_makeWide_109 : decode cX0_makeWide 109 = .ok (.lreturn, 1) := by decide +kernel
theorem dX0_makeWide_110 : decode cX0_makeWide 110 = .ok (.lload_n 1, 1) := by decide +kernel
theorem dX0_makeWide_111 : decode cX0_makeWide 111 = .ok (.iload 6, 2) := by decide +kernel
theorem dX0_makeWide_113 : decode cX0_makeWide 113 = .ok (.lshl, 1) := by decide +kernel
theorem dX0_makeWide_114 : decode cX0_makeWide 114 = .ok (.lreturn, 1) := by decide +kernel
theorem dX0_makeWide_115 : decode cX0_makeWide 115 = .ok (.lload_n 1, 1) := by decide +kernel
theorem dX0_makeWide_116 : decode cX0_makeWide 116 = .ok (.iload 6, 2) := by decide +kernel
theorem dX0_makeWide_118 : decode cX0_makeWide 118 = .ok (.lushr, 1) := by decide +kernel
theorem dX0_makeWide_119 : decode cX0_makeWide 119 = .ok (.lreturn, 1) := by decide +kernel
theorem dX0_makeWide_120 : decode cX0_makeWide 120 = .ok (.lload_n 1, 1) := by decide +kernel
theorem dX0_makeWide_121 : decode cX0_makeWide 121 = .ok (.iload 6, 2) := by decide +kernel
theorem dX0_makeWide_123 : decode cX0_makeWide 123 = .ok (.lshr, 1) := by decide +kernel
theorem dX0_makeWide_124 : decode cX0_makeWide 124 = .ok (.lreturn, 1) := by decide +kernel
theorem dX0_makeWide_125 : decode cX0_makeWide 125 = .ok (.lload_n 1, 1) := by decide +kernel
theorem dX0_makeWide_126 : decode cX0_makeWide 126 = .ok (.lneg, 1) := by decide +kernel
theorem dX0_makeWide_127 : decode cX0_makeWide 127 = .ok (.lreturn, 1) := by decide +kernel
set_option maxRecDepth 20000 in
theorem ggX0_divide_X0_isBelow : GoodIn wsX0_divide wsX0_isBelow := goodIn_r _ [4, 5] (by decide +kernel) (by decide +kernel)
set_option maxRecDepth 20000 in
theorem gX0_divide_X0_isBelow : GoodIn wsX0_divide (va_wsS RX0 22 yX0_isBelow wsX0_isBelow) := goodIn_app (goodIn_of _ (by decide +kernel)) ggX0_divide_X0_isBelow
theorem dX0_divide_0 : decode cX0_divide 0 = .ok (.lload_n 2, 1) := by decide +kernel
theorem dX0_divide_1 : decode cX0_divide 1 = .ok (.lconst 0, 1) := by decide +kernel
theorem dX0_divide_2 : decode cX0_divide 2 = .ok (.lcmp, 1) := by decide +kernel
theorem dX0_divide_3 : decode cX0_divide 3 = .ok (.ifCond .ne 5, 3) := by decide +kernel
theorem dX0_divide_6 : decode cX0_divide 6 = .ok (.lconst 0, 1) := by decide +kernel
theorem dX0_divide_7 : decode cX0_divide 7 = .ok (.lreturn, 1) := by decide +kernel
theorem dX0_divide_8 : decode cX0_divide 8 = .ok (.lload_n 2, 1) := by decide +kernel
theorem dX0_divide_9 : decode cX0_divide 9 = .ok (.lconst 0, 1) := by decide +kernel
theorem dX0_divide_10 : decode cX0_divide 10 = .ok (.lcmp, 1) := by decide +kernel
theorem dX0_divide_11 : decode cX0_divide 11 = .ok (.ifCond .ge 17, 3) := by decide +kernel
theorem dX0_divide_14 : decode cX0_divide 14 = .ok (.lload_n 0, 1) := by decide +kernel
theorem dX0_divide_15 : decode cX0_divide 15 = .ok (.lload_n 2, 1) := by decide +kernel
theorem dX0_divide_16 : decode cX0_divide 16 = .ok (.invokestatic 22, 3) := by decide +kernel
theorem dX0_divide_19 : decode cX0_divide 19 = .ok (.ifCond .eq 7, 3) := by decide +kernel
theorem dX0_divide_22 : decode cX0_divide 22 = .ok (.lconst 0, 1) := by decide +kernel
theorem dX0_divide_23 : decode cX0_divide 23 = .ok (.goto 4, 3) := by decide +kernel
theorem dX0_divide_26 : decode cX0_divide 26 = .ok (.lconst 1, 1) := by decide +kernel
theorem dX0_divide_27 : decode cX0_divide 27 = .ok (.lreturn, 1) := by decide +kernel
theorem dX0_divide_28 : decode cX0_divide 28 = .ok (.lload_n 0, 1) := by decide +kernel
theorem dX0_divide_29 : decode cX0_divide 29 = .ok (.lconst 0, 1) := by decide +kernel
theorem dX0_divide_30 : decode cX0_divide 30 = .ok (.lcmp, 1) := by decide +kernel
theorem dX0_divide_31 : decode cX0_divide 31 = .ok (.ifCond .lt 7, 3) := by decide +kernel
theorem dX0_divide_34 : decode cX0_divide 34 = .ok (.lload_n 0, 1) := by decide +kernel
theorem dX0_divide_35 : decode cX0_divide 35 = .ok (.lload_n 2, 1) := by decide +kernel
theorem dX0_divide_36 : decode cX0_divide 36 = .ok (.ldiv, 1) := by decide +kernel
theorem dX0_divide_37 : decode cX0_divide 37 = .ok (.lreturn, 1) := by decide +kernel
theorem dX0_divide_38 : decode cX0_divide 38 = .ok (.lload_n 0, 1) := by decide +kernel
theorem dX0_divide_39 : decode cX0_divide 39 = .ok (.iconst 1, 1) := by decide +kernel
theorem dX0_divide_40 : decode cX0_divide 40 = .ok (.lushr, 1) := by decide +kernel
theorem dX0_divide_41 : decode cX0_divide 41 = .ok (.lload_n 2, 1) := by decide +kernel
theorem dX0_divide_42 : decode cX0_divide 42 = .ok (.ldiv, 1) := by decide +kernel
theorem dX0_divide_43 : decode cX0_divide 43 = .ok (.iconst 1, 1) := by decide +kernel
theorem dX0_divide_44 : decode cX0_divide 44 = .ok (.lshl, 1) := by decide +kernel
theorem dX0_divide_45 : decode cX0_divide 45 = .ok (.lstore 4, 2) := by decide +kernel
theorem dX0_divide_47 : decode cX0_divide 47 = .ok (.lload_n 0, 1) := by decide +kernel
theorem dX0_divide_48 : decode cX0_divide 48 = .ok (.lload 4, 2) := by decide +kernel
theorem dX0_divide_50 : decode cX0_divide 50 = .ok (.lload_n 2, 1) := by decide +kernel
theorem dX0_divide_51 : decode cX0_divide 51 = .ok (.lmul, 1) := by decide +kernel
theorem dX0_divide_52 : decode cX0_divide 52 = .ok (.lsub, 1) := by decide +kernel
theorem dX0_divide_53 : decode cX0_divide 53 = .ok (.lload_n 2, 1) := by decide +kernel
theorem dX0_divide_54 : decode cX0_divide 54 = .ok (.invokestatic 22, 3) := by decide +kernel
theorem dX0_divide_57 : decode cX0_divide 57 = .ok (.ifCond .eq 8, 3) := by decide +kernel
theorem dX0_divide_60 : decode cX0_divide 60 = .ok (.lload 4, 2) := by decide +kernel
theorem dX0_divide_62 : decode cX0_divide 62 = .ok (.goto 7, 3) := by decide +kernel
theorem dX0_divide_65 : decode cX0_divide 65 = .ok (.lload 4, 2) := by decide +kernel
theorem dX0_divide_67 : decode cX0_divide 67 = .ok (.lconst 1, 1) := by decide +kernel
theorem dX0_divide_68 : decode cX0_divide 68 = .ok (.ladd, 1) := by decide +kernel
theorem dX0_divide_69 : decode cX0_divide 69 = .ok (.lreturn, 1) := by decide +kernel
set_option maxRecDepth 20000 in
theorem ggX0_rest_X0_divide : GoodIn wsX0_rest wsX0_divide := goodIn_r _ [4, 5, 6, 3, 7, 8] (by decide +kernel) (by decide +kernel)
set_option maxRecDepth 20000 in
theorem gX0_rest_X0_divide : GoodIn wsX0_rest (va_wsS RX0 15 yX0_divide wsX0_divide) := goodIn_app (goodIn_of _ (by decide +kernel)) ggX0_rest_X0_divide
theorem dX0_rest_0 : decode cX0_rest 0 = .ok (.lload_n 0, 1) := by decide +kernel
theorem dX0_rest_1 : decode cX0_rest 1 = .ok (.lload_n 0, 1) := by decide +kernel
theorem dX0_rest_2 : decode cX0_rest 2 = .ok (.lload_n 2, 1) := by decide +kernel
theorem dX0_rest_3 : decode cX0_rest 3 = .ok (.invokestatic 15, 3) := by decide +kernel
theorem dX0_rest_6 : decode cX0_rest 6 = .ok (.lload_n 2, 1) := by decide +kernel
theorem dX0_rest_7 : decode cX0_rest 7 = .ok (.lmul, 1) := by decide +kernel
theorem dX0_rest_8 : decode cX0_rest 8 = .ok (.lsub, 1) := by decide +kernel
theorem dX0_rest_9 : decode cX0_rest 9 = .ok (.lreturn, 1) := by decide +kernel
theorem dX0_isBelow_0 : decode cX0_isBelow 0 = .ok (.lload_n 0, 1) := by decide +kernel
theorem dX0_isBelow_1 : decode cX0_isBelow 1 = .ok (.ldc2_w 26, 3) := by decide +kernel
theorem dX0_isBelow_4 : decode cX0_isBelow 4 = .ok (.lxor, 1) := by decide +kernel
theorem dX0_isBelow_5 : decode cX0_isBelow 5 = .ok (.lload_n 2, 1) := by decide +kernel
theorem dX0_isBelow_6 : decode cX0_isBelow 6 = .ok (.ldc2_w 26, 3) := by decide +kernel
theorem dX0_isBelow_9 : decode cX0_isBelow 9 = .ok (.lxor, 1) := by decide +kernel
theorem dX0_isBelow_10 : decode cX0_isBelow 10 = .ok (.lcmp, 1) := by decide +kernel
theorem dX0_isBelow_11 : decode cX0_isBelow 11 = .ok (.ifCond .ge 7, 3) := by decide +kernel
theorem dX0_isBelow_14 : decode cX0_isBelow 14 = .ok (.iconst 1, 1) := by decide +kernel
theorem dX0_isBelow_15 : decode cX0_isBelow 15 = .ok (.goto 4, 3) := by decide +kernel
theorem dX0_isBelow_18 : decode cX0_isBelow 18 = .ok (.iconst 0, 1) := by decide +kernel
theorem dX0_isBelow_19 : decode cX0_isBelow 19 = .ok (.ireturn, 1) := by decide +kernel
set_option maxRecDepth 20000 in
theorem ggX0_isSo_X0_isBelow : GoodIn wsX0_isSo wsX0_isBelow := goodIn_r _ [4, 5] (by decide +kernel) (by decide +kernel)
set_option maxRecDepth 20000 in
theorem gX0_isSo_X0_isBelow : GoodIn wsX0_isSo (va_wsS RX0 22 yX0_isBelow wsX0_isBelow) := goodIn_app (goodIn_of _ (by decide +kernel)) ggX0_isSo_X0_isBelow
theorem dX0_isSo_0 : decode cX0_isSo 0 = .ok (.iload_n 0, 1) := by decide +kernel
theorem dX0_isSo_1 : decode cX0_isSo 1 = .ok (.tableswitch 167 0 9 #[55, 67, 79, 85, 99, 105, 119, 131, 143, 155], 55) := by decide +kernel
theorem dX0_isSo_56 : decode cX0_isSo 56 = .ok (.lload_n 1, 1) := by decide +kernel
theorem dX0_isSo_57 : decode cX0_isSo 57 = .ok (.lload_n 3, 1) := by decide +kernel
theorem dX0_isSo_58 : decode cX0_isSo 58 = .ok (.lcmp, 1) := by decide +kernel
theorem dX0_isSo_59 : decode cX0_isSo 59 = .ok (.ifCond .ne 7, 3) := by decide +kernel
theorem dX0_isSo_62 : decode cX0_isSo 62 = .ok (.iconst 1, 1) := by decide +kernel
theorem dX0_isSo_63 : decode cX0_isSo 63 = .ok (.goto 4, 3) := by decide +kernel
theorem dX0_isSo_66 : decode cX0_isSo 66 = .ok (.iconst 0, 1) := by decide +kernel
theorem dX0_isSo_67 : decode cX0_isSo 67 = .ok (.ireturn, 1) := by decide +kernel
theorem dX0_isSo_68 : decode cX0_isSo 68 = .ok (.lload_n 1, 1) := by decide +kernel
theorem dX0_isSo_69 : decode cX0_isSo 69 = .ok (.lload_n 3, 1) := by decide +kernel
theorem dX0_isSo_70 : decode cX0_isSo 70 = .ok (.lcmp, 1) := by decide +kernel
theorem dX0_isSo_71 : decode cX0_isSo 71 = .ok (.ifCond .eq 7, 3) := by decide +kernel
theorem dX0_isSo_74 : decode cX0_isSo 74 = .ok (.iconst 1, 1) := by decide +kernel
theorem dX0_isSo_75 : decode cX0_isSo 75 = .ok (.goto 4, 3) := by decide +kernel
theorem dX0_isSo_78 : decode cX0_isSo 78 = .ok (.iconst 0, 1) := by decide +kernel
theorem dX0_isSo_79 : decode cX0_isSo 79 = .ok (.ireturn, 1) := by decide +kernel
theorem dX0_isSo_80 : decode cX0_isSo 80 = .ok (.lload_n 1, 1) := by decide +kernel
theorem dX0_isSo_81 : decode cX0_isSo 81 = .ok (.lload_n 3, 1) := by decide +kernel
theorem dX0_isSo_82 : decode cX0_isSo 82 = .ok (.invokestatic 22, 3) := by decide +kernel
theorem dX0_isSo_85 : decode cX0_isSo 85 = .ok (.ireturn, 1) := by decide +kernel
theorem dX0_isSo_86 : decode cX0_isSo 86 = .ok (.lload_n 3, 1) := by decide +kernel
theorem dX0_isSo_87 : decode cX0_isSo 87 = .ok (.lload_n 1, 1) := by decide +kernel
theorem dX0_isSo_88 : decode cX0_isSo 88 = .ok (.invokestatic 22, 3) := by decide +kernel
theorem dX0_isSo_91 : decode cX0_isSo 91 = .ok (.ifCond .ne 7, 3) := by decide +kernel
theorem dX0_isSo_94 : decode cX0_isSo 94 = .ok (.iconst 1, 1) := by decide +kernel
theorem dX0_isSo_95 : decode cX0_isSo 95 = .ok (.goto 4, 3) := by decide +kernel
theorem dX0_isSo_98 : decode cX0_isSo 98 = .ok (.iconst 0, 1) := by decide +kernel
theorem dX0_isSo_99 : decode cX0_isSo 99 = .ok (.ireturn, 1) := by decide +kernel
theorem dX0_isSo_100 : decode cX0_isSo 100 = .ok (.lload_n 3, 1) := by decide +kernel
theorem dX0_isSo_101 : decode cX0_isSo 101 = .ok (.lload_n 1, 1) := by decide +kernel
theorem dX0_isSo_102 : decode cX0_isSo 102 = .ok (.invokestatic 22, 3) := by decide +kernel
theorem dX0_isSo_105 : decode cX0_isSo 105 = .ok (.ireturn, 1) := by decide +kernel
theorem dX0_isSo_106 : decode cX0_isSo 106 = .ok (.lload_n 1, 1) := by decide +kernel
theorem dX0_isSo_107 : decode cX0_isSo 107 = .ok (.lload_n 3, 1) := by decide +kernel
theorem dX0_isSo_108 : decode cX0_isSo 108 = .ok (.invokestatic 22, 3) := by decide +kernel
theorem dX0_isSo_111 : decode cX0_isSo 111 = .ok (.ifCond .ne 7, 3) := by decide +kernel
theorem dX0_isSo_114 : decode cX0_isSo 114 = .ok (.iconst 1, 1) := by decide +kernel
theorem dX0_isSo_115 : decode cX0_isSo 115 = .ok (.goto 4, 3) := by decide +kernel
theorem dX0_isSo_118 : decode cX0_isSo 118 = .ok (.iconst 0, 1) := by decide +kernel
theorem dX0_isSo_119 : decode cX0_isSo 119 = .ok (.ireturn, 1) := by decide +kernel
theorem dX0_isSo_120 : decode cX0_isSo 120 = .ok (.lload_n 1, 1) := by decide +kernel
theorem dX0_isSo_121 : decode cX0_isSo 121 = .ok (.lload_n 3, 1) := by decide +kernel
theorem dX0_isSo_122 : decode cX0_isSo 122 = .ok (.lcmp, 1) := by decide +kernel
theorem dX0_isSo_123 : decode cX0_isSo 123 = .ok (.ifCond .ge 7, 3) := by decide +kernel
theorem dX0_isSo_126 : decode cX0_isSo 126 = .ok (.iconst 1, 1) := by decide +kernel
theorem dX0_isSo_127 : decode cX0_isSo 127 = .ok (.goto 4, 3) := by decide +kernel
theorem dX0_isSo_130 : decode cX0_isSo 130 = .ok (.iconst 0, 1) := by decide +kernel
theorem dX0_isSo_131 : decode cX0_isSo 131 = .ok (.ireturn, 1) := by decide +kernel
theorem dX0_isSo_132 : decode cX0_isSo 132 = .ok (.lload_n 1, 1) := by decide +kernel
theorem dX0_isSo_133 : decode cX0_isSo 133 = .ok (.lload_n 3, 1) := by decide +kernel
theorem dX0_isSo_134 : decode cX0_isSo 134 = .ok (.lcmp, 1) := by decide +kernel
theorem dX0_isSo_135 : decode cX0_isSo 135 = .ok (.ifCond .gt 7, 3) := by decide +kernel
theorem dX0_isSo_138 : decode cX0_isSo 138 = .ok (.iconst 1, 1) := by decide +kernel
theorem dX0_isSo_139 : decode cX0_isSo 139 = .ok (.goto 4, 3) := by decide +kernel
theorem dX0_isSo_142 : decode cX0_isSo 142 = .ok (.iconst 0, 1) := by decide +kernel
theorem dX0_isSo_143 : decode cX0_isSo 143 = .ok (.ireturn, 1) := by decide +kernel
theorem dX0_isSo_144 : decode cX0_isSo 144 = .ok (.lload_n 1, 1) := by decide +kernel
theorem dX0_isSo_145 : decode cX0_isSo 145 = .ok (.lload_n 3, 1) := by decide +kernel
theorem dX0_isSo_146 : decode cX0_isSo 146 = .ok (.lcmp, 1) := by decide +kernel
theorem dX0_isSo_147 : decode cX0_isSo 147 = .ok (.ifCond .le 7, 3) := by decide +kernel
theorem dX0_isSo_150 : decode cX0_isSo 150 = .ok (.iconst 1, 1) := by decide +kernel
theorem dX0_isSo_151 : decode cX0_isSo 151 = .ok (.goto 4, 3) := by decide +kernel
theorem dX0_isSo_154 : decode cX0_isSo 154 = .ok (.iconst 0, 1) := by decide +kernel
theorem dX0_isSo_155 : decode cX0_isSo 155 = .ok (.ireturn, 1) := by decide +kernel
theorem dX0_isSo_156 : decode cX0_isSo 156 = .ok (.lload_n 1, 1) := by decide +kernel
theorem dX0_isSo_157 : decode cX0_isSo 157 = .ok (.lload_n 3, 1) := by decide +kernel
theorem dX0_isSo_158 : decode cX0_isSo 158 = .ok (.lcmp, 1) := by decide +kernel
theorem dX0_isSo_159 : decode cX0_isSo 159 = .ok (.ifCond .lt 7, 3) := by decide +kernel
theorem dX0_isSo_162 : decode cX0_isSo 162 = .ok (.iconst 1, 1) := by decide +kernel
theorem dX0_isSo_163 : decode cX0_isSo 163 = .ok (.goto 4, 3) := by decide +kernel
theorem dX0_isSo_166 : decode cX0_isSo 166 = .ok (.iconst 0, 1) := by decide +kernel
theorem dX0_isSo_167 : decode cX0_isSo 167 = .ok (.ireturn, 1) := by decide +kernel
theorem dX0_isSo_168 : decode cX0_isSo 168 = .ok (.lload_n 1, 1) := by decide +kernel
theorem dX0_isSo_169 : decode cX0_isSo 169 = .ok (.lload_n 3, 1) := by decide +kernel
theorem dX0_isSo_170 : decode cX0_isSo 170 = .ok (.land, 1) := by decide +kernel
theorem dX0_isSo_171 : decode cX0_isSo 171 = .ok (.lconst 0, 1) := by decide +kernel
theorem dX0_isSo_172 : decode cX0_isSo 172 = .ok (.lcmp, 1) := by decide +kernel
theorem dX0_isSo_173 : decode cX0_isSo 173 = .ok (.ifCond .eq 7, 3) := by decide +kernel
theorem dX0_isSo_176 : decode cX0_isSo 176 = .ok (.iconst 1, 1) := by decide +kernel
theorem dX0_isSo_177 : decode cX0_isSo 177 = .ok (.goto 4, 3) := by decide +kernel
theorem dX0_isSo_180 : decode cX0_isSo 180 = .ok (.iconst 0, 1) := by decide +kernel
theorem dX0_isSo_181 : decode cX0_isSo 181 = .ok (.ireturn, 1) := by decide +kernel
