theorem dX1_init_0 : decode cX1_init 0 = .ok (.aload_n 0, 1) := by decide +kernel
theorem dX1_init_1 : decode cX1_init 1 = .ok (.invokespecial 1, 3) := by decide +kernel
theorem dX1_init_4 : decode cX1_init 4 = .ok (.return_, 1) := by decide +kernel
theorem dX1_take_0 : decode cX1_take 0 = .ok (.aload_n 0, 1) := by decide +kernel
theorem dX1_take_1 : decode cX1_take 1 = .ok (.lload_n 1, 1) := by decide +kernel
theorem dX1_take_2 : decode cX1_take 2 = .ok (.putfield 7, 3) := by decide +kernel
theorem dX1_take_5 : decode cX1_take 5 = .ok (.aload_n 0, 1) := by decide +kernel
theorem dX1_take_6 : decode cX1_take 6 = .ok (.lload_n 3, 1) := by decide +kernel
theorem dX1_take_7 : decode cX1_take 7 = .ok (.putfield 13, 3) := by decide +kernel
theorem dX1_take_10 : decode cX1_take 10 = .ok (.aload_n 0, 1) := by decide +kernel
theorem dX1_take_11 : decode cX1_take 11 = .ok (.lload 5, 2) := by decide +kernel
theorem dX1_take_13 : decode cX1_take 13 = .ok (.putfield 16, 3) := by decide +kernel
theorem dX1_take_16 : decode cX1_take 16 = .ok (.aload_n 0, 1) := by decide +kernel
theorem dX1_take_17 : decode cX1_take 17 = .ok (.lload 7, 2) := by decide +kernel
theorem dX1_take_19 : decode cX1_take 19 = .ok (.putfield 19, 3) := by decide +kernel
theorem dX1_take_22 : decode cX1_take 22 = .ok (.return_, 1) := by decide +kernel
set_option maxRecDepth 20000 in
theorem ggX1_make_X1_isOfConsts : GoodIn wsX1_make wsX1_isOfConsts := goodIn_r _ [7, 1, 8, 2, 9, 127, 128, 129, 130, 131, 132] (by decide +kernel) (by decide +kernel)
set_option maxRecDepth 20000 in
theorem gX1_make_X1_isOfConsts : GoodIn wsX1_make (wsV RX1 22 RX1 yX1_isOfConsts wsX1_isOfConsts) := goodIn_app (goodIn_of _ (by decide +kernel)) ggX1_make_X1_isOfConsts
set_option maxRecDepth 20000 in
theorem ggX1_make_X0_make : GoodIn wsX1_make wsX0_make := goodIn_r _ [13, 14, 15, 16, 12, 17, 18, 19, 20, 21, 22, 23, 24, 25, 26, 27] (by decide +kernel) (by decide +kernel)
set_option maxRecDepth 20000 in
theorem gX1_make_X0_make : GoodIn wsX1_make (va_wsS RX1 26 yX0_make wsX0_make) := goodIn_app (goodIn_of _ (by decide +kernel)) ggX1_make_X0_make
set_option maxRecDepth 20000 in
theorem ggX1_make_X1_tell : GoodIn wsX1_make wsX1_tell := goodIn_r _ [31, 32, 33, 127, 128, 129, 130, 131, 132] (by decide +kernel) (by decide +kernel)
set_option maxRecDepth 20000 in
theorem gX1_make_X1_tell : GoodIn wsX1_make (wsV RX1 32 RX1 yX1_tell wsX1_tell) := goodIn_app (goodIn_of _ (by decide +kernel)) ggX1_make_X1_tell
set_option maxRecDepth 20000 in
theorem ggX1_make_X1_makeNarrow : GoodIn wsX1_make wsX1_makeNarrow := goodIn_r _ [37, 38, 1, 8, 2, 9, 32, 33, 28, 29, 30, 6, 31, 39, 40, 41, 42, 43, 44, 45, 46, 47, 48, 49, 50, 51, 52, 53, 54, 55, 56, 57, 58, 59, 60, 61, 62, 63, 64, 65, 66, 67, 68, 69, 70, 71, 72, 73, 74, 75, 76, 77, 78, 79, 80, 81, 82, 83, 84, 85, 86, 87, 88, 89, 90, 91, 92, 93, 94, 95, 19, 12, 20, 21, 22, 23, 24, 96, 97, 98, 99, 100, 101, 102, 103, 104, 105, 106, 107, 108, 109, 110, 111, 112, 113, 114, 115, 116, 117, 118, 119, 120, 121, 122, 123, 124, 125, 126, 127, 128, 129, 130, 131, 132] (by decide +kernel) (by decide +kernel)
set_option maxRecDepth 20000 in
theorem gX1_make_X1_makeNarrow : GoodIn wsX1_make (wsV RX1 36 RX1 yX1_makeNarrow wsX1_makeNarrow) := goodIn_app (goodIn_of _ (by decide +kernel)) ggX1_make_X1_makeNarrow
set_option maxRecDepth 20000 in
theorem ggX1_make_X1_makeWide : GoodIn wsX1_make wsX1_makeWide := goodIn_r _ [55, 2, 9, 1, 8, 56, 57, 58, 59, 28, 29, 30, 6, 31, 32, 33, 60, 61, 62, 63, 64, 65, 66, 67, 68, 69, 70, 71, 72, 73, 74, 75, 76, 77, 78, 79, 80, 81, 82, 83, 84, 85, 86, 87, 88, 89, 90, 91, 92, 93, 94, 95, 19, 12, 20, 21, 22, 23, 24, 96, 97, 98, 99, 100, 101, 102, 103, 104, 105, 106, 107, 108, 109, 110, 111, 112, 113, 114, 115, 116, 117, 118, 119, 120, 121, 122, 123, 124, 125, 126, 127, 128, 129, 130, 131, 132] (by decide +kernel) (by decide +kernel)
set_option maxRecDepth 20000 in
theorem gX1_make_X1_makeWide : GoodIn wsX1_make (wsV RX1 40 RX1 yX1_makeWide wsX1_makeWide) := goodIn_app (goodIn_of _ (by decide +kernel)) ggX1_make_X1_makeWide
theorem dX1_make_0 : decode cX1_make 0 = .ok (.aload_n 0, 1) := by decide +kernel
theorem dX1_make_1 : decode cX1_make 1 = .ok (.iload_n 1, 1) := by decide +kernel
theorem dX1_make_2 : decode cX1_make 2 = .ok (.invokevirtual 22, 3) := by decide +kernel
theorem dX1_make_5 : decode cX1_make 5 = .ok (.ifCond .eq 26, 3) := by decide +kernel
theorem dX1_make_8 : decode cX1_make 8 = .ok (.iload_n 1, 1) := by decide +kernel
theorem dX1_make_9 : decode cX1_make 9 = .ok (.aload_n 0, 1) := by decide +kernel
theorem dX1_make_10 : decode cX1_make 10 = .ok (.getfield 7, 3) := by decide +kernel
theorem dX1_make_13 : decode cX1_make 13 = .ok (.aload_n 0, 1) := by decide +kernel
theorem dX1_make_14 : decode cX1_make 14 = .ok (.getfield 16, 3) := by decide +kernel
theorem dX1_make_17 : decode cX1_make 17 = .ok (.iload_n 2, 1) := by decide +kernel
theorem dX1_make_18 : decode cX1_make 18 = .ok (.invokestatic 26, 3) := by decide +kernel
theorem dX1_make_21 : decode cX1_make 21 = .ok (.lstore_n 3, 1) := by decide +kernel
theorem dX1_make_22 : decode cX1_make 22 = .ok (.aload_n 0, 1) := by decide +kernel
theorem dX1_make_23 : decode cX1_make 23 = .ok (.lload_n 3, 1) := by decide +kernel
theorem dX1_make_24 : decode cX1_make 24 = .ok (.lload_n 3, 1) := by decide +kernel
theorem dX1_make_25 : decode cX1_make 25 = .ok (.invokevirtual 32, 3) := by decide +kernel
theorem dX1_make_28 : decode cX1_make 28 = .ok (.goto 22, 3) := by decide +kernel
theorem dX1_make_31 : decode cX1_make 31 = .ok (.iload_n 2, 1) := by decide +kernel
theorem dX1_make_32 : decode cX1_make 32 = .ok (.ifCond .eq 11, 3) := by decide +kernel
theorem dX1_make_35 : decode cX1_make 35 = .ok (.aload_n 0, 1) := by decide +kernel
theorem dX1_make_36 : decode cX1_make 36 = .ok (.iload_n 1, 1) := by decide +kernel
theorem dX1_make_37 : decode cX1_make 37 = .ok (.invokevirtual 36, 3) := by decide +kernel
theorem dX1_make_40 : decode cX1_make 40 = .ok (.goto 10, 3) := by decide +kernel
theorem dX1_make_43 : decode cX1_make 43 = .ok (.aload_n 0, 1) := by decide +kernel
theorem dX1_make_44 : decode cX1_make 44 = .ok (.iload_n 1, 1) := by decide +kernel
theorem dX1_make_45 : decode cX1_make 45 = .ok (.bipush 63, 2) := by decide +kernel
theorem dX1_make_47 : decode cX1_make 47 = .ok (.invokevirtual 40, 3) := by decide +kernel
theorem dX1_make_50 : decode cX1_make 50 = .ok (.return_, 1) := by decide +kernel
theorem dX1_isOfConsts_0 : decode cX1_isOfConsts 0 = .ok (.iload_n 1, 1) := by decide +kernel
theorem dX1_isOfConsts_1 : decode cX1_isOfConsts 1 = .ok (.ifCond .eq 15, 3) := by decide +kernel
theorem dX1_isOfConsts_4 : decode cX1_isOfConsts 4 = .ok (.aload_n 0, 1) := by decide +kernel
theorem dX1_isOfConsts_5 : decode cX1_isOfConsts 5 = .ok (.getfield 7, 3) := by decide +kernel
theorem dX1_isOfConsts_8 : decode cX1_isOfConsts 8 = .ok (.aload_n 0, 1) := by decide +kernel
theorem dX1_isOfConsts_9 : decode cX1_isOfConsts 9 = .ok (.getfield 13, 3) := by decide +kernel
theorem dX1_isOfConsts_12 : decode cX1_isOfConsts 12 = .ok (.lcmp, 1) := by decide +kernel
theorem dX1_isOfConsts_13 : decode cX1_isOfConsts 13 = .ok (.ifCond .ne 25, 3) := by decide +kernel
theorem dX1_isOfConsts_16 : decode cX1_isOfConsts 16 = .ok (.iload_n 1, 1) := by decide +kernel
theorem dX1_isOfConsts_17 : decode cX1_isOfConsts 17 = .ok (.bipush 12, 2) := by decide +kernel
theorem dX1_isOfConsts_19 : decode cX1_isOfConsts 19 = .ok (.if_icmp .eq 15, 3) := by decide +kernel
theorem dX1_isOfConsts_22 : decode cX1_isOfConsts 22 = .ok (.aload_n 0, 1) := by decide +kernel
theorem dX1_isOfConsts_23 : decode cX1_isOfConsts 23 = .ok (.getfield 16, 3) := by decide +kernel
theorem dX1_isOfConsts_26 : decode cX1_isOfConsts 26 = .ok (.aload_n 0, 1) := by decide +kernel
theorem dX1_isOfConsts_27 : decode cX1_isOfConsts 27 = .ok (.getfield 19, 3) := by decide +kernel
theorem dX1_isOfConsts_30 : decode cX1_isOfConsts 30 = .ok (.lcmp, 1) := by decide +kernel
theorem dX1_isOfConsts_31 : decode cX1_isOfConsts 31 = .ok (.ifCond .ne 7, 3) := by decide +kernel
theorem dX1_isOfConsts_34 : decode cX1_isOfConsts 34 = .ok (.iconst 1, 1) := by decide +kernel
theorem dX1_isOfConsts_35 : decode cX1_isOfConsts 35 = .ok (.goto 4, 3) := by decide +kernel
theorem dX1_isOfConsts_38 : decode cX1_isOfConsts 38 = .ok (.iconst 0, 1) := by decide +kernel
theorem dX1_isOfConsts_39 : decode cX1_isOfConsts 39 = .ok (.ireturn, 1) := by decide +kernel
theorem dX1_tell_0 : decode cX1_tell 0 = .ok (.aload_n 0, 1) := by decide +kernel
theorem dX1_tell_1 : decode cX1_tell 1 = .ok (.lload_n 1, 1) := by decide +kernel
theorem dX1_tell_2 : decode cX1_tell 2 = .ok (.putfield 44, 3) := by decide +kernel
theorem dX1_tell_5 : decode cX1_tell 5 = .ok (.aload_n 0, 1) := by decide +kernel
theorem dX1_tell_6 : decode cX1_tell 6 = .ok (.lload_n 3, 1) := by decide +kernel
theorem dX1_tell_7 : decode cX1_tell 7 = .ok (.putfield 47, 3) := by decide +kernel
theorem dX1_tell_10 : decode cX1_tell 10 = .ok (.return_, 1) := by decide +kernel
set_option maxRecDepth 20000 in
theorem ggX1_tellAll_X1_tell : GoodIn wsX1_tellAll wsX1_tell := goodIn_r _ [7, 8, 9, 10, 11, 12, 13, 14, 15] (by decide +kernel) (by decide +kernel)
set_option maxRecDepth 20000 in
theorem gX1_tellAll_X1_tell : GoodIn wsX1_tellAll (wsV RX1 32 RX1 yX1_tell wsX1_tell) := goodIn_app (goodIn_of _ (by decide +kernel)) ggX1_tellAll_X1_tell
theorem dX1_tellAll_0 : decode cX1_tellAll 0 = .ok (.aload_n 0, 1) := by decide +kernel
theorem dX1_tellAll_1 : decode cX1_tellAll 1 = .ok (.ldc2_w 50, 3) := by decide +kernel
theorem dX1_tellAll_4 : decode cX1_tellAll 4 = .ok (.ldc2_w 52, 3) := by decide +kernel
theorem dX1_tellAll_7 : decode cX1_tellAll 7 = .ok (.invokevirtual 32, 3) := by decide +kernel
theorem dX1_tellAll_10 : decode cX1_tellAll 10 = .ok (.return_, 1) := by decide +kernel
set_option maxRecDepth 20000 in
theorem ggX1_makeNarrow_X1_tell : GoodIn wsX1_makeNarrow wsX1_tell := goodIn_r _ [12, 6, 7, 108, 109, 110, 111, 112, 113] (by decide +kernel) (by decide +kernel)
set_option maxRecDepth 20000 in
theorem gX1_makeNarrow_X1_tell : GoodIn wsX1_makeNarrow (wsV RX1 32 RX1 yX1_tell wsX1_tell) := goodIn_app (goodIn_of _ (by decide +kernel)) ggX1_makeNarrow_X1_tell
set_option maxRecDepth 20000 in
theorem ggX1_makeNarrow_X1_narrowLow : GoodIn wsX1_makeNarrow wsX1_narrowLow := goodIn_r _ [15, 1, 16, 17, 11, 18] (by decide +kernel) (by decide +kernel)
set_option maxRecDepth 20000 in
theorem gX1_makeNarrow_X1_narrowLow : GoodIn wsX1_makeNarrow (va_wsS RX1 56 yX1_narrowLow wsX1_narrowLow) := goodIn_app (goodIn_of _ (by decide +kernel)) ggX1_makeNarrow_X1_narrowLow
set_option maxRecDepth 20000 in
theorem ggX1_makeNarrow_X1_narrowHigh : GoodIn wsX1_makeNarrow wsX1_narrowHigh := goodIn_r _ [21, 1, 16, 17, 11, 18] (by decide +kernel) (by decide +kernel)
set_option maxRecDepth 20000 in
theorem gX1_makeNarrow_X1_narrowHigh : GoodIn wsX1_makeNarrow (va_wsS RX1 60 yX1_narrowHigh wsX1_narrowHigh) := goodIn_app (goodIn_of _ (by decide +kernel)) ggX1_makeNarrow_X1_narrowHigh
set_option maxRecDepth 20000 in
theorem ggX1_makeNarrow_X1_take : GoodIn wsX1_makeNarrow wsX1_take := goodIn_r _ [25, 2, 3, 4, 5, 108, 109, 110, 111, 112, 113] (by decide +kernel) (by decide +kernel)
set_option maxRecDepth 20000 in
theorem gX1_makeNarrow_X1_take : GoodIn wsX1_makeNarrow (wsV RX1 63 RX1 yX1_take wsX1_take) := goodIn_app (goodIn_of _ (by decide +kernel)) ggX1_makeNarrow_X1_take
set_option maxRecDepth 20000 in
theorem ggX1_makeNarrow_X1_makeWide : GoodIn wsX1_makeNarrow wsX1_makeWide := goodIn_r _ [29, 4, 5, 2, 3, 30, 31, 32, 33, 8, 9, 10, 11, 12, 6, 7, 34, 35, 36, 37, 38, 39, 40, 41, 42, 43, 44, 45, 46, 47, 48, 49, 50, 51, 52, 53, 54, 55, 56, 57, 58, 59, 60, 61, 62, 63, 64, 65, 66, 67, 68, 69, 70, 71, 72, 73, 74, 75, 76, 77, 78, 79, 80, 81, 82, 83, 84, 85, 86, 87, 88, 89, 90, 91, 92, 93, 94, 95, 96, 97, 98, 99, 100, 101, 102, 103, 104, 105, 106, 107, 108, 109, 110, 111, 112, 113] (by decide +kernel) (by decide +kernel)
set_option maxRecDepth 20000 in
theorem gX1_makeNarrow_X1_makeWide : GoodIn wsX1_makeNarrow (wsV RX1 40 RX1 yX1_makeWide wsX1_makeWide) := goodIn_app (goodIn_of _ (by decide +kernel)) ggX1_makeNarrow_X1_makeWide
theorem dX1_makeNarrow_0 : decode cX1_makeNarrow 0 = .ok (.iload_n 1, 1) := by decide +kernel
theorem dX1_makeNarrow_1 : decode cX1_makeNarrow 1 = .ok (.bipush 11, 2) := by decide +kernel
theorem dX1_makeNarrow_3 : decode cX1_makeNarrow 3 = .ok (.if_icmp .eq 9, 3) := by decide +kernel
theorem dX1_makeNarrow_6 : decode cX1_makeNarrow 6 = .ok (.iload_n 1, 1) := by decide +kernel
theorem dX1_makeNarrow_7 : decode cX1_makeNarrow 7 = .ok (.bipush 12, 2) := by decide +kernel
theorem dX1_makeNarrow_9 : decode cX1_makeNarrow 9 = .ok (.if_icmp .ne 12, 3) := by decide +kernel
theorem dX1_makeNarrow_12 : decode cX1_makeNarrow 12 = .ok (.aload_n 0, 1) := by decide +kernel
theorem dX1_makeNarrow_13 : decode cX1_makeNarrow 13 = .ok (.lconst 0, 1) := by decide +kernel
theorem dX1_makeNarrow_14 : decode cX1_makeNarrow 14 = .ok (.ldc2_w 54, 3) := by decide +kernel
theorem dX1_makeNarrow_17 : decode cX1_makeNarrow 17 = .ok (.invokevirtual 32, 3) := by decide +kernel
theorem dX1_makeNarrow_20 : decode cX1_makeNarrow 20 = .ok (.return_, 1) := by decide +kernel
theorem dX1_makeNarrow_21 : decode cX1_makeNarrow 21 = .ok (.aload_n 0, 1) := by decide +kernel
theorem dX1_makeNarrow_22 : decode cX1_makeNarrow 22 = .ok (.aload_n 0, 1) := by decide +kernel
theorem dX1_makeNarrow_23 : decode cX1_makeNarrow 23 = .ok (.getfield 7, 3) := by decide +kernel
theorem dX1_makeNarrow_26 : decode cX1_makeNarrow 26 = .ok (.aload_n 0, 1) := by decide +kernel
theorem dX1_makeNarrow_27 : decode cX1_makeNarrow 27 = .ok (.getfield 13, 3) := by decide +kernel
theorem dX1_makeNarrow_30 : decode cX1_makeNarrow 30 = .ok (.invokestatic 56, 3) := by decide +kernel
theorem dX1_makeNarrow_33 : decode cX1_makeNarrow 33 = .ok (.aload_n 0, 1) := by decide +kernel
theorem dX1_makeNarrow_34 : decode cX1_makeNarrow 34 = .ok (.getfield 7, 3) := by decide +kernel
theorem dX1_makeNarrow_37 : decode cX1_makeNarrow 37 = .ok (.aload_n 0, 1) := by decide +kernel
theorem dX1_makeNarrow_38 : decode cX1_makeNarrow 38 = .ok (.getfield 13, 3) := by decide +kernel
theorem dX1_makeNarrow_41 : decode cX1_makeNarrow 41 = .ok (.invokestatic 60, 3) := by decide +kernel
theorem dX1_makeNarrow_44 : decode cX1_makeNarrow 44 = .ok (.aload_n 0, 1) := by decide +kernel
theorem dX1_makeNarrow_45 : decode cX1_makeNarrow 45 = .ok (.getfield 16, 3) := by decide +kernel
theorem dX1_makeNarrow_48 : decode cX1_makeNarrow 48 = .ok (.aload_n 0, 1) := by decide +kernel
theorem dX1_makeNarrow_49 : decode cX1_makeNarrow 49 = .ok (.getfield 19, 3) := by decide +kernel
theorem dX1_makeNarrow_52 : decode cX1_makeNarrow 52 = .ok (.invokestatic 56, 3) := by decide +kernel
theorem dX1_makeNarrow_55 : decode cX1_makeNarrow 55 = .ok (.aload_n 0, 1) := by decide +kernel
theorem dX1_makeNarrow_56 : decode cX1_makeNarrow 56 = .ok (.getfield 16, 3) := by decide +kernel
theorem dX1_makeNarrow_59 : decode cX1_makeNarrow 59 = .ok (.aload_n 0, 1) := by decide +kernel
theorem dX1_makeNarrow_60 : decode cX1_makeNarrow 60 = .ok (.getfield 19, 3) := by decide +kernel
theorem dX1_makeNarrow_63 : decode cX1_makeNarrow 63 = .ok (.invokestatic 60, 3) := by decide +kernel
theorem dX1_makeNarrow_66 : decode cX1_makeNarrow 66 = .ok (.invokevirtual 63, 3) := by decide +kernel
theorem dX1_makeNarrow_69 : decode cX1_makeNarrow 69 = .ok (.aload_n 0, 1) := by decide +kernel
theorem dX1_makeNarrow_70 : decode cX1_makeNarrow 70 = .ok (.iload_n 1, 1) := by decide +kernel
theorem dX1_makeNarrow_71 : decode cX1_makeNarrow 71 = .ok (.bipush 31, 2) := by decide +kernel
theorem dX1_makeNarrow_73 : decode cX1_makeNarrow 73 = .ok (.invokevirtual 40, 3) := by decide +kernel
theorem dX1_makeNarrow_76 : decode cX1_makeNarrow 76 = .ok (.aload_n 0, 1) := by decide +kernel
theorem dX1_makeNarrow_77 : decode cX1_makeNarrow 77 = .ok (.aload_n 0, 1) := by decide +kernel
theorem dX1_makeNarrow_78 : decode cX1_makeNarrow 78 = .ok (.getfield 44, 3) := by decide +kernel
theorem dX1_makeNarrow_81 : decode cX1_makeNarrow 81 = .ok (.aload_n 0, 1) := by decide +kernel
theorem dX1_makeNarrow_82 : decode cX1_makeNarrow 82 = .ok (.getfield 47, 3) := by decide +kernel
theorem dX1_makeNarrow_85 : decode cX1_makeNarrow 85 = .ok (.invokestatic 56, 3) := by decide +kernel
theorem dX1_makeNarrow_88 : decode cX1_makeNarrow 88 = .ok (.aload_n 0, 1) := by decide +kernel
theorem dX1_makeNarrow_89 : decode cX1_makeNarrow 89 = .ok (.getfield 44, 3) := by decide +kernel
theorem dX1_makeNarrow_92 : decode cX1_makeNarrow 92 = .ok (.aload_n 0, 1) := by decide +kernel
theorem dX1_makeNarrow_93 : decode cX1_makeNarrow 93 = .ok (.getfield 47, 3) := by decide +kernel
theorem dX1_makeNarrow_96 : decode cX1_makeNarrow 96 = .ok (.invokestatic 60, 3) := by decide +kernel
theorem dX1_makeNarrow_99 : decode cX1_makeNarrow 99 = .ok (.invokevirtual 32, 3) := by decide +kernel
theorem dX1_makeNarrow_102 : decode cX1_makeNarrow 102 = .ok (.return_, 1) := by decide +kernel
set_option maxRecDepth 20000 in
theorem ggX1_narrowLow_X1_isNarrow : GoodIn wsX1_narrowLow wsX1_isNarrow := goodIn_r _ [5, 1] (by decide +kernel) (by decide +kernel)
set_option maxRecDepth 20000 in
theorem gX1_narrowLow_X1_isNarrow : GoodIn wsX1_narrowLow (va_wsS RX1 67 yX1_isNarrow wsX1_isNarrow) := goodIn_app (goodIn_of _ (by decide +kernel)) ggX1_narrowLow_X1_isNarrow
theorem dX1_narrowLow_0 : decode cX1_narrowLow 0 = .ok (.lload_n 0, 1) := by decide +kernel
theorem dX1_narrowLow_1 : decode cX1_narrowLow 1 = .ok (.lload_n 2, 1) := by decide +kernel
theorem dX1_narrowLow_2 : decode cX1_narrowLow 2 = .ok (.lcmp, 1) := by decide +kernel
theorem dX1_narrowLow_3 : decode cX1_narrowLow 3 = .ok (.ifCond .ne 9, 3) := by decide +kernel
theorem dX1_narrowLow_6 : decode cX1_narrowLow 6 = .ok (.lload_n 0, 1) := by decide +kernel
theorem dX1_narrowLow_7 : decode cX1_narrowLow 7 = .ok (.ldc2_w 54, 3) := by decide +kernel
theorem dX1_narrowLow_10 : decode cX1_narrowLow 10 = .ok (.land, 1) := by decide +kernel
theorem dX1_narrowLow_11 : decode cX1_narrowLow 11 = .ok (.lreturn, 1) := by decide +kernel
theorem dX1_narrowLow_12 : decode cX1_narrowLow 12 = .ok (.lload_n 0, 1) := by decide +kernel
theorem dX1_narrowLow_13 : decode cX1_narrowLow 13 = .ok (.lload_n 2, 1) := by decide +kernel
theorem dX1_narrowLow_14 : decode cX1_narrowLow 14 = .ok (.invokestatic 67, 3) := by decide +kernel
theorem dX1_narrowLow_17 : decode cX1_narrowLow 17 = .ok (.ifCond .eq 7, 3) := by decide +kernel
theorem dX1_narrowLow_20 : decode cX1_narrowLow 20 = .ok (.lload_n 0, 1) := by decide +kernel
theorem dX1_narrowLow_21 : decode cX1_narrowLow 21 = .ok (.goto 4, 3) := by decide +kernel
theorem dX1_narrowLow_24 : decode cX1_narrowLow 24 = .ok (.lconst 0, 1) := by decide +kernel
theorem dX1_narrowLow_25 : decode cX1_narrowLow 25 = .ok (.lreturn, 1) := by decide +kernel
set_option maxRecDepth 20000 in
theorem ggX1_narrowHigh_X1_isNarrow : GoodIn wsX1_narrowHigh wsX1_isNarrow := goodIn_r _ [5, 1] (by decide +kernel) (by decide +kernel)
set_option maxRecDepth 20000 in
theorem gX1_narrowHigh_X1_isNarrow : GoodIn wsX1_narrowHigh (va_wsS RX1 67 yX1_isNarrow wsX1_isNarrow) := goodIn_app (goodIn_of _ (by decide +kernel)) ggX1_narrowHigh_X1_isNarrow
theorem dX1_narrowHigh_0 : decode cX1_narrowHigh 0 = .ok (.lload_n 0, 1) := by decide +kernel
theorem dX1_narrowHigh_1 : decode cX1_narrowHigh 1 = .ok (.lload_n 2, 1) := by decide +kernel
theorem dX1_narrowHigh_2 : decode cX1_narrowHigh 2 = .ok (.lcmp, 1) := by decide +kernel
theorem dX1_narrowHigh_3 : decode cX1_narrowHigh 3 = .ok (.ifCond .ne 9, 3) := by decide +kernel
theorem dX1_narrowHigh_6 : decode cX1_narrowHigh 6 = .ok (.lload_n 2, 1) := by decide +kernel
theorem dX1_narrowHigh_7 : decode cX1_narrowHigh 7 = .ok (.ldc2_w 54, 3) := by decide +kernel
theorem dX1_narrowHigh_10 : decode cX1_narrowHigh 10 = .ok (.land, 1) := by decide +kernel
theorem dX1_narrowHigh_11 : decode cX1_narrowHigh 11 = .ok (.lreturn, 1) := by decide +kernel
theorem dX1_narrowHigh_12 : decode cX1_narrowHigh 12 = .ok (.lload_n 0, 1) := by decide +kernel
theorem dX1_narrowHigh_13 : decode cX1_narrowHigh 13 = .ok (.lload_n 2, 1) := by decide +kernel
theorem dX1_narrowHigh_14 : decode cX1_narrowHigh 14 = .ok (.invokestatic 67, 3) := by decide +kernel
theorem dX1_narrowHigh_17 : decode cX1_narrowHigh 17 = .ok (.ifCond .eq 7, 3) := by decide +kernel
theorem dX1_narrowHigh_20 : decode cX1_narrowHigh 20 = .ok (.lload_n 2, 1) := by decide +kernel
theorem dX1_narrowHigh_21 : decode cX1_narrowHigh 21 = .ok (.goto 6, 3) := by decide +kernel
theorem dX1_narrowHigh_24 : decode cX1_narrowHigh 24 = .ok (.ldc2_w 54, 3) := by decide +kernel
theorem dX1_narrowHigh_27 : decode cX1_narrowHigh 27 = .ok (.lreturn, 1) := by decide +kernel
theorem dX1_isNarrow_0 : decode cX1_isNarrow 0 = .ok (.lload_n 0, 1) := by decide +kernel
theorem dX1_isNarrow_1 : decode cX1_isNarrow 1 = .ok (.lconst 0, 1) := by decide +kernel
theorem dX1_isNarrow_2 : decode cX1_isNarrow 2 = .ok (.lcmp, 1) := by decide +kernel
theorem dX1_isNarrow_3 : decode cX1_isNarrow 3 = .ok (.ifCond .lt 15, 3) := by decide +kernel
theorem dX1_isNarrow_6 : decode cX1_isNarrow 6 = .ok (.lload_n 2, 1) := by decide +kernel
theorem dX1_isNarrow_7 : decode cX1_isNarrow 7 = .ok (.ldc2_w 54, 3) := by decide +kernel
theorem dX1_isNarrow_10 : decode cX1_isNarrow 10 = .ok (.lcmp, 1) := by decide +kernel
theorem dX1_isNarrow_11 : decode cX1_isNarrow 11 = .ok (.ifCond .gt 7, 3) := by decide +kernel
theorem dX1_isNarrow_14 : decode cX1_isNarrow 14 = .ok (.iconst 1, 1) := by decide +kernel
theorem dX1_isNarrow_15 : decode cX1_isNarrow 15 = .ok (.goto 4, 3) := by decide +kernel
theorem dX1_isNarrow_18 : decode cX1_isNarrow 18 = .ok (.iconst 0, 1) := by decide +kernel
theorem dX1_isNarrow_19 : decode cX1_isNarrow 19 = .ok (.ireturn, 1) := by decide +kernel
set_option maxRecDepth 20000 in
theorem ggX1_makeWide_X1_tell : GoodIn wsX1_makeWide wsX1_tell := goodIn_r _ [13, 14, 15, 90, 91, 92, 93, 94, 95] (by decide +kernel) (by decide +kernel)
set_option maxRecDepth 20000 in
theorem gX1_makeWide_X1_tell : GoodIn wsX1_makeWide (wsV RX1 32 RX1 yX1_tell wsX1_tell) := goodIn_app (goodIn_of _ (by decide +kernel)) ggX1_makeWide_X1_tell
set_option maxRecDepth 20000 in
theorem ggX1_makeWide_X1_add : GoodIn wsX1_makeWide wsX1_add := goodIn_r _ [19, 3, 1, 4, 2, 20, 21, 12, 22, 9, 10, 11, 13, 14, 15, 23, 24, 25, 26, 27, 28, 90, 91, 92, 93, 94, 95] (by decide +kernel) (by decide +kernel)
set_option maxRecDepth 20000 in
theorem gX1_makeWide_X1_add : GoodIn wsX1_makeWide (wsV RX1 71 RX1 yX1_add wsX1_add) := goodIn_app (goodIn_of _ (by decide +kernel)) ggX1_makeWide_X1_add
set_option maxRecDepth 20000 in
theorem ggX1_makeWide_X1_subtract : GoodIn wsX1_makeWide wsX1_subtract := goodIn_r _ [32, 33, 34, 12, 35, 9, 10, 11, 13, 14, 15, 23, 24, 25, 26, 27, 28, 90, 91, 92, 93, 94, 95] (by decide +kernel) (by decide +kernel)
set_option maxRecDepth 20000 in
theorem gX1_makeWide_X1_subtract : GoodIn wsX1_makeWide (wsV RX1 74 RX1 yX1_subtract wsX1_subtract) := goodIn_app (goodIn_of _ (by decide +kernel)) ggX1_makeWide_X1_subtract
set_option maxRecDepth 20000 in
theorem ggX1_makeWide_X1_multiply : GoodIn wsX1_makeWide wsX1_multiply := goodIn_r _ [39, 3, 1, 2, 4, 40, 41, 7, 42, 5, 6, 8, 43, 44, 12, 45, 46, 27, 23, 24, 25, 26, 28, 9, 10, 11, 13, 14, 15, 90, 91, 92, 93, 94, 95] (by decide +kernel) (by decide +kernel)
set_option maxRecDepth 20000 in
theorem gX1_makeWide_X1_multiply : GoodIn wsX1_makeWide (wsV RX1 77 RX1 yX1_multiply wsX1_multiply) := goodIn_app (goodIn_of _ (by decide +kernel)) ggX1_makeWide_X1_multiply
set_option maxRecDepth 20000 in
theorem ggX1_makeWide_X1_divide : GoodIn wsX1_makeWide wsX1_divide := goodIn_r _ [50, 3, 1, 2, 4, 51, 52, 53, 54, 55, 56, 57, 58, 9, 10, 11, 12, 13, 14, 15, 23, 24, 25, 26, 27, 28, 90, 91, 92, 93, 94, 95] (by decide +kernel) (by decide +kernel)
set_option maxRecDepth 20000 in
theorem gX1_makeWide_X1_divide : GoodIn wsX1_makeWide (wsV RX1 80 RX1 yX1_divide wsX1_divide) := goodIn_app (goodIn_of _ (by decide +kernel)) ggX1_makeWide_X1_divide
set_option maxRecDepth 20000 in
theorem ggX1_makeWide_X1_rest : GoodIn wsX1_makeWide wsX1_rest := goodIn_r _ [62, 3, 1, 4, 2, 40, 41, 7, 42, 9, 10, 11, 12, 13, 14, 15, 23, 24, 25, 26, 27, 28, 90, 91, 92, 93, 94, 95] (by decide +kernel) (by decide +kernel)
set_option maxRecDepth 20000 in
theorem gX1_makeWide_X1_rest : GoodIn wsX1_makeWide (wsV RX1 83 RX1 yX1_rest wsX1_rest) := goodIn_app (goodIn_of _ (by decide +kernel)) ggX1_makeWide_X1_rest
set_option maxRecDepth 20000 in
theorem ggX1_makeWide_X1_and : GoodIn wsX1_makeWide wsX1_and := goodIn_r _ [66, 3, 1, 4, 2, 40, 41, 7, 42, 9, 10, 11, 12, 13, 14, 15, 23, 24, 25, 26, 27, 28, 90, 91, 92, 93, 94, 95] (by decide +kernel) (by decide +kernel)
set_option maxRecDepth 20000 in
theorem gX1_makeWide_X1_and : GoodIn wsX1_makeWide (wsV RX1 86 RX1 yX1_and wsX1_and) := goodIn_app (goodIn_of _ (by decide +kernel)) ggX1_makeWide_X1_and
set_option maxRecDepth 20000 in
theorem ggX1_makeWide_X1_joinBits : GoodIn wsX1_makeWide wsX1_joinBits := goodIn_r _ [70, 3, 1, 4, 2, 71, 72, 12, 73, 9, 10, 11, 13, 14, 15, 23, 24, 25, 26, 27, 28, 90, 91, 92, 93, 94, 95] (by decide +kernel) (by decide +kernel)
set_option maxRecDepth 20000 in
theorem gX1_makeWide_X1_joinBits : GoodIn wsX1_makeWide (wsV RX1 94 RX1 yX1_joinBits wsX1_joinBits) := goodIn_app (goodIn_of _ (by decide +kernel)) ggX1_makeWide_X1_joinBits
set_option maxRecDepth 20000 in
theorem ggX1_makeWide_X1_shiftLeft : GoodIn wsX1_makeWide wsX1_shiftLeft := goodIn_r _ [77, 1, 2, 3, 4, 9, 10, 11, 12, 13, 14, 15, 23, 24, 25, 26, 27, 28, 90, 91, 92, 93, 94, 95] (by decide +kernel) (by decide +kernel)
set_option maxRecDepth 20000 in
theorem gX1_makeWide_X1_shiftLeft : GoodIn wsX1_makeWide (wsV RX1 98 RX1 yX1_shiftLeft wsX1_shiftLeft) := goodIn_app (goodIn_of _ (by decide +kernel)) ggX1_makeWide_X1_shiftLeft
set_option maxRecDepth 20000 in
theorem ggX1_makeWide_X1_shiftRight : GoodIn wsX1_makeWide wsX1_shiftRight := goodIn_r _ [81, 1, 2, 3, 4, 46, 82, 83, 84, 12, 85, 9, 10, 11, 13, 14, 15, 23, 24, 25, 26, 27, 28, 90, 91, 92, 93, 94, 95] (by decide +kernel) (by decide +kernel)
set_option maxRecDepth 20000 in
theorem gX1_makeWide_X1_shiftRight : GoodIn wsX1_makeWide (wsV RX1 101 RX1 yX1_shiftRight wsX1_shiftRight) := goodIn_app (goodIn_of _ (by decide +kernel)) ggX1_makeWide_X1_shiftRight
set_option maxRecDepth 20000 in
theorem ggX1_makeWide_X1_shiftSignedRight : GoodIn wsX1_makeWide wsX1_shiftSignedRight := goodIn_r _ [89, 1, 2, 3, 4, 82, 83, 84, 12, 85, 9, 10, 11, 13, 14, 15, 23, 24, 25, 26, 27, 28, 90, 91, 92, 93, 94, 95] (by decide +kernel) (by decide +kernel)
set_option maxRecDepth 20000 in
theorem gX1_makeWide_X1_shiftSignedRight : GoodIn wsX1_makeWide (wsV RX1 104 RX1 yX1_shiftSignedRight wsX1_shiftSignedRight) := goodIn_app (goodIn_of _ (by decide +kernel)) ggX1_makeWide_X1_shiftSignedRight
theorem dX1_makeWide_0 : decode cX1_makeWide 0 = .ok (.iload_n 1, 1) := by decide +kernel
theorem dX1_makeWide_1 : decode cX1_makeWide 1 = .ok (.tableswitch 204 0 11 #[63, 78, 85, 108, 115, 122, 129, 136, 154, 162, 176, 190], 63) := by decide +kernel
theorem dX1_makeWide_64 : decode cX1_makeWide 64 = .ok (.aload_n 0, 1) := by decide +kernel
theorem dX1_makeWide_65 : decode cX1_makeWide 65 = .ok (.aload_n 0, 1) := by decide +kernel
theorem dX1_makeWide_66 : decode cX1_makeWide 66 = .ok (.getfield 16, 3) := by decide +kernel
theorem dX1_makeWide_69 : decode cX1_makeWide 69 = .ok (.aload_n 0, 1) := by decide +kernel
theorem dX1_makeWide_70 : decode cX1_makeWide 70 = .ok (.getfield 19, 3) := by decide +kernel
theorem dX1_makeWide_73 : decode cX1_makeWide 73 = .ok (.invokevirtual 32, 3) := by decide +kernel
theorem dX1_makeWide_76 : decode cX1_makeWide 76 = .ok (.goto 143, 3) := by decide +kernel
theorem dX1_makeWide_79 : decode cX1_makeWide 79 = .ok (.aload_n 0, 1) := by decide +kernel
theorem dX1_makeWide_80 : decode cX1_makeWide 80 = .ok (.invokevirtual 71, 3) := by decide +kernel
theorem dX1_makeWide_83 : decode cX1_makeWide 83 = .ok (.goto 136, 3) := by decide +kernel
theorem dX1_makeWide_86 : decode cX1_makeWide 86 = .ok (.aload_n 0, 1) := by decide +kernel
theorem dX1_makeWide_87 : decode cX1_makeWide 87 = .ok (.aload_n 0, 1) := by decide +kernel
theorem dX1_makeWide_88 : decode cX1_makeWide 88 = .ok (.getfield 7, 3) := by decide +kernel
theorem dX1_makeWide_91 : decode cX1_makeWide 91 = .ok (.aload_n 0, 1) := by decide +kernel
theorem dX1_makeWide_92 : decode cX1_makeWide 92 = .ok (.getfield 13, 3) := by decide +kernel
theorem dX1_makeWide_95 : decode cX1_makeWide 95 = .ok (.aload_n 0, 1) := by decide +kernel
theorem dX1_makeWide_96 : decode cX1_makeWide 96 = .ok (.getfield 16, 3) := by decide +kernel
theorem dX1_makeWide_99 : decode cX1_makeWide 99 = .ok (.aload_n 0, 1) := by decide +kernel
theorem dX1_makeWide_100 : decode cX1_makeWide 100 = .ok (.getfield 19, 3) := by decide +kernel
theorem dX1_makeWide_103 : decode cX1_makeWide 103 = .ok (.invokevirtual 74, 3) := by decide +kernel
theorem dX1_makeWide_106 : decode cX1_makeWide 106 = .ok (.goto 113, 3) := by decide +kernel
theorem dX1_makeWide_109 : decode cX1_makeWide 109 = .ok (.aload_n 0, 1) := by decide +kernel
theorem dX1_makeWide_110 : decode cX1_makeWide 110 = .ok (.invokevirtual 77, 3) := by decide +kernel
theorem dX1_makeWide_113 : decode cX1_makeWide 113 = .ok (.goto 106, 3) := by decide +kernel
theorem dX1_makeWide_116 : decode cX1_makeWide 116 = .ok (.aload_n 0, 1) := by decide +kernel
theorem dX1_makeWide_117 : decode cX1_makeWide 117 = .ok (.invokevirtual 80, 3) := by decide +kernel
theorem dX1_makeWide_120 : decode cX1_makeWide 120 = .ok (.goto 99, 3) := by decide +kernel
theorem dX1_makeWide_123 : decode cX1_makeWide 123 = .ok (.aload_n 0, 1) := by decide +kernel
theorem dX1_makeWide_124 : decode cX1_makeWide 124 = .ok (.invokevirtual 83, 3) := by decide +kernel
theorem dX1_makeWide_127 : decode cX1_makeWide 127 = .ok (.goto 92, 3) := by decide +kernel
theorem dX1_makeWide_130 : decode cX1_makeWide 130 = .ok (.aload_n 0, 1) := by decide +kernel
theorem dX1_makeWide_131 : decode cX1_makeWide 131 = .ok (.invokevirtual 86, 3) := by decide +kernel
theorem dX1_makeWide_134 : decode cX1_makeWide 134 = .ok (.goto 85, 3) := by decide +kernel
theorem dX1_makeWide_137 : decode cX1_makeWide 137 = .ok (.aload_n 0, 1) := by decide +kernel
theorem dX1_makeWide_138 : decode cX1_makeWide 138 = .ok (.aload_n 0, 1) := by decide +kernel
theorem dX1_makeWide_139 : decode cX1_makeWide 139 = .ok (.getfield 7, 3) := by decide +kernel
theorem dX1_makeWide_142 : decode cX1_makeWide 142 = .ok (.aload_n 0, 1) := by decide +kernel
theorem dX1_makeWide_143 : decode cX1_makeWide 143 = .ok (.getfield 16, 3) := by decide +kernel
theorem dX1_makeWide_146 : decode cX1_makeWide 146 = .ok (.invokestatic 89, 3) := by decide +kernel
theorem dX1_makeWide_149 : decode cX1_makeWide 149 = .ok (.invokevirtual 94, 3) := by decide +kernel
theorem dX1_makeWide_152 : decode cX1_makeWide 152 = .ok (.goto 67, 3) := by decide +kernel
theorem dX1_makeWide_155 : decode cX1_makeWide 155 = .ok (.aload_n 0, 1) := by decide +kernel
theorem dX1_makeWide_156 : decode cX1_makeWide 156 = .ok (.lconst 0, 1) := by decide +kernel
theorem dX1_makeWide_157 : decode cX1_makeWide 157 = .ok (.invokevirtual 94, 3) := by decide +kernel
theorem dX1_makeWide_160 : decode cX1_makeWide 160 = .ok (.goto 59, 3) := by decide +kernel
theorem dX1_makeWide_163 : decode cX1_makeWide 163 = .ok (.aload_n 0, 1) := by decide +kernel
theorem dX1_makeWide_164 : decode cX1_makeWide 164 = .ok (.aload_n 0, 1) := by decide +kernel
theorem dX1_makeWide_165 : decode cX1_makeWide 165 = .ok (.getfield 16, 3) := by decide +kernel
theorem dX1_makeWide_168 : decode cX1_makeWide 168 = .ok (.l2i, 1) := by decide +kernel
theorem dX1_makeWide_169 : decode cX1_makeWide 169 = .ok (.iload_n 2, 1) := by decide +kernel
theorem dX1_makeWide_170 : decode cX1_makeWide 170 = .ok (.iand, 1) := by decide +kernel
theorem dX1_makeWide_171 : decode cX1_makeWide 171 = .ok (.invokevirtual 98, 3) := by decide +kernel
theorem dX1_makeWide_174 : decode cX1_makeWide 174 = .ok (.goto 45, 3) := by decide +kernel
theorem dX1_makeWide_177 : decode cX1_makeWide 177 = .ok (.aload_n 0, 1) := by decide +kernel
theorem dX1_makeWide_178 : decode cX1_makeWide 178 = .ok (.aload_n 0, 1) := by decide +kernel
theorem dX1_makeWide_179 : decode cX1_makeWide 179 = .ok (.getfield 16, 3) := by decide +kernel
theorem dX1_makeWide_182 : decode cX1_makeWide 182 = .ok (.l2i, 1) := by decide +kernel
theorem dX1_makeWide_183 : decode cX1_makeWide 183 = .ok (.iload_n 2, 1) := by decide +kernel
theorem dX1_makeWide_184 : decode cX1_makeWide 184 = .ok (.iand, 1) := by decide +kernel
theorem dX1_makeWide_185 : decode cX1_makeWide 185 = .ok (.invokevirtual 101, 3) := by decide +kernel
theorem dX1_makeWide_188 : decode cX1_makeWide 188 = .ok (.goto 31, 3) := by decide +kernel
theorem dX1_makeWide_191 : decode cX1_makeWide 191 = .ok (.aload_n 0, 1) := by decide +kernel
theorem dX1_makeWide_192 : decode cX1_makeWide 192 = .ok (.aload_n 0, 1) := by decide +kernel
theorem dX1_makeWide_193 : decode cX1_makeWide 193 = .ok (.getfield 16, 3) := by decide +kernel
theorem dX1_makeWide_196 : decode cX1_makeWide 196 = .ok (.l2i, 1) := by decide +kernel
theorem dX1_makeWide_197 : decode cX1_makeWide 197 = .ok (.iload_n 2, 1) := by decide +kernel
theorem dX1_makeWide_198 : decode cX1_makeWide 198 = .ok (.iand, 1) := by decide +kernel
theorem dX1_makeWide_199 : decode cX1_makeWide 199 = .ok (.invokevirtual 104, 3) := by decide +kernel
theorem dX1_makeWide_202 : decode cX1_makeWide 202 = .ok (.goto 17, 3) := by decide +kernel
theorem dX1_makeWide_205 : decode cX1_makeWide 205 = .ok (.aload_n 0, 1) := by decide +kernel
theorem dX1_makeWide_206 : decode cX1_makeWide 206 = .ok (.lconst 0, 1) := by decide +kernel
theorem dX1_makeWide_207 : decode cX1_makeWide 207 = .ok (.lconst 0, 1) := by decide +kernel
theorem dX1_makeWide_208 : decode cX1_makeWide 208 = .ok (.aload_n 0, 1) := by decide +kernel
theorem dX1_makeWide_209 : decode cX1_makeWide 209 = .ok (.getfield 7, 3) := by decide +kernel
theorem dX1_makeWide_212 : decode cX1_makeWide 212 = .ok (.aload_n 0, 1) := by decide +kernel
theorem dX1_makeWide_213 : decode cX1_makeWide 213 = .ok (.getfield 13, 3) := by decide +kernel
theorem dX1_makeWide_216 : decode cX1_makeWide 216 = .ok (.invokevirtual 74, 3) := by decide +kernel
theorem dX1_makeWide_219 : decode cX1_makeWide 219 = .ok (.return_, 1) := by decide +kernel
set_option maxRecDepth 20000 in
theorem ggX1_add_X1_isSumLong : GoodIn wsX1_add wsX1_isSumLong := goodIn_r _ [8] (by decide +kernel) (by decide +kernel)
set_option maxRecDepth 20000 in
theorem gX1_add_X1_isSumLong : GoodIn wsX1_add (va_wsS RX1 107 yX1_isSumLong wsX1_isSumLong) := goodIn_app (goodIn_of _ (by decide +kernel)) ggX1_add_X1_isSumLong
set_option maxRecDepth 20000 in
theorem ggX1_add_X1_tell : GoodIn wsX1_add wsX1_tell := goodIn_r _ [12, 13, 14, 21, 22, 23, 24, 25, 26] (by decide +kernel) (by decide +kernel)
set_option maxRecDepth 20000 in
theorem gX1_add_X1_tell : GoodIn wsX1_add (wsV RX1 32 RX1 yX1_tell wsX1_tell) := goodIn_app (goodIn_of _ (by decide +kernel)) ggX1_add_X1_tell
set_option maxRecDepth 20000 in
theorem ggX1_add_X1_tellAll : GoodIn wsX1_add wsX1_tellAll := goodIn_r _ [18, 19, 20, 9, 10, 11, 7, 12, 13, 14, 21, 22, 23, 24, 25, 26] (by decide +kernel) (by decide +kernel)
set_option maxRecDepth 20000 in
theorem gX1_add_X1_tellAll : GoodIn wsX1_add (wsV RX1 110 RX1 yX1_tellAll wsX1_tellAll) := goodIn_app (goodIn_of _ (by decide +kernel)) ggX1_add_X1_tellAll
theorem dX1_add_0 : decode cX1_add 0 = .ok (.aload_n 0, 1) := by decide +kernel
theorem dX1_add_1 : decode cX1_add 1 = .ok (.getfield 7, 3) := by decide +kernel
theorem dX1_add_4 : decode cX1_add 4 = .ok (.aload_n 0, 1) := by decide +kernel
theorem dX1_add_5 : decode cX1_add 5 = .ok (.getfield 16, 3) := by decide +kernel
theorem dX1_add_8 : decode cX1_add 8 = .ok (.invokestatic 107, 3) := by decide +kernel
theorem dX1_add_11 : decode cX1_add 11 = .ok (.ifCond .eq 42, 3) := by decide +kernel
theorem dX1_add_14 : decode cX1_add 14 = .ok (.aload_n 0, 1) := by decide +kernel
theorem dX1_add_15 : decode cX1_add 15 = .ok (.getfield 13, 3) := by decide +kernel
theorem dX1_add_18 : decode cX1_add 18 = .ok (.aload_n 0, 1) := by decide +kernel
theorem dX1_add_19 : decode cX1_add 19 = .ok (.getfield 19, 3) := by decide +kernel
theorem dX1_add_22 : decode cX1_add 22 = .ok (.invokestatic 107, 3) := by decide +kernel
theorem dX1_add_25 : decode cX1_add 25 = .ok (.ifCond .eq 28, 3) := by decide +kernel
theorem dX1_add_28 : decode cX1_add 28 = .ok (.aload_n 0, 1) := by decide +kernel
theorem dX1_add_29 : decode cX1_add 29 = .ok (.aload_n 0, 1) := by decide +kernel
theorem dX1_add_30 : decode cX1_add 30 = .ok (.getfield 7, 3) := by decide +kernel
theorem dX1_add_33 : decode cX1_add 33 = .ok (.aload_n 0, 1) := by decide +kernel
theorem dX1_add_34 : decode cX1_add 34 = .ok (.getfield 16, 3) := by decide +kernel
theorem dX1_add_37 : decode cX1_add 37 = .ok (.ladd, 1) := by decide +kernel
theorem dX1_add_38 : decode cX1_add 38 = .ok (.aload_n 0, 1) := by decide +kernel
theorem dX1_add_39 : decode cX1_add 39 = .ok (.getfield 13, 3) := by decide +kernel
theorem dX1_add_42 : decode cX1_add 42 = .ok (.aload_n 0, 1) := by decide +kernel
theorem dX1_add_43 : decode cX1_add 43 = .ok (.getfield 19, 3) := by decide +kernel
theorem dX1_add_46 : decode cX1_add 46 = .ok (.ladd, 1) := by decide +kernel
theorem dX1_add_47 : decode cX1_add 47 = .ok (.invokevirtual 32, 3) := by decide +kernel
theorem dX1_add_50 : decode cX1_add 50 = .ok (.goto 7, 3) := by decide +kernel
theorem dX1_add_53 : decode cX1_add 53 = .ok (.aload_n 0, 1) := by decide +kernel
theorem dX1_add_54 : decode cX1_add 54 = .ok (.invokevirtual 110, 3) := by decide +kernel
theorem dX1_add_57 : decode cX1_add 57 = .ok (.return_, 1) := by decide +kernel
set_option maxRecDepth 20000 in
theorem ggX1_subtract_X1_isDifferenceLong : GoodIn wsX1_subtract wsX1_isDifferenceLong := goodIn_r _ [4] (by decide +kernel) (by decide +kernel)
set_option maxRecDepth 20000 in
theorem gX1_subtract_X1_isDifferenceLong : GoodIn wsX1_subtract (va_wsS RX1 113 yX1_isDifferenceLong wsX1_isDifferenceLong) := goodIn_app (goodIn_of _ (by decide +kernel)) ggX1_subtract_X1_isDifferenceLong
set_option maxRecDepth 20000 in
theorem ggX1_subtract_X1_tell : GoodIn wsX1_subtract wsX1_tell := goodIn_r _ [8, 9, 10, 17, 18, 19, 20, 21, 22] (by decide +kernel) (by decide +kernel)
set_option maxRecDepth 20000 in
theorem gX1_subtract_X1_tell : GoodIn wsX1_subtract (wsV RX1 32 RX1 yX1_tell wsX1_tell) := goodIn_app (goodIn_of _ (by decide +kernel)) ggX1_subtract_X1_tell
set_option maxRecDepth 20000 in
theorem ggX1_subtract_X1_tellAll : GoodIn wsX1_subtract wsX1_tellAll := goodIn_r _ [14, 15, 16, 5, 6, 7, 3, 8, 9, 10, 17, 18, 19, 20, 21, 22] (by decide +kernel) (by decide +kernel)
set_option maxRecDepth 20000 in
theorem gX1_subtract_X1_tellAll : GoodIn wsX1_subtract (wsV RX1 110 RX1 yX1_tellAll wsX1_tellAll) := goodIn_app (goodIn_of _ (by decide +kernel)) ggX1_subtract_X1_tellAll
theorem dX1_subtract_0 : decode cX1_subtract 0 = .ok (.lload_n 1, 1) := by decide +kernel
theorem dX1_subtract_1 : decode cX1_subtract 1 = .ok (.lload 7, 2) := by decide +kernel
theorem dX1_subtract_3 : decode cX1_subtract 3 = .ok (.invokestatic 113, 3) := by decide +kernel
theorem dX1_subtract_6 : decode cX1_subtract 6 = .ok (.ifCond .eq 27, 3) := by decide +kernel
theorem dX1_subtract_9 : decode cX1_subtract 9 = .ok (.lload_n 3, 1) := by decide +kernel
theorem dX1_subtract_10 : decode cX1_subtract 10 = .ok (.lload 5, 2) := by decide +kernel
theorem dX1_subtract_12 : decode cX1_subtract 12 = .ok (.invokestatic 113, 3) := by decide +kernel
theorem dX1_subtract_15 : decode cX1_subtract 15 = .ok (.ifCond .eq 18, 3) := by decide +kernel
theorem dX1_subtract_18 : decode cX1_subtract 18 = .ok (.aload_n 0, 1) := by decide +kernel
theorem dX1_subtract_19 : decode cX1_subtract 19 = .ok (.lload_n 1, 1) := by decide +kernel
theorem dX1_subtract_20 : decode cX1_subtract 20 = .ok (.lload 7, 2) := by decide +kernel
theorem dX1_subtract_22 : decode cX1_subtract 22 = .ok (.lsub, 1) := by decide +kernel
theorem dX1_subtract_23 : decode cX1_subtract 23 = .ok (.lload_n 3, 1) := by decide +kernel
theorem dX1_subtract_24 : decode cX1_subtract 24 = .ok (.lload 5, 2) := by decide +kernel
theorem dX1_subtract_26 : decode cX1_subtract 26 = .ok (.lsub, 1) := by decide +kernel
theorem dX1_subtract_27 : decode cX1_subtract 27 = .ok (.invokevirtual 32, 3) := by decide +kernel
theorem dX1_subtract_30 : decode cX1_subtract 30 = .ok (.goto 7, 3) := by decide +kernel
theorem dX1_subtract_33 : decode cX1_subtract 33 = .ok (.aload_n 0, 1) := by decide +kernel
theorem dX1_subtract_34 : decode cX1_subtract 34 = .ok (.invokevirtual 110, 3) := by decide +kernel
theorem dX1_subtract_37 : decode cX1_subtract 37 = .ok (.return_, 1) := by decide +kernel
set_option maxRecDepth 20000 in
theorem ggX1_multiply_X1_isProductLong : GoodIn wsX1_multiply wsX1_isProductLong := goodIn_r _ [15, 16, 17] (by decide +kernel) (by decide +kernel)
set_option maxRecDepth 20000 in
theorem gX1_multiply_X1_isProductLong : GoodIn wsX1_multiply (va_wsS RX1 116 yX1_isProductLong wsX1_isProductLong) := goodIn_app (goodIn_of _ (by decide +kernel)) ggX1_multiply_X1_isProductLong
set_option maxRecDepth 20000 in
theorem ggX1_multiply_X1_tellAll : GoodIn wsX1_multiply wsX1_tellAll := goodIn_r _ [21, 17, 22, 23, 24, 25, 14, 26, 27, 28, 29, 30, 31, 32, 33, 34] (by decide +kernel) (by decide +kernel)
set_option maxRecDepth 20000 in
theorem gX1_multiply_X1_tellAll : GoodIn wsX1_multiply (wsV RX1 110 RX1 yX1_tellAll wsX1_tellAll) := goodIn_app (goodIn_of _ (by decide +kernel)) ggX1_multiply_X1_tellAll
set_option maxRecDepth 20000 in
theorem ggX1_multiply_X1_tell : GoodIn wsX1_multiply wsX1_tell := goodIn_r _ [26, 27, 28, 29, 30, 31, 32, 33, 34] (by decide +kernel) (by decide +kernel)
set_option maxRecDepth 20000 in
theorem gX1_multiply_X1_tell : GoodIn wsX1_multiply (wsV RX1 32 RX1 yX1_tell wsX1_tell) := goodIn_app (goodIn_of _ (by decide +kernel)) ggX1_multiply_X1_tell
theorem dX1_multiply_0 : decode cX1_multiply 0 = .ok (.aload_n 0, 1) := by decide +kernel
theorem dX1_multiply_1 : decode cX1_multiply 1 = .ok (.getfield 7, 3) := by decide +kernel
theorem dX1_multiply_4 : decode cX1_multiply 4 = .ok (.aload_n 0, 1) := by decide +kernel
theorem dX1_multiply_5 : decode cX1_multiply 5 = .ok (.getfield 16, 3) := by decide +kernel
theorem dX1_multiply_8 : decode cX1_multiply 8 = .ok (.invokestatic 116, 3) := by decide +kernel
theorem dX1_multiply_11 : decode cX1_multiply 11 = .ok (.ifCond .eq 45, 3) := by decide +kernel
theorem dX1_multiply_14 : decode cX1_multiply 14 = .ok (.aload_n 0, 1) := by decide +kernel
theorem dX1_multiply_15 : decode cX1_multiply 15 = .ok (.getfield 7, 3) := by decide +kernel
theorem dX1_multiply_18 : decode cX1_multiply 18 = .ok (.aload_n 0, 1) := by decide +kernel
theorem dX1_multiply_19 : decode cX1_multiply 19 = .ok (.getfield 19, 3) := by decide +kernel
theorem dX1_multiply_22 : decode cX1_multiply 22 = .ok (.invokestatic 116, 3) := by decide +kernel
theorem dX1_multiply_25 : decode cX1_multiply 25 = .ok (.ifCond .eq 31, 3) := by decide +kernel
theorem dX1_multiply_28 : decode cX1_multiply 28 = .ok (.aload_n 0, 1) := by decide +kernel
theorem dX1_multiply_29 : decode cX1_multiply 29 = .ok (.getfield 13, 3) := by decide +kernel
theorem dX1_multiply_32 : decode cX1_multiply 32 = .ok (.aload_n 0, 1) := by decide +kernel
theorem dX1_multiply_33 : decode cX1_multiply 33 = .ok (.getfield 16, 3) := by decide +kernel
theorem dX1_multiply_36 : decode cX1_multiply 36 = .ok (.invokestatic 116, 3) := by decide +kernel
theorem dX1_multiply_39 : decode cX1_multiply 39 = .ok (.ifCond .eq 17, 3) := by decide +kernel
theorem dX1_multiply_42 : decode cX1_multiply 42 = .ok (.aload_n 0, 1) := by decide +kernel
theorem dX1_multiply_43 : decode cX1_multiply 43 = .ok (.getfield 13, 3) := by decide +kernel
theorem dX1_multiply_46 : decode cX1_multiply 46 = .ok (.aload_n 0, 1) := by decide +kernel
theorem dX1_multiply_47 : decode cX1_multiply 47 = .ok (.getfield 19, 3) := by decide +kernel
theorem dX1_multiply_50 : decode cX1_multiply 50 = .ok (.invokestatic 116, 3) := by decide +kernel
theorem dX1_multiply_53 : decode cX1_multiply 53 = .ok (.ifCond .ne 8, 3) := by decide +kernel
theorem dX1_multiply_56 : decode cX1_multiply 56 = .ok (.aload_n 0, 1) := by decide +kernel
theorem dX1_multiply_57 : decode cX1_multiply 57 = .ok (.invokevirtual 110, 3) := by decide +kernel
theorem dX1_multiply_60 : decode cX1_multiply 60 = .ok (.return_, 1) := by decide +kernel
theorem dX1_multiply_61 : decode cX1_multiply 61 = .ok (.aload_n 0, 1) := by decide +kernel
theorem dX1_multiply_62 : decode cX1_multiply 62 = .ok (.getfield 7, 3) := by decide +kernel
theorem dX1_multiply_65 : decode cX1_multiply 65 = .ok (.aload_n 0, 1) := by decide +kernel
theorem dX1_multiply_66 : decode cX1_multiply 66 = .ok (.getfield 16, 3) := by decide +kernel
theorem dX1_multiply_69 : decode cX1_multiply 69 = .ok (.lmul, 1) := by decide +kernel
theorem dX1_multiply_70 : decode cX1_multiply 70 = .ok (.lstore_n 1, 1) := by decide +kernel
theorem dX1_multiply_71 : decode cX1_multiply 71 = .ok (.aload_n 0, 1) := by decide +kernel
theorem dX1_multiply_72 : decode cX1_multiply 72 = .ok (.getfield 7, 3) := by decide +kernel
theorem dX1_multiply_75 : decode cX1_multiply 75 = .ok (.aload_n 0, 1) := by decide +kernel
theorem dX1_multiply_76 : decode cX1_multiply 76 = .ok (.getfield 19, 3) := by decide +kernel
theorem dX1_multiply_79 : decode cX1_multiply 79 = .ok (.lmul, 1) := by decide +kernel
theorem dX1_multiply_80 : decode cX1_multiply 80 = .ok (.lstore_n 3, 1) := by decide +kernel
theorem dX1_multiply_81 : decode cX1_multiply 81 = .ok (.aload_n 0, 1) := by decide +kernel
theorem dX1_multiply_82 : decode cX1_multiply 82 = .ok (.getfield 13, 3) := by decide +kernel
theorem dX1_multiply_85 : decode cX1_multiply 85 = .ok (.aload_n 0, 1) := by decide +kernel
theorem dX1_multiply_86 : decode cX1_multiply 86 = .ok (.getfield 16, 3) := by decide +kernel
theorem dX1_multiply_89 : decode cX1_multiply 89 = .ok (.lmul, 1) := by decide +kernel
theorem dX1_multiply_90 : decode cX1_multiply 90 = .ok (.lstore 5, 2) := by decide +kernel
theorem dX1_multiply_92 : decode cX1_multiply 92 = .ok (.aload_n 0, 1) := by decide +kernel
theorem dX1_multiply_93 : decode cX1_multiply 93 = .ok (.getfield 13, 3) := by decide +kernel
theorem dX1_multiply_96 : decode cX1_multiply 96 = .ok (.aload_n 0, 1) := by decide +kernel
theorem dX1_multiply_97 : decode cX1_multiply 97 = .ok (.getfield 19, 3) := by decide +kernel
theorem dX1_multiply_100 : decode cX1_multiply 100 = .ok (.lmul, 1) := by decide +kernel
theorem dX1_multiply_101 : decode cX1_multiply 101 = .ok (.lstore 7, 2) := by decide +kernel
theorem dX1_multiply_103 : decode cX1_multiply 103 = .ok (.aload_n 0, 1) := by decide +kernel
theorem dX1_multiply_104 : decode cX1_multiply 104 = .ok (.lload_n 1, 1) := by decide +kernel
theorem dX1_multiply_105 : decode cX1_multiply 105 = .ok (.lload_n 3, 1) := by decide +kernel
theorem dX1_multiply_106 : decode cX1_multiply 106 = .ok (.invokestatic 119, 3) := by decide +kernel
theorem dX1_multiply_109 : decode cX1_multiply 109 = .ok (.lload 5, 2) := by decide +kernel
theorem dX1_multiply_111 : decode cX1_multiply 111 = .ok (.lload 7, 2) := by decide +kernel
theorem dX1_multiply_113 : decode cX1_multiply 113 = .ok (.invokestatic 119, 3) := by decide +kernel
theorem dX1_multiply_116 : decode cX1_multiply 116 = .ok (.invokestatic 119, 3) := by decide +kernel
theorem dX1_multiply_119 : decode cX1_multiply 119 = .ok (.lload_n 1, 1) := by decide +kernel
theorem dX1_multiply_120 : decode cX1_multiply 120 = .ok (.lload_n 3, 1) := by decide +kernel
theorem dX1_multiply_121 : decode cX1_multiply 121 = .ok (.invokestatic 89, 3) := by decide +kernel
theorem dX1_multiply_124 : decode cX1_multiply 124 = .ok (.lload 5, 2) := by decide +kernel
theorem dX1_multiply_126 : decode cX1_multiply 126 = .ok (.lload 7, 2) := by decide +kernel
theorem dX1_multiply_128 : decode cX1_multiply 128 = .ok (.invokestatic 89, 3) := by decide +kernel
theorem dX1_multiply_131 : decode cX1_multiply 131 = .ok (.invokestatic 89, 3) := by decide +kernel
theorem dX1_multiply_134 : decode cX1_multiply 134 = .ok (.invokevirtual 32, 3) := by decide +kernel
theorem dX1_multiply_137 : decode cX1_multiply 137 = .ok (.return_, 1) := by decide +kernel
theorem dX1_isSumLong_0 : decode cX1_isSumLong 0 = .ok (.lload_n 0, 1) := by decide +kernel
theorem dX1_isSumLong_1 : decode cX1_isSumLong 1 = .ok (.lload_n 2, 1) := by decide +kernel
theorem dX1_isSumLong_2 : decode cX1_isSumLong 2 = .ok (.ladd, 1) := by decide +kernel
theorem dX1_isSumLong_3 : decode cX1_isSumLong 3 = .ok (.lstore 4, 2) := by decide +kernel
theorem dX1_isSumLong_5 : decode cX1_isSumLong 5 = .ok (.lload_n 0, 1) := by decide +kernel
theorem dX1_isSumLong_6 : decode cX1_isSumLong 6 = .ok (.lload 4, 2) := by decide +kernel
theorem dX1_isSumLong_8 : decode cX1_isSumLong 8 = .ok (.lxor, 1) := by decide +kernel
theorem dX1_isSumLong_9 : decode cX1_isSumLong 9 = .ok (.lload_n 2, 1) := by decide +kernel
theorem dX1_isSumLong_10 : decode cX1_isSumLong 10 = .ok (.lload 4, 2) := by decide +kernel
theorem dX1_isSumLong_12 : decode cX1_isSumLong 12 = .ok (.lxor, 1) := by decide +kernel
theorem dX1_isSumLong_13 : decode cX1_isSumLong 13 = .ok (.land, 1) := by decide +kernel
theorem dX1_isSumLong_14 : decode cX1_isSumLong 14 = .ok (.lconst 0, 1) := by decide +kernel
theorem dX1_isSumLong_15 : decode cX1_isSumLong 15 = .ok (.lcmp, 1) := by decide +kernel
theorem dX1_isSumLong_16 : decode cX1_isSumLong 16 = .ok (.ifCond .lt 7, 3) := by decide +kernel
theorem dX1_isSumLong_19 : decode cX1_isSumLong 19 = .ok (.iconst 1, 1) := by decide +kernel
theorem dX1_isSumLong_20 : decode cX1_isSumLong 20 = .ok (.goto 4, 3) := by decide +kernel
theorem dX1_isSumLong_23 : decode cX1_isSumLong 23 = .ok (.iconst 0, 1) := by decide +kernel
theorem dX1_isSumLong_24 : decode cX1_isSumLong 24 = .ok (.ireturn, 1) := by decide +kernel
theorem dX1_isDifferenceLong_0 : decode cX1_isDifferenceLong 0 = .ok (.lload_n 0, 1) := by decide +kernel
theorem dX1_isDifferenceLong_1 : decode cX1_isDifferenceLong 1 = .ok (.lload_n 2, 1) := by decide +kernel
theorem dX1_isDifferenceLong_2 : decode cX1_isDifferenceLong 2 = .ok (.lsub, 1) := by decide +kernel
theorem dX1_isDifferenceLong_3 : decode cX1_isDifferenceLong 3 = .ok (.lstore 4, 2) := by decide +kernel
theorem dX1_isDifferenceLong_5 : decode cX1_isDifferenceLong 5 = .ok (.lload_n 0, 1) := by decide +kernel
theorem dX1_isDifferenceLong_6 : decode cX1_isDifferenceLong 6 = .ok (.lload_n 2, 1) := by decide +kernel
theorem dX1_isDifferenceLong_7 : decode cX1_isDifferenceLong 7 = .ok (.lxor, 1) := by decide +kernel
theorem dX1_isDifferenceLong_8 : decode cX1_isDifferenceLong 8 = .ok (.lload_n 0, 1) := by decide +kernel
theorem dX1_isDifferenceLong_9 : decode cX1_isDifferenceLong 9 = .ok (.lload 4, 2) := by decide +kernel
theorem dX1_isDifferenceLong_11 : decode cX1_isDifferenceLong 11 = .ok (.lxor, 1) := by decide +kernel
theorem dX1_isDifferenceLong_12 : decode cX1_isDifferenceLong 12 = .ok (.land, 1) := by decide +kernel
theorem dX1_isDifferenceLong_13 : decode cX1_isDifferenceLong 13 = .ok (.lconst 0, 1) := by decide +kernel
theorem dX1_isDifferenceLong_14 : decode cX1_isDifferenceLong 14 = .ok (.lcmp, 1) := by decide +kernel
theorem dX1_isDifferenceLong_15 : decode cX1_isDifferenceLong 15 = .ok (.ifCond .lt 7, 3) := by decide +kernel
theorem dX1_isDifferenceLong_18 : decode cX1_isDifferenceLong 18 = .ok (.iconst 1, 1) := by decide +kernel
theorem dX1_isDifferenceLong_19 : decode cX1_isDifferenceLong 19 = .ok (.goto 4, 3) := by decide +kernel
theorem dX1_isDifferenceLong_22 : decode cX1_isDifferenceLong 22 = .ok (.iconst 0, 1) := by decide +kernel
theorem dX1_isDifferenceLong_23 : decode cX1_isDifferenceLong 23 = .ok (.ireturn, 1) := by decide +kernel
theorem dX1_isProductLong_0 : decode cX1_isProductLong 0 = .ok (.lload_n 0, 1) := by decide +kernel
theorem dX1_isProductLong_1 : decode cX1_isProductLong 1 = .ok (.lconst 0, 1) := by decide +kernel
theorem dX1_isProductLong_2 : decode cX1_isProductLong 2 = .ok (.lcmp, 1) := by decide +kernel
theorem dX1_isProductLong_3 : decode cX1_isProductLong 3 = .ok (.ifCond .ne 5, 3) := by decide +kernel
theorem dX1_isProductLong_6 : decode cX1_isProductLong 6 = .ok (.iconst 1, 1) := by decide +kernel
theorem dX1_isProductLong_7 : decode cX1_isProductLong 7 = .ok (.ireturn, 1) := by decide +kernel
theorem dX1_isProductLong_8 : decode cX1_isProductLong 8 = .ok (.lload_n 0, 1) := by decide +kernel
theorem dX1_isProductLong_9 : decode cX1_isProductLong 9 = .ok (.ldc2_w 122, 3) := by decide +kernel
theorem dX1_isProductLong_12 : decode cX1_isProductLong 12 = .ok (.lcmp, 1) := by decide +kernel
theorem dX1_isProductLong_13 : decode cX1_isProductLong 13 = .ok (.ifCond .ne 17, 3) := by decide +kernel
theorem dX1_isProductLong_16 : decode cX1_isProductLong 16 = .ok (.lload_n 2, 1) := by decide +kernel
theorem dX1_isProductLong_17 : decode cX1_isProductLong 17 = .ok (.ldc2_w 50, 3) := by decide +kernel
theorem dX1_isProductLong_20 : decode cX1_isProductLong 20 = .ok (.lcmp, 1) := by decide +kernel
theorem dX1_isProductLong_21 : decode cX1_isProductLong 21 = .ok (.ifCond .eq 7, 3) := by decide +kernel
theorem dX1_isProductLong_24 : decode cX1_isProductLong 24 = .ok (.iconst 1, 1) := by decide +kernel
theorem dX1_isProductLong_25 : decode cX1_isProductLong 25 = .ok (.goto 4, 3) := by decide +kernel
theorem dX1_isProductLong_28 : decode cX1_isProductLong 28 = .ok (.iconst 0, 1) := by decide +kernel
theorem dX1_isProductLong_29 : decode cX1_isProductLong 29 = .ok (.ireturn, 1) := by decide +kernel
theorem dX1_isProductLong_30 : decode cX1_isProductLong 30 = .ok (.lload_n 0, 1) := by decide +kernel
theorem dX1_isProductLong_31 : decode cX1_isProductLong 31 = .ok (.lload_n 2, 1) := by decide +kernel
theorem dX1_isProductLong_32 : decode cX1_isProductLong 32 = .ok (.lmul, 1) := by decide +kernel
theorem dX1_isProductLong_33 : decode cX1_isProductLong 33 = .ok (.lload_n 0, 1) := by decide +kernel
theorem dX1_isProductLong_34 : decode cX1_isProductLong 34 = .ok (.ldiv, 1) := by decide +kernel
theorem dX1_isProductLong_35 : decode cX1_isProductLong 35 = .ok (.lload_n 2, 1) := by decide +kernel
theorem dX1_isProductLong_36 : decode cX1_isProductLong 36 = .ok (.lcmp, 1) := by decide +kernel
theorem dX1_isProductLong_37 : decode cX1_isProductLong 37 = .ok (.ifCond .ne 7, 3) := by decide +kernel
theorem dX1_isProductLong_40 : decode cX1_isProductLong 40 = .ok (.iconst 1, 1) := by decide +kernel
theorem dX1_isProductLong_41 : decode cX1_isProductLong 41 = .ok (.goto 4, 3) := by decide +kernel
theorem dX1_isProductLong_44 : decode cX1_isProductLong 44 = .ok (.iconst 0, 1) := by decide +kernel
theorem dX1_isProductLong_45 : decode cX1_isProductLong 45 = .ok (.ireturn, 1) := by decide +kernel
set_option maxRecDepth 20000 in
theorem ggX1_divide_X0_divide : GoodIn wsX1_divide wsX0_divide := goodIn_r _ [8, 9, 10, 7, 11, 12] (by decide +kernel) (by decide +kernel)
set_option maxRecDepth 20000 in
theorem gX1_divide_X0_divide : GoodIn wsX1_divide (va_wsS RX1 124 yX0_divide wsX0_divide) := goodIn_app (goodIn_of _ (by decide +kernel)) ggX1_divide_X0_divide
set_option maxRecDepth 20000 in
theorem ggX1_divide_X1_tell : GoodIn wsX1_divide wsX1_tell := goodIn_r _ [17, 18, 19, 26, 27, 28, 29, 30, 31] (by decide +kernel) (by decide +kernel)
set_option maxRecDepth 20000 in
theorem gX1_divide_X1_tell : GoodIn wsX1_divide (wsV RX1 32 RX1 yX1_tell wsX1_tell) := goodIn_app (goodIn_of _ (by decide +kernel)) ggX1_divide_X1_tell
set_option maxRecDepth 20000 in
theorem ggX1_divide_X1_tellAll : GoodIn wsX1_divide wsX1_tellAll := goodIn_r _ [23, 24, 25, 13, 14, 15, 16, 17, 18, 19, 26, 27, 28, 29, 30, 31] (by decide +kernel) (by decide +kernel)
set_option maxRecDepth 20000 in
theorem gX1_divide_X1_tellAll : GoodIn wsX1_divide (wsV RX1 110 RX1 yX1_tellAll wsX1_tellAll) := goodIn_app (goodIn_of _ (by decide +kernel)) ggX1_divide_X1_tellAll
theorem dX1_divide_0 : decode cX1_divide 0 = .ok (.aload_n 0, 1) := by decide +kernel
theorem dX1_divide_1 : decode cX1_divide 1 = .ok (.getfield 7, 3) := by decide +kernel
theorem dX1_divide_4 : decode cX1_divide 4 = .ok (.lconst 0, 1) := by decide +kernel
theorem dX1_divide_5 : decode cX1_divide 5 = .ok (.lcmp, 1) := by decide +kernel
theorem dX1_divide_6 : decode cX1_divide 6 = .ok (.ifCond .lt 41, 3) := by decide +kernel
theorem dX1_divide_9 : decode cX1_divide 9 = .ok (.aload_n 0, 1) := by decide +kernel
theorem dX1_divide_10 : decode cX1_divide 10 = .ok (.getfield 16, 3) := by decide +kernel
theorem dX1_divide_13 : decode cX1_divide 13 = .ok (.lconst 0, 1) := by decide +kernel
theorem dX1_divide_14 : decode cX1_divide 14 = .ok (.lcmp, 1) := by decide +kernel
theorem dX1_divide_15 : decode cX1_divide 15 = .ok (.ifCond .le 32, 3) := by decide +kernel
theorem dX1_divide_18 : decode cX1_divide 18 = .ok (.aload_n 0, 1) := by decide +kernel
theorem dX1_divide_19 : decode cX1_divide 19 = .ok (.aload_n 0, 1) := by decide +kernel
theorem dX1_divide_20 : decode cX1_divide 20 = .ok (.getfield 7, 3) := by decide +kernel
theorem dX1_divide_23 : decode cX1_divide 23 = .ok (.aload_n 0, 1) := by decide +kernel
theorem dX1_divide_24 : decode cX1_divide 24 = .ok (.getfield 19, 3) := by decide +kernel
theorem dX1_divide_27 : decode cX1_divide 27 = .ok (.invokestatic 124, 3) := by decide +kernel
theorem dX1_divide_30 : decode cX1_divide 30 = .ok (.aload_n 0, 1) := by decide +kernel
theorem dX1_divide_31 : decode cX1_divide 31 = .ok (.getfield 13, 3) := by decide +kernel
theorem dX1_divide_34 : decode cX1_divide 34 = .ok (.aload_n 0, 1) := by decide +kernel
theorem dX1_divide_35 : decode cX1_divide 35 = .ok (.getfield 16, 3) := by decide +kernel
theorem dX1_divide_38 : decode cX1_divide 38 = .ok (.invokestatic 124, 3) := by decide +kernel
theorem dX1_divide_41 : decode cX1_divide 41 = .ok (.invokevirtual 32, 3) := by decide +kernel
theorem dX1_divide_44 : decode cX1_divide 44 = .ok (.goto 37, 3) := by decide +kernel
theorem dX1_divide_47 : decode cX1_divide 47 = .ok (.aload_n 0, 1) := by decide +kernel
theorem dX1_divide_48 : decode cX1_divide 48 = .ok (.getfield 7, 3) := by decide +kernel
theorem dX1_divide_51 : decode cX1_divide 51 = .ok (.lconst 0, 1) := by decide +kernel
theorem dX1_divide_52 : decode cX1_divide 52 = .ok (.lcmp, 1) := by decide +kernel
theorem dX1_divide_53 : decode cX1_divide 53 = .ok (.ifCond .lt 24, 3) := by decide +kernel
theorem dX1_divide_56 : decode cX1_divide 56 = .ok (.aload_n 0, 1) := by decide +kernel
theorem dX1_divide_57 : decode cX1_divide 57 = .ok (.getfield 16, 3) := by decide +kernel
theorem dX1_divide_60 : decode cX1_divide 60 = .ok (.lconst 0, 1) := by decide +kernel
theorem dX1_divide_61 : decode cX1_divide 61 = .ok (.lcmp, 1) := by decide +kernel
theorem dX1_divide_62 : decode cX1_divide 62 = .ok (.ifCond .lt 15, 3) := by decide +kernel
theorem dX1_divide_65 : decode cX1_divide 65 = .ok (.aload_n 0, 1) := by decide +kernel
theorem dX1_divide_66 : decode cX1_divide 66 = .ok (.lconst 0, 1) := by decide +kernel
theorem dX1_divide_67 : decode cX1_divide 67 = .ok (.aload_n 0, 1) := by decide +kernel
theorem dX1_divide_68 : decode cX1_divide 68 = .ok (.getfield 13, 3) := by decide +kernel
theorem dX1_divide_71 : decode cX1_divide 71 = .ok (.invokevirtual 32, 3) := by decide +kernel
theorem dX1_divide_74 : decode cX1_divide 74 = .ok (.goto 7, 3) := by decide +kernel
theorem dX1_divide_77 : decode cX1_divide 77 = .ok (.aload_n 0, 1) := by decide +kernel
theorem dX1_divide_78 : decode cX1_divide 78 = .ok (.invokevirtual 110, 3) := by decide +kernel
theorem dX1_divide_81 : decode cX1_divide 81 = .ok (.return_, 1) := by decide +kernel
set_option maxRecDepth 20000 in
theorem ggX1_rest_X1_tell : GoodIn wsX1_rest wsX1_tell := goodIn_r _ [13, 14, 15, 22, 23, 24, 25, 26, 27] (by decide +kernel) (by decide +kernel)
set_option maxRecDepth 20000 in
theorem gX1_rest_X1_tell : GoodIn wsX1_rest (wsV RX1 32 RX1 yX1_tell wsX1_tell) := goodIn_app (goodIn_of _ (by decide +kernel)) ggX1_rest_X1_tell
set_option maxRecDepth 20000 in
theorem ggX1_rest_X1_tellAll : GoodIn wsX1_rest wsX1_tellAll := goodIn_r _ [19, 20, 21, 9, 10, 11, 12, 13, 14, 15, 22, 23, 24, 25, 26, 27] (by decide +kernel) (by decide +kernel)
set_option maxRecDepth 20000 in
theorem gX1_rest_X1_tellAll : GoodIn wsX1_rest (wsV RX1 110 RX1 yX1_tellAll wsX1_tellAll) := goodIn_app (goodIn_of _ (by decide +kernel)) ggX1_rest_X1_tellAll
theorem dX1_rest_0 : decode cX1_rest 0 = .ok (.aload_n 0, 1) := by decide +kernel
theorem dX1_rest_1 : decode cX1_rest 1 = .ok (.getfield 7, 3) := by decide +kernel
theorem dX1_rest_4 : decode cX1_rest 4 = .ok (.lconst 0, 1) := by decide +kernel
theorem dX1_rest_5 : decode cX1_rest 5 = .ok (.lcmp, 1) := by decide +kernel
theorem dX1_rest_6 : decode cX1_rest 6 = .ok (.ifCond .lt 33, 3) := by decide +kernel
theorem dX1_rest_9 : decode cX1_rest 9 = .ok (.aload_n 0, 1) := by decide +kernel
theorem dX1_rest_10 : decode cX1_rest 10 = .ok (.getfield 16, 3) := by decide +kernel
theorem dX1_rest_13 : decode cX1_rest 13 = .ok (.lconst 0, 1) := by decide +kernel
theorem dX1_rest_14 : decode cX1_rest 14 = .ok (.lcmp, 1) := by decide +kernel
theorem dX1_rest_15 : decode cX1_rest 15 = .ok (.ifCond .le 24, 3) := by decide +kernel
theorem dX1_rest_18 : decode cX1_rest 18 = .ok (.aload_n 0, 1) := by decide +kernel
theorem dX1_rest_19 : decode cX1_rest 19 = .ok (.lconst 0, 1) := by decide +kernel
theorem dX1_rest_20 : decode cX1_rest 20 = .ok (.aload_n 0, 1) := by decide +kernel
theorem dX1_rest_21 : decode cX1_rest 21 = .ok (.getfield 13, 3) := by decide +kernel
theorem dX1_rest_24 : decode cX1_rest 24 = .ok (.aload_n 0, 1) := by decide +kernel
theorem dX1_rest_25 : decode cX1_rest 25 = .ok (.getfield 19, 3) := by decide +kernel
theorem dX1_rest_28 : decode cX1_rest 28 = .ok (.lconst 1, 1) := by decide +kernel
theorem dX1_rest_29 : decode cX1_rest 29 = .ok (.lsub, 1) := by decide +kernel
theorem dX1_rest_30 : decode cX1_rest 30 = .ok (.invokestatic 119, 3) := by decide +kernel
theorem dX1_rest_33 : decode cX1_rest 33 = .ok (.invokevirtual 32, 3) := by decide +kernel
theorem dX1_rest_36 : decode cX1_rest 36 = .ok (.goto 37, 3) := by decide +kernel
theorem dX1_rest_39 : decode cX1_rest 39 = .ok (.aload_n 0, 1) := by decide +kernel
theorem dX1_rest_40 : decode cX1_rest 40 = .ok (.getfield 7, 3) := by decide +kernel
theorem dX1_rest_43 : decode cX1_rest 43 = .ok (.lconst 0, 1) := by decide +kernel
theorem dX1_rest_44 : decode cX1_rest 44 = .ok (.lcmp, 1) := by decide +kernel
theorem dX1_rest_45 : decode cX1_rest 45 = .ok (.ifCond .lt 24, 3) := by decide +kernel
theorem dX1_rest_48 : decode cX1_rest 48 = .ok (.aload_n 0, 1) := by decide +kernel
theorem dX1_rest_49 : decode cX1_rest 49 = .ok (.getfield 16, 3) := by decide +kernel
theorem dX1_rest_52 : decode cX1_rest 52 = .ok (.lconst 0, 1) := by decide +kernel
theorem dX1_rest_53 : decode cX1_rest 53 = .ok (.lcmp, 1) := by decide +kernel
theorem dX1_rest_54 : decode cX1_rest 54 = .ok (.ifCond .lt 15, 3) := by decide +kernel
theorem dX1_rest_57 : decode cX1_rest 57 = .ok (.aload_n 0, 1) := by decide +kernel
theorem dX1_rest_58 : decode cX1_rest 58 = .ok (.lconst 0, 1) := by decide +kernel
theorem dX1_rest_59 : decode cX1_rest 59 = .ok (.aload_n 0, 1) := by decide +kernel
theorem dX1_rest_60 : decode cX1_rest 60 = .ok (.getfield 13, 3) := by decide +kernel
theorem dX1_rest_63 : decode cX1_rest 63 = .ok (.invokevirtual 32, 3) := by decide +kernel
theorem dX1_rest_66 : decode cX1_rest 66 = .ok (.goto 7, 3) := by decide +kernel
theorem dX1_rest_69 : decode cX1_rest 69 = .ok (.aload_n 0, 1) := by decide +kernel
theorem dX1_rest_70 : decode cX1_rest 70 = .ok (.invokevirtual 110, 3) := by decide +kernel
theorem dX1_rest_73 : decode cX1_rest 73 = .ok (.return_, 1) := by decide +kernel
set_option maxRecDepth 20000 in
theorem ggX1_and_X1_tell : GoodIn wsX1_and wsX1_tell := goodIn_r _ [13, 14, 15, 22, 23, 24, 25, 26, 27] (by decide +kernel) (by decide +kernel)
set_option maxRecDepth 20000 in
theorem gX1_and_X1_tell : GoodIn wsX1_and (wsV RX1 32 RX1 yX1_tell wsX1_tell) := goodIn_app (goodIn_of _ (by decide +kernel)) ggX1_and_X1_tell
set_option maxRecDepth 20000 in
theorem ggX1_and_X1_tellAll : GoodIn wsX1_and wsX1_tellAll := goodIn_r _ [19, 20, 21, 9, 10, 11, 12, 13, 14, 15, 22, 23, 24, 25, 26, 27] (by decide +kernel) (by decide +kernel)
set_option maxRecDepth 20000 in
theorem gX1_and_X1_tellAll : GoodIn wsX1_and (wsV RX1 110 RX1 yX1_tellAll wsX1_tellAll) := goodIn_app (goodIn_of _ (by decide +kernel)) ggX1_and_X1_tellAll
theorem dX1_and_0 : decode cX1_and 0 = .ok (.aload_n 0, 1) := by decide +kernel
theorem dX1_and_1 : decode cX1_and 1 = .ok (.getfield 7, 3) := by decide +kernel
theorem dX1_and_4 : decode cX1_and 4 = .ok (.lconst 0, 1) := by decide +kernel
theorem dX1_and_5 : decode cX1_and 5 = .ok (.lcmp, 1) := by decide +kernel
theorem dX1_and_6 : decode cX1_and 6 = .ok (.ifCond .lt 31, 3) := by decide +kernel
theorem dX1_and_9 : decode cX1_and 9 = .ok (.aload_n 0, 1) := by decide +kernel
theorem dX1_and_10 : decode cX1_and 10 = .ok (.getfield 16, 3) := by decide +kernel
theorem dX1_and_13 : decode cX1_and 13 = .ok (.lconst 0, 1) := by decide +kernel
theorem dX1_and_14 : decode cX1_and 14 = .ok (.lcmp, 1) := by decide +kernel
theorem dX1_and_15 : decode cX1_and 15 = .ok (.ifCond .lt 22, 3) := by decide +kernel
theorem dX1_and_18 : decode cX1_and 18 = .ok (.aload_n 0, 1) := by decide +kernel
theorem dX1_and_19 : decode cX1_and 19 = .ok (.lconst 0, 1) := by decide +kernel
theorem dX1_and_20 : decode cX1_and 20 = .ok (.aload_n 0, 1) := by decide +kernel
theorem dX1_and_21 : decode cX1_and 21 = .ok (.getfield 13, 3) := by decide +kernel
theorem dX1_and_24 : decode cX1_and 24 = .ok (.aload_n 0, 1) := by decide +kernel
theorem dX1_and_25 : decode cX1_and 25 = .ok (.getfield 19, 3) := by decide +kernel
theorem dX1_and_28 : decode cX1_and 28 = .ok (.invokestatic 119, 3) := by decide +kernel
theorem dX1_and_31 : decode cX1_and 31 = .ok (.invokevirtual 32, 3) := by decide +kernel
theorem dX1_and_34 : decode cX1_and 34 = .ok (.goto 49, 3) := by decide +kernel
theorem dX1_and_37 : decode cX1_and 37 = .ok (.aload_n 0, 1) := by decide +kernel
theorem dX1_and_38 : decode cX1_and 38 = .ok (.getfield 7, 3) := by decide +kernel
theorem dX1_and_41 : decode cX1_and 41 = .ok (.lconst 0, 1) := by decide +kernel
theorem dX1_and_42 : decode cX1_and 42 = .ok (.lcmp, 1) := by decide +kernel
theorem dX1_and_43 : decode cX1_and 43 = .ok (.ifCond .lt 15, 3) := by decide +kernel
theorem dX1_and_46 : decode cX1_and 46 = .ok (.aload_n 0, 1) := by decide +kernel
theorem dX1_and_47 : decode cX1_and 47 = .ok (.lconst 0, 1) := by decide +kernel
theorem dX1_and_48 : decode cX1_and 48 = .ok (.aload_n 0, 1) := by decide +kernel
theorem dX1_and_49 : decode cX1_and 49 = .ok (.getfield 13, 3) := by decide +kernel
theorem dX1_and_52 : decode cX1_and 52 = .ok (.invokevirtual 32, 3) := by decide +kernel
theorem dX1_and_55 : decode cX1_and 55 = .ok (.goto 28, 3) := by decide +kernel
theorem dX1_and_58 : decode cX1_and 58 = .ok (.aload_n 0, 1) := by decide +kernel
theorem dX1_and_59 : decode cX1_and 59 = .ok (.getfield 16, 3) := by decide +kernel
theorem dX1_and_62 : decode cX1_and 62 = .ok (.lconst 0, 1) := by decide +kernel
theorem dX1_and_63 : decode cX1_and 63 = .ok (.lcmp, 1) := by decide +kernel
theorem dX1_and_64 : decode cX1_and 64 = .ok (.ifCond .lt 15, 3) := by decide +kernel
theorem dX1_and_67 : decode cX1_and 67 = .ok (.aload_n 0, 1) := by decide +kernel
theorem dX1_and_68 : decode cX1_and 68 = .ok (.lconst 0, 1) := by decide +kernel
theorem dX1_and_69 : decode cX1_and 69 = .ok (.aload_n 0, 1) := by decide +kernel
theorem dX1_and_70 : decode cX1_and 70 = .ok (.getfield 19, 3) := by decide +kernel
theorem dX1_and_73 : decode cX1_and 73 = .ok (.invokevirtual 32, 3) := by decide +kernel
theorem dX1_and_76 : decode cX1_and 76 = .ok (.goto 7, 3) := by decide +kernel
theorem dX1_and_79 : decode cX1_and 79 = .ok (.aload_n 0, 1) := by decide +kernel
theorem dX1_and_80 : decode cX1_and 80 = .ok (.invokevirtual 110, 3) := by decide +kernel
theorem dX1_and_83 : decode cX1_and 83 = .ok (.return_, 1) := by decide +kernel
set_option maxRecDepth 20000 in
theorem ggX1_joinBits_X1_allBitsUpTo : GoodIn wsX1_joinBits wsX1_allBitsUpTo := goodIn_r _ [8] (by decide +kernel) (by decide +kernel)
set_option maxRecDepth 20000 in
theorem gX1_joinBits_X1_allBitsUpTo : GoodIn wsX1_joinBits (va_wsS RX1 126 yX1_allBitsUpTo wsX1_allBitsUpTo) := goodIn_app (goodIn_of _ (by decide +kernel)) ggX1_joinBits_X1_allBitsUpTo
set_option maxRecDepth 20000 in
theorem ggX1_joinBits_X1_tell : GoodIn wsX1_joinBits wsX1_tell := goodIn_r _ [12, 13, 14, 21, 22, 23, 24, 25, 26] (by decide +kernel) (by decide +kernel)
set_option maxRecDepth 20000 in
theorem gX1_joinBits_X1_tell : GoodIn wsX1_joinBits (wsV RX1 32 RX1 yX1_tell wsX1_tell) := goodIn_app (goodIn_of _ (by decide +kernel)) ggX1_joinBits_X1_tell
set_option maxRecDepth 20000 in
theorem ggX1_joinBits_X1_tellAll : GoodIn wsX1_joinBits wsX1_tellAll := goodIn_r _ [18, 19, 20, 9, 10, 11, 7, 12, 13, 14, 21, 22, 23, 24, 25, 26] (by decide +kernel) (by decide +kernel)
set_option maxRecDepth 20000 in
theorem gX1_joinBits_X1_tellAll : GoodIn wsX1_joinBits (wsV RX1 110 RX1 yX1_tellAll wsX1_tellAll) := goodIn_app (goodIn_of _ (by decide +kernel)) ggX1_joinBits_X1_tellAll
theorem dX1_joinBits_0 : decode cX1_joinBits 0 = .ok (.aload_n 0, 1) := by decide +kernel
theorem dX1_joinBits_1 : decode cX1_joinBits 1 = .ok (.getfield 7, 3) := by decide +kernel
theorem dX1_joinBits_4 : decode cX1_joinBits 4 = .ok (.lconst 0, 1) := by decide +kernel
theorem dX1_joinBits_5 : decode cX1_joinBits 5 = .ok (.lcmp, 1) := by decide +kernel
theorem dX1_joinBits_6 : decode cX1_joinBits 6 = .ok (.ifCond .lt 32, 3) := by decide +kernel
theorem dX1_joinBits_9 : decode cX1_joinBits 9 = .ok (.aload_n 0, 1) := by decide +kernel
theorem dX1_joinBits_10 : decode cX1_joinBits 10 = .ok (.getfield 16, 3) := by decide +kernel
theorem dX1_joinBits_13 : decode cX1_joinBits 13 = .ok (.lconst 0, 1) := by decide +kernel
theorem dX1_joinBits_14 : decode cX1_joinBits 14 = .ok (.lcmp, 1) := by decide +kernel
theorem dX1_joinBits_15 : decode cX1_joinBits 15 = .ok (.ifCond .lt 23, 3) := by decide +kernel
theorem dX1_joinBits_18 : decode cX1_joinBits 18 = .ok (.aload_n 0, 1) := by decide +kernel
theorem dX1_joinBits_19 : decode cX1_joinBits 19 = .ok (.lload_n 1, 1) := by decide +kernel
theorem dX1_joinBits_20 : decode cX1_joinBits 20 = .ok (.aload_n 0, 1) := by decide +kernel
theorem dX1_joinBits_21 : decode cX1_joinBits 21 = .ok (.getfield 13, 3) := by decide +kernel
theorem dX1_joinBits_24 : decode cX1_joinBits 24 = .ok (.aload_n 0, 1) := by decide +kernel
theorem dX1_joinBits_25 : decode cX1_joinBits 25 = .ok (.getfield 19, 3) := by decide +kernel
theorem dX1_joinBits_28 : decode cX1_joinBits 28 = .ok (.lor, 1) := by decide +kernel
theorem dX1_joinBits_29 : decode cX1_joinBits 29 = .ok (.invokestatic 126, 3) := by decide +kernel
theorem dX1_joinBits_32 : decode cX1_joinBits 32 = .ok (.invokevirtual 32, 3) := by decide +kernel
theorem dX1_joinBits_35 : decode cX1_joinBits 35 = .ok (.goto 7, 3) := by decide +kernel
theorem dX1_joinBits_38 : decode cX1_joinBits 38 = .ok (.aload_n 0, 1) := by decide +kernel
theorem dX1_joinBits_39 : decode cX1_joinBits 39 = .ok (.invokevirtual 110, 3) := by decide +kernel
theorem dX1_joinBits_42 : decode cX1_joinBits 42 = .ok (.return_, 1) := by decide +kernel
theorem dX1_allBitsUpTo_0 : decode cX1_allBitsUpTo 0 = .ok (.lload_n 0, 1) := by decide +kernel
theorem dX1_allBitsUpTo_1 : decode cX1_allBitsUpTo 1 = .ok (.lstore_n 2, 1) := by decide +kernel
theorem dX1_allBitsUpTo_2 : decode cX1_allBitsUpTo 2 = .ok (.iconst 1, 1) := by decide +kernel
theorem dX1_allBitsUpTo_3 : decode cX1_allBitsUpTo 3 = .ok (.istore 4, 2) := by decide +kernel
theorem dX1_allBitsUpTo_5 : decode cX1_allBitsUpTo 5 = .ok (.iload 4, 2) := by decide +kernel
theorem dX1_allBitsUpTo_7 : decode cX1_allBitsUpTo 7 = .ok (.bipush 64, 2) := by decide +kernel
theorem dX1_allBitsUpTo_9 : decode cX1_allBitsUpTo 9 = .ok (.if_icmp .ge 19, 3) := by decide +kernel
theorem dX1_allBitsUpTo_12 : decode cX1_allBitsUpTo 12 = .ok (.lload_n 2, 1) := by decide +kernel
theorem dX1_allBitsUpTo_13 : decode cX1_allBitsUpTo 13 = .ok (.lload_n 2, 1) := by decide +kernel
theorem dX1_allBitsUpTo_14 : decode cX1_allBitsUpTo 14 = .ok (.iload 4, 2) := by decide +kernel
theorem dX1_allBitsUpTo_16 : decode cX1_allBitsUpTo 16 = .ok (.lushr, 1) := by decide +kernel
theorem dX1_allBitsUpTo_17 : decode cX1_allBitsUpTo 17 = .ok (.lor, 1) := by decide +kernel
theorem dX1_allBitsUpTo_18 : decode cX1_allBitsUpTo 18 = .ok (.lstore_n 2, 1) := by decide +kernel
theorem dX1_allBitsUpTo_19 : decode cX1_allBitsUpTo 19 = .ok (.iload 4, 2) := by decide +kernel
theorem dX1_allBitsUpTo_21 : decode cX1_allBitsUpTo 21 = .ok (.iconst 2, 1) := by decide +kernel
theorem dX1_allBitsUpTo_22 : decode cX1_allBitsUpTo 22 = .ok (.imul, 1) := by decide +kernel
theorem dX1_allBitsUpTo_23 : decode cX1_allBitsUpTo 23 = .ok (.istore 4, 2) := by decide +kernel
theorem dX1_allBitsUpTo_25 : decode cX1_allBitsUpTo 25 = .ok (.goto (-20), 3) := by decide +kernel
theorem dX1_allBitsUpTo_28 : decode cX1_allBitsUpTo 28 = .ok (.lload_n 2, 1) := by decide +kernel
theorem dX1_allBitsUpTo_29 : decode cX1_allBitsUpTo 29 = .ok (.lreturn, 1) := by decide +kernel
set_option maxRecDepth 20000 in
theorem ggX1_shiftLeft_X1_tell : GoodIn wsX1_shiftLeft wsX1_tell := goodIn_r _ [9, 10, 11, 18, 19, 20, 21, 22, 23] (by decide +kernel) (by decide +kernel)
set_option maxRecDepth 20000 in
theorem gX1_shiftLeft_X1_tell : GoodIn wsX1_shiftLeft (wsV RX1 32 RX1 yX1_tell wsX1_tell) := goodIn_app (goodIn_of _ (by decide +kernel)) ggX1_shiftLeft_X1_tell
set_option maxRecDepth 20000 in
theorem ggX1_shiftLeft_X1_tellAll : GoodIn wsX1_shiftLeft wsX1_tellAll := goodIn_r _ [15, 16, 17, 5, 6, 7, 8, 9, 10, 11, 18, 19, 20, 21, 22, 23] (by decide +kernel) (by decide +kernel)
set_option maxRecDepth 20000 in
theorem gX1_shiftLeft_X1_tellAll : GoodIn wsX1_shiftLeft (wsV RX1 110 RX1 yX1_tellAll wsX1_tellAll) := goodIn_app (goodIn_of _ (by decide +kernel)) ggX1_shiftLeft_X1_tellAll
theorem dX1_shiftLeft_0 : decode cX1_shiftLeft 0 = .ok (.aload_n 0, 1) := by decide +kernel
theorem dX1_shiftLeft_1 : decode cX1_shiftLeft 1 = .ok (.getfield 16, 3) := by decide +kernel
theorem dX1_shiftLeft_4 : decode cX1_shiftLeft 4 = .ok (.aload_n 0, 1) := by decide +kernel
theorem dX1_shiftLeft_5 : decode cX1_shiftLeft 5 = .ok (.getfield 19, 3) := by decide +kernel
theorem dX1_shiftLeft_8 : decode cX1_shiftLeft 8 = .ok (.lcmp, 1) := by decide +kernel
theorem dX1_shiftLeft_9 : decode cX1_shiftLeft 9 = .ok (.ifCond .ne 47, 3) := by decide +kernel
theorem dX1_shiftLeft_12 : decode cX1_shiftLeft 12 = .ok (.aload_n 0, 1) := by decide +kernel
theorem dX1_shiftLeft_13 : decode cX1_shiftLeft 13 = .ok (.getfield 7, 3) := by decide +kernel
theorem dX1_shiftLeft_16 : decode cX1_shiftLeft 16 = .ok (.lconst 0, 1) := by decide +kernel
theorem dX1_shiftLeft_17 : decode cX1_shiftLeft 17 = .ok (.lcmp, 1) := by decide +kernel
theorem dX1_shiftLeft_18 : decode cX1_shiftLeft 18 = .ok (.ifCond .lt 38, 3) := by decide +kernel
theorem dX1_shiftLeft_21 : decode cX1_shiftLeft 21 = .ok (.aload_n 0, 1) := by decide +kernel
theorem dX1_shiftLeft_22 : decode cX1_shiftLeft 22 = .ok (.getfield 13, 3) := by decide +kernel
theorem dX1_shiftLeft_25 : decode cX1_shiftLeft 25 = .ok (.iload_n 1, 1) := by decide +kernel
theorem dX1_shiftLeft_26 : decode cX1_shiftLeft 26 = .ok (.lshl, 1) := by decide +kernel
theorem dX1_shiftLeft_27 : decode cX1_shiftLeft 27 = .ok (.iload_n 1, 1) := by decide +kernel
theorem dX1_shiftLeft_28 : decode cX1_shiftLeft 28 = .ok (.lshr, 1) := by decide +kernel
theorem dX1_shiftLeft_29 : decode cX1_shiftLeft 29 = .ok (.aload_n 0, 1) := by decide +kernel
theorem dX1_shiftLeft_30 : decode cX1_shiftLeft 30 = .ok (.getfield 13, 3) := by decide +kernel
theorem dX1_shiftLeft_33 : decode cX1_shiftLeft 33 = .ok (.lcmp, 1) := by decide +kernel
theorem dX1_shiftLeft_34 : decode cX1_shiftLeft 34 = .ok (.ifCond .ne 22, 3) := by decide +kernel
theorem dX1_shiftLeft_37 : decode cX1_shiftLeft 37 = .ok (.aload_n 0, 1) := by decide +kernel
theorem dX1_shiftLeft_38 : decode cX1_shiftLeft 38 = .ok (.aload_n 0, 1) := by decide +kernel
theorem dX1_shiftLeft_39 : decode cX1_shiftLeft 39 = .ok (.getfield 7, 3) := by decide +kernel
theorem dX1_shiftLeft_42 : decode cX1_shiftLeft 42 = .ok (.iload_n 1, 1) := by decide +kernel
theorem dX1_shiftLeft_43 : decode cX1_shiftLeft 43 = .ok (.lshl, 1) := by decide +kernel
theorem dX1_shiftLeft_44 : decode cX1_shiftLeft 44 = .ok (.aload_n 0, 1) := by decide +kernel
theorem dX1_shiftLeft_45 : decode cX1_shiftLeft 45 = .ok (.getfield 13, 3) := by decide +kernel
theorem dX1_shiftLeft_48 : decode cX1_shiftLeft 48 = .ok (.iload_n 1, 1) := by decide +kernel
theorem dX1_shiftLeft_49 : decode cX1_shiftLeft 49 = .ok (.lshl, 1) := by decide +kernel
theorem dX1_shiftLeft_50 : decode cX1_shiftLeft 50 = .ok (.invokevirtual 32, 3) := by decide +kernel
theorem dX1_shiftLeft_53 : decode cX1_shiftLeft 53 = .ok (.goto 7, 3) := by decide +kernel
theorem dX1_shiftLeft_56 : decode cX1_shiftLeft 56 = .ok (.aload_n 0, 1) := by decide +kernel
theorem dX1_shiftLeft_57 : decode cX1_shiftLeft 57 = .ok (.invokevirtual 110, 3) := by decide +kernel
theorem dX1_shiftLeft_60 : decode cX1_shiftLeft 60 = .ok (.return_, 1) := by decide +kernel
set_option maxRecDepth 20000 in
theorem ggX1_shiftRight_X1_shiftRightByAny : GoodIn wsX1_shiftRight wsX1_shiftRightByAny := goodIn_r _ [10, 3, 4, 11, 12, 13, 9, 14, 15, 16, 17, 18, 19, 20, 21, 22, 23, 24, 25, 26, 27, 28] (by decide +kernel) (by decide +kernel)
set_option maxRecDepth 20000 in
theorem gX1_shiftRight_X1_shiftRightByAny : GoodIn wsX1_shiftRight (wsV RX1 130 RX1 yX1_shiftRightByAny wsX1_shiftRightByAny) := goodIn_app (goodIn_of _ (by decide +kernel)) ggX1_shiftRight_X1_shiftRightByAny
set_option maxRecDepth 20000 in
theorem ggX1_shiftRight_X1_tell : GoodIn wsX1_shiftRight wsX1_tell := goodIn_r _ [14, 15, 16, 23, 24, 25, 26, 27, 28] (by decide +kernel) (by decide +kernel)
set_option maxRecDepth 20000 in
theorem gX1_shiftRight_X1_tell : GoodIn wsX1_shiftRight (wsV RX1 32 RX1 yX1_tell wsX1_tell) := goodIn_app (goodIn_of _ (by decide +kernel)) ggX1_shiftRight_X1_tell
theorem dX1_shiftRight_0 : decode cX1_shiftRight 0 = .ok (.aload_n 0, 1) := by decide +kernel
theorem dX1_shiftRight_1 : decode cX1_shiftRight 1 = .ok (.getfield 16, 3) := by decide +kernel
theorem dX1_shiftRight_4 : decode cX1_shiftRight 4 = .ok (.aload_n 0, 1) := by decide +kernel
theorem dX1_shiftRight_5 : decode cX1_shiftRight 5 = .ok (.getfield 19, 3) := by decide +kernel
theorem dX1_shiftRight_8 : decode cX1_shiftRight 8 = .ok (.lcmp, 1) := by decide +kernel
theorem dX1_shiftRight_9 : decode cX1_shiftRight 9 = .ok (.ifCond .eq 10, 3) := by decide +kernel
theorem dX1_shiftRight_12 : decode cX1_shiftRight 12 = .ok (.aload_n 0, 1) := by decide +kernel
theorem dX1_shiftRight_13 : decode cX1_shiftRight 13 = .ok (.invokevirtual 130, 3) := by decide +kernel
theorem dX1_shiftRight_16 : decode cX1_shiftRight 16 = .ok (.goto 60, 3) := by decide +kernel
theorem dX1_shiftRight_19 : decode cX1_shiftRight 19 = .ok (.aload_n 0, 1) := by decide +kernel
theorem dX1_shiftRight_20 : decode cX1_shiftRight 20 = .ok (.getfield 7, 3) := by decide +kernel
theorem dX1_shiftRight_23 : decode cX1_shiftRight 23 = .ok (.lconst 0, 1) := by decide +kernel
theorem dX1_shiftRight_24 : decode cX1_shiftRight 24 = .ok (.lcmp, 1) := by decide +kernel
theorem dX1_shiftRight_25 : decode cX1_shiftRight 25 = .ok (.ifCond .lt 22, 3) := by decide +kernel
theorem dX1_shiftRight_28 : decode cX1_shiftRight 28 = .ok (.aload_n 0, 1) := by decide +kernel
theorem dX1_shiftRight_29 : decode cX1_shiftRight 29 = .ok (.aload_n 0, 1) := by decide +kernel
theorem dX1_shiftRight_30 : decode cX1_shiftRight 30 = .ok (.getfield 7, 3) := by decide +kernel
theorem dX1_shiftRight_33 : decode cX1_shiftRight 33 = .ok (.iload_n 1, 1) := by decide +kernel
theorem dX1_shiftRight_34 : decode cX1_shiftRight 34 = .ok (.lushr, 1) := by decide +kernel
theorem dX1_shiftRight_35 : decode cX1_shiftRight 35 = .ok (.aload_n 0, 1) := by decide +kernel
theorem dX1_shiftRight_36 : decode cX1_shiftRight 36 = .ok (.getfield 13, 3) := by decide +kernel
theorem dX1_shiftRight_39 : decode cX1_shiftRight 39 = .ok (.iload_n 1, 1) := by decide +kernel
theorem dX1_shiftRight_40 : decode cX1_shiftRight 40 = .ok (.lushr, 1) := by decide +kernel
theorem dX1_shiftRight_41 : decode cX1_shiftRight 41 = .ok (.invokevirtual 32, 3) := by decide +kernel
theorem dX1_shiftRight_44 : decode cX1_shiftRight 44 = .ok (.goto 32, 3) := by decide +kernel
theorem dX1_shiftRight_47 : decode cX1_shiftRight 47 = .ok (.iload_n 1, 1) := by decide +kernel
theorem dX1_shiftRight_48 : decode cX1_shiftRight 48 = .ok (.ifCond .ne 18, 3) := by decide +kernel
theorem dX1_shiftRight_51 : decode cX1_shiftRight 51 = .ok (.aload_n 0, 1) := by decide +kernel
theorem dX1_shiftRight_52 : decode cX1_shiftRight 52 = .ok (.aload_n 0, 1) := by decide +kernel
theorem dX1_shiftRight_53 : decode cX1_shiftRight 53 = .ok (.getfield 7, 3) := by decide +kernel
theorem dX1_shiftRight_56 : decode cX1_shiftRight 56 = .ok (.aload_n 0, 1) := by decide +kernel
theorem dX1_shiftRight_57 : decode cX1_shiftRight 57 = .ok (.getfield 13, 3) := by decide +kernel
theorem dX1_shiftRight_60 : decode cX1_shiftRight 60 = .ok (.invokevirtual 32, 3) := by decide +kernel
theorem dX1_shiftRight_63 : decode cX1_shiftRight 63 = .ok (.goto 13, 3) := by decide +kernel
theorem dX1_shiftRight_66 : decode cX1_shiftRight 66 = .ok (.aload_n 0, 1) := by decide +kernel
theorem dX1_shiftRight_67 : decode cX1_shiftRight 67 = .ok (.lconst 0, 1) := by decide +kernel
theorem dX1_shiftRight_68 : decode cX1_shiftRight 68 = .ok (.ldc2_w 122, 3) := by decide +kernel
theorem dX1_shiftRight_71 : decode cX1_shiftRight 71 = .ok (.iload_n 1, 1) := by decide +kernel
theorem dX1_shiftRight_72 : decode cX1_shiftRight 72 = .ok (.lushr, 1) := by decide +kernel
theorem dX1_shiftRight_73 : decode cX1_shiftRight 73 = .ok (.invokevirtual 32, 3) := by decide +kernel
theorem dX1_shiftRight_76 : decode cX1_shiftRight 76 = .ok (.return_, 1) := by decide +kernel
set_option maxRecDepth 20000 in
theorem ggX1_shiftSignedRight_X1_shiftRightByAny : GoodIn wsX1_shiftSignedRight wsX1_shiftRightByAny := goodIn_r _ [9, 3, 4, 10, 11, 12, 8, 13, 14, 15, 16, 17, 18, 19, 20, 21, 22, 23, 24, 25, 26, 27] (by decide +kernel) (by decide +kernel)
set_option maxRecDepth 20000 in
theorem gX1_shiftSignedRight_X1_shiftRightByAny : GoodIn wsX1_shiftSignedRight (wsV RX1 130 RX1 yX1_shiftRightByAny wsX1_shiftRightByAny) := goodIn_app (goodIn_of _ (by decide +kernel)) ggX1_shiftSignedRight_X1_shiftRightByAny
set_option maxRecDepth 20000 in
theorem ggX1_shiftSignedRight_X1_tell : GoodIn wsX1_shiftSignedRight wsX1_tell := goodIn_r _ [13, 14, 15, 22, 23, 24, 25, 26, 27] (by decide +kernel) (by decide +kernel)
set_option maxRecDepth 20000 in
theorem gX1_shiftSignedRight_X1_tell : GoodIn wsX1_shiftSignedRight (wsV RX1 32 RX1 yX1_tell wsX1_tell) := goodIn_app (goodIn_of _ (by decide +kernel)) ggX1_shiftSignedRight_X1_tell
theorem dX1_shiftSignedRight_0 : decode cX1_shiftSignedRight 0 = .ok (.aload_n 0, 1) := by decide +kernel
theorem dX1_shiftSignedRight_1 : decode cX1_shiftSignedRight 1 = .ok (.getfield 16, 3) := by decide +kernel
theorem dX1_shiftSignedRight_4 : decode cX1_shiftSignedRight 4 = .ok (.aload_n 0, 1) := by decide +kernel
theorem dX1_shiftSignedRight_5 : decode cX1_shiftSignedRight 5 = .ok (.getfield 19, 3) := by decide +kernel
theorem dX1_shiftSignedRight_8 : decode cX1_shiftSignedRight 8 = .ok (.lcmp, 1) := by decide +kernel
theorem dX1_shiftSignedRight_9 : decode cX1_shiftSignedRight 9 = .ok (.ifCond .eq 10, 3) := by decide +kernel
theorem dX1_shiftSignedRight_12 : decode cX1_shiftSignedRight 12 = .ok (.aload_n 0, 1) := by decide +kernel
theorem dX1_shiftSignedRight_13 : decode cX1_shiftSignedRight 13 = .ok (.invokevirtual 130, 3) := by decide +kernel
theorem dX1_shiftSignedRight_16 : decode cX1_shiftSignedRight 16 = .ok (.goto 19, 3) := by decide +kernel
theorem dX1_shiftSignedRight_19 : decode cX1_shiftSignedRight 19 = .ok (.aload_n 0, 1) := by decide +kernel
theorem dX1_shiftSignedRight_20 : decode cX1_shiftSignedRight 20 = .ok (.aload_n 0, 1) := by decide +kernel
theorem dX1_shiftSignedRight_21 : decode cX1_shiftSignedRight 21 = .ok (.getfield 7, 3) := by decide +kernel
theorem dX1_shiftSignedRight_24 : decode cX1_shiftSignedRight 24 = .ok (.iload_n 1, 1) := by decide +kernel
theorem dX1_shiftSignedRight_25 : decode cX1_shiftSignedRight 25 = .ok (.lshr, 1) := by decide +kernel
theorem dX1_shiftSignedRight_26 : decode cX1_shiftSignedRight 26 = .ok (.aload_n 0, 1) := by decide +kernel
theorem dX1_shiftSignedRight_27 : decode cX1_shiftSignedRight 27 = .ok (.getfield 13, 3) := by decide +kernel
theorem dX1_shiftSignedRight_30 : decode cX1_shiftSignedRight 30 = .ok (.iload_n 1, 1) := by decide +kernel
theorem dX1_shiftSignedRight_31 : decode cX1_shiftSignedRight 31 = .ok (.lshr, 1) := by decide +kernel
theorem dX1_shiftSignedRight_32 : decode cX1_shiftSignedRight 32 = .ok (.invokevirtual 32, 3) := by decide +kernel
theorem dX1_shiftSignedRight_35 : decode cX1_shiftSignedRight 35 = .ok (.return_, 1) := by decide +kernel
set_option maxRecDepth 20000 in
theorem ggX1_shiftRightByAny_X1_tell : GoodIn wsX1_shiftRightByAny wsX1_tell := goodIn_r _ [7, 8, 9, 16, 17, 18, 19, 20, 21] (by decide +kernel) (by decide +kernel)
set_option maxRecDepth 20000 in
theorem gX1_shiftRightByAny_X1_tell : GoodIn wsX1_shiftRightByAny (wsV RX1 32 RX1 yX1_tell wsX1_tell) := goodIn_app (goodIn_of _ (by decide +kernel)) ggX1_shiftRightByAny_X1_tell
set_option maxRecDepth 20000 in
theorem ggX1_shiftRightByAny_X1_tellAll : GoodIn wsX1_shiftRightByAny wsX1_tellAll := goodIn_r _ [13, 14, 15, 3, 4, 5, 6, 7, 8, 9, 16, 17, 18, 19, 20, 21] (by decide +kernel) (by decide +kernel)
set_option maxRecDepth 20000 in
theorem gX1_shiftRightByAny_X1_tellAll : GoodIn wsX1_shiftRightByAny (wsV RX1 110 RX1 yX1_tellAll wsX1_tellAll) := goodIn_app (goodIn_of _ (by decide +kernel)) ggX1_shiftRightByAny_X1_tellAll
theorem dX1_shiftRightByAny_0 : decode cX1_shiftRightByAny 0 = .ok (.aload_n 0, 1) := by decide +kernel
theorem dX1_shiftRightByAny_1 : decode cX1_shiftRightByAny 1 = .ok (.getfield 7, 3) := by decide +kernel
theorem dX1_shiftRightByAny_4 : decode cX1_shiftRightByAny 4 = .ok (.lconst 0, 1) := by decide +kernel
theorem dX1_shiftRightByAny_5 : decode cX1_shiftRightByAny 5 = .ok (.lcmp, 1) := by decide +kernel
theorem dX1_shiftRightByAny_6 : decode cX1_shiftRightByAny 6 = .ok (.ifCond .lt 15, 3) := by decide +kernel
theorem dX1_shiftRightByAny_9 : decode cX1_shiftRightByAny 9 = .ok (.aload_n 0, 1) := by decide +kernel
theorem dX1_shiftRightByAny_10 : decode cX1_shiftRightByAny 10 = .ok (.lconst 0, 1) := by decide +kernel
theorem dX1_shiftRightByAny_11 : decode cX1_shiftRightByAny 11 = .ok (.aload_n 0, 1) := by decide +kernel
theorem dX1_shiftRightByAny_12 : decode cX1_shiftRightByAny 12 = .ok (.getfield 13, 3) := by decide +kernel
theorem dX1_shiftRightByAny_15 : decode cX1_shiftRightByAny 15 = .ok (.invokevirtual 32, 3) := by decide +kernel
theorem dX1_shiftRightByAny_18 : decode cX1_shiftRightByAny 18 = .ok (.goto 7, 3) := by decide +kernel
theorem dX1_shiftRightByAny_21 : decode cX1_shiftRightByAny 21 = .ok (.aload_n 0, 1) := by decide +kernel
theorem dX1_shiftRightByAny_22 : decode cX1_shiftRightByAny 22 = .ok (.invokevirtual 110, 3) := by decide +kernel
theorem dX1_shiftRightByAny_25 : decode cX1_shiftRightByAny 25 = .ok (.return_, 1) := by decide +kernel
