set_option maxRecDepth 20000 in
theorem ggX2_init_X1_init : GoodIn wsX2_init wsX1_init := goodIn_r _ [12, 13, 2, 3] (by decide +kernel) (by decide +kernel)
set_option maxRecDepth 20000 in
theorem gX2_init_X1_init_n18 : GoodIn wsX2_init (wsX1_init) := ggX2_init_X1_init
theorem dX2_init_0 : decode cX2_init 0 = .ok (.aload_n 0, 1) := by decide +kernel
theorem dX2_init_1 : decode cX2_init 1 = .ok (.invokespecial 1, 3) := by decide +kernel
theorem dX2_init_4 : decode cX2_init 4 = .ok (.aload_n 0, 1) := by decide +kernel
theorem dX2_init_5 : decode cX2_init 5 = .ok (.bipush 16, 2) := by decide +kernel
theorem dX2_init_7 : decode cX2_init 7 = .ok (.newarray .long, 2) := by decide +kernel
theorem dX2_init_9 : decode cX2_init 9 = .ok (.putfield 9, 3) := by decide +kernel
theorem dX2_init_12 : decode cX2_init 12 = .ok (.aload_n 0, 1) := by decide +kernel
theorem dX2_init_13 : decode cX2_init 13 = .ok (.bipush 16, 2) := by decide +kernel
theorem dX2_init_15 : decode cX2_init 15 = .ok (.newarray .long, 2) := by decide +kernel
theorem dX2_init_17 : decode cX2_init 17 = .ok (.putfield 13, 3) := by decide +kernel
theorem dX2_init_20 : decode cX2_init 20 = .ok (.aload_n 0, 1) := by decide +kernel
theorem dX2_init_21 : decode cX2_init 21 = .ok (.new 16, 3) := by decide +kernel
theorem dX2_init_24 : decode cX2_init 24 = .ok (.dup, 1) := by decide +kernel
theorem dX2_init_25 : decode cX2_init 25 = .ok (.invokespecial 18, 3) := by decide +kernel
theorem dX2_init_28 : decode cX2_init 28 = .ok (.putfield 19, 3) := by decide +kernel
theorem dX2_init_31 : decode cX2_init 31 = .ok (.return_, 1) := by decide +kernel
set_option maxRecDepth 20000 in
theorem ggX2_put_X2_needRange : GoodIn wsX2_put wsX2_needRange := goodIn_ca (goodIn_r _ [8, 1, 2] (by decide +kernel) (by decide +kernel)) (goodIn_sub (fun _ h => List.mem_cons_of_mem _ (List.mem_append_right _ h)) (by decide +kernel))
set_option maxRecDepth 20000 in
theorem gX2_put_X2_needRange : GoodIn wsX2_put (va_wsS RX2 23 yX2_needRange wsX2_needRange) := goodIn_app (goodIn_of _ (by decide +kernel)) ggX2_put_X2_needRange
theorem dX2_put_0 : decode cX2_put 0 = .ok (.iload_n 1, 1) := by decide +kernel
theorem dX2_put_1 : decode cX2_put 1 = .ok (.invokestatic 23, 3) := by decide +kernel
theorem dX2_put_4 : decode cX2_put 4 = .ok (.lload_n 2, 1) := by decide +kernel
theorem dX2_put_5 : decode cX2_put 5 = .ok (.lload 4, 2) := by decide +kernel
theorem dX2_put_7 : decode cX2_put 7 = .ok (.lcmp, 1) := by decide +kernel
theorem dX2_put_8 : decode cX2_put 8 = .ok (.ifCond .le 13, 3) := by decide +kernel
theorem dX2_put_11 : decode cX2_put 11 = .ok (.new 27, 3) := by decide +kernel
theorem dX2_put_14 : decode cX2_put 14 = .ok (.dup, 1) := by decide +kernel
theorem dX2_put_15 : decode cX2_put 15 = .ok (.ldc 29, 2) := by decide +kernel
theorem dX2_put_17 : decode cX2_put 17 = .ok (.invokespecial 31, 3) := by decide +kernel
theorem dX2_put_20 : decode cX2_put 20 = .ok (.athrow, 1) := by decide +kernel
theorem dX2_put_21 : decode cX2_put 21 = .ok (.aload_n 0, 1) := by decide +kernel
theorem dX2_put_22 : decode cX2_put 22 = .ok (.getfield 9, 3) := by decide +kernel
theorem dX2_put_25 : decode cX2_put 25 = .ok (.iload_n 1, 1) := by decide +kernel
theorem dX2_put_26 : decode cX2_put 26 = .ok (.lload_n 2, 1) := by decide +kernel
theorem dX2_put_27 : decode cX2_put 27 = .ok (.lastore, 1) := by decide +kernel
theorem dX2_put_28 : decode cX2_put 28 = .ok (.aload_n 0, 1) := by decide +kernel
theorem dX2_put_29 : decode cX2_put 29 = .ok (.getfield 13, 3) := by decide +kernel
theorem dX2_put_32 : decode cX2_put 32 = .ok (.iload_n 1, 1) := by decide +kernel
theorem dX2_put_33 : decode cX2_put 33 = .ok (.lload 4, 2) := by decide +kernel
theorem dX2_put_35 : decode cX2_put 35 = .ok (.lastore, 1) := by decide +kernel
theorem dX2_put_36 : decode cX2_put 36 = .ok (.return_, 1) := by decide +kernel
set_option maxRecDepth 20000 in
theorem ggX2_work_X2_needRange : GoodIn wsX2_work wsX2_needRange := goodIn_ca (goodIn_r _ [7, 8, 9] (by decide +kernel) (by decide +kernel)) (goodIn_sub (fun _ h => List.mem_cons_of_mem _ (List.mem_append_right _ h)) (by decide +kernel))
set_option maxRecDepth 20000 in
theorem gX2_work_X2_needRange : GoodIn wsX2_work (va_wsS RX2 23 yX2_needRange wsX2_needRange) := goodIn_app (goodIn_of _ (by decide +kernel)) ggX2_work_X2_needRange
set_option maxRecDepth 20000 in
theorem ggX2_work_X2_needInstruction : GoodIn wsX2_work wsX2_needInstruction := goodIn_ca (goodIn_r _ [12, 8, 9] (by decide +kernel) (by decide +kernel)) (goodIn_sub (fun _ h => List.mem_cons_of_mem _ (List.mem_append_right _ h)) (by decide +kernel))
set_option maxRecDepth 20000 in
theorem gX2_work_X2_needInstruction : GoodIn wsX2_work (va_wsS RX2 34 yX2_needInstruction wsX2_needInstruction) := goodIn_app (goodIn_of _ (by decide +kernel)) ggX2_work_X2_needInstruction
set_option maxRecDepth 20000 in
theorem ggX2_work_X1_take : GoodIn wsX2_work wsX1_take := goodIn_r _ [17, 18, 19, 20, 21, 147, 148, 149, 150, 151, 152] (by decide +kernel) (by decide +kernel)
set_option maxRecDepth 20000 in
theorem gX2_work_X1_take : GoodIn wsX2_work (wsV RX2 37 RX1 yX1_take wsX1_take) := goodIn_app (goodIn_of _ (by decide +kernel)) ggX2_work_X1_take
set_option maxRecDepth 20000 in
theorem ggX2_work_X1_make : GoodIn wsX2_work wsX1_make := goodIn_r _ [25, 18, 20, 26, 27, 28, 16, 29, 19, 21, 30, 31, 32, 33, 34, 35, 36, 37, 38, 39, 40, 41, 42, 43, 44, 45, 46, 47, 48, 49, 50, 51, 52, 53, 54, 55, 56, 57, 58, 59, 60, 61, 62, 63, 64, 65, 66, 67, 68, 14, 15, 17, 69, 70, 71, 72, 73, 74, 75, 76, 77, 78, 79, 80, 81, 82, 83, 84, 85, 86, 87, 88, 89, 90, 91, 92, 93, 94, 95, 96, 97, 98, 99, 100, 101, 102, 103, 104, 105, 106, 107, 108, 109, 110, 111, 112, 113, 114, 115, 116, 117, 118, 119, 120, 121, 122, 123, 124, 125, 126, 127, 128, 129, 130, 131, 132, 133, 134, 135, 136, 137, 138, 139, 140, 141, 142, 143, 147, 148, 149, 150, 151, 152] (by decide +kernel) (by decide +kernel)
set_option maxRecDepth 20000 in
theorem gX2_work_X1_make : GoodIn wsX2_work (wsV RX2 41 RX1 yX1_make wsX1_make) := goodIn_app (goodIn_of _ (by decide +kernel)) ggX2_work_X1_make
theorem dX2_work_0 : decode cX2_work 0 = .ok (.iload_n 1, 1) := by decide +kernel
theorem dX2_work_1 : decode cX2_work 1 = .ok (.invokestatic 23, 3) := by decide +kernel
theorem dX2_work_4 : decode cX2_work 4 = .ok (.iload_n 2, 1) := by decide +kernel
theorem dX2_work_5 : decode cX2_work 5 = .ok (.invokestatic 34, 3) := by decide +kernel
theorem dX2_work_8 : decode cX2_work 8 = .ok (.iload_n 3, 1) := by decide +kernel
theorem dX2_work_9 : decode cX2_work 9 = .ok (.invokestatic 23, 3) := by decide +kernel
theorem dX2_work_12 : decode cX2_work 12 = .ok (.iload 4, 2) := by decide +kernel
theorem dX2_work_14 : decode cX2_work 14 = .ok (.invokestatic 23, 3) := by decide +kernel
theorem dX2_work_17 : decode cX2_work 17 = .ok (.aload_n 0, 1) := by decide +kernel
theorem dX2_work_18 : decode cX2_work 18 = .ok (.getfield 19, 3) := by decide +kernel
theorem dX2_work_21 : decode cX2_work 21 = .ok (.aload_n 0, 1) := by decide +kernel
theorem dX2_work_22 : decode cX2_work 22 = .ok (.getfield 9, 3) := by decide +kernel
theorem dX2_work_25 : decode cX2_work 25 = .ok (.iload_n 3, 1) := by decide +kernel
theorem dX2_work_26 : decode cX2_work 26 = .ok (.laload, 1) := by decide +kernel
theorem dX2_work_27 : decode cX2_work 27 = .ok (.aload_n 0, 1) := by decide +kernel
theorem dX2_work_28 : decode cX2_work 28 = .ok (.getfield 13, 3) := by decide +kernel
theorem dX2_work_31 : decode cX2_work 31 = .ok (.iload_n 3, 1) := by decide +kernel
theorem dX2_work_32 : decode cX2_work 32 = .ok (.laload, 1) := by decide +kernel
theorem dX2_work_33 : decode cX2_work 33 = .ok (.aload_n 0, 1) := by decide +kernel
theorem dX2_work_34 : decode cX2_work 34 = .ok (.getfield 9, 3) := by decide +kernel
theorem dX2_work_37 : decode cX2_work 37 = .ok (.iload 4, 2) := by decide +kernel
theorem dX2_work_39 : decode cX2_work 39 = .ok (.laload, 1) := by decide +kernel
theorem dX2_work_40 : decode cX2_work 40 = .ok (.aload_n 0, 1) := by decide +kernel
theorem dX2_work_41 : decode cX2_work 41 = .ok (.getfield 13, 3) := by decide +kernel
theorem dX2_work_44 : decode cX2_work 44 = .ok (.iload 4, 2) := by decide +kernel
theorem dX2_work_46 : decode cX2_work 46 = .ok (.laload, 1) := by decide +kernel
theorem dX2_work_47 : decode cX2_work 47 = .ok (.invokevirtual 37, 3) := by decide +kernel
theorem dX2_work_50 : decode cX2_work 50 = .ok (.aload_n 0, 1) := by decide +kernel
theorem dX2_work_51 : decode cX2_work 51 = .ok (.getfield 19, 3) := by decide +kernel
theorem dX2_work_54 : decode cX2_work 54 = .ok (.iload_n 2, 1) := by decide +kernel
theorem dX2_work_55 : decode cX2_work 55 = .ok (.iload 5, 2) := by decide +kernel
theorem dX2_work_57 : decode cX2_work 57 = .ok (.invokevirtual 41, 3) := by decide +kernel
theorem dX2_work_60 : decode cX2_work 60 = .ok (.aload_n 0, 1) := by decide +kernel
theorem dX2_work_61 : decode cX2_work 61 = .ok (.getfield 9, 3) := by decide +kernel
theorem dX2_work_64 : decode cX2_work 64 = .ok (.iload_n 1, 1) := by decide +kernel
theorem dX2_work_65 : decode cX2_work 65 = .ok (.aload_n 0, 1) := by decide +kernel
theorem dX2_work_66 : decode cX2_work 66 = .ok (.getfield 19, 3) := by decide +kernel
theorem dX2_work_69 : decode cX2_work 69 = .ok (.getfield 45, 3) := by decide +kernel
theorem dX2_work_72 : decode cX2_work 72 = .ok (.lastore, 1) := by decide +kernel
theorem dX2_work_73 : decode cX2_work 73 = .ok (.aload_n 0, 1) := by decide +kernel
theorem dX2_work_74 : decode cX2_work 74 = .ok (.getfield 13, 3) := by decide +kernel
theorem dX2_work_77 : decode cX2_work 77 = .ok (.iload_n 1, 1) := by decide +kernel
theorem dX2_work_78 : decode cX2_work 78 = .ok (.aload_n 0, 1) := by decide +kernel
theorem dX2_work_79 : decode cX2_work 79 = .ok (.getfield 19, 3) := by decide +kernel
theorem dX2_work_82 : decode cX2_work 82 = .ok (.getfield 49, 3) := by decide +kernel
theorem dX2_work_85 : decode cX2_work 85 = .ok (.lastore, 1) := by decide +kernel
theorem dX2_work_86 : decode cX2_work 86 = .ok (.return_, 1) := by decide +kernel
set_option maxRecDepth 20000 in
theorem ggX2_exact_X2_needInstruction : GoodIn wsX2_exact wsX2_needInstruction := goodIn_ca (goodIn_r _ [4, 5, 6] (by decide +kernel) (by decide +kernel)) (goodIn_sub (fun _ h => List.mem_cons_of_mem _ (List.mem_append_right _ h)) (by decide +kernel))
set_option maxRecDepth 20000 in
theorem gX2_exact_X2_needInstruction : GoodIn wsX2_exact (va_wsS RX2 34 yX2_needInstruction wsX2_needInstruction) := goodIn_app (goodIn_of _ (by decide +kernel)) ggX2_exact_X2_needInstruction
set_option maxRecDepth 20000 in
theorem ggX2_exact_X0_make : GoodIn wsX2_exact wsX0_make := goodIn_r _ [10, 11, 12, 13, 9, 14, 15, 16, 17, 18, 19, 20, 21, 22, 23, 24] (by decide +kernel) (by decide +kernel)
set_option maxRecDepth 20000 in
theorem gX2_exact_X0_make : GoodIn wsX2_exact (va_wsS RX2 52 yX0_make wsX0_make) := goodIn_app (goodIn_of _ (by decide +kernel)) ggX2_exact_X0_make
theorem dX2_exact_0 : decode cX2_exact 0 = .ok (.iload_n 1, 1) := by decide +kernel
theorem dX2_exact_1 : decode cX2_exact 1 = .ok (.invokestatic 34, 3) := by decide +kernel
theorem dX2_exact_4 : decode cX2_exact 4 = .ok (.iload_n 1, 1) := by decide +kernel
theorem dX2_exact_5 : decode cX2_exact 5 = .ok (.lload_n 2, 1) := by decide +kernel
theorem dX2_exact_6 : decode cX2_exact 6 = .ok (.lload 4, 2) := by decide +kernel
theorem dX2_exact_8 : decode cX2_exact 8 = .ok (.iload 6, 2) := by decide +kernel
theorem dX2_exact_10 : decode cX2_exact 10 = .ok (.invokestatic 52, 3) := by decide +kernel
theorem dX2_exact_13 : decode cX2_exact 13 = .ok (.lreturn, 1) := by decide +kernel
set_option maxRecDepth 20000 in
theorem ggX2_cut_X2_needCondition : GoodIn wsX2_cut wsX2_needCondition := goodIn_ca (goodIn_r _ [8, 1, 2] (by decide +kernel) (by decide +kernel)) (goodIn_sub (fun _ h => List.mem_cons_of_mem _ (List.mem_append_right _ h)) (by decide +kernel))
set_option maxRecDepth 20000 in
theorem gX2_cut_X2_needCondition : GoodIn wsX2_cut (va_wsS RX2 57 yX2_needCondition wsX2_needCondition) := goodIn_app (goodIn_of _ (by decide +kernel)) ggX2_cut_X2_needCondition
set_option maxRecDepth 20000 in
theorem ggX2_cut_X2_needRange : GoodIn wsX2_cut wsX2_needRange := goodIn_ca (goodIn_r _ [11, 1, 2] (by decide +kernel) (by decide +kernel)) (goodIn_sub (fun _ h => List.mem_cons_of_mem _ (List.mem_append_right _ h)) (by decide +kernel))
set_option maxRecDepth 20000 in
theorem gX2_cut_X2_needRange : GoodIn wsX2_cut (va_wsS RX2 23 yX2_needRange wsX2_needRange) := goodIn_app (goodIn_of _ (by decide +kernel)) ggX2_cut_X2_needRange
set_option maxRecDepth 20000 in
theorem ggX2_cut_X2_isConst : GoodIn wsX2_cut wsX2_isConst := goodIn_r _ [15, 3, 16, 58, 59, 60] (by decide +kernel) (by decide +kernel)
set_option maxRecDepth 20000 in
theorem gX2_cut_X2_isConst : GoodIn wsX2_cut (wsV RX2 62 RX2 yX2_isConst wsX2_isConst) := goodIn_app (goodIn_of _ (by decide +kernel)) ggX2_cut_X2_isConst
set_option maxRecDepth 20000 in
theorem ggX2_cut_X0_isSo : GoodIn wsX2_cut wsX0_isSo := goodIn_r _ [20, 21, 22, 19, 23, 24] (by decide +kernel) (by decide +kernel)
set_option maxRecDepth 20000 in
theorem gX2_cut_X0_isSo : GoodIn wsX2_cut (va_wsS RX2 66 yX0_isSo wsX0_isSo) := goodIn_app (goodIn_of _ (by decide +kernel)) ggX2_cut_X0_isSo
set_option maxRecDepth 20000 in
theorem ggX2_cut_X2_cutSo : GoodIn wsX2_cut wsX2_cutSo := goodIn_r _ [28, 29, 30, 31, 7, 32, 3, 33, 34, 35, 36, 16, 37, 38, 39, 40, 41, 42, 43, 12, 13, 14, 15, 44, 45, 46, 47, 48, 49, 50, 51, 52, 53, 54, 55, 56, 57, 58, 59, 60] (by decide +kernel) (by decide +kernel)
set_option maxRecDepth 20000 in
theorem gX2_cut_X2_cutSo : GoodIn wsX2_cut (wsV RX2 74 RX2 yX2_cutSo wsX2_cutSo) := goodIn_app (goodIn_of _ (by decide +kernel)) ggX2_cut_X2_cutSo
theorem dX2_cut_0 : decode cX2_cut 0 = .ok (.iload_n 1, 1) := by decide +kernel
theorem dX2_cut_1 : decode cX2_cut 1 = .ok (.invokestatic 57, 3) := by decide +kernel
theorem dX2_cut_4 : decode cX2_cut 4 = .ok (.iload_n 2, 1) := by decide +kernel
theorem dX2_cut_5 : decode cX2_cut 5 = .ok (.invokestatic 23, 3) := by decide +kernel
theorem dX2_cut_8 : decode cX2_cut 8 = .ok (.iload_n 3, 1) := by decide +kernel
theorem dX2_cut_9 : decode cX2_cut 9 = .ok (.invokestatic 23, 3) := by decide +kernel
theorem dX2_cut_12 : decode cX2_cut 12 = .ok (.iload_n 2, 1) := by decide +kernel
theorem dX2_cut_13 : decode cX2_cut 13 = .ok (.iload_n 3, 1) := by decide +kernel
theorem dX2_cut_14 : decode cX2_cut 14 = .ok (.if_icmp .ne 13, 3) := by decide +kernel
theorem dX2_cut_17 : decode cX2_cut 17 = .ok (.new 27, 3) := by decide +kernel
theorem dX2_cut_20 : decode cX2_cut 20 = .ok (.dup, 1) := by decide +kernel
theorem dX2_cut_21 : decode cX2_cut 21 = .ok (.ldc 60, 2) := by decide +kernel
theorem dX2_cut_23 : decode cX2_cut 23 = .ok (.invokespecial 31, 3) := by decide +kernel
theorem dX2_cut_26 : decode cX2_cut 26 = .ok (.athrow, 1) := by decide +kernel
theorem dX2_cut_27 : decode cX2_cut 27 = .ok (.aload_n 0, 1) := by decide +kernel
theorem dX2_cut_28 : decode cX2_cut 28 = .ok (.iload_n 2, 1) := by decide +kernel
theorem dX2_cut_29 : decode cX2_cut 29 = .ok (.invokevirtual 62, 3) := by decide +kernel
theorem dX2_cut_32 : decode cX2_cut 32 = .ok (.ifCond .eq 38, 3) := by decide +kernel
theorem dX2_cut_35 : decode cX2_cut 35 = .ok (.aload_n 0, 1) := by decide +kernel
theorem dX2_cut_36 : decode cX2_cut 36 = .ok (.iload_n 3, 1) := by decide +kernel
theorem dX2_cut_37 : decode cX2_cut 37 = .ok (.invokevirtual 62, 3) := by decide +kernel
theorem dX2_cut_40 : decode cX2_cut 40 = .ok (.ifCond .eq 30, 3) := by decide +kernel
theorem dX2_cut_43 : decode cX2_cut 43 = .ok (.iload_n 1, 1) := by decide +kernel
theorem dX2_cut_44 : decode cX2_cut 44 = .ok (.aload_n 0, 1) := by decide +kernel
theorem dX2_cut_45 : decode cX2_cut 45 = .ok (.getfield 9, 3) := by decide +kernel
theorem dX2_cut_48 : decode cX2_cut 48 = .ok (.iload_n 2, 1) := by decide +kernel
theorem dX2_cut_49 : decode cX2_cut 49 = .ok (.laload, 1) := by decide +kernel
theorem dX2_cut_50 : decode cX2_cut 50 = .ok (.aload_n 0, 1) := by decide +kernel
theorem dX2_cut_51 : decode cX2_cut 51 = .ok (.getfield 9, 3) := by decide +kernel
theorem dX2_cut_54 : decode cX2_cut 54 = .ok (.iload_n 3, 1) := by decide +kernel
theorem dX2_cut_55 : decode cX2_cut 55 = .ok (.laload, 1) := by decide +kernel
theorem dX2_cut_56 : decode cX2_cut 56 = .ok (.invokestatic 66, 3) := by decide +kernel
theorem dX2_cut_59 : decode cX2_cut 59 = .ok (.iload 4, 2) := by decide +kernel
theorem dX2_cut_61 : decode cX2_cut 61 = .ok (.if_icmp .ne 7, 3) := by decide +kernel
theorem dX2_cut_64 : decode cX2_cut 64 = .ok (.iconst 1, 1) := by decide +kernel
theorem dX2_cut_65 : decode cX2_cut 65 = .ok (.goto 4, 3) := by decide +kernel
theorem dX2_cut_68 : decode cX2_cut 68 = .ok (.iconst 0, 1) := by decide +kernel
theorem dX2_cut_69 : decode cX2_cut 69 = .ok (.ireturn, 1) := by decide +kernel
theorem dX2_cut_70 : decode cX2_cut 70 = .ok (.aload_n 0, 1) := by decide +kernel
theorem dX2_cut_71 : decode cX2_cut 71 = .ok (.iload 4, 2) := by decide +kernel
theorem dX2_cut_73 : decode cX2_cut 73 = .ok (.ifCond .eq 7, 3) := by decide +kernel
theorem dX2_cut_76 : decode cX2_cut 76 = .ok (.iload_n 1, 1) := by decide +kernel
theorem dX2_cut_77 : decode cX2_cut 77 = .ok (.goto 8, 3) := by decide +kernel
theorem dX2_cut_80 : decode cX2_cut 80 = .ok (.getstatic 70, 3) := by decide +kernel
theorem dX2_cut_83 : decode cX2_cut 83 = .ok (.iload_n 1, 1) := by decide +kernel
theorem dX2_cut_84 : decode cX2_cut 84 = .ok (.iaload, 1) := by decide +kernel
theorem dX2_cut_85 : decode cX2_cut 85 = .ok (.iload_n 2, 1) := by decide +kernel
theorem dX2_cut_86 : decode cX2_cut 86 = .ok (.iload_n 3, 1) := by decide +kernel
theorem dX2_cut_87 : decode cX2_cut 87 = .ok (.invokevirtual 74, 3) := by decide +kernel
theorem dX2_cut_90 : decode cX2_cut 90 = .ok (.ireturn, 1) := by decide +kernel
set_option maxRecDepth 20000 in
theorem ggX2_holds_X2_needCondition : GoodIn wsX2_holds wsX2_needCondition := goodIn_ca (goodIn_r _ [4, 5, 6] (by decide +kernel) (by decide +kernel)) (goodIn_sub (fun _ h => List.mem_cons_of_mem _ (List.mem_append_right _ h)) (by decide +kernel))
set_option maxRecDepth 20000 in
theorem gX2_holds_X2_needCondition : GoodIn wsX2_holds (va_wsS RX2 57 yX2_needCondition wsX2_needCondition) := goodIn_app (goodIn_of _ (by decide +kernel)) ggX2_holds_X2_needCondition
set_option maxRecDepth 20000 in
theorem ggX2_holds_X0_isSo : GoodIn wsX2_holds wsX0_isSo := goodIn_r _ [10, 11, 12, 9, 13, 14] (by decide +kernel) (by decide +kernel)
set_option maxRecDepth 20000 in
theorem gX2_holds_X0_isSo : GoodIn wsX2_holds (va_wsS RX2 66 yX0_isSo wsX0_isSo) := goodIn_app (goodIn_of _ (by decide +kernel)) ggX2_holds_X0_isSo
theorem dX2_holds_0 : decode cX2_holds 0 = .ok (.iload_n 1, 1) := by decide +kernel
theorem dX2_holds_1 : decode cX2_holds 1 = .ok (.invokestatic 57, 3) := by decide +kernel
theorem dX2_holds_4 : decode cX2_holds 4 = .ok (.iload_n 1, 1) := by decide +kernel
theorem dX2_holds_5 : decode cX2_holds 5 = .ok (.lload_n 2, 1) := by decide +kernel
theorem dX2_holds_6 : decode cX2_holds 6 = .ok (.lload 4, 2) := by decide +kernel
theorem dX2_holds_8 : decode cX2_holds 8 = .ok (.invokestatic 66, 3) := by decide +kernel
theorem dX2_holds_11 : decode cX2_holds 11 = .ok (.ireturn, 1) := by decide +kernel
set_option maxRecDepth 20000 in
theorem ggX2_low_X2_needRange : GoodIn wsX2_low wsX2_needRange := goodIn_ca (goodIn_r _ [5, 6, 7] (by decide +kernel) (by decide +kernel)) (goodIn_sub (fun _ h => List.mem_cons_of_mem _ (List.mem_append_right _ h)) (by decide +kernel))
set_option maxRecDepth 20000 in
theorem gX2_low_X2_needRange : GoodIn wsX2_low (va_wsS RX2 23 yX2_needRange wsX2_needRange) := goodIn_app (goodIn_of _ (by decide +kernel)) ggX2_low_X2_needRange
theorem dX2_low_0 : decode cX2_low 0 = .ok (.iload_n 1, 1) := by decide +kernel
theorem dX2_low_1 : decode cX2_low 1 = .ok (.invokestatic 23, 3) := by decide +kernel
theorem dX2_low_4 : decode cX2_low 4 = .ok (.aload_n 0, 1) := by decide +kernel
theorem dX2_low_5 : decode cX2_low 5 = .ok (.getfield 9, 3) := by decide +kernel
theorem dX2_low_8 : decode cX2_low 8 = .ok (.iload_n 1, 1) := by decide +kernel
theorem dX2_low_9 : decode cX2_low 9 = .ok (.laload, 1) := by decide +kernel
theorem dX2_low_10 : decode cX2_low 10 = .ok (.lreturn, 1) := by decide +kernel
set_option maxRecDepth 20000 in
theorem ggX2_high_X2_needRange : GoodIn wsX2_high wsX2_needRange := goodIn_ca (goodIn_r _ [5, 6, 7] (by decide +kernel) (by decide +kernel)) (goodIn_sub (fun _ h => List.mem_cons_of_mem _ (List.mem_append_right _ h)) (by decide +kernel))
set_option maxRecDepth 20000 in
theorem gX2_high_X2_needRange : GoodIn wsX2_high (va_wsS RX2 23 yX2_needRange wsX2_needRange) := goodIn_app (goodIn_of _ (by decide +kernel)) ggX2_high_X2_needRange
theorem dX2_high_0 : decode cX2_high 0 = .ok (.iload_n 1, 1) := by decide +kernel
theorem dX2_high_1 : decode cX2_high 1 = .ok (.invokestatic 23, 3) := by decide +kernel
theorem dX2_high_4 : decode cX2_high 4 = .ok (.aload_n 0, 1) := by decide +kernel
theorem dX2_high_5 : decode cX2_high 5 = .ok (.getfield 13, 3) := by decide +kernel
theorem dX2_high_8 : decode cX2_high 8 = .ok (.iload_n 1, 1) := by decide +kernel
theorem dX2_high_9 : decode cX2_high 9 = .ok (.laload, 1) := by decide +kernel
theorem dX2_high_10 : decode cX2_high 10 = .ok (.lreturn, 1) := by decide +kernel
theorem dX2_needRange_0 : decode cX2_needRange 0 = .ok (.iload_n 0, 1) := by decide +kernel
theorem dX2_needRange_1 : decode cX2_needRange 1 = .ok (.ifCond .lt 9, 3) := by decide +kernel
theorem dX2_needRange_4 : decode cX2_needRange 4 = .ok (.iload_n 0, 1) := by decide +kernel
theorem dX2_needRange_5 : decode cX2_needRange 5 = .ok (.bipush 16, 2) := by decide +kernel
theorem dX2_needRange_7 : decode cX2_needRange 7 = .ok (.if_icmp .lt 13, 3) := by decide +kernel
theorem dX2_needRange_10 : decode cX2_needRange 10 = .ok (.new 27, 3) := by decide +kernel
theorem dX2_needRange_13 : decode cX2_needRange 13 = .ok (.dup, 1) := by decide +kernel
theorem dX2_needRange_14 : decode cX2_needRange 14 = .ok (.ldc 78, 2) := by decide +kernel
theorem dX2_needRange_16 : decode cX2_needRange 16 = .ok (.invokespecial 31, 3) := by decide +kernel
theorem dX2_needRange_19 : decode cX2_needRange 19 = .ok (.athrow, 1) := by decide +kernel
theorem dX2_needRange_20 : decode cX2_needRange 20 = .ok (.return_, 1) := by decide +kernel
theorem dX2_needInstruction_0 : decode cX2_needInstruction 0 = .ok (.iload_n 0, 1) := by decide +kernel
theorem dX2_needInstruction_1 : decode cX2_needInstruction 1 = .ok (.ifCond .lt 9, 3) := by decide +kernel
theorem dX2_needInstruction_4 : decode cX2_needInstruction 4 = .ok (.iload_n 0, 1) := by decide +kernel
theorem dX2_needInstruction_5 : decode cX2_needInstruction 5 = .ok (.bipush 13, 2) := by decide +kernel
theorem dX2_needInstruction_7 : decode cX2_needInstruction 7 = .ok (.if_icmp .lt 13, 3) := by decide +kernel
theorem dX2_needInstruction_10 : decode cX2_needInstruction 10 = .ok (.new 27, 3) := by decide +kernel
theorem dX2_needInstruction_13 : decode cX2_needInstruction 13 = .ok (.dup, 1) := by decide +kernel
theorem dX2_needInstruction_14 : decode cX2_needInstruction 14 = .ok (.ldc 80, 2) := by decide +kernel
theorem dX2_needInstruction_16 : decode cX2_needInstruction 16 = .ok (.invokespecial 31, 3) := by decide +kernel
theorem dX2_needInstruction_19 : decode cX2_needInstruction 19 = .ok (.athrow, 1) := by decide +kernel
theorem dX2_needInstruction_20 : decode cX2_needInstruction 20 = .ok (.return_, 1) := by decide +kernel
theorem dX2_needCondition_0 : decode cX2_needCondition 0 = .ok (.iload_n 0, 1) := by decide +kernel
theorem dX2_needCondition_1 : decode cX2_needCondition 1 = .ok (.ifCond .lt 9, 3) := by decide +kernel
theorem dX2_needCondition_4 : decode cX2_needCondition 4 = .ok (.iload_n 0, 1) := by decide +kernel
theorem dX2_needCondition_5 : decode cX2_needCondition 5 = .ok (.bipush 11, 2) := by decide +kernel
theorem dX2_needCondition_7 : decode cX2_needCondition 7 = .ok (.if_icmp .lt 13, 3) := by decide +kernel
theorem dX2_needCondition_10 : decode cX2_needCondition 10 = .ok (.new 27, 3) := by decide +kernel
theorem dX2_needCondition_13 : decode cX2_needCondition 13 = .ok (.dup, 1) := by decide +kernel
theorem dX2_needCondition_14 : decode cX2_needCondition 14 = .ok (.ldc 82, 2) := by decide +kernel
theorem dX2_needCondition_16 : decode cX2_needCondition 16 = .ok (.invokespecial 31, 3) := by decide +kernel
theorem dX2_needCondition_19 : decode cX2_needCondition 19 = .ok (.athrow, 1) := by decide +kernel
theorem dX2_needCondition_20 : decode cX2_needCondition 20 = .ok (.return_, 1) := by decide +kernel
theorem dX2_isConst_0 : decode cX2_isConst 0 = .ok (.aload_n 0, 1) := by decide +kernel
theorem dX2_isConst_1 : decode cX2_isConst 1 = .ok (.getfield 9, 3) := by decide +kernel
theorem dX2_isConst_4 : decode cX2_isConst 4 = .ok (.iload_n 1, 1) := by decide +kernel
theorem dX2_isConst_5 : decode cX2_isConst 5 = .ok (.laload, 1) := by decide +kernel
theorem dX2_isConst_6 : decode cX2_isConst 6 = .ok (.aload_n 0, 1) := by decide +kernel
theorem dX2_isConst_7 : decode cX2_isConst 7 = .ok (.getfield 13, 3) := by decide +kernel
theorem dX2_isConst_10 : decode cX2_isConst 10 = .ok (.iload_n 1, 1) := by decide +kernel
theorem dX2_isConst_11 : decode cX2_isConst 11 = .ok (.laload, 1) := by decide +kernel
theorem dX2_isConst_12 : decode cX2_isConst 12 = .ok (.lcmp, 1) := by decide +kernel
theorem dX2_isConst_13 : decode cX2_isConst 13 = .ok (.ifCond .ne 7, 3) := by decide +kernel
theorem dX2_isConst_16 : decode cX2_isConst 16 = .ok (.iconst 1, 1) := by decide +kernel
theorem dX2_isConst_17 : decode cX2_isConst 17 = .ok (.goto 4, 3) := by decide +kernel
theorem dX2_isConst_20 : decode cX2_isConst 20 = .ok (.iconst 0, 1) := by decide +kernel
theorem dX2_isConst_21 : decode cX2_isConst 21 = .ok (.ireturn, 1) := by decide +kernel
set_option maxRecDepth 20000 in
theorem ggX2_cutSo_X2_cutToCommon : GoodIn wsX2_cutSo wsX2_cutToCommon := goodIn_r _ [5, 6, 7, 8, 9, 10, 11, 12, 13, 14, 37, 38, 39] (by decide +kernel) (by decide +kernel)
set_option maxRecDepth 20000 in
theorem gX2_cutSo_X2_cutToCommon : GoodIn wsX2_cutSo (wsV RX2 84 RX2 yX2_cutToCommon wsX2_cutToCommon) := goodIn_app (goodIn_of _ (by decide +kernel)) ggX2_cutSo_X2_cutToCommon
set_option maxRecDepth 20000 in
theorem ggX2_cutSo_X2_cutApart : GoodIn wsX2_cutSo wsX2_cutApart := goodIn_r _ [18, 6, 19, 20, 21, 4, 22, 11, 23, 24, 25, 26, 37, 38, 39] (by decide +kernel) (by decide +kernel)
set_option maxRecDepth 20000 in
theorem gX2_cutSo_X2_cutApart : GoodIn wsX2_cutSo (wsV RX2 88 RX2 yX2_cutApart wsX2_cutApart) := goodIn_app (goodIn_of _ (by decide +kernel)) ggX2_cutSo_X2_cutApart
set_option maxRecDepth 20000 in
theorem ggX2_cutSo_X2_cutBelow : GoodIn wsX2_cutSo wsX2_cutBelow := goodIn_r _ [30, 6, 11, 12, 13, 9, 14, 31, 32, 33, 4, 34, 35, 36, 7, 8, 10, 37, 38, 39] (by decide +kernel) (by decide +kernel)
set_option maxRecDepth 20000 in
theorem gX2_cutSo_X2_cutBelow : GoodIn wsX2_cutSo (wsV RX2 91 RX2 yX2_cutBelow wsX2_cutBelow) := goodIn_app (goodIn_of _ (by decide +kernel)) ggX2_cutSo_X2_cutBelow
set_option maxRecDepth 20000 in
theorem ggX2_cutSo_X2_cutSignedBelow : GoodIn wsX2_cutSo wsX2_cutSignedBelow := goodIn_r _ [34, 11, 35, 6, 36, 12, 13, 9, 14, 7, 8, 10, 37, 38, 39] (by decide +kernel) (by decide +kernel)
set_option maxRecDepth 20000 in
theorem gX2_cutSo_X2_cutSignedBelow : GoodIn wsX2_cutSo (wsV RX2 94 RX2 yX2_cutSignedBelow wsX2_cutSignedBelow) := goodIn_app (goodIn_of _ (by decide +kernel)) ggX2_cutSo_X2_cutSignedBelow
theorem dX2_cutSo_0 : decode cX2_cutSo 0 = .ok (.iload_n 1, 1) := by decide +kernel
theorem dX2_cutSo_1 : decode cX2_cutSo 1 = .ok (.tableswitch 133 0 9 #[55, 62, 69, 77, 85, 93, 101, 109, 117, 125], 55) := by decide +kernel
theorem dX2_cutSo_56 : decode cX2_cutSo 56 = .ok (.aload_n 0, 1) := by decide +kernel
theorem dX2_cutSo_57 : decode cX2_cutSo 57 = .ok (.iload_n 2, 1) := by decide +kernel
theorem dX2_cutSo_58 : decode cX2_cutSo 58 = .ok (.iload_n 3, 1) := by decide +kernel
theorem dX2_cutSo_59 : decode cX2_cutSo 59 = .ok (.invokevirtual 84, 3) := by decide +kernel
theorem dX2_cutSo_62 : decode cX2_cutSo 62 = .ok (.ireturn, 1) := by decide +kernel
theorem dX2_cutSo_63 : decode cX2_cutSo 63 = .ok (.aload_n 0, 1) := by decide +kernel
theorem dX2_cutSo_64 : decode cX2_cutSo 64 = .ok (.iload_n 2, 1) := by decide +kernel
theorem dX2_cutSo_65 : decode cX2_cutSo 65 = .ok (.iload_n 3, 1) := by decide +kernel
theorem dX2_cutSo_66 : decode cX2_cutSo 66 = .ok (.invokevirtual 88, 3) := by decide +kernel
theorem dX2_cutSo_69 : decode cX2_cutSo 69 = .ok (.ireturn, 1) := by decide +kernel
theorem dX2_cutSo_70 : decode cX2_cutSo 70 = .ok (.aload_n 0, 1) := by decide +kernel
theorem dX2_cutSo_71 : decode cX2_cutSo 71 = .ok (.iload_n 2, 1) := by decide +kernel
theorem dX2_cutSo_72 : decode cX2_cutSo 72 = .ok (.iload_n 3, 1) := by decide +kernel
theorem dX2_cutSo_73 : decode cX2_cutSo 73 = .ok (.iconst 1, 1) := by decide +kernel
theorem dX2_cutSo_74 : decode cX2_cutSo 74 = .ok (.invokevirtual 91, 3) := by decide +kernel
theorem dX2_cutSo_77 : decode cX2_cutSo 77 = .ok (.ireturn, 1) := by decide +kernel
theorem dX2_cutSo_78 : decode cX2_cutSo 78 = .ok (.aload_n 0, 1) := by decide +kernel
theorem dX2_cutSo_79 : decode cX2_cutSo 79 = .ok (.iload_n 2, 1) := by decide +kernel
theorem dX2_cutSo_80 : decode cX2_cutSo 80 = .ok (.iload_n 3, 1) := by decide +kernel
theorem dX2_cutSo_81 : decode cX2_cutSo 81 = .ok (.iconst 0, 1) := by decide +kernel
theorem dX2_cutSo_82 : decode cX2_cutSo 82 = .ok (.invokevirtual 91, 3) := by decide +kernel
theorem dX2_cutSo_85 : decode cX2_cutSo 85 = .ok (.ireturn, 1) := by decide +kernel
theorem dX2_cutSo_86 : decode cX2_cutSo 86 = .ok (.aload_n 0, 1) := by decide +kernel
theorem dX2_cutSo_87 : decode cX2_cutSo 87 = .ok (.iload_n 3, 1) := by decide +kernel
theorem dX2_cutSo_88 : decode cX2_cutSo 88 = .ok (.iload_n 2, 1) := by decide +kernel
theorem dX2_cutSo_89 : decode cX2_cutSo 89 = .ok (.iconst 1, 1) := by decide +kernel
theorem dX2_cutSo_90 : decode cX2_cutSo 90 = .ok (.invokevirtual 91, 3) := by decide +kernel
theorem dX2_cutSo_93 : decode cX2_cutSo 93 = .ok (.ireturn, 1) := by decide +kernel
theorem dX2_cutSo_94 : decode cX2_cutSo 94 = .ok (.aload_n 0, 1) := by decide +kernel
theorem dX2_cutSo_95 : decode cX2_cutSo 95 = .ok (.iload_n 3, 1) := by decide +kernel
theorem dX2_cutSo_96 : decode cX2_cutSo 96 = .ok (.iload_n 2, 1) := by decide +kernel
theorem dX2_cutSo_97 : decode cX2_cutSo 97 = .ok (.iconst 0, 1) := by decide +kernel
theorem dX2_cutSo_98 : decode cX2_cutSo 98 = .ok (.invokevirtual 91, 3) := by decide +kernel
theorem dX2_cutSo_101 : decode cX2_cutSo 101 = .ok (.ireturn, 1) := by decide +kernel
theorem dX2_cutSo_102 : decode cX2_cutSo 102 = .ok (.aload_n 0, 1) := by decide +kernel
theorem dX2_cutSo_103 : decode cX2_cutSo 103 = .ok (.iload_n 2, 1) := by decide +kernel
theorem dX2_cutSo_104 : decode cX2_cutSo 104 = .ok (.iload_n 3, 1) := by decide +kernel
theorem dX2_cutSo_105 : decode cX2_cutSo 105 = .ok (.iconst 1, 1) := by decide +kernel
theorem dX2_cutSo_106 : decode cX2_cutSo 106 = .ok (.invokevirtual 94, 3) := by decide +kernel
theorem dX2_cutSo_109 : decode cX2_cutSo 109 = .ok (.ireturn, 1) := by decide +kernel
theorem dX2_cutSo_110 : decode cX2_cutSo 110 = .ok (.aload_n 0, 1) := by decide +kernel
theorem dX2_cutSo_111 : decode cX2_cutSo 111 = .ok (.iload_n 2, 1) := by decide +kernel
theorem dX2_cutSo_112 : decode cX2_cutSo 112 = .ok (.iload_n 3, 1) := by decide +kernel
theorem dX2_cutSo_113 : decode cX2_cutSo 113 = .ok (.iconst 0, 1) := by decide +kernel
theorem dX2_cutSo_114 : decode cX2_cutSo 114 = .ok (.invokevirtual 94, 3) := by decide +kernel
theorem dX2_cutSo_117 : decode cX2_cutSo 117 = .ok (.ireturn, 1) := by decide +kernel
theorem dX2_cutSo_118 : decode cX2_cutSo 118 = .ok (.aload_n 0, 1) := by decide +kernel
theorem dX2_cutSo_119 : decode cX2_cutSo 119 = .ok (.iload_n 3, 1) := by decide +kernel
theorem dX2_cutSo_120 : decode cX2_cutSo 120 = .ok (.iload_n 2, 1) := by decide +kernel
theorem dX2_cutSo_121 : decode cX2_cutSo 121 = .ok (.iconst 1, 1) := by decide +kernel
theorem dX2_cutSo_122 : decode cX2_cutSo 122 = .ok (.invokevirtual 94, 3) := by decide +kernel
theorem dX2_cutSo_125 : decode cX2_cutSo 125 = .ok (.ireturn, 1) := by decide +kernel
theorem dX2_cutSo_126 : decode cX2_cutSo 126 = .ok (.aload_n 0, 1) := by decide +kernel
theorem dX2_cutSo_127 : decode cX2_cutSo 127 = .ok (.iload_n 3, 1) := by decide +kernel
theorem dX2_cutSo_128 : decode cX2_cutSo 128 = .ok (.iload_n 2, 1) := by decide +kernel
theorem dX2_cutSo_129 : decode cX2_cutSo 129 = .ok (.iconst 0, 1) := by decide +kernel
theorem dX2_cutSo_130 : decode cX2_cutSo 130 = .ok (.invokevirtual 94, 3) := by decide +kernel
theorem dX2_cutSo_133 : decode cX2_cutSo 133 = .ok (.ireturn, 1) := by decide +kernel
theorem dX2_cutSo_134 : decode cX2_cutSo 134 = .ok (.iconst 1, 1) := by decide +kernel
theorem dX2_cutSo_135 : decode cX2_cutSo 135 = .ok (.ireturn, 1) := by decide +kernel
theorem dX2_cutToCommon_0 : decode cX2_cutToCommon 0 = .ok (.aload_n 0, 1) := by decide +kernel
theorem dX2_cutToCommon_1 : decode cX2_cutToCommon 1 = .ok (.getfield 9, 3) := by decide +kernel
theorem dX2_cutToCommon_4 : decode cX2_cutToCommon 4 = .ok (.iload_n 1, 1) := by decide +kernel
theorem dX2_cutToCommon_5 : decode cX2_cutToCommon 5 = .ok (.laload, 1) := by decide +kernel
theorem dX2_cutToCommon_6 : decode cX2_cutToCommon 6 = .ok (.aload_n 0, 1) := by decide +kernel
theorem dX2_cutToCommon_7 : decode cX2_cutToCommon 7 = .ok (.getfield 9, 3) := by decide +kernel
theorem dX2_cutToCommon_10 : decode cX2_cutToCommon 10 = .ok (.iload_n 2, 1) := by decide +kernel
theorem dX2_cutToCommon_11 : decode cX2_cutToCommon 11 = .ok (.laload, 1) := by decide +kernel
theorem dX2_cutToCommon_12 : decode cX2_cutToCommon 12 = .ok (.invokestatic 97, 3) := by decide +kernel
theorem dX2_cutToCommon_15 : decode cX2_cutToCommon 15 = .ok (.lstore_n 3, 1) := by decide +kernel
theorem dX2_cutToCommon_16 : decode cX2_cutToCommon 16 = .ok (.aload_n 0, 1) := by decide +kernel
theorem dX2_cutToCommon_17 : decode cX2_cutToCommon 17 = .ok (.getfield 13, 3) := by decide +kernel
theorem dX2_cutToCommon_20 : decode cX2_cutToCommon 20 = .ok (.iload_n 1, 1) := by decide +kernel
theorem dX2_cutToCommon_21 : decode cX2_cutToCommon 21 = .ok (.laload, 1) := by decide +kernel
theorem dX2_cutToCommon_22 : decode cX2_cutToCommon 22 = .ok (.aload_n 0, 1) := by decide +kernel
theorem dX2_cutToCommon_23 : decode cX2_cutToCommon 23 = .ok (.getfield 13, 3) := by decide +kernel
theorem dX2_cutToCommon_26 : decode cX2_cutToCommon 26 = .ok (.iload_n 2, 1) := by decide +kernel
theorem dX2_cutToCommon_27 : decode cX2_cutToCommon 27 = .ok (.laload, 1) := by decide +kernel
theorem dX2_cutToCommon_28 : decode cX2_cutToCommon 28 = .ok (.invokestatic 103, 3) := by decide +kernel
theorem dX2_cutToCommon_31 : decode cX2_cutToCommon 31 = .ok (.lstore 5, 2) := by decide +kernel
theorem dX2_cutToCommon_33 : decode cX2_cutToCommon 33 = .ok (.lload_n 3, 1) := by decide +kernel
theorem dX2_cutToCommon_34 : decode cX2_cutToCommon 34 = .ok (.lload 5, 2) := by decide +kernel
theorem dX2_cutToCommon_36 : decode cX2_cutToCommon 36 = .ok (.lcmp, 1) := by decide +kernel
theorem dX2_cutToCommon_37 : decode cX2_cutToCommon 37 = .ok (.ifCond .le 5, 3) := by decide +kernel
theorem dX2_cutToCommon_40 : decode cX2_cutToCommon 40 = .ok (.iconst 0, 1) := by decide +kernel
theorem dX2_cutToCommon_41 : decode cX2_cutToCommon 41 = .ok (.ireturn, 1) := by decide +kernel
theorem dX2_cutToCommon_42 : decode cX2_cutToCommon 42 = .ok (.aload_n 0, 1) := by decide +kernel
theorem dX2_cutToCommon_43 : decode cX2_cutToCommon 43 = .ok (.getfield 9, 3) := by decide +kernel
theorem dX2_cutToCommon_46 : decode cX2_cutToCommon 46 = .ok (.iload_n 1, 1) := by decide +kernel
theorem dX2_cutToCommon_47 : decode cX2_cutToCommon 47 = .ok (.lload_n 3, 1) := by decide +kernel
theorem dX2_cutToCommon_48 : decode cX2_cutToCommon 48 = .ok (.lastore, 1) := by decide +kernel
theorem dX2_cutToCommon_49 : decode cX2_cutToCommon 49 = .ok (.aload_n 0, 1) := by decide +kernel
theorem dX2_cutToCommon_50 : decode cX2_cutToCommon 50 = .ok (.getfield 13, 3) := by decide +kernel
theorem dX2_cutToCommon_53 : decode cX2_cutToCommon 53 = .ok (.iload_n 1, 1) := by decide +kernel
theorem dX2_cutToCommon_54 : decode cX2_cutToCommon 54 = .ok (.lload 5, 2) := by decide +kernel
theorem dX2_cutToCommon_56 : decode cX2_cutToCommon 56 = .ok (.lastore, 1) := by decide +kernel
theorem dX2_cutToCommon_57 : decode cX2_cutToCommon 57 = .ok (.aload_n 0, 1) := by decide +kernel
theorem dX2_cutToCommon_58 : decode cX2_cutToCommon 58 = .ok (.getfield 9, 3) := by decide +kernel
theorem dX2_cutToCommon_61 : decode cX2_cutToCommon 61 = .ok (.iload_n 2, 1) := by decide +kernel
theorem dX2_cutToCommon_62 : decode cX2_cutToCommon 62 = .ok (.lload_n 3, 1) := by decide +kernel
theorem dX2_cutToCommon_63 : decode cX2_cutToCommon 63 = .ok (.lastore, 1) := by decide +kernel
theorem dX2_cutToCommon_64 : decode cX2_cutToCommon 64 = .ok (.aload_n 0, 1) := by decide +kernel
theorem dX2_cutToCommon_65 : decode cX2_cutToCommon 65 = .ok (.getfield 13, 3) := by decide +kernel
theorem dX2_cutToCommon_68 : decode cX2_cutToCommon 68 = .ok (.iload_n 2, 1) := by decide +kernel
theorem dX2_cutToCommon_69 : decode cX2_cutToCommon 69 = .ok (.lload 5, 2) := by decide +kernel
theorem dX2_cutToCommon_71 : decode cX2_cutToCommon 71 = .ok (.lastore, 1) := by decide +kernel
theorem dX2_cutToCommon_72 : decode cX2_cutToCommon 72 = .ok (.iconst 1, 1) := by decide +kernel
theorem dX2_cutToCommon_73 : decode cX2_cutToCommon 73 = .ok (.ireturn, 1) := by decide +kernel
set_option maxRecDepth 20000 in
theorem ggX2_cutApart_X2_isConst : GoodIn wsX2_cutApart wsX2_isConst := goodIn_r _ [6, 1, 7, 12, 13, 14] (by decide +kernel) (by decide +kernel)
set_option maxRecDepth 20000 in
theorem gX2_cutApart_X2_isConst : GoodIn wsX2_cutApart (wsV RX2 62 RX2 yX2_isConst wsX2_isConst) := goodIn_app (goodIn_of _ (by decide +kernel)) ggX2_cutApart_X2_isConst
set_option maxRecDepth 20000 in
theorem ggX2_cutApart_X2_dropEnd : GoodIn wsX2_cutApart wsX2_dropEnd := goodIn_r _ [11, 1, 7, 12, 13, 14] (by decide +kernel) (by decide +kernel)
set_option maxRecDepth 20000 in
theorem gX2_cutApart_X2_dropEnd : GoodIn wsX2_cutApart (wsV RX2 106 RX2 yX2_dropEnd wsX2_dropEnd) := goodIn_app (goodIn_of _ (by decide +kernel)) ggX2_cutApart_X2_dropEnd
theorem dX2_cutApart_0 : decode cX2_cutApart 0 = .ok (.aload_n 0, 1) := by decide +kernel
theorem dX2_cutApart_1 : decode cX2_cutApart 1 = .ok (.iload_n 1, 1) := by decide +kernel
theorem dX2_cutApart_2 : decode cX2_cutApart 2 = .ok (.invokevirtual 62, 3) := by decide +kernel
theorem dX2_cutApart_5 : decode cX2_cutApart 5 = .ok (.ifCond .eq 17, 3) := by decide +kernel
theorem dX2_cutApart_8 : decode cX2_cutApart 8 = .ok (.aload_n 0, 1) := by decide +kernel
theorem dX2_cutApart_9 : decode cX2_cutApart 9 = .ok (.iload_n 2, 1) := by decide +kernel
theorem dX2_cutApart_10 : decode cX2_cutApart 10 = .ok (.aload_n 0, 1) := by decide +kernel
theorem dX2_cutApart_11 : decode cX2_cutApart 11 = .ok (.getfield 9, 3) := by decide +kernel
theorem dX2_cutApart_14 : decode cX2_cutApart 14 = .ok (.iload_n 1, 1) := by decide +kernel
theorem dX2_cutApart_15 : decode cX2_cutApart 15 = .ok (.laload, 1) := by decide +kernel
theorem dX2_cutApart_16 : decode cX2_cutApart 16 = .ok (.invokevirtual 106, 3) := by decide +kernel
theorem dX2_cutApart_19 : decode cX2_cutApart 19 = .ok (.goto 22, 3) := by decide +kernel
theorem dX2_cutApart_22 : decode cX2_cutApart 22 = .ok (.aload_n 0, 1) := by decide +kernel
theorem dX2_cutApart_23 : decode cX2_cutApart 23 = .ok (.iload_n 2, 1) := by decide +kernel
theorem dX2_cutApart_24 : decode cX2_cutApart 24 = .ok (.invokevirtual 62, 3) := by decide +kernel
theorem dX2_cutApart_27 : decode cX2_cutApart 27 = .ok (.ifCond .eq 14, 3) := by decide +kernel
theorem dX2_cutApart_30 : decode cX2_cutApart 30 = .ok (.aload_n 0, 1) := by decide +kernel
theorem dX2_cutApart_31 : decode cX2_cutApart 31 = .ok (.iload_n 1, 1) := by decide +kernel
theorem dX2_cutApart_32 : decode cX2_cutApart 32 = .ok (.aload_n 0, 1) := by decide +kernel
theorem dX2_cutApart_33 : decode cX2_cutApart 33 = .ok (.getfield 9, 3) := by decide +kernel
theorem dX2_cutApart_36 : decode cX2_cutApart 36 = .ok (.iload_n 2, 1) := by decide +kernel
theorem dX2_cutApart_37 : decode cX2_cutApart 37 = .ok (.laload, 1) := by decide +kernel
theorem dX2_cutApart_38 : decode cX2_cutApart 38 = .ok (.invokevirtual 106, 3) := by decide +kernel
theorem dX2_cutApart_41 : decode cX2_cutApart 41 = .ok (.iconst 1, 1) := by decide +kernel
theorem dX2_cutApart_42 : decode cX2_cutApart 42 = .ok (.ireturn, 1) := by decide +kernel
theorem dX2_dropEnd_0 : decode cX2_dropEnd 0 = .ok (.aload_n 0, 1) := by decide +kernel
theorem dX2_dropEnd_1 : decode cX2_dropEnd 1 = .ok (.getfield 9, 3) := by decide +kernel
theorem dX2_dropEnd_4 : decode cX2_dropEnd 4 = .ok (.iload_n 1, 1) := by decide +kernel
theorem dX2_dropEnd_5 : decode cX2_dropEnd 5 = .ok (.laload, 1) := by decide +kernel
theorem dX2_dropEnd_6 : decode cX2_dropEnd 6 = .ok (.lload_n 2, 1) := by decide +kernel
theorem dX2_dropEnd_7 : decode cX2_dropEnd 7 = .ok (.lcmp, 1) := by decide +kernel
theorem dX2_dropEnd_8 : decode cX2_dropEnd 8 = .ok (.ifCond .ne 16, 3) := by decide +kernel
theorem dX2_dropEnd_11 : decode cX2_dropEnd 11 = .ok (.aload_n 0, 1) := by decide +kernel
theorem dX2_dropEnd_12 : decode cX2_dropEnd 12 = .ok (.getfield 9, 3) := by decide +kernel
theorem dX2_dropEnd_15 : decode cX2_dropEnd 15 = .ok (.iload_n 1, 1) := by decide +kernel
theorem dX2_dropEnd_16 : decode cX2_dropEnd 16 = .ok (.dup2, 1) := by decide +kernel
theorem dX2_dropEnd_17 : decode cX2_dropEnd 17 = .ok (.laload, 1) := by decide +kernel
theorem dX2_dropEnd_18 : decode cX2_dropEnd 18 = .ok (.lconst 1, 1) := by decide +kernel
theorem dX2_dropEnd_19 : decode cX2_dropEnd 19 = .ok (.ladd, 1) := by decide +kernel
theorem dX2_dropEnd_20 : decode cX2_dropEnd 20 = .ok (.lastore, 1) := by decide +kernel
theorem dX2_dropEnd_21 : decode cX2_dropEnd 21 = .ok (.goto 24, 3) := by decide +kernel
theorem dX2_dropEnd_24 : decode cX2_dropEnd 24 = .ok (.aload_n 0, 1) := by decide +kernel
theorem dX2_dropEnd_25 : decode cX2_dropEnd 25 = .ok (.getfield 13, 3) := by decide +kernel
theorem dX2_dropEnd_28 : decode cX2_dropEnd 28 = .ok (.iload_n 1, 1) := by decide +kernel
theorem dX2_dropEnd_29 : decode cX2_dropEnd 29 = .ok (.laload, 1) := by decide +kernel
theorem dX2_dropEnd_30 : decode cX2_dropEnd 30 = .ok (.lload_n 2, 1) := by decide +kernel
theorem dX2_dropEnd_31 : decode cX2_dropEnd 31 = .ok (.lcmp, 1) := by decide +kernel
theorem dX2_dropEnd_32 : decode cX2_dropEnd 32 = .ok (.ifCond .ne 13, 3) := by decide +kernel
theorem dX2_dropEnd_35 : decode cX2_dropEnd 35 = .ok (.aload_n 0, 1) := by decide +kernel
theorem dX2_dropEnd_36 : decode cX2_dropEnd 36 = .ok (.getfield 13, 3) := by decide +kernel
theorem dX2_dropEnd_39 : decode cX2_dropEnd 39 = .ok (.iload_n 1, 1) := by decide +kernel
theorem dX2_dropEnd_40 : decode cX2_dropEnd 40 = .ok (.dup2, 1) := by decide +kernel
theorem dX2_dropEnd_41 : decode cX2_dropEnd 41 = .ok (.laload, 1) := by decide +kernel
theorem dX2_dropEnd_42 : decode cX2_dropEnd 42 = .ok (.lconst 1, 1) := by decide +kernel
theorem dX2_dropEnd_43 : decode cX2_dropEnd 43 = .ok (.lsub, 1) := by decide +kernel
theorem dX2_dropEnd_44 : decode cX2_dropEnd 44 = .ok (.lastore, 1) := by decide +kernel
theorem dX2_dropEnd_45 : decode cX2_dropEnd 45 = .ok (.return_, 1) := by decide +kernel
theorem dX2_cutSignedBelow_0 : decode cX2_cutSignedBelow 0 = .ok (.iload_n 3, 1) := by decide +kernel
theorem dX2_cutSignedBelow_1 : decode cX2_cutSignedBelow 1 = .ok (.ifCond .eq 31, 3) := by decide +kernel
theorem dX2_cutSignedBelow_4 : decode cX2_cutSignedBelow 4 = .ok (.aload_n 0, 1) := by decide +kernel
theorem dX2_cutSignedBelow_5 : decode cX2_cutSignedBelow 5 = .ok (.getfield 13, 3) := by decide +kernel
theorem dX2_cutSignedBelow_8 : decode cX2_cutSignedBelow 8 = .ok (.iload_n 2, 1) := by decide +kernel
theorem dX2_cutSignedBelow_9 : decode cX2_cutSignedBelow 9 = .ok (.laload, 1) := by decide +kernel
theorem dX2_cutSignedBelow_10 : decode cX2_cutSignedBelow 10 = .ok (.ldc2_w 110, 3) := by decide +kernel
theorem dX2_cutSignedBelow_13 : decode cX2_cutSignedBelow 13 = .ok (.lcmp, 1) := by decide +kernel
theorem dX2_cutSignedBelow_14 : decode cX2_cutSignedBelow 14 = .ok (.ifCond .eq 16, 3) := by decide +kernel
theorem dX2_cutSignedBelow_17 : decode cX2_cutSignedBelow 17 = .ok (.aload_n 0, 1) := by decide +kernel
theorem dX2_cutSignedBelow_18 : decode cX2_cutSignedBelow 18 = .ok (.getfield 9, 3) := by decide +kernel
theorem dX2_cutSignedBelow_21 : decode cX2_cutSignedBelow 21 = .ok (.iload_n 1, 1) := by decide +kernel
theorem dX2_cutSignedBelow_22 : decode cX2_cutSignedBelow 22 = .ok (.laload, 1) := by decide +kernel
theorem dX2_cutSignedBelow_23 : decode cX2_cutSignedBelow 23 = .ok (.ldc2_w 112, 3) := by decide +kernel
theorem dX2_cutSignedBelow_26 : decode cX2_cutSignedBelow 26 = .ok (.lcmp, 1) := by decide +kernel
theorem dX2_cutSignedBelow_27 : decode cX2_cutSignedBelow 27 = .ok (.ifCond .ne 5, 3) := by decide +kernel
theorem dX2_cutSignedBelow_30 : decode cX2_cutSignedBelow 30 = .ok (.iconst 0, 1) := by decide +kernel
theorem dX2_cutSignedBelow_31 : decode cX2_cutSignedBelow 31 = .ok (.ireturn, 1) := by decide +kernel
theorem dX2_cutSignedBelow_32 : decode cX2_cutSignedBelow 32 = .ok (.aload_n 0, 1) := by decide +kernel
theorem dX2_cutSignedBelow_33 : decode cX2_cutSignedBelow 33 = .ok (.getfield 13, 3) := by decide +kernel
theorem dX2_cutSignedBelow_36 : decode cX2_cutSignedBelow 36 = .ok (.iload_n 1, 1) := by decide +kernel
theorem dX2_cutSignedBelow_37 : decode cX2_cutSignedBelow 37 = .ok (.laload, 1) := by decide +kernel
theorem dX2_cutSignedBelow_38 : decode cX2_cutSignedBelow 38 = .ok (.aload_n 0, 1) := by decide +kernel
theorem dX2_cutSignedBelow_39 : decode cX2_cutSignedBelow 39 = .ok (.getfield 13, 3) := by decide +kernel
theorem dX2_cutSignedBelow_42 : decode cX2_cutSignedBelow 42 = .ok (.iload_n 2, 1) := by decide +kernel
theorem dX2_cutSignedBelow_43 : decode cX2_cutSignedBelow 43 = .ok (.laload, 1) := by decide +kernel
theorem dX2_cutSignedBelow_44 : decode cX2_cutSignedBelow 44 = .ok (.iload_n 3, 1) := by decide +kernel
theorem dX2_cutSignedBelow_45 : decode cX2_cutSignedBelow 45 = .ok (.i2l, 1) := by decide +kernel
theorem dX2_cutSignedBelow_46 : decode cX2_cutSignedBelow 46 = .ok (.lsub, 1) := by decide +kernel
theorem dX2_cutSignedBelow_47 : decode cX2_cutSignedBelow 47 = .ok (.invokestatic 103, 3) := by decide +kernel
theorem dX2_cutSignedBelow_50 : decode cX2_cutSignedBelow 50 = .ok (.lstore 4, 2) := by decide +kernel
theorem dX2_cutSignedBelow_52 : decode cX2_cutSignedBelow 52 = .ok (.aload_n 0, 1) := by decide +kernel
theorem dX2_cutSignedBelow_53 : decode cX2_cutSignedBelow 53 = .ok (.getfield 9, 3) := by decide +kernel
theorem dX2_cutSignedBelow_56 : decode cX2_cutSignedBelow 56 = .ok (.iload_n 2, 1) := by decide +kernel
theorem dX2_cutSignedBelow_57 : decode cX2_cutSignedBelow 57 = .ok (.laload, 1) := by decide +kernel
theorem dX2_cutSignedBelow_58 : decode cX2_cutSignedBelow 58 = .ok (.aload_n 0, 1) := by decide +kernel
theorem dX2_cutSignedBelow_59 : decode cX2_cutSignedBelow 59 = .ok (.getfield 9, 3) := by decide +kernel
theorem dX2_cutSignedBelow_62 : decode cX2_cutSignedBelow 62 = .ok (.iload_n 1, 1) := by decide +kernel
theorem dX2_cutSignedBelow_63 : decode cX2_cutSignedBelow 63 = .ok (.laload, 1) := by decide +kernel
theorem dX2_cutSignedBelow_64 : decode cX2_cutSignedBelow 64 = .ok (.iload_n 3, 1) := by decide +kernel
theorem dX2_cutSignedBelow_65 : decode cX2_cutSignedBelow 65 = .ok (.i2l, 1) := by decide +kernel
theorem dX2_cutSignedBelow_66 : decode cX2_cutSignedBelow 66 = .ok (.ladd, 1) := by decide +kernel
theorem dX2_cutSignedBelow_67 : decode cX2_cutSignedBelow 67 = .ok (.invokestatic 97, 3) := by decide +kernel
theorem dX2_cutSignedBelow_70 : decode cX2_cutSignedBelow 70 = .ok (.lstore 6, 2) := by decide +kernel
theorem dX2_cutSignedBelow_72 : decode cX2_cutSignedBelow 72 = .ok (.lload 4, 2) := by decide +kernel
theorem dX2_cutSignedBelow_74 : decode cX2_cutSignedBelow 74 = .ok (.aload_n 0, 1) := by decide +kernel
theorem dX2_cutSignedBelow_75 : decode cX2_cutSignedBelow 75 = .ok (.getfield 9, 3) := by decide +kernel
theorem dX2_cutSignedBelow_78 : decode cX2_cutSignedBelow 78 = .ok (.iload_n 1, 1) := by decide +kernel
theorem dX2_cutSignedBelow_79 : decode cX2_cutSignedBelow 79 = .ok (.laload, 1) := by decide +kernel
theorem dX2_cutSignedBelow_80 : decode cX2_cutSignedBelow 80 = .ok (.lcmp, 1) := by decide +kernel
theorem dX2_cutSignedBelow_81 : decode cX2_cutSignedBelow 81 = .ok (.ifCond .lt 15, 3) := by decide +kernel
theorem dX2_cutSignedBelow_84 : decode cX2_cutSignedBelow 84 = .ok (.lload 6, 2) := by decide +kernel
theorem dX2_cutSignedBelow_86 : decode cX2_cutSignedBelow 86 = .ok (.aload_n 0, 1) := by decide +kernel
theorem dX2_cutSignedBelow_87 : decode cX2_cutSignedBelow 87 = .ok (.getfield 13, 3) := by decide +kernel
theorem dX2_cutSignedBelow_90 : decode cX2_cutSignedBelow 90 = .ok (.iload_n 2, 1) := by decide +kernel
theorem dX2_cutSignedBelow_91 : decode cX2_cutSignedBelow 91 = .ok (.laload, 1) := by decide +kernel
theorem dX2_cutSignedBelow_92 : decode cX2_cutSignedBelow 92 = .ok (.lcmp, 1) := by decide +kernel
theorem dX2_cutSignedBelow_93 : decode cX2_cutSignedBelow 93 = .ok (.ifCond .le 5, 3) := by decide +kernel
theorem dX2_cutSignedBelow_96 : decode cX2_cutSignedBelow 96 = .ok (.iconst 0, 1) := by decide +kernel
theorem dX2_cutSignedBelow_97 : decode cX2_cutSignedBelow 97 = .ok (.ireturn, 1) := by decide +kernel
theorem dX2_cutSignedBelow_98 : decode cX2_cutSignedBelow 98 = .ok (.aload_n 0, 1) := by decide +kernel
theorem dX2_cutSignedBelow_99 : decode cX2_cutSignedBelow 99 = .ok (.getfield 13, 3) := by decide +kernel
theorem dX2_cutSignedBelow_102 : decode cX2_cutSignedBelow 102 = .ok (.iload_n 1, 1) := by decide +kernel
theorem dX2_cutSignedBelow_103 : decode cX2_cutSignedBelow 103 = .ok (.lload 4, 2) := by decide +kernel
theorem dX2_cutSignedBelow_105 : decode cX2_cutSignedBelow 105 = .ok (.lastore, 1) := by decide +kernel
theorem dX2_cutSignedBelow_106 : decode cX2_cutSignedBelow 106 = .ok (.aload_n 0, 1) := by decide +kernel
theorem dX2_cutSignedBelow_107 : decode cX2_cutSignedBelow 107 = .ok (.getfield 9, 3) := by decide +kernel
theorem dX2_cutSignedBelow_110 : decode cX2_cutSignedBelow 110 = .ok (.iload_n 2, 1) := by decide +kernel
theorem dX2_cutSignedBelow_111 : decode cX2_cutSignedBelow 111 = .ok (.lload 6, 2) := by decide +kernel
theorem dX2_cutSignedBelow_113 : decode cX2_cutSignedBelow 113 = .ok (.lastore, 1) := by decide +kernel
theorem dX2_cutSignedBelow_114 : decode cX2_cutSignedBelow 114 = .ok (.iconst 1, 1) := by decide +kernel
theorem dX2_cutSignedBelow_115 : decode cX2_cutSignedBelow 115 = .ok (.ireturn, 1) := by decide +kernel
set_option maxRecDepth 20000 in
theorem ggX2_cutBelow_X2_cutSignedBelow : GoodIn wsX2_cutBelow wsX2_cutSignedBelow := goodIn_r _ [11, 2, 12, 1, 13, 3, 4, 5, 6, 14, 15, 16, 17, 18, 19] (by decide +kernel) (by decide +kernel)
set_option maxRecDepth 20000 in
theorem gX2_cutBelow_X2_cutSignedBelow : GoodIn wsX2_cutBelow (wsV RX2 94 RX2 yX2_cutSignedBelow wsX2_cutSignedBelow) := goodIn_app (goodIn_of _ (by decide +kernel)) ggX2_cutBelow_X2_cutSignedBelow
theorem dX2_cutBelow_0 : decode cX2_cutBelow 0 = .ok (.aload_n 0, 1) := by decide +kernel
theorem dX2_cutBelow_1 : decode cX2_cutBelow 1 = .ok (.getfield 9, 3) := by decide +kernel
theorem dX2_cutBelow_4 : decode cX2_cutBelow 4 = .ok (.iload_n 2, 1) := by decide +kernel
theorem dX2_cutBelow_5 : decode cX2_cutBelow 5 = .ok (.laload, 1) := by decide +kernel
theorem dX2_cutBelow_6 : decode cX2_cutBelow 6 = .ok (.lconst 0, 1) := by decide +kernel
theorem dX2_cutBelow_7 : decode cX2_cutBelow 7 = .ok (.lcmp, 1) := by decide +kernel
theorem dX2_cutBelow_8 : decode cX2_cutBelow 8 = .ok (.ifCond .ge 5, 3) := by decide +kernel
theorem dX2_cutBelow_11 : decode cX2_cutBelow 11 = .ok (.iconst 1, 1) := by decide +kernel
theorem dX2_cutBelow_12 : decode cX2_cutBelow 12 = .ok (.ireturn, 1) := by decide +kernel
theorem dX2_cutBelow_13 : decode cX2_cutBelow 13 = .ok (.aload_n 0, 1) := by decide +kernel
theorem dX2_cutBelow_14 : decode cX2_cutBelow 14 = .ok (.getfield 9, 3) := by decide +kernel
theorem dX2_cutBelow_17 : decode cX2_cutBelow 17 = .ok (.iload_n 1, 1) := by decide +kernel
theorem dX2_cutBelow_18 : decode cX2_cutBelow 18 = .ok (.laload, 1) := by decide +kernel
theorem dX2_cutBelow_19 : decode cX2_cutBelow 19 = .ok (.lconst 0, 1) := by decide +kernel
theorem dX2_cutBelow_20 : decode cX2_cutBelow 20 = .ok (.lcmp, 1) := by decide +kernel
theorem dX2_cutBelow_21 : decode cX2_cutBelow 21 = .ok (.ifCond .lt 11, 3) := by decide +kernel
theorem dX2_cutBelow_24 : decode cX2_cutBelow 24 = .ok (.aload_n 0, 1) := by decide +kernel
theorem dX2_cutBelow_25 : decode cX2_cutBelow 25 = .ok (.iload_n 1, 1) := by decide +kernel
theorem dX2_cutBelow_26 : decode cX2_cutBelow 26 = .ok (.iload_n 2, 1) := by decide +kernel
theorem dX2_cutBelow_27 : decode cX2_cutBelow 27 = .ok (.iload_n 3, 1) := by decide +kernel
theorem dX2_cutBelow_28 : decode cX2_cutBelow 28 = .ok (.invokevirtual 94, 3) := by decide +kernel
theorem dX2_cutBelow_31 : decode cX2_cutBelow 31 = .ok (.ireturn, 1) := by decide +kernel
theorem dX2_cutBelow_32 : decode cX2_cutBelow 32 = .ok (.aload_n 0, 1) := by decide +kernel
theorem dX2_cutBelow_33 : decode cX2_cutBelow 33 = .ok (.getfield 13, 3) := by decide +kernel
theorem dX2_cutBelow_36 : decode cX2_cutBelow 36 = .ok (.iload_n 1, 1) := by decide +kernel
theorem dX2_cutBelow_37 : decode cX2_cutBelow 37 = .ok (.laload, 1) := by decide +kernel
theorem dX2_cutBelow_38 : decode cX2_cutBelow 38 = .ok (.aload_n 0, 1) := by decide +kernel
theorem dX2_cutBelow_39 : decode cX2_cutBelow 39 = .ok (.getfield 13, 3) := by decide +kernel
theorem dX2_cutBelow_42 : decode cX2_cutBelow 42 = .ok (.iload_n 2, 1) := by decide +kernel
theorem dX2_cutBelow_43 : decode cX2_cutBelow 43 = .ok (.laload, 1) := by decide +kernel
theorem dX2_cutBelow_44 : decode cX2_cutBelow 44 = .ok (.iload_n 3, 1) := by decide +kernel
theorem dX2_cutBelow_45 : decode cX2_cutBelow 45 = .ok (.i2l, 1) := by decide +kernel
theorem dX2_cutBelow_46 : decode cX2_cutBelow 46 = .ok (.lsub, 1) := by decide +kernel
theorem dX2_cutBelow_47 : decode cX2_cutBelow 47 = .ok (.invokestatic 103, 3) := by decide +kernel
theorem dX2_cutBelow_50 : decode cX2_cutBelow 50 = .ok (.lstore 4, 2) := by decide +kernel
theorem dX2_cutBelow_52 : decode cX2_cutBelow 52 = .ok (.lload 4, 2) := by decide +kernel
theorem dX2_cutBelow_54 : decode cX2_cutBelow 54 = .ok (.lconst 0, 1) := by decide +kernel
theorem dX2_cutBelow_55 : decode cX2_cutBelow 55 = .ok (.lcmp, 1) := by decide +kernel
theorem dX2_cutBelow_56 : decode cX2_cutBelow 56 = .ok (.ifCond .ge 5, 3) := by decide +kernel
theorem dX2_cutBelow_59 : decode cX2_cutBelow 59 = .ok (.iconst 0, 1) := by decide +kernel
theorem dX2_cutBelow_60 : decode cX2_cutBelow 60 = .ok (.ireturn, 1) := by decide +kernel
theorem dX2_cutBelow_61 : decode cX2_cutBelow 61 = .ok (.aload_n 0, 1) := by decide +kernel
theorem dX2_cutBelow_62 : decode cX2_cutBelow 62 = .ok (.getfield 9, 3) := by decide +kernel
theorem dX2_cutBelow_65 : decode cX2_cutBelow 65 = .ok (.iload_n 1, 1) := by decide +kernel
theorem dX2_cutBelow_66 : decode cX2_cutBelow 66 = .ok (.lconst 0, 1) := by decide +kernel
theorem dX2_cutBelow_67 : decode cX2_cutBelow 67 = .ok (.lastore, 1) := by decide +kernel
theorem dX2_cutBelow_68 : decode cX2_cutBelow 68 = .ok (.aload_n 0, 1) := by decide +kernel
theorem dX2_cutBelow_69 : decode cX2_cutBelow 69 = .ok (.getfield 13, 3) := by decide +kernel
theorem dX2_cutBelow_72 : decode cX2_cutBelow 72 = .ok (.iload_n 1, 1) := by decide +kernel
theorem dX2_cutBelow_73 : decode cX2_cutBelow 73 = .ok (.lload 4, 2) := by decide +kernel
theorem dX2_cutBelow_75 : decode cX2_cutBelow 75 = .ok (.lastore, 1) := by decide +kernel
theorem dX2_cutBelow_76 : decode cX2_cutBelow 76 = .ok (.iconst 1, 1) := by decide +kernel
theorem dX2_cutBelow_77 : decode cX2_cutBelow 77 = .ok (.ireturn, 1) := by decide +kernel
