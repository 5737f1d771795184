theorem dJ6_numberOfLeadingZeros_0f7a4_0 : decode cJ6_numberOfLeadingZeros_0f7a4 0 = .ok (.iload_n 0, 1) := by decide +kernel
theorem dJ6_numberOfLeadingZeros_0f7a4_1 : decode cJ6_numberOfLeadingZeros_0f7a4 1 = .ok (.ifCond .gt 14, 3) := by decide +kernel
theorem dJ6_numberOfLeadingZeros_0f7a4_4 : decode cJ6_numberOfLeadingZeros_0f7a4 4 = .ok (.iload_n 0, 1) := by decide +kernel
theorem dJ6_numberOfLeadingZeros_0f7a4_5 : decode cJ6_numberOfLeadingZeros_0f7a4 5 = .ok (.ifCond .ne 8, 3) := by decide +kernel
theorem dJ6_numberOfLeadingZeros_0f7a4_8 : decode cJ6_numberOfLeadingZeros_0f7a4 8 = .ok (.bipush 32, 2) := by decide +kernel
theorem dJ6_numberOfLeadingZeros_0f7a4_10 : decode cJ6_numberOfLeadingZeros_0f7a4 10 = .ok (.goto 4, 3) := by decide +kernel
theorem dJ6_numberOfLeadingZeros_0f7a4_13 : decode cJ6_numberOfLeadingZeros_0f7a4 13 = .ok (.iconst 0, 1) := by decide +kernel
theorem dJ6_numberOfLeadingZeros_0f7a4_14 : decode cJ6_numberOfLeadingZeros_0f7a4 14 = .ok (.ireturn, 1) := by decide +kernel
theorem dJ6_numberOfLeadingZeros_0f7a4_15 : decode cJ6_numberOfLeadingZeros_0f7a4 15 = .ok (.bipush 31, 2) := by decide +kernel
theorem dJ6_numberOfLeadingZeros_0f7a4_17 : decode cJ6_numberOfLeadingZeros_0f7a4 17 = .ok (.istore_n 1, 1) := by decide +kernel
theorem dJ6_numberOfLeadingZeros_0f7a4_18 : decode cJ6_numberOfLeadingZeros_0f7a4 18 = .ok (.iload_n 0, 1) := by decide +kernel
theorem dJ6_numberOfLeadingZeros_0f7a4_19 : decode cJ6_numberOfLeadingZeros_0f7a4 19 = .ok (.ldc_w 264, 3) := by decide +kernel
theorem dJ6_numberOfLeadingZeros_0f7a4_22 : decode cJ6_numberOfLeadingZeros_0f7a4 22 = .ok (.if_icmp .lt 11, 3) := by decide +kernel
theorem dJ6_numberOfLeadingZeros_0f7a4_25 : decode cJ6_numberOfLeadingZeros_0f7a4 25 = .ok (.iinc 1 (-16), 3) := by decide +kernel
theorem dJ6_numberOfLeadingZeros_0f7a4_28 : decode cJ6_numberOfLeadingZeros_0f7a4 28 = .ok (.iload_n 0, 1) := by decide +kernel
theorem dJ6_numberOfLeadingZeros_0f7a4_29 : decode cJ6_numberOfLeadingZeros_0f7a4 29 = .ok (.bipush 16, 2) := by decide +kernel
theorem dJ6_numberOfLeadingZeros_0f7a4_31 : decode cJ6_numberOfLeadingZeros_0f7a4 31 = .ok (.iushr, 1) := by decide +kernel
theorem dJ6_numberOfLeadingZeros_0f7a4_32 : decode cJ6_numberOfLeadingZeros_0f7a4 32 = .ok (.istore_n 0, 1) := by decide +kernel
theorem dJ6_numberOfLeadingZeros_0f7a4_33 : decode cJ6_numberOfLeadingZeros_0f7a4 33 = .ok (.iload_n 0, 1) := by decide +kernel
theorem dJ6_numberOfLeadingZeros_0f7a4_34 : decode cJ6_numberOfLeadingZeros_0f7a4 34 = .ok (.sipush 256, 3) := by decide +kernel
theorem dJ6_numberOfLeadingZeros_0f7a4_37 : decode cJ6_numberOfLeadingZeros_0f7a4 37 = .ok (.if_icmp .lt 11, 3) := by decide +kernel
theorem dJ6_numberOfLeadingZeros_0f7a4_40 : decode cJ6_numberOfLeadingZeros_0f7a4 40 = .ok (.iinc 1 (-8), 3) := by decide +kernel
theorem dJ6_numberOfLeadingZeros_0f7a4_43 : decode cJ6_numberOfLeadingZeros_0f7a4 43 = .ok (.iload_n 0, 1) := by decide +kernel
theorem dJ6_numberOfLeadingZeros_0f7a4_44 : decode cJ6_numberOfLeadingZeros_0f7a4 44 = .ok (.bipush 8, 2) := by decide +kernel
theorem dJ6_numberOfLeadingZeros_0f7a4_46 : decode cJ6_numberOfLeadingZeros_0f7a4 46 = .ok (.iushr, 1) := by decide +kernel
theorem dJ6_numberOfLeadingZeros_0f7a4_47 : decode cJ6_numberOfLeadingZeros_0f7a4 47 = .ok (.istore_n 0, 1) := by decide +kernel
theorem dJ6_numberOfLeadingZeros_0f7a4_48 : decode cJ6_numberOfLeadingZeros_0f7a4 48 = .ok (.iload_n 0, 1) := by decide +kernel
theorem dJ6_numberOfLeadingZeros_0f7a4_49 : decode cJ6_numberOfLeadingZeros_0f7a4 49 = .ok (.bipush 16, 2) := by decide +kernel
theorem dJ6_numberOfLeadingZeros_0f7a4_51 : decode cJ6_numberOfLeadingZeros_0f7a4 51 = .ok (.if_icmp .lt 10, 3) := by decide +kernel
theorem dJ6_numberOfLeadingZeros_0f7a4_54 : decode cJ6_numberOfLeadingZeros_0f7a4 54 = .ok (.iinc 1 (-4), 3) := by decide +kernel
theorem dJ6_numberOfLeadingZeros_0f7a4_57 : decode cJ6_numberOfLeadingZeros_0f7a4 57 = .ok (.iload_n 0, 1) := by decide +kernel
theorem dJ6_numberOfLeadingZeros_0f7a4_58 : decode cJ6_numberOfLeadingZeros_0f7a4 58 = .ok (.iconst 4, 1) := by decide +kernel
theorem dJ6_numberOfLeadingZeros_0f7a4_59 : decode cJ6_numberOfLeadingZeros_0f7a4 59 = .ok (.iushr, 1) := by decide +kernel
theorem dJ6_numberOfLeadingZeros_0f7a4_60 : decode cJ6_numberOfLeadingZeros_0f7a4 60 = .ok (.istore_n 0, 1) := by decide +kernel
theorem dJ6_numberOfLeadingZeros_0f7a4_61 : decode cJ6_numberOfLeadingZeros_0f7a4 61 = .ok (.iload_n 0, 1) := by decide +kernel
theorem dJ6_numberOfLeadingZeros_0f7a4_62 : decode cJ6_numberOfLeadingZeros_0f7a4 62 = .ok (.iconst 4, 1) := by decide +kernel
theorem dJ6_numberOfLeadingZeros_0f7a4_63 : decode cJ6_numberOfLeadingZeros_0f7a4 63 = .ok (.if_icmp .lt 10, 3) := by decide +kernel
theorem dJ6_numberOfLeadingZeros_0f7a4_66 : decode cJ6_numberOfLeadingZeros_0f7a4 66 = .ok (.iinc 1 (-2), 3) := by decide +kernel
theorem dJ6_numberOfLeadingZeros_0f7a4_69 : decode cJ6_numberOfLeadingZeros_0f7a4 69 = .ok (.iload_n 0, 1) := by decide +kernel
theorem dJ6_numberOfLeadingZeros_0f7a4_70 : decode cJ6_numberOfLeadingZeros_0f7a4 70 = .ok (.iconst 2, 1) := by decide +kernel
theorem dJ6_numberOfLeadingZeros_0f7a4_71 : decode cJ6_numberOfLeadingZeros_0f7a4 71 = .ok (.iushr, 1) := by decide +kernel
theorem dJ6_numberOfLeadingZeros_0f7a4_72 : decode cJ6_numberOfLeadingZeros_0f7a4 72 = .ok (.istore_n 0, 1) := by decide +kernel
theorem dJ6_numberOfLeadingZeros_0f7a4_73 : decode cJ6_numberOfLeadingZeros_0f7a4 73 = .ok (.iload_n 1, 1) := by decide +kernel
theorem dJ6_numberOfLeadingZeros_0f7a4_74 : decode cJ6_numberOfLeadingZeros_0f7a4 74 = .ok (.iload_n 0, 1) := by decide +kernel
theorem dJ6_numberOfLeadingZeros_0f7a4_75 : decode cJ6_numberOfLeadingZeros_0f7a4 75 = .ok (.iconst 1, 1) := by decide +kernel
theorem dJ6_numberOfLeadingZeros_0f7a4_76 : decode cJ6_numberOfLeadingZeros_0f7a4 76 = .ok (.iushr, 1) := by decide +kernel
theorem dJ6_numberOfLeadingZeros_0f7a4_77 : decode cJ6_numberOfLeadingZeros_0f7a4 77 = .ok (.isub, 1) := by decide +kernel
theorem dJ6_numberOfLeadingZeros_0f7a4_78 : decode cJ6_numberOfLeadingZeros_0f7a4 78 = .ok (.ireturn, 1) := by decide +kernel
theorem dJ13_compare_74951_0 : decode cJ13_compare_74951 0 = .ok (.lload_n 0, 1) := by decide +kernel
theorem dJ13_compare_74951_1 : decode cJ13_compare_74951 1 = .ok (.lload_n 2, 1) := by decide +kernel
theorem dJ13_compare_74951_2 : decode cJ13_compare_74951 2 = .ok (.lcmp, 1) := by decide +kernel
theorem dJ13_compare_74951_3 : decode cJ13_compare_74951 3 = .ok (.ifCond .ge 7, 3) := by decide +kernel
theorem dJ13_compare_74951_6 : decode cJ13_compare_74951 6 = .ok (.iconst (-1), 1) := by decide +kernel
theorem dJ13_compare_74951_7 : decode cJ13_compare_74951 7 = .ok (.goto 14, 3) := by decide +kernel
theorem dJ13_compare_74951_10 : decode cJ13_compare_74951 10 = .ok (.lload_n 0, 1) := by decide +kernel
theorem dJ13_compare_74951_11 : decode cJ13_compare_74951 11 = .ok (.lload_n 2, 1) := by decide +kernel
theorem dJ13_compare_74951_12 : decode cJ13_compare_74951 12 = .ok (.lcmp, 1) := by decide +kernel
theorem dJ13_compare_74951_13 : decode cJ13_compare_74951 13 = .ok (.ifCond .ne 7, 3) := by decide +kernel
theorem dJ13_compare_74951_16 : decode cJ13_compare_74951 16 = .ok (.iconst 0, 1) := by decide +kernel
theorem dJ13_compare_74951_17 : decode cJ13_compare_74951 17 = .ok (.goto 4, 3) := by decide +kernel
theorem dJ13_compare_74951_20 : decode cJ13_compare_74951 20 = .ok (.iconst 1, 1) := by decide +kernel
theorem dJ13_compare_74951_21 : decode cJ13_compare_74951 21 = .ok (.ireturn, 1) := by decide +kernel
set_option maxRecDepth 20000 in
theorem ggJ13_compareUnsigned_74951_J13_compare_74951 : GoodIn wsJ13_compareUnsigned_74951 wsJ13_compare_74951 := goodIn_r _ [5] (by decide +kernel) (by decide +kernel)
set_option maxRecDepth 20000 in
theorem gJ13_compareUnsigned_74951_J13_compare_74951 : GoodIn wsJ13_compareUnsigned_74951 (va_wsS RJ13 302 yJ13_compare_74951 wsJ13_compare_74951) := goodIn_app (goodIn_of _ (by decide +kernel)) ggJ13_compareUnsigned_74951_J13_compare_74951
theorem dJ13_compareUnsigned_74951_0 : decode cJ13_compareUnsigned_74951 0 = .ok (.lload_n 0, 1) := by decide +kernel
theorem dJ13_compareUnsigned_74951_1 : decode cJ13_compareUnsigned_74951 1 = .ok (.ldc2_w 168, 3) := by decide +kernel
theorem dJ13_compareUnsigned_74951_4 : decode cJ13_compareUnsigned_74951 4 = .ok (.ladd, 1) := by decide +kernel
theorem dJ13_compareUnsigned_74951_5 : decode cJ13_compareUnsigned_74951 5 = .ok (.lload_n 2, 1) := by decide +kernel
theorem dJ13_compareUnsigned_74951_6 : decode cJ13_compareUnsigned_74951 6 = .ok (.ldc2_w 168, 3) := by decide +kernel
theorem dJ13_compareUnsigned_74951_9 : decode cJ13_compareUnsigned_74951 9 = .ok (.ladd, 1) := by decide +kernel
theorem dJ13_compareUnsigned_74951_10 : decode cJ13_compareUnsigned_74951 10 = .ok (.invokestatic 302, 3) := by decide +kernel
theorem dJ13_compareUnsigned_74951_13 : decode cJ13_compareUnsigned_74951 13 = .ok (.ireturn, 1) := by decide +kernel
theorem dJ13_divideUnsigned_f86c9_0 : decode cJ13_divideUnsigned_f86c9 0 = .ok (.lload_n 2, 1) := by decide +kernel
theorem dJ13_divideUnsigned_f86c9_1 : decode cJ13_divideUnsigned_f86c9 1 = .ok (.lconst 0, 1) := by decide +kernel
theorem dJ13_divideUnsigned_f86c9_2 : decode cJ13_divideUnsigned_f86c9 2 = .ok (.lcmp, 1) := by decide +kernel
theorem dJ13_divideUnsigned_f86c9_3 : decode cJ13_divideUnsigned_f86c9 3 = .ok (.ifCond .lt 38, 3) := by decide +kernel
theorem dJ13_divideUnsigned_f86c9_6 : decode cJ13_divideUnsigned_f86c9 6 = .ok (.lload_n 0, 1) := by decide +kernel
theorem dJ13_divideUnsigned_f86c9_7 : decode cJ13_divideUnsigned_f86c9 7 = .ok (.iconst 1, 1) := by decide +kernel
theorem dJ13_divideUnsigned_f86c9_8 : decode cJ13_divideUnsigned_f86c9 8 = .ok (.lushr, 1) := by decide +kernel
theorem dJ13_divideUnsigned_f86c9_9 : decode cJ13_divideUnsigned_f86c9 9 = .ok (.lload_n 2, 1) := by decide +kernel
theorem dJ13_divideUnsigned_f86c9_10 : decode cJ13_divideUnsigned_f86c9 10 = .ok (.ldiv, 1) := by decide +kernel
theorem dJ13_divideUnsigned_f86c9_11 : decode cJ13_divideUnsigned_f86c9 11 = .ok (.iconst 1, 1) := by decide +kernel
theorem dJ13_divideUnsigned_f86c9_12 : decode cJ13_divideUnsigned_f86c9 12 = .ok (.lshl, 1) := by decide +kernel
theorem dJ13_divideUnsigned_f86c9_13 : decode cJ13_divideUnsigned_f86c9 13 = .ok (.lstore 4, 2) := by decide +kernel
theorem dJ13_divideUnsigned_f86c9_15 : decode cJ13_divideUnsigned_f86c9 15 = .ok (.lload_n 0, 1) := by decide +kernel
theorem dJ13_divideUnsigned_f86c9_16 : decode cJ13_divideUnsigned_f86c9 16 = .ok (.lload 4, 2) := by decide +kernel
theorem dJ13_divideUnsigned_f86c9_18 : decode cJ13_divideUnsigned_f86c9 18 = .ok (.lload_n 2, 1) := by decide +kernel
theorem dJ13_divideUnsigned_f86c9_19 : decode cJ13_divideUnsigned_f86c9 19 = .ok (.lmul, 1) := by decide +kernel
theorem dJ13_divideUnsigned_f86c9_20 : decode cJ13_divideUnsigned_f86c9 20 = .ok (.lsub, 1) := by decide +kernel
theorem dJ13_divideUnsigned_f86c9_21 : decode cJ13_divideUnsigned_f86c9 21 = .ok (.lstore 6, 2) := by decide +kernel
theorem dJ13_divideUnsigned_f86c9_23 : decode cJ13_divideUnsigned_f86c9 23 = .ok (.lload 4, 2) := by decide +kernel
theorem dJ13_divideUnsigned_f86c9_25 : decode cJ13_divideUnsigned_f86c9 25 = .ok (.lload 6, 2) := by decide +kernel
theorem dJ13_divideUnsigned_f86c9_27 : decode cJ13_divideUnsigned_f86c9 27 = .ok (.lload 6, 2) := by decide +kernel
theorem dJ13_divideUnsigned_f86c9_29 : decode cJ13_divideUnsigned_f86c9 29 = .ok (.lload_n 2, 1) := by decide +kernel
theorem dJ13_divideUnsigned_f86c9_30 : decode cJ13_divideUnsigned_f86c9 30 = .ok (.lsub, 1) := by decide +kernel
theorem dJ13_divideUnsigned_f86c9_31 : decode cJ13_divideUnsigned_f86c9 31 = .ok (.ldc2_w 306, 3) := by decide +kernel
theorem dJ13_divideUnsigned_f86c9_34 : decode cJ13_divideUnsigned_f86c9 34 = .ok (.lxor, 1) := by decide +kernel
theorem dJ13_divideUnsigned_f86c9_35 : decode cJ13_divideUnsigned_f86c9 35 = .ok (.lor, 1) := by decide +kernel
theorem dJ13_divideUnsigned_f86c9_36 : decode cJ13_divideUnsigned_f86c9 36 = .ok (.bipush 63, 2) := by decide +kernel
theorem dJ13_divideUnsigned_f86c9_38 : decode cJ13_divideUnsigned_f86c9 38 = .ok (.lushr, 1) := by decide +kernel
theorem dJ13_divideUnsigned_f86c9_39 : decode cJ13_divideUnsigned_f86c9 39 = .ok (.ladd, 1) := by decide +kernel
theorem dJ13_divideUnsigned_f86c9_40 : decode cJ13_divideUnsigned_f86c9 40 = .ok (.lreturn, 1) := by decide +kernel
theorem dJ13_divideUnsigned_f86c9_41 : decode cJ13_divideUnsigned_f86c9 41 = .ok (.lload_n 0, 1) := by decide +kernel
theorem dJ13_divideUnsigned_f86c9_42 : decode cJ13_divideUnsigned_f86c9 42 = .ok (.lload_n 0, 1) := by decide +kernel
theorem dJ13_divideUnsigned_f86c9_43 : decode cJ13_divideUnsigned_f86c9 43 = .ok (.lload_n 2, 1) := by decide +kernel
theorem dJ13_divideUnsigned_f86c9_44 : decode cJ13_divideUnsigned_f86c9 44 = .ok (.lsub, 1) := by decide +kernel
theorem dJ13_divideUnsigned_f86c9_45 : decode cJ13_divideUnsigned_f86c9 45 = .ok (.ldc2_w 306, 3) := by decide +kernel
theorem dJ13_divideUnsigned_f86c9_48 : decode cJ13_divideUnsigned_f86c9 48 = .ok (.lxor, 1) := by decide +kernel
theorem dJ13_divideUnsigned_f86c9_49 : decode cJ13_divideUnsigned_f86c9 49 = .ok (.land, 1) := by decide +kernel
theorem dJ13_divideUnsigned_f86c9_50 : decode cJ13_divideUnsigned_f86c9 50 = .ok (.bipush 63, 2) := by decide +kernel
theorem dJ13_divideUnsigned_f86c9_52 : decode cJ13_divideUnsigned_f86c9 52 = .ok (.lushr, 1) := by decide +kernel
theorem dJ13_divideUnsigned_f86c9_53 : decode cJ13_divideUnsigned_f86c9 53 = .ok (.lreturn, 1) := by decide +kernel
theorem dJ13_remainderUnsigned_f86c9_0 : decode cJ13_remainderUnsigned_f86c9 0 = .ok (.lload_n 2, 1) := by decide +kernel
theorem dJ13_remainderUnsigned_f86c9_1 : decode cJ13_remainderUnsigned_f86c9 1 = .ok (.lconst 0, 1) := by decide +kernel
theorem dJ13_remainderUnsigned_f86c9_2 : decode cJ13_remainderUnsigned_f86c9 2 = .ok (.lcmp, 1) := by decide +kernel
theorem dJ13_remainderUnsigned_f86c9_3 : decode cJ13_remainderUnsigned_f86c9 3 = .ok (.ifCond .lt 37, 3) := by decide +kernel
theorem dJ13_remainderUnsigned_f86c9_6 : decode cJ13_remainderUnsigned_f86c9 6 = .ok (.lload_n 0, 1) := by decide +kernel
theorem dJ13_remainderUnsigned_f86c9_7 : decode cJ13_remainderUnsigned_f86c9 7 = .ok (.iconst 1, 1) := by decide +kernel
theorem dJ13_remainderUnsigned_f86c9_8 : decode cJ13_remainderUnsigned_f86c9 8 = .ok (.lushr, 1) := by decide +kernel
theorem dJ13_remainderUnsigned_f86c9_9 : decode cJ13_remainderUnsigned_f86c9 9 = .ok (.lload_n 2, 1) := by decide +kernel
theorem dJ13_remainderUnsigned_f86c9_10 : decode cJ13_remainderUnsigned_f86c9 10 = .ok (.ldiv, 1) := by decide +kernel
theorem dJ13_remainderUnsigned_f86c9_11 : decode cJ13_remainderUnsigned_f86c9 11 = .ok (.iconst 1, 1) := by decide +kernel
theorem dJ13_remainderUnsigned_f86c9_12 : decode cJ13_remainderUnsigned_f86c9 12 = .ok (.lshl, 1) := by decide +kernel
theorem dJ13_remainderUnsigned_f86c9_13 : decode cJ13_remainderUnsigned_f86c9 13 = .ok (.lstore 4, 2) := by decide +kernel
theorem dJ13_remainderUnsigned_f86c9_15 : decode cJ13_remainderUnsigned_f86c9 15 = .ok (.lload_n 0, 1) := by decide +kernel
theorem dJ13_remainderUnsigned_f86c9_16 : decode cJ13_remainderUnsigned_f86c9 16 = .ok (.lload 4, 2) := by decide +kernel
theorem dJ13_remainderUnsigned_f86c9_18 : decode cJ13_remainderUnsigned_f86c9 18 = .ok (.lload_n 2, 1) := by decide +kernel
theorem dJ13_remainderUnsigned_f86c9_19 : decode cJ13_remainderUnsigned_f86c9 19 = .ok (.lmul, 1) := by decide +kernel
theorem dJ13_remainderUnsigned_f86c9_20 : decode cJ13_remainderUnsigned_f86c9 20 = .ok (.lsub, 1) := by decide +kernel
theorem dJ13_remainderUnsigned_f86c9_21 : decode cJ13_remainderUnsigned_f86c9 21 = .ok (.lstore 6, 2) := by decide +kernel
theorem dJ13_remainderUnsigned_f86c9_23 : decode cJ13_remainderUnsigned_f86c9 23 = .ok (.lload 6, 2) := by decide +kernel
theorem dJ13_remainderUnsigned_f86c9_25 : decode cJ13_remainderUnsigned_f86c9 25 = .ok (.lload 6, 2) := by decide +kernel
theorem dJ13_remainderUnsigned_f86c9_27 : decode cJ13_remainderUnsigned_f86c9 27 = .ok (.lload_n 2, 1) := by decide +kernel
theorem dJ13_remainderUnsigned_f86c9_28 : decode cJ13_remainderUnsigned_f86c9 28 = .ok (.lsub, 1) := by decide +kernel
theorem dJ13_remainderUnsigned_f86c9_29 : decode cJ13_remainderUnsigned_f86c9 29 = .ok (.ldc2_w 306, 3) := by decide +kernel
theorem dJ13_remainderUnsigned_f86c9_32 : decode cJ13_remainderUnsigned_f86c9 32 = .ok (.lxor, 1) := by decide +kernel
theorem dJ13_remainderUnsigned_f86c9_33 : decode cJ13_remainderUnsigned_f86c9 33 = .ok (.bipush 63, 2) := by decide +kernel
theorem dJ13_remainderUnsigned_f86c9_35 : decode cJ13_remainderUnsigned_f86c9 35 = .ok (.lshr, 1) := by decide +kernel
theorem dJ13_remainderUnsigned_f86c9_36 : decode cJ13_remainderUnsigned_f86c9 36 = .ok (.lload_n 2, 1) := by decide +kernel
theorem dJ13_remainderUnsigned_f86c9_37 : decode cJ13_remainderUnsigned_f86c9 37 = .ok (.land, 1) := by decide +kernel
theorem dJ13_remainderUnsigned_f86c9_38 : decode cJ13_remainderUnsigned_f86c9 38 = .ok (.lsub, 1) := by decide +kernel
theorem dJ13_remainderUnsigned_f86c9_39 : decode cJ13_remainderUnsigned_f86c9 39 = .ok (.lreturn, 1) := by decide +kernel
theorem dJ13_remainderUnsigned_f86c9_40 : decode cJ13_remainderUnsigned_f86c9 40 = .ok (.lload_n 0, 1) := by decide +kernel
theorem dJ13_remainderUnsigned_f86c9_41 : decode cJ13_remainderUnsigned_f86c9 41 = .ok (.lload_n 0, 1) := by decide +kernel
theorem dJ13_remainderUnsigned_f86c9_42 : decode cJ13_remainderUnsigned_f86c9 42 = .ok (.lload_n 0, 1) := by decide +kernel
theorem dJ13_remainderUnsigned_f86c9_43 : decode cJ13_remainderUnsigned_f86c9 43 = .ok (.lload_n 2, 1) := by decide +kernel
theorem dJ13_remainderUnsigned_f86c9_44 : decode cJ13_remainderUnsigned_f86c9 44 = .ok (.lsub, 1) := by decide +kernel
theorem dJ13_remainderUnsigned_f86c9_45 : decode cJ13_remainderUnsigned_f86c9 45 = .ok (.ldc2_w 306, 3) := by decide +kernel
theorem dJ13_remainderUnsigned_f86c9_48 : decode cJ13_remainderUnsigned_f86c9 48 = .ok (.lxor, 1) := by decide +kernel
theorem dJ13_remainderUnsigned_f86c9_49 : decode cJ13_remainderUnsigned_f86c9 49 = .ok (.land, 1) := by decide +kernel
theorem dJ13_remainderUnsigned_f86c9_50 : decode cJ13_remainderUnsigned_f86c9 50 = .ok (.bipush 63, 2) := by decide +kernel
theorem dJ13_remainderUnsigned_f86c9_52 : decode cJ13_remainderUnsigned_f86c9 52 = .ok (.lshr, 1) := by decide +kernel
theorem dJ13_remainderUnsigned_f86c9_53 : decode cJ13_remainderUnsigned_f86c9 53 = .ok (.lload_n 2, 1) := by decide +kernel
theorem dJ13_remainderUnsigned_f86c9_54 : decode cJ13_remainderUnsigned_f86c9 54 = .ok (.land, 1) := by decide +kernel
theorem dJ13_remainderUnsigned_f86c9_55 : decode cJ13_remainderUnsigned_f86c9 55 = .ok (.lsub, 1) := by decide +kernel
theorem dJ13_remainderUnsigned_f86c9_56 : decode cJ13_remainderUnsigned_f86c9 56 = .ok (.lreturn, 1) := by decide +kernel
set_option maxRecDepth 20000 in
theorem ggJ13_numberOfLeadingZeros_95d88_J6_numberOfLeadingZeros_0f7a4 : GoodIn wsJ13_numberOfLeadingZeros_95d88 wsJ6_numberOfLeadingZeros_0f7a4 := goodIn_r _ [4, 5] (by decide +kernel) (by decide +kernel)
set_option maxRecDepth 20000 in
theorem gJ13_numberOfLeadingZeros_95d88_J6_numberOfLeadingZeros_0f7a4 : GoodIn wsJ13_numberOfLeadingZeros_95d88 (va_wsS RJ13 308 yJ6_numberOfLeadingZeros_0f7a4 wsJ6_numberOfLeadingZeros_0f7a4) := goodIn_app (goodIn_of _ (by decide +kernel)) ggJ13_numberOfLeadingZeros_95d88_J6_numberOfLeadingZeros_0f7a4
theorem dJ13_numberOfLeadingZeros_95d88_0 : decode cJ13_numberOfLeadingZeros_95d88 0 = .ok (.lload_n 0, 1) := by decide +kernel
theorem dJ13_numberOfLeadingZeros_95d88_1 : decode cJ13_numberOfLeadingZeros_95d88 1 = .ok (.bipush 32, 2) := by decide +kernel
theorem dJ13_numberOfLeadingZeros_95d88_3 : decode cJ13_numberOfLeadingZeros_95d88 3 = .ok (.lushr, 1) := by decide +kernel
theorem dJ13_numberOfLeadingZeros_95d88_4 : decode cJ13_numberOfLeadingZeros_95d88 4 = .ok (.l2i, 1) := by decide +kernel
theorem dJ13_numberOfLeadingZeros_95d88_5 : decode cJ13_numberOfLeadingZeros_95d88 5 = .ok (.istore_n 2, 1) := by decide +kernel
theorem dJ13_numberOfLeadingZeros_95d88_6 : decode cJ13_numberOfLeadingZeros_95d88 6 = .ok (.iload_n 2, 1) := by decide +kernel
theorem dJ13_numberOfLeadingZeros_95d88_7 : decode cJ13_numberOfLeadingZeros_95d88 7 = .ok (.ifCond .ne 14, 3) := by decide +kernel
theorem dJ13_numberOfLeadingZeros_95d88_10 : decode cJ13_numberOfLeadingZeros_95d88 10 = .ok (.bipush 32, 2) := by decide +kernel
theorem dJ13_numberOfLeadingZeros_95d88_12 : decode cJ13_numberOfLeadingZeros_95d88 12 = .ok (.lload_n 0, 1) := by decide +kernel
theorem dJ13_numberOfLeadingZeros_95d88_13 : decode cJ13_numberOfLeadingZeros_95d88 13 = .ok (.l2i, 1) := by decide +kernel
theorem dJ13_numberOfLeadingZeros_95d88_14 : decode cJ13_numberOfLeadingZeros_95d88 14 = .ok (.invokestatic 308, 3) := by decide +kernel
theorem dJ13_numberOfLeadingZeros_95d88_17 : decode cJ13_numberOfLeadingZeros_95d88 17 = .ok (.iadd, 1) := by decide +kernel
theorem dJ13_numberOfLeadingZeros_95d88_18 : decode cJ13_numberOfLeadingZeros_95d88 18 = .ok (.goto 7, 3) := by decide +kernel
theorem dJ13_numberOfLeadingZeros_95d88_21 : decode cJ13_numberOfLeadingZeros_95d88 21 = .ok (.iload_n 2, 1) := by decide +kernel
theorem dJ13_numberOfLeadingZeros_95d88_22 : decode cJ13_numberOfLeadingZeros_95d88 22 = .ok (.invokestatic 308, 3) := by decide +kernel
theorem dJ13_numberOfLeadingZeros_95d88_25 : decode cJ13_numberOfLeadingZeros_95d88 25 = .ok (.ireturn, 1) := by decide +kernel
theorem dJ9_addExact_f86c9_0 : decode cJ9_addExact_f86c9 0 = .ok (.lload_n 0, 1) := by decide +kernel
theorem dJ9_addExact_f86c9_1 : decode cJ9_addExact_f86c9 1 = .ok (.lload_n 2, 1) := by decide +kernel
theorem dJ9_addExact_f86c9_2 : decode cJ9_addExact_f86c9 2 = .ok (.ladd, 1) := by decide +kernel
theorem dJ9_addExact_f86c9_3 : decode cJ9_addExact_f86c9 3 = .ok (.lstore 4, 2) := by decide +kernel
theorem dJ9_addExact_f86c9_5 : decode cJ9_addExact_f86c9 5 = .ok (.lload_n 0, 1) := by decide +kernel
theorem dJ9_addExact_f86c9_6 : decode cJ9_addExact_f86c9 6 = .ok (.lload 4, 2) := by decide +kernel
theorem dJ9_addExact_f86c9_8 : decode cJ9_addExact_f86c9 8 = .ok (.lxor, 1) := by decide +kernel
theorem dJ9_addExact_f86c9_9 : decode cJ9_addExact_f86c9 9 = .ok (.lload_n 2, 1) := by decide +kernel
theorem dJ9_addExact_f86c9_10 : decode cJ9_addExact_f86c9 10 = .ok (.lload 4, 2) := by decide +kernel
theorem dJ9_addExact_f86c9_12 : decode cJ9_addExact_f86c9 12 = .ok (.lxor, 1) := by decide +kernel
theorem dJ9_addExact_f86c9_13 : decode cJ9_addExact_f86c9 13 = .ok (.land, 1) := by decide +kernel
theorem dJ9_addExact_f86c9_14 : decode cJ9_addExact_f86c9 14 = .ok (.lconst 0, 1) := by decide +kernel
theorem dJ9_addExact_f86c9_15 : decode cJ9_addExact_f86c9 15 = .ok (.lcmp, 1) := by decide +kernel
theorem dJ9_addExact_f86c9_16 : decode cJ9_addExact_f86c9 16 = .ok (.ifCond .ge 13, 3) := by decide +kernel
theorem dJ9_addExact_f86c9_19 : decode cJ9_addExact_f86c9 19 = .ok (.new 109, 3) := by decide +kernel
theorem dJ9_addExact_f86c9_22 : decode cJ9_addExact_f86c9 22 = .ok (.dup, 1) := by decide +kernel
theorem dJ9_addExact_f86c9_23 : decode cJ9_addExact_f86c9 23 = .ok (.ldc 116, 2) := by decide +kernel
theorem dJ9_addExact_f86c9_25 : decode cJ9_addExact_f86c9 25 = .ok (.invokespecial 113, 3) := by decide +kernel
theorem dJ9_addExact_f86c9_28 : decode cJ9_addExact_f86c9 28 = .ok (.athrow, 1) := by decide +kernel
theorem dJ9_addExact_f86c9_29 : decode cJ9_addExact_f86c9 29 = .ok (.lload 4, 2) := by decide +kernel
theorem dJ9_addExact_f86c9_31 : decode cJ9_addExact_f86c9 31 = .ok (.lreturn, 1) := by decide +kernel
theorem dJ9_subtractExact_f86c9_0 : decode cJ9_subtractExact_f86c9 0 = .ok (.lload_n 0, 1) := by decide +kernel
theorem dJ9_subtractExact_f86c9_1 : decode cJ9_subtractExact_f86c9 1 = .ok (.lload_n 2, 1) := by decide +kernel
theorem dJ9_subtractExact_f86c9_2 : decode cJ9_subtractExact_f86c9 2 = .ok (.lsub, 1) := by decide +kernel
theorem dJ9_subtractExact_f86c9_3 : decode cJ9_subtractExact_f86c9 3 = .ok (.lstore 4, 2) := by decide +kernel
theorem dJ9_subtractExact_f86c9_5 : decode cJ9_subtractExact_f86c9 5 = .ok (.lload_n 0, 1) := by decide +kernel
theorem dJ9_subtractExact_f86c9_6 : decode cJ9_subtractExact_f86c9 6 = .ok (.lload_n 2, 1) := by decide +kernel
theorem dJ9_subtractExact_f86c9_7 : decode cJ9_subtractExact_f86c9 7 = .ok (.lxor, 1) := by decide +kernel
theorem dJ9_subtractExact_f86c9_8 : decode cJ9_subtractExact_f86c9 8 = .ok (.lload_n 0, 1) := by decide +kernel
theorem dJ9_subtractExact_f86c9_9 : decode cJ9_subtractExact_f86c9 9 = .ok (.lload 4, 2) := by decide +kernel
theorem dJ9_subtractExact_f86c9_11 : decode cJ9_subtractExact_f86c9 11 = .ok (.lxor, 1) := by decide +kernel
theorem dJ9_subtractExact_f86c9_12 : decode cJ9_subtractExact_f86c9 12 = .ok (.land, 1) := by decide +kernel
theorem dJ9_subtractExact_f86c9_13 : decode cJ9_subtractExact_f86c9 13 = .ok (.lconst 0, 1) := by decide +kernel
theorem dJ9_subtractExact_f86c9_14 : decode cJ9_subtractExact_f86c9 14 = .ok (.lcmp, 1) := by decide +kernel
theorem dJ9_subtractExact_f86c9_15 : decode cJ9_subtractExact_f86c9 15 = .ok (.ifCond .ge 13, 3) := by decide +kernel
theorem dJ9_subtractExact_f86c9_18 : decode cJ9_subtractExact_f86c9 18 = .ok (.new 109, 3) := by decide +kernel
theorem dJ9_subtractExact_f86c9_21 : decode cJ9_subtractExact_f86c9 21 = .ok (.dup, 1) := by decide +kernel
theorem dJ9_subtractExact_f86c9_22 : decode cJ9_subtractExact_f86c9 22 = .ok (.ldc 116, 2) := by decide +kernel
theorem dJ9_subtractExact_f86c9_24 : decode cJ9_subtractExact_f86c9 24 = .ok (.invokespecial 113, 3) := by decide +kernel
theorem dJ9_subtractExact_f86c9_27 : decode cJ9_subtractExact_f86c9 27 = .ok (.athrow, 1) := by decide +kernel
theorem dJ9_subtractExact_f86c9_28 : decode cJ9_subtractExact_f86c9 28 = .ok (.lload 4, 2) := by decide +kernel
theorem dJ9_subtractExact_f86c9_30 : decode cJ9_subtractExact_f86c9 30 = .ok (.lreturn, 1) := by decide +kernel
theorem dJ9_multiplyExact_f86c9_0 : decode cJ9_multiplyExact_f86c9 0 = .ok (.lload_n 0, 1) := by decide +kernel
theorem dJ9_multiplyExact_f86c9_1 : decode cJ9_multiplyExact_f86c9 1 = .ok (.lload_n 2, 1) := by decide +kernel
theorem dJ9_multiplyExact_f86c9_2 : decode cJ9_multiplyExact_f86c9 2 = .ok (.lmul, 1) := by decide +kernel
theorem dJ9_multiplyExact_f86c9_3 : decode cJ9_multiplyExact_f86c9 3 = .ok (.lstore 4, 2) := by decide +kernel
theorem dJ9_multiplyExact_f86c9_5 : decode cJ9_multiplyExact_f86c9 5 = .ok (.lload_n 0, 1) := by decide +kernel
theorem dJ9_multiplyExact_f86c9_6 : decode cJ9_multiplyExact_f86c9 6 = .ok (.invokestatic 122, 3) := by decide +kernel
theorem dJ9_multiplyExact_f86c9_9 : decode cJ9_multiplyExact_f86c9 9 = .ok (.lstore 6, 2) := by decide +kernel
theorem dJ9_multiplyExact_f86c9_11 : decode cJ9_multiplyExact_f86c9 11 = .ok (.lload_n 2, 1) := by decide +kernel
theorem dJ9_multiplyExact_f86c9_12 : decode cJ9_multiplyExact_f86c9 12 = .ok (.invokestatic 122, 3) := by decide +kernel
theorem dJ9_multiplyExact_f86c9_15 : decode cJ9_multiplyExact_f86c9 15 = .ok (.lstore 8, 2) := by decide +kernel
theorem dJ9_multiplyExact_f86c9_17 : decode cJ9_multiplyExact_f86c9 17 = .ok (.lload 6, 2) := by decide +kernel
theorem dJ9_multiplyExact_f86c9_19 : decode cJ9_multiplyExact_f86c9 19 = .ok (.lload 8, 2) := by decide +kernel
theorem dJ9_multiplyExact_f86c9_21 : decode cJ9_multiplyExact_f86c9 21 = .ok (.lor, 1) := by decide +kernel
theorem dJ9_multiplyExact_f86c9_22 : decode cJ9_multiplyExact_f86c9 22 = .ok (.bipush 31, 2) := by decide +kernel
theorem dJ9_multiplyExact_f86c9_24 : decode cJ9_multiplyExact_f86c9 24 = .ok (.lushr, 1) := by decide +kernel
theorem dJ9_multiplyExact_f86c9_25 : decode cJ9_multiplyExact_f86c9 25 = .ok (.lconst 0, 1) := by decide +kernel
theorem dJ9_multiplyExact_f86c9_26 : decode cJ9_multiplyExact_f86c9 26 = .ok (.lcmp, 1) := by decide +kernel
theorem dJ9_multiplyExact_f86c9_27 : decode cJ9_multiplyExact_f86c9 27 = .ok (.ifCond .eq 44, 3) := by decide +kernel
theorem dJ9_multiplyExact_f86c9_30 : decode cJ9_multiplyExact_f86c9 30 = .ok (.lload_n 2, 1) := by decide +kernel
theorem dJ9_multiplyExact_f86c9_31 : decode cJ9_multiplyExact_f86c9 31 = .ok (.lconst 0, 1) := by decide +kernel
theorem dJ9_multiplyExact_f86c9_32 : decode cJ9_multiplyExact_f86c9 32 = .ok (.lcmp, 1) := by decide +kernel
theorem dJ9_multiplyExact_f86c9_33 : decode cJ9_multiplyExact_f86c9 33 = .ok (.ifCond .eq 12, 3) := by decide +kernel
theorem dJ9_multiplyExact_f86c9_36 : decode cJ9_multiplyExact_f86c9 36 = .ok (.lload 4, 2) := by decide +kernel
theorem dJ9_multiplyExact_f86c9_38 : decode cJ9_multiplyExact_f86c9 38 = .ok (.lload_n 2, 1) := by decide +kernel
theorem dJ9_multiplyExact_f86c9_39 : decode cJ9_multiplyExact_f86c9 39 = .ok (.ldiv, 1) := by decide +kernel
theorem dJ9_multiplyExact_f86c9_40 : decode cJ9_multiplyExact_f86c9 40 = .ok (.lload_n 0, 1) := by decide +kernel
theorem dJ9_multiplyExact_f86c9_41 : decode cJ9_multiplyExact_f86c9 41 = .ok (.lcmp, 1) := by decide +kernel
theorem dJ9_multiplyExact_f86c9_42 : decode cJ9_multiplyExact_f86c9 42 = .ok (.ifCond .ne 19, 3) := by decide +kernel
theorem dJ9_multiplyExact_f86c9_45 : decode cJ9_multiplyExact_f86c9 45 = .ok (.lload_n 0, 1) := by decide +kernel
theorem dJ9_multiplyExact_f86c9_46 : decode cJ9_multiplyExact_f86c9 46 = .ok (.ldc2_w 128, 3) := by decide +kernel
theorem dJ9_multiplyExact_f86c9_49 : decode cJ9_multiplyExact_f86c9 49 = .ok (.lcmp, 1) := by decide +kernel
theorem dJ9_multiplyExact_f86c9_50 : decode cJ9_multiplyExact_f86c9 50 = .ok (.ifCond .ne 21, 3) := by decide +kernel
theorem dJ9_multiplyExact_f86c9_53 : decode cJ9_multiplyExact_f86c9 53 = .ok (.lload_n 2, 1) := by decide +kernel
theorem dJ9_multiplyExact_f86c9_54 : decode cJ9_multiplyExact_f86c9 54 = .ok (.ldc2_w 130, 3) := by decide +kernel
theorem dJ9_multiplyExact_f86c9_57 : decode cJ9_multiplyExact_f86c9 57 = .ok (.lcmp, 1) := by decide +kernel
theorem dJ9_multiplyExact_f86c9_58 : decode cJ9_multiplyExact_f86c9 58 = .ok (.ifCond .ne 13, 3) := by decide +kernel
theorem dJ9_multiplyExact_f86c9_61 : decode cJ9_multiplyExact_f86c9 61 = .ok (.new 109, 3) := by decide +kernel
theorem dJ9_multiplyExact_f86c9_64 : decode cJ9_multiplyExact_f86c9 64 = .ok (.dup, 1) := by decide +kernel
theorem dJ9_multiplyExact_f86c9_65 : decode cJ9_multiplyExact_f86c9 65 = .ok (.ldc 116, 2) := by decide +kernel
theorem dJ9_multiplyExact_f86c9_67 : decode cJ9_multiplyExact_f86c9 67 = .ok (.invokespecial 113, 3) := by decide +kernel
theorem dJ9_multiplyExact_f86c9_70 : decode cJ9_multiplyExact_f86c9 70 = .ok (.athrow, 1) := by decide +kernel
theorem dJ9_multiplyExact_f86c9_71 : decode cJ9_multiplyExact_f86c9 71 = .ok (.lload 4, 2) := by decide +kernel
theorem dJ9_multiplyExact_f86c9_73 : decode cJ9_multiplyExact_f86c9 73 = .ok (.lreturn, 1) := by decide +kernel
theorem dJ9_abs_067f4_0 : decode cJ9_abs_067f4 0 = .ok (.lload_n 0, 1) := by decide +kernel
theorem dJ9_abs_067f4_1 : decode cJ9_abs_067f4 1 = .ok (.lconst 0, 1) := by decide +kernel
theorem dJ9_abs_067f4_2 : decode cJ9_abs_067f4 2 = .ok (.lcmp, 1) := by decide +kernel
theorem dJ9_abs_067f4_3 : decode cJ9_abs_067f4 3 = .ok (.ifCond .ge 8, 3) := by decide +kernel
theorem dJ9_abs_067f4_6 : decode cJ9_abs_067f4 6 = .ok (.lload_n 0, 1) := by decide +kernel
theorem dJ9_abs_067f4_7 : decode cJ9_abs_067f4 7 = .ok (.lneg, 1) := by decide +kernel
theorem dJ9_abs_067f4_8 : decode cJ9_abs_067f4 8 = .ok (.goto 4, 3) := by decide +kernel
theorem dJ9_abs_067f4_11 : decode cJ9_abs_067f4 11 = .ok (.lload_n 0, 1) := by decide +kernel
theorem dJ9_abs_067f4_12 : decode cJ9_abs_067f4 12 = .ok (.lreturn, 1) := by decide +kernel
theorem dJ9_max_f86c9_0 : decode cJ9_max_f86c9 0 = .ok (.lload_n 0, 1) := by decide +kernel
theorem dJ9_max_f86c9_1 : decode cJ9_max_f86c9 1 = .ok (.lload_n 2, 1) := by decide +kernel
theorem dJ9_max_f86c9_2 : decode cJ9_max_f86c9 2 = .ok (.lcmp, 1) := by decide +kernel
theorem dJ9_max_f86c9_3 : decode cJ9_max_f86c9 3 = .ok (.ifCond .lt 7, 3) := by decide +kernel
theorem dJ9_max_f86c9_6 : decode cJ9_max_f86c9 6 = .ok (.lload_n 0, 1) := by decide +kernel
theorem dJ9_max_f86c9_7 : decode cJ9_max_f86c9 7 = .ok (.goto 4, 3) := by decide +kernel
theorem dJ9_max_f86c9_10 : decode cJ9_max_f86c9 10 = .ok (.lload_n 2, 1) := by decide +kernel
theorem dJ9_max_f86c9_11 : decode cJ9_max_f86c9 11 = .ok (.lreturn, 1) := by decide +kernel
theorem dJ9_min_f86c9_0 : decode cJ9_min_f86c9 0 = .ok (.lload_n 0, 1) := by decide +kernel
theorem dJ9_min_f86c9_1 : decode cJ9_min_f86c9 1 = .ok (.lload_n 2, 1) := by decide +kernel
theorem dJ9_min_f86c9_2 : decode cJ9_min_f86c9 2 = .ok (.lcmp, 1) := by decide +kernel
theorem dJ9_min_f86c9_3 : decode cJ9_min_f86c9 3 = .ok (.ifCond .gt 7, 3) := by decide +kernel
theorem dJ9_min_f86c9_6 : decode cJ9_min_f86c9 6 = .ok (.lload_n 0, 1) := by decide +kernel
theorem dJ9_min_f86c9_7 : decode cJ9_min_f86c9 7 = .ok (.goto 4, 3) := by decide +kernel
theorem dJ9_min_f86c9_10 : decode cJ9_min_f86c9 10 = .ok (.lload_n 2, 1) := by decide +kernel
theorem dJ9_min_f86c9_11 : decode cJ9_min_f86c9 11 = .ok (.lreturn, 1) := by decide +kernel
set_option maxRecDepth 20000 in
theorem ggL_put_X2_put : GoodIn wsL_put wsX2_put := goodIn_ca (goodIn_r _ [6, 7, 8, 9, 10, 11, 12, 5, 13, 14, 15, 16] (by decide +kernel) (by decide +kernel)) (goodIn_sub (fun _ h => List.mem_cons_of_mem _ (List.mem_append_right _ h)) (by decide +kernel))
set_option maxRecDepth 20000 in
theorem gL_put_X2_put : GoodIn wsL_put (wsV RL 7 RX2 yX2_put wsX2_put) := goodIn_app (goodIn_of _ (by decide +kernel)) ggL_put_X2_put
theorem dL_put_0 : decode cL_put 0 = .ok (.aload_n 0, 1) := by decide +kernel
theorem dL_put_1 : decode cL_put 1 = .ok (.iload_n 1, 1) := by decide +kernel
theorem dL_put_2 : decode cL_put 2 = .ok (.lload_n 2, 1) := by decide +kernel
theorem dL_put_3 : decode cL_put 3 = .ok (.lload 4, 2) := by decide +kernel
theorem dL_put_5 : decode cL_put 5 = .ok (.invokevirtual 7, 3) := by decide +kernel
theorem dL_put_8 : decode cL_put 8 = .ok (.goto 7, 3) := by decide +kernel
theorem dL_put_11 : decode cL_put 11 = .ok (.astore 6, 2) := by decide +kernel
theorem dL_put_13 : decode cL_put 13 = .ok (.iconst 1, 1) := by decide +kernel
theorem dL_put_14 : decode cL_put 14 = .ok (.ireturn, 1) := by decide +kernel
theorem dL_put_15 : decode cL_put 15 = .ok (.iconst 0, 1) := by decide +kernel
theorem dL_put_16 : decode cL_put 16 = .ok (.ireturn, 1) := by decide +kernel
set_option maxRecDepth 20000 in
theorem ggL_work_X2_work : GoodIn wsL_work wsX2_work := goodIn_ca (goodIn_r _ [6, 7, 8, 9, 10, 11, 5, 12, 13, 14, 15, 16, 17, 18, 19, 20, 21, 22, 23, 24, 25, 26, 27, 28, 29, 30, 31, 32, 33, 34, 35, 36, 37, 38, 39, 40, 41, 42, 43, 44, 45, 46, 47, 48, 49, 50, 51, 52, 53, 54, 55, 56, 57, 58, 59, 60, 61, 62, 63, 64, 65, 66, 67, 68, 69, 70, 71, 72, 73, 74, 75, 76, 77, 78, 79, 80, 81, 82, 83, 84, 85, 86, 87, 88, 89, 90, 91, 92, 93, 94, 95, 96, 97, 98, 99, 100, 101, 102, 103, 104, 105, 106, 107, 108, 109, 110, 111, 112, 113, 114, 115, 116, 117, 118, 119, 120, 121, 122, 123, 124, 125, 126, 127, 128, 129, 130, 131, 132, 133, 134, 135, 136, 137, 138, 139, 140, 141, 142, 143, 144, 145, 146, 147, 148, 149, 150, 151, 152, 153, 154, 155, 156, 157] (by decide +kernel) (by decide +kernel)) (goodIn_sub (fun _ h => List.mem_cons_of_mem _ (List.mem_append_right _ h)) (by decide +kernel))
set_option maxRecDepth 20000 in
theorem gL_work_X2_work : GoodIn wsL_work (wsV RL 15 RX2 yX2_work wsX2_work) := goodIn_app (goodIn_of _ (by decide +kernel)) ggL_work_X2_work
theorem dL_work_0 : decode cL_work 0 = .ok (.aload_n 0, 1) := by decide +kernel
theorem dL_work_1 : decode cL_work 1 = .ok (.iload_n 1, 1) := by decide +kernel
theorem dL_work_2 : decode cL_work 2 = .ok (.iload_n 2, 1) := by decide +kernel
theorem dL_work_3 : decode cL_work 3 = .ok (.iload_n 3, 1) := by decide +kernel
theorem dL_work_4 : decode cL_work 4 = .ok (.iload 4, 2) := by decide +kernel
theorem dL_work_6 : decode cL_work 6 = .ok (.iload 5, 2) := by decide +kernel
theorem dL_work_8 : decode cL_work 8 = .ok (.invokevirtual 15, 3) := by decide +kernel
theorem dL_work_11 : decode cL_work 11 = .ok (.goto 7, 3) := by decide +kernel
theorem dL_work_14 : decode cL_work 14 = .ok (.astore 6, 2) := by decide +kernel
theorem dL_work_16 : decode cL_work 16 = .ok (.iconst 1, 1) := by decide +kernel
theorem dL_work_17 : decode cL_work 17 = .ok (.ireturn, 1) := by decide +kernel
theorem dL_work_18 : decode cL_work 18 = .ok (.iconst 0, 1) := by decide +kernel
theorem dL_work_19 : decode cL_work 19 = .ok (.ireturn, 1) := by decide +kernel
set_option maxRecDepth 20000 in
theorem ggL_exact_X2_exact : GoodIn wsL_exact wsX2_exact := goodIn_ca (goodIn_r _ [6, 7, 8, 5, 9, 10, 11, 12, 13, 14, 15, 16, 17, 18, 19, 20, 21, 22, 23, 24, 25, 26, 27, 28, 29] (by decide +kernel) (by decide +kernel)) (goodIn_sub (fun _ h => List.mem_cons_of_mem _ (List.mem_append_right _ h)) (by decide +kernel))
set_option maxRecDepth 20000 in
theorem gL_exact_X2_exact : GoodIn wsL_exact (wsV RL 19 RX2 yX2_exact wsX2_exact) := goodIn_app (goodIn_of _ (by decide +kernel)) ggL_exact_X2_exact
theorem dL_exact_0 : decode cL_exact 0 = .ok (.aload 7, 2) := by decide +kernel
theorem dL_exact_2 : decode cL_exact 2 = .ok (.iconst 0, 1) := by decide +kernel
theorem dL_exact_3 : decode cL_exact 3 = .ok (.aload_n 0, 1) := by decide +kernel
theorem dL_exact_4 : decode cL_exact 4 = .ok (.iload_n 1, 1) := by decide +kernel
theorem dL_exact_5 : decode cL_exact 5 = .ok (.lload_n 2, 1) := by decide +kernel
theorem dL_exact_6 : decode cL_exact 6 = .ok (.lload 4, 2) := by decide +kernel
theorem dL_exact_8 : decode cL_exact 8 = .ok (.iload 6, 2) := by decide +kernel
theorem dL_exact_10 : decode cL_exact 10 = .ok (.invokevirtual 19, 3) := by decide +kernel
theorem dL_exact_13 : decode cL_exact 13 = .ok (.lastore, 1) := by decide +kernel
theorem dL_exact_14 : decode cL_exact 14 = .ok (.goto 7, 3) := by decide +kernel
theorem dL_exact_17 : decode cL_exact 17 = .ok (.astore 8, 2) := by decide +kernel
theorem dL_exact_19 : decode cL_exact 19 = .ok (.iconst 1, 1) := by decide +kernel
theorem dL_exact_20 : decode cL_exact 20 = .ok (.ireturn, 1) := by decide +kernel
theorem dL_exact_21 : decode cL_exact 21 = .ok (.iconst 0, 1) := by decide +kernel
theorem dL_exact_22 : decode cL_exact 22 = .ok (.ireturn, 1) := by decide +kernel
set_option maxRecDepth 20000 in
theorem ggL_cut_X2_cut : GoodIn wsL_cut wsX2_cut := goodIn_ca (goodIn_r _ [6, 7, 8, 9, 10, 11, 12, 5, 13, 14, 15, 16, 17, 18, 19, 20, 21, 22, 23, 24, 25, 26, 27, 28, 29, 30, 31, 32, 33, 34, 35, 36, 37, 38, 39, 40, 41, 42, 43, 44, 45, 46, 47, 48, 49, 50, 51, 52, 53, 54, 55, 56, 57, 58, 59, 60, 61, 62, 63, 64, 65] (by decide +kernel) (by decide +kernel)) (goodIn_sub (fun _ h => List.mem_cons_of_mem _ (List.mem_append_right _ h)) (by decide +kernel))
set_option maxRecDepth 20000 in
theorem gL_cut_X2_cut : GoodIn wsL_cut (wsV RL 23 RX2 yX2_cut wsX2_cut) := goodIn_app (goodIn_of _ (by decide +kernel)) ggL_cut_X2_cut
theorem dL_cut_0 : decode cL_cut 0 = .ok (.aload 5, 2) := by decide +kernel
theorem dL_cut_2 : decode cL_cut 2 = .ok (.iconst 0, 1) := by decide +kernel
theorem dL_cut_3 : decode cL_cut 3 = .ok (.aload_n 0, 1) := by decide +kernel
theorem dL_cut_4 : decode cL_cut 4 = .ok (.iload_n 1, 1) := by decide +kernel
theorem dL_cut_5 : decode cL_cut 5 = .ok (.iload_n 2, 1) := by decide +kernel
theorem dL_cut_6 : decode cL_cut 6 = .ok (.iload_n 3, 1) := by decide +kernel
theorem dL_cut_7 : decode cL_cut 7 = .ok (.iload 4, 2) := by decide +kernel
theorem dL_cut_9 : decode cL_cut 9 = .ok (.invokevirtual 23, 3) := by decide +kernel
theorem dL_cut_12 : decode cL_cut 12 = .ok (.ifCond .eq 7, 3) := by decide +kernel
theorem dL_cut_15 : decode cL_cut 15 = .ok (.lconst 1, 1) := by decide +kernel
theorem dL_cut_16 : decode cL_cut 16 = .ok (.goto 4, 3) := by decide +kernel
theorem dL_cut_19 : decode cL_cut 19 = .ok (.lconst 0, 1) := by decide +kernel
theorem dL_cut_20 : decode cL_cut 20 = .ok (.lastore, 1) := by decide +kernel
theorem dL_cut_21 : decode cL_cut 21 = .ok (.goto 7, 3) := by decide +kernel
theorem dL_cut_24 : decode cL_cut 24 = .ok (.astore 6, 2) := by decide +kernel
theorem dL_cut_26 : decode cL_cut 26 = .ok (.iconst 1, 1) := by decide +kernel
theorem dL_cut_27 : decode cL_cut 27 = .ok (.ireturn, 1) := by decide +kernel
theorem dL_cut_28 : decode cL_cut 28 = .ok (.iconst 0, 1) := by decide +kernel
theorem dL_cut_29 : decode cL_cut 29 = .ok (.ireturn, 1) := by decide +kernel
set_option maxRecDepth 20000 in
theorem ggL_holds_X2_holds : GoodIn wsL_holds wsX2_holds := goodIn_ca (goodIn_r _ [6, 7, 8, 5, 9, 10, 11, 12, 13, 14, 15, 16, 17, 18, 19] (by decide +kernel) (by decide +kernel)) (goodIn_sub (fun _ h => List.mem_cons_of_mem _ (List.mem_append_right _ h)) (by decide +kernel))
set_option maxRecDepth 20000 in
theorem gL_holds_X2_holds : GoodIn wsL_holds (wsV RL 27 RX2 yX2_holds wsX2_holds) := goodIn_app (goodIn_of _ (by decide +kernel)) ggL_holds_X2_holds
theorem dL_holds_0 : decode cL_holds 0 = .ok (.aload 6, 2) := by decide +kernel
theorem dL_holds_2 : decode cL_holds 2 = .ok (.iconst 0, 1) := by decide +kernel
theorem dL_holds_3 : decode cL_holds 3 = .ok (.aload_n 0, 1) := by decide +kernel
theorem dL_holds_4 : decode cL_holds 4 = .ok (.iload_n 1, 1) := by decide +kernel
theorem dL_holds_5 : decode cL_holds 5 = .ok (.lload_n 2, 1) := by decide +kernel
theorem dL_holds_6 : decode cL_holds 6 = .ok (.lload 4, 2) := by decide +kernel
theorem dL_holds_8 : decode cL_holds 8 = .ok (.invokevirtual 27, 3) := by decide +kernel
theorem dL_holds_11 : decode cL_holds 11 = .ok (.ifCond .eq 7, 3) := by decide +kernel
theorem dL_holds_14 : decode cL_holds 14 = .ok (.lconst 1, 1) := by decide +kernel
theorem dL_holds_15 : decode cL_holds 15 = .ok (.goto 4, 3) := by decide +kernel
theorem dL_holds_18 : decode cL_holds 18 = .ok (.lconst 0, 1) := by decide +kernel
theorem dL_holds_19 : decode cL_holds 19 = .ok (.lastore, 1) := by decide +kernel
theorem dL_holds_20 : decode cL_holds 20 = .ok (.goto 7, 3) := by decide +kernel
theorem dL_holds_23 : decode cL_holds 23 = .ok (.astore 7, 2) := by decide +kernel
theorem dL_holds_25 : decode cL_holds 25 = .ok (.iconst 1, 1) := by decide +kernel
theorem dL_holds_26 : decode cL_holds 26 = .ok (.ireturn, 1) := by decide +kernel
theorem dL_holds_27 : decode cL_holds 27 = .ok (.iconst 0, 1) := by decide +kernel
theorem dL_holds_28 : decode cL_holds 28 = .ok (.ireturn, 1) := by decide +kernel
set_option maxRecDepth 20000 in
theorem ggL_low_X2_low : GoodIn wsL_low wsX2_low := goodIn_ca (goodIn_r _ [6, 7, 8, 9, 5, 10, 11, 12, 13, 14, 15] (by decide +kernel) (by decide +kernel)) (goodIn_sub (fun _ h => List.mem_cons_of_mem _ (List.mem_append_right _ h)) (by decide +kernel))
set_option maxRecDepth 20000 in
theorem gL_low_X2_low : GoodIn wsL_low (wsV RL 31 RX2 yX2_low wsX2_low) := goodIn_app (goodIn_of _ (by decide +kernel)) ggL_low_X2_low
theorem dL_low_0 : decode cL_low 0 = .ok (.aload_n 2, 1) := by decide +kernel
theorem dL_low_1 : decode cL_low 1 = .ok (.iconst 0, 1) := by decide +kernel
theorem dL_low_2 : decode cL_low 2 = .ok (.aload_n 0, 1) := by decide +kernel
theorem dL_low_3 : decode cL_low 3 = .ok (.iload_n 1, 1) := by decide +kernel
theorem dL_low_4 : decode cL_low 4 = .ok (.invokevirtual 31, 3) := by decide +kernel
theorem dL_low_7 : decode cL_low 7 = .ok (.lastore, 1) := by decide +kernel
theorem dL_low_8 : decode cL_low 8 = .ok (.goto 6, 3) := by decide +kernel
theorem dL_low_11 : decode cL_low 11 = .ok (.astore_n 3, 1) := by decide +kernel
theorem dL_low_12 : decode cL_low 12 = .ok (.iconst 1, 1) := by decide +kernel
theorem dL_low_13 : decode cL_low 13 = .ok (.ireturn, 1) := by decide +kernel
theorem dL_low_14 : decode cL_low 14 = .ok (.iconst 0, 1) := by decide +kernel
theorem dL_low_15 : decode cL_low 15 = .ok (.ireturn, 1) := by decide +kernel
set_option maxRecDepth 20000 in
theorem ggL_high_X2_high : GoodIn wsL_high wsX2_high := goodIn_ca (goodIn_r _ [6, 7, 8, 9, 5, 10, 11, 12, 13, 14, 15] (by decide +kernel) (by decide +kernel)) (goodIn_sub (fun _ h => List.mem_cons_of_mem _ (List.mem_append_right _ h)) (by decide +kernel))
set_option maxRecDepth 20000 in
theorem gL_high_X2_high : GoodIn wsL_high (wsV RL 35 RX2 yX2_high wsX2_high) := goodIn_app (goodIn_of _ (by decide +kernel)) ggL_high_X2_high
theorem dL_high_0 : decode cL_high 0 = .ok (.aload_n 2, 1) := by decide +kernel
theorem dL_high_1 : decode cL_high 1 = .ok (.iconst 0, 1) := by decide +kernel
theorem dL_high_2 : decode cL_high 2 = .ok (.aload_n 0, 1) := by decide +kernel
theorem dL_high_3 : decode cL_high 3 = .ok (.iload_n 1, 1) := by decide +kernel
theorem dL_high_4 : decode cL_high 4 = .ok (.invokevirtual 35, 3) := by decide +kernel
theorem dL_high_7 : decode cL_high 7 = .ok (.lastore, 1) := by decide +kernel
theorem dL_high_8 : decode cL_high 8 = .ok (.goto 6, 3) := by decide +kernel
theorem dL_high_11 : decode cL_high 11 = .ok (.astore_n 3, 1) := by decide +kernel
theorem dL_high_12 : decode cL_high 12 = .ok (.iconst 1, 1) := by decide +kernel
theorem dL_high_13 : decode cL_high 13 = .ok (.ireturn, 1) := by decide +kernel
theorem dL_high_14 : decode cL_high 14 = .ok (.iconst 0, 1) := by decide +kernel
theorem dL_high_15 : decode cL_high 15 = .ok (.ireturn, 1) := by decide +kernel
