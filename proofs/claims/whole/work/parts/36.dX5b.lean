theorem dX5_wordAt_0 : decode cX5_wordAt 0 = .ok (.aload_n 0, 1) := by decide +kernel
theorem dX5_wordAt_1 : decode cX5_wordAt 1 = .ok (.iload_n 1, 1) := by decide +kernel
theorem dX5_wordAt_2 : decode cX5_wordAt 2 = .ok (.iaload, 1) := by decide +kernel
theorem dX5_wordAt_3 : decode cX5_wordAt 3 = .ok (.aload_n 0, 1) := by decide +kernel
theorem dX5_wordAt_4 : decode cX5_wordAt 4 = .ok (.iload_n 1, 1) := by decide +kernel
theorem dX5_wordAt_5 : decode cX5_wordAt 5 = .ok (.iconst 1, 1) := by decide +kernel
theorem dX5_wordAt_6 : decode cX5_wordAt 6 = .ok (.iadd, 1) := by decide +kernel
theorem dX5_wordAt_7 : decode cX5_wordAt 7 = .ok (.iaload, 1) := by decide +kernel
theorem dX5_wordAt_8 : decode cX5_wordAt 8 = .ok (.bipush 8, 2) := by decide +kernel
theorem dX5_wordAt_10 : decode cX5_wordAt 10 = .ok (.ishl, 1) := by decide +kernel
theorem dX5_wordAt_11 : decode cX5_wordAt 11 = .ok (.ior, 1) := by decide +kernel
theorem dX5_wordAt_12 : decode cX5_wordAt 12 = .ok (.aload_n 0, 1) := by decide +kernel
theorem dX5_wordAt_13 : decode cX5_wordAt 13 = .ok (.iload_n 1, 1) := by decide +kernel
theorem dX5_wordAt_14 : decode cX5_wordAt 14 = .ok (.iconst 2, 1) := by decide +kernel
theorem dX5_wordAt_15 : decode cX5_wordAt 15 = .ok (.iadd, 1) := by decide +kernel
theorem dX5_wordAt_16 : decode cX5_wordAt 16 = .ok (.iaload, 1) := by decide +kernel
theorem dX5_wordAt_17 : decode cX5_wordAt 17 = .ok (.bipush 16, 2) := by decide +kernel
theorem dX5_wordAt_19 : decode cX5_wordAt 19 = .ok (.ishl, 1) := by decide +kernel
theorem dX5_wordAt_20 : decode cX5_wordAt 20 = .ok (.ior, 1) := by decide +kernel
theorem dX5_wordAt_21 : decode cX5_wordAt 21 = .ok (.aload_n 0, 1) := by decide +kernel
theorem dX5_wordAt_22 : decode cX5_wordAt 22 = .ok (.iload_n 1, 1) := by decide +kernel
theorem dX5_wordAt_23 : decode cX5_wordAt 23 = .ok (.iconst 3, 1) := by decide +kernel
theorem dX5_wordAt_24 : decode cX5_wordAt 24 = .ok (.iadd, 1) := by decide +kernel
theorem dX5_wordAt_25 : decode cX5_wordAt 25 = .ok (.iaload, 1) := by decide +kernel
theorem dX5_wordAt_26 : decode cX5_wordAt 26 = .ok (.bipush 24, 2) := by decide +kernel
theorem dX5_wordAt_28 : decode cX5_wordAt 28 = .ok (.ishl, 1) := by decide +kernel
theorem dX5_wordAt_29 : decode cX5_wordAt 29 = .ok (.ior, 1) := by decide +kernel
theorem dX5_wordAt_30 : decode cX5_wordAt 30 = .ok (.ireturn, 1) := by decide +kernel
set_option maxRecDepth 20000 in
theorem ggX5_take_X5_isHasher : GoodIn wsX5_take wsX5_isHasher := goodIn_r _ [9] (by decide +kernel) (by decide +kernel)
set_option maxRecDepth 20000 in
theorem gX5_take_X5_isHasher : GoodIn wsX5_take (va_wsS RX5 153 yX5_isHasher wsX5_isHasher) := goodIn_app (goodIn_of _ (by decide +kernel)) ggX5_take_X5_isHasher
set_option maxRecDepth 20000 in
theorem ggX5_take_X5_isRegister : GoodIn wsX5_take wsX5_isRegister := goodIn_r _ [12] (by decide +kernel) (by decide +kernel)
set_option maxRecDepth 20000 in
theorem gX5_take_X5_isRegister : GoodIn wsX5_take (va_wsS RX5 147 yX5_isRegister wsX5_isRegister) := goodIn_app (goodIn_of _ (by decide +kernel)) ggX5_take_X5_isRegister
theorem dX5_take_0 : decode cX5_take 0 = .ok (.iload_n 1, 1) := by decide +kernel
theorem dX5_take_1 : decode cX5_take 1 = .ok (.invokestatic 153, 3) := by decide +kernel
theorem dX5_take_4 : decode cX5_take 4 = .ok (.ifCond .eq 10, 3) := by decide +kernel
theorem dX5_take_7 : decode cX5_take 7 = .ok (.iload_n 2, 1) := by decide +kernel
theorem dX5_take_8 : decode cX5_take 8 = .ok (.invokestatic 147, 3) := by decide +kernel
theorem dX5_take_11 : decode cX5_take 11 = .ok (.ifCond .ne 6, 3) := by decide +kernel
theorem dX5_take_14 : decode cX5_take 14 = .ok (.bipush (-2), 2) := by decide +kernel
theorem dX5_take_16 : decode cX5_take 16 = .ok (.ireturn, 1) := by decide +kernel
theorem dX5_take_17 : decode cX5_take 17 = .ok (.aload_n 0, 1) := by decide +kernel
theorem dX5_take_18 : decode cX5_take 18 = .ok (.getfield 20, 3) := by decide +kernel
theorem dX5_take_21 : decode cX5_take 21 = .ok (.iload_n 1, 1) := by decide +kernel
theorem dX5_take_22 : decode cX5_take 22 = .ok (.iaload, 1) := by decide +kernel
theorem dX5_take_23 : decode cX5_take 23 = .ok (.aload_n 0, 1) := by decide +kernel
theorem dX5_take_24 : decode cX5_take 24 = .ok (.getfield 13, 3) := by decide +kernel
theorem dX5_take_27 : decode cX5_take 27 = .ok (.iload_n 2, 1) := by decide +kernel
theorem dX5_take_28 : decode cX5_take 28 = .ok (.iaload, 1) := by decide +kernel
theorem dX5_take_29 : decode cX5_take 29 = .ok (.iadd, 1) := by decide +kernel
theorem dX5_take_30 : decode cX5_take 30 = .ok (.ldc 146, 2) := by decide +kernel
theorem dX5_take_32 : decode cX5_take 32 = .ok (.if_icmp .le 6, 3) := by decide +kernel
theorem dX5_take_35 : decode cX5_take 35 = .ok (.bipush (-3), 2) := by decide +kernel
theorem dX5_take_37 : decode cX5_take 37 = .ok (.ireturn, 1) := by decide +kernel
theorem dX5_take_38 : decode cX5_take 38 = .ok (.iconst 0, 1) := by decide +kernel
theorem dX5_take_39 : decode cX5_take 39 = .ok (.istore_n 3, 1) := by decide +kernel
theorem dX5_take_40 : decode cX5_take 40 = .ok (.iload_n 3, 1) := by decide +kernel
theorem dX5_take_41 : decode cX5_take 41 = .ok (.aload_n 0, 1) := by decide +kernel
theorem dX5_take_42 : decode cX5_take 42 = .ok (.getfield 13, 3) := by decide +kernel
theorem dX5_take_45 : decode cX5_take 45 = .ok (.iload_n 2, 1) := by decide +kernel
theorem dX5_take_46 : decode cX5_take 46 = .ok (.iaload, 1) := by decide +kernel
theorem dX5_take_47 : decode cX5_take 47 = .ok (.if_icmp .ge 47, 3) := by decide +kernel
theorem dX5_take_50 : decode cX5_take 50 = .ok (.aload_n 0, 1) := by decide +kernel
theorem dX5_take_51 : decode cX5_take 51 = .ok (.getfield 17, 3) := by decide +kernel
theorem dX5_take_54 : decode cX5_take 54 = .ok (.ldc 146, 2) := by decide +kernel
theorem dX5_take_56 : decode cX5_take 56 = .ok (.iload_n 1, 1) := by decide +kernel
theorem dX5_take_57 : decode cX5_take 57 = .ok (.imul, 1) := by decide +kernel
theorem dX5_take_58 : decode cX5_take 58 = .ok (.aload_n 0, 1) := by decide +kernel
theorem dX5_take_59 : decode cX5_take 59 = .ok (.getfield 20, 3) := by decide +kernel
theorem dX5_take_62 : decode cX5_take 62 = .ok (.iload_n 1, 1) := by decide +kernel
theorem dX5_take_63 : decode cX5_take 63 = .ok (.iaload, 1) := by decide +kernel
theorem dX5_take_64 : decode cX5_take 64 = .ok (.iadd, 1) := by decide +kernel
theorem dX5_take_65 : decode cX5_take 65 = .ok (.aload_n 0, 1) := by decide +kernel
theorem dX5_take_66 : decode cX5_take 66 = .ok (.getfield 7, 3) := by decide +kernel
theorem dX5_take_69 : decode cX5_take 69 = .ok (.sipush 200, 3) := by decide +kernel
theorem dX5_take_72 : decode cX5_take 72 = .ok (.iload_n 2, 1) := by decide +kernel
theorem dX5_take_73 : decode cX5_take 73 = .ok (.imul, 1) := by decide +kernel
theorem dX5_take_74 : decode cX5_take 74 = .ok (.iload_n 3, 1) := by decide +kernel
theorem dX5_take_75 : decode cX5_take 75 = .ok (.iadd, 1) := by decide +kernel
theorem dX5_take_76 : decode cX5_take 76 = .ok (.iaload, 1) := by decide +kernel
theorem dX5_take_77 : decode cX5_take 77 = .ok (.iastore, 1) := by decide +kernel
theorem dX5_take_78 : decode cX5_take 78 = .ok (.aload_n 0, 1) := by decide +kernel
theorem dX5_take_79 : decode cX5_take 79 = .ok (.getfield 20, 3) := by decide +kernel
theorem dX5_take_82 : decode cX5_take 82 = .ok (.iload_n 1, 1) := by decide +kernel
theorem dX5_take_83 : decode cX5_take 83 = .ok (.dup2, 1) := by decide +kernel
theorem dX5_take_84 : decode cX5_take 84 = .ok (.iaload, 1) := by decide +kernel
theorem dX5_take_85 : decode cX5_take 85 = .ok (.iconst 1, 1) := by decide +kernel
theorem dX5_take_86 : decode cX5_take 86 = .ok (.iadd, 1) := by decide +kernel
theorem dX5_take_87 : decode cX5_take 87 = .ok (.iastore, 1) := by decide +kernel
theorem dX5_take_88 : decode cX5_take 88 = .ok (.iinc 3 1, 3) := by decide +kernel
theorem dX5_take_91 : decode cX5_take 91 = .ok (.goto (-51), 3) := by decide +kernel
theorem dX5_take_94 : decode cX5_take 94 = .ok (.aload_n 0, 1) := by decide +kernel
theorem dX5_take_95 : decode cX5_take 95 = .ok (.getfield 20, 3) := by decide +kernel
theorem dX5_take_98 : decode cX5_take 98 = .ok (.iload_n 1, 1) := by decide +kernel
theorem dX5_take_99 : decode cX5_take 99 = .ok (.iaload, 1) := by decide +kernel
theorem dX5_take_100 : decode cX5_take 100 = .ok (.ireturn, 1) := by decide +kernel
set_option maxRecDepth 20000 in
theorem ggX5_fill_X5_isHasher : GoodIn wsX5_fill wsX5_isHasher := goodIn_r _ [7] (by decide +kernel) (by decide +kernel)
set_option maxRecDepth 20000 in
theorem gX5_fill_X5_isHasher : GoodIn wsX5_fill (va_wsS RX5 153 yX5_isHasher wsX5_isHasher) := goodIn_app (goodIn_of _ (by decide +kernel)) ggX5_fill_X5_isHasher
theorem dX5_fill_0 : decode cX5_fill 0 = .ok (.iload_n 1, 1) := by decide +kernel
theorem dX5_fill_1 : decode cX5_fill 1 = .ok (.invokestatic 153, 3) := by decide +kernel
theorem dX5_fill_4 : decode cX5_fill 4 = .ok (.ifCond .eq 14, 3) := by decide +kernel
theorem dX5_fill_7 : decode cX5_fill 7 = .ok (.iload_n 2, 1) := by decide +kernel
theorem dX5_fill_8 : decode cX5_fill 8 = .ok (.ifCond .lt 10, 3) := by decide +kernel
theorem dX5_fill_11 : decode cX5_fill 11 = .ok (.iload_n 2, 1) := by decide +kernel
theorem dX5_fill_12 : decode cX5_fill 12 = .ok (.sipush 5000, 3) := by decide +kernel
theorem dX5_fill_15 : decode cX5_fill 15 = .ok (.if_icmp .le 6, 3) := by decide +kernel
theorem dX5_fill_18 : decode cX5_fill 18 = .ok (.bipush (-2), 2) := by decide +kernel
theorem dX5_fill_20 : decode cX5_fill 20 = .ok (.ireturn, 1) := by decide +kernel
theorem dX5_fill_21 : decode cX5_fill 21 = .ok (.aload_n 0, 1) := by decide +kernel
theorem dX5_fill_22 : decode cX5_fill 22 = .ok (.getfield 20, 3) := by decide +kernel
theorem dX5_fill_25 : decode cX5_fill 25 = .ok (.iload_n 1, 1) := by decide +kernel
theorem dX5_fill_26 : decode cX5_fill 26 = .ok (.iaload, 1) := by decide +kernel
theorem dX5_fill_27 : decode cX5_fill 27 = .ok (.iload_n 2, 1) := by decide +kernel
theorem dX5_fill_28 : decode cX5_fill 28 = .ok (.iadd, 1) := by decide +kernel
theorem dX5_fill_29 : decode cX5_fill 29 = .ok (.ldc 146, 2) := by decide +kernel
theorem dX5_fill_31 : decode cX5_fill 31 = .ok (.if_icmp .le 6, 3) := by decide +kernel
theorem dX5_fill_34 : decode cX5_fill 34 = .ok (.bipush (-3), 2) := by decide +kernel
theorem dX5_fill_36 : decode cX5_fill 36 = .ok (.ireturn, 1) := by decide +kernel
theorem dX5_fill_37 : decode cX5_fill 37 = .ok (.iconst 0, 1) := by decide +kernel
theorem dX5_fill_38 : decode cX5_fill 38 = .ok (.istore 5, 2) := by decide +kernel
theorem dX5_fill_40 : decode cX5_fill 40 = .ok (.iload 5, 2) := by decide +kernel
theorem dX5_fill_42 : decode cX5_fill 42 = .ok (.iload_n 2, 1) := by decide +kernel
theorem dX5_fill_43 : decode cX5_fill 43 = .ok (.if_icmp .ge 46, 3) := by decide +kernel
theorem dX5_fill_46 : decode cX5_fill 46 = .ok (.aload_n 0, 1) := by decide +kernel
theorem dX5_fill_47 : decode cX5_fill 47 = .ok (.getfield 17, 3) := by decide +kernel
theorem dX5_fill_50 : decode cX5_fill 50 = .ok (.ldc 146, 2) := by decide +kernel
theorem dX5_fill_52 : decode cX5_fill 52 = .ok (.iload_n 1, 1) := by decide +kernel
theorem dX5_fill_53 : decode cX5_fill 53 = .ok (.imul, 1) := by decide +kernel
theorem dX5_fill_54 : decode cX5_fill 54 = .ok (.aload_n 0, 1) := by decide +kernel
theorem dX5_fill_55 : decode cX5_fill 55 = .ok (.getfield 20, 3) := by decide +kernel
theorem dX5_fill_58 : decode cX5_fill 58 = .ok (.iload_n 1, 1) := by decide +kernel
theorem dX5_fill_59 : decode cX5_fill 59 = .ok (.iaload, 1) := by decide +kernel
theorem dX5_fill_60 : decode cX5_fill 60 = .ok (.iadd, 1) := by decide +kernel
theorem dX5_fill_61 : decode cX5_fill 61 = .ok (.iload_n 3, 1) := by decide +kernel
theorem dX5_fill_62 : decode cX5_fill 62 = .ok (.iload 5, 2) := by decide +kernel
theorem dX5_fill_64 : decode cX5_fill 64 = .ok (.iload 4, 2) := by decide +kernel
theorem dX5_fill_66 : decode cX5_fill 66 = .ok (.imul, 1) := by decide +kernel
theorem dX5_fill_67 : decode cX5_fill 67 = .ok (.iadd, 1) := by decide +kernel
theorem dX5_fill_68 : decode cX5_fill 68 = .ok (.sipush 255, 3) := by decide +kernel
theorem dX5_fill_71 : decode cX5_fill 71 = .ok (.iand, 1) := by decide +kernel
theorem dX5_fill_72 : decode cX5_fill 72 = .ok (.iastore, 1) := by decide +kernel
theorem dX5_fill_73 : decode cX5_fill 73 = .ok (.aload_n 0, 1) := by decide +kernel
theorem dX5_fill_74 : decode cX5_fill 74 = .ok (.getfield 20, 3) := by decide +kernel
theorem dX5_fill_77 : decode cX5_fill 77 = .ok (.iload_n 1, 1) := by decide +kernel
theorem dX5_fill_78 : decode cX5_fill 78 = .ok (.dup2, 1) := by decide +kernel
theorem dX5_fill_79 : decode cX5_fill 79 = .ok (.iaload, 1) := by decide +kernel
theorem dX5_fill_80 : decode cX5_fill 80 = .ok (.iconst 1, 1) := by decide +kernel
theorem dX5_fill_81 : decode cX5_fill 81 = .ok (.iadd, 1) := by decide +kernel
theorem dX5_fill_82 : decode cX5_fill 82 = .ok (.iastore, 1) := by decide +kernel
theorem dX5_fill_83 : decode cX5_fill 83 = .ok (.iinc 5 1, 3) := by decide +kernel
theorem dX5_fill_86 : decode cX5_fill 86 = .ok (.goto (-46), 3) := by decide +kernel
theorem dX5_fill_89 : decode cX5_fill 89 = .ok (.aload_n 0, 1) := by decide +kernel
theorem dX5_fill_90 : decode cX5_fill 90 = .ok (.getfield 20, 3) := by decide +kernel
theorem dX5_fill_93 : decode cX5_fill 93 = .ok (.iload_n 1, 1) := by decide +kernel
theorem dX5_fill_94 : decode cX5_fill 94 = .ok (.iaload, 1) := by decide +kernel
theorem dX5_fill_95 : decode cX5_fill 95 = .ok (.ireturn, 1) := by decide +kernel
set_option maxRecDepth 20000 in
theorem ggX5_rootOf_X5_pileOf : GoodIn wsX5_rootOf wsX5_pileOf := goodIn_r _ [9, 10, 1, 2, 11, 12, 13, 14, 15, 8, 16, 17, 18, 19, 20, 21, 22, 23, 24, 25, 3, 26, 27, 28, 29, 30, 31, 32, 33, 34, 35, 36, 37, 38, 39, 40, 41, 42, 43, 44, 45, 46, 47, 48, 49, 50, 51, 52, 53, 54, 55, 56, 4, 57, 58, 59, 60, 61, 62, 63, 64, 65, 66, 67, 68, 69, 70, 71, 72, 73, 74, 75, 76, 77, 78, 79, 80, 81, 82, 83, 84, 85, 86, 87, 88, 89, 90, 91, 92, 93, 94] (by decide +kernel) (by decide +kernel)
set_option maxRecDepth 20000 in
theorem gX5_rootOf_X5_pileOf : GoodIn wsX5_rootOf (wsV RX5 160 RX5 yX5_pileOf wsX5_pileOf) := goodIn_app (goodIn_of _ (by decide +kernel)) ggX5_rootOf_X5_pileOf
set_option maxRecDepth 20000 in
theorem ggX5_rootOf_X5_closedOf : GoodIn wsX5_rootOf wsX5_closedOf := goodIn_r _ [25, 3, 67, 68, 69, 70, 71, 72, 73, 74, 75, 76, 77, 78, 79, 80, 81, 82, 83, 84, 85, 86, 87, 88, 89, 90, 91, 92, 93, 94] (by decide +kernel) (by decide +kernel)
set_option maxRecDepth 20000 in
theorem gX5_rootOf_X5_closedOf : GoodIn wsX5_rootOf (wsV RX5 142 RX5 yX5_closedOf wsX5_closedOf) := goodIn_app (goodIn_of _ (by decide +kernel)) ggX5_rootOf_X5_closedOf
set_option maxRecDepth 20000 in
theorem ggX5_rootOf_X5_chunk : GoodIn wsX5_rootOf wsX5_chunk := goodIn_r _ [29, 12, 17, 30, 31, 32, 21, 33, 34, 35, 36, 8, 37, 38, 39, 40, 41, 42, 18, 43, 44, 45, 46, 47, 48, 49, 50, 51, 52, 67, 68, 69, 70, 71, 72, 73, 74, 75, 76, 77, 78, 79, 80, 81, 82, 83, 84, 85, 86, 87, 88, 89, 90, 91, 92, 93, 94] (by decide +kernel) (by decide +kernel)
set_option maxRecDepth 20000 in
theorem gX5_rootOf_X5_chunk : GoodIn wsX5_rootOf (wsV RX5 132 RX5 yX5_chunk wsX5_chunk) := goodIn_app (goodIn_of _ (by decide +kernel)) ggX5_rootOf_X5_chunk
set_option maxRecDepth 20000 in
theorem ggX5_rootOf_X5_mixIn : GoodIn wsX5_rootOf wsX5_mixIn := goodIn_r _ [37, 30, 33, 12, 38, 39, 40, 41, 8, 42, 18, 31, 43, 32, 44, 45, 46, 47, 48, 49, 50, 51, 52, 67, 68, 69, 70, 71, 72, 73, 74, 75, 76, 77, 78, 79, 80, 81, 82, 83, 84, 85, 86, 87, 88, 89, 90, 91, 92, 93, 94] (by decide +kernel) (by decide +kernel)
set_option maxRecDepth 20000 in
theorem gX5_rootOf_X5_mixIn : GoodIn wsX5_rootOf (wsV RX5 111 RX5 yX5_mixIn wsX5_mixIn) := goodIn_app (goodIn_of _ (by decide +kernel)) ggX5_rootOf_X5_mixIn
set_option maxRecDepth 20000 in
theorem ggX5_rootOf_X5_parent : GoodIn wsX5_rootOf wsX5_parent := goodIn_r _ [66, 4, 32, 62, 12, 17, 30, 31, 21, 33, 67, 68, 69, 70, 71, 72, 73, 74, 75, 76, 77, 78, 79, 80, 81, 82, 83, 84, 85, 86, 87, 88, 89, 90, 91, 92, 93, 94] (by decide +kernel) (by decide +kernel)
set_option maxRecDepth 20000 in
theorem gX5_rootOf_X5_parent : GoodIn wsX5_rootOf (wsV RX5 123 RX5 yX5_parent wsX5_parent) := goodIn_app (goodIn_of _ (by decide +kernel)) ggX5_rootOf_X5_parent
theorem dX5_rootOf_0 : decode cX5_rootOf 0 = .ok (.aload_n 0, 1) := by decide +kernel
theorem dX5_rootOf_1 : decode cX5_rootOf 1 = .ok (.iload_n 1, 1) := by decide +kernel
theorem dX5_rootOf_2 : decode cX5_rootOf 2 = .ok (.invokevirtual 160, 3) := by decide +kernel
theorem dX5_rootOf_5 : decode cX5_rootOf 5 = .ok (.aload_n 0, 1) := by decide +kernel
theorem dX5_rootOf_6 : decode cX5_rootOf 6 = .ok (.iload_n 1, 1) := by decide +kernel
theorem dX5_rootOf_7 : decode cX5_rootOf 7 = .ok (.invokevirtual 142, 3) := by decide +kernel
theorem dX5_rootOf_10 : decode cX5_rootOf 10 = .ok (.istore_n 2, 1) := by decide +kernel
theorem dX5_rootOf_11 : decode cX5_rootOf 11 = .ok (.aload_n 0, 1) := by decide +kernel
theorem dX5_rootOf_12 : decode cX5_rootOf 12 = .ok (.aload_n 0, 1) := by decide +kernel
theorem dX5_rootOf_13 : decode cX5_rootOf 13 = .ok (.getfield 17, 3) := by decide +kernel
theorem dX5_rootOf_16 : decode cX5_rootOf 16 = .ok (.ldc 146, 2) := by decide +kernel
theorem dX5_rootOf_18 : decode cX5_rootOf 18 = .ok (.iload_n 1, 1) := by decide +kernel
theorem dX5_rootOf_19 : decode cX5_rootOf 19 = .ok (.imul, 1) := by decide +kernel
theorem dX5_rootOf_20 : decode cX5_rootOf 20 = .ok (.sipush 1024, 3) := by decide +kernel
theorem dX5_rootOf_23 : decode cX5_rootOf 23 = .ok (.iload_n 2, 1) := by decide +kernel
theorem dX5_rootOf_24 : decode cX5_rootOf 24 = .ok (.imul, 1) := by decide +kernel
theorem dX5_rootOf_25 : decode cX5_rootOf 25 = .ok (.iadd, 1) := by decide +kernel
theorem dX5_rootOf_26 : decode cX5_rootOf 26 = .ok (.aload_n 0, 1) := by decide +kernel
theorem dX5_rootOf_27 : decode cX5_rootOf 27 = .ok (.getfield 20, 3) := by decide +kernel
theorem dX5_rootOf_30 : decode cX5_rootOf 30 = .ok (.iload_n 1, 1) := by decide +kernel
theorem dX5_rootOf_31 : decode cX5_rootOf 31 = .ok (.iaload, 1) := by decide +kernel
theorem dX5_rootOf_32 : decode cX5_rootOf 32 = .ok (.sipush 1024, 3) := by decide +kernel
theorem dX5_rootOf_35 : decode cX5_rootOf 35 = .ok (.iload_n 2, 1) := by decide +kernel
theorem dX5_rootOf_36 : decode cX5_rootOf 36 = .ok (.imul, 1) := by decide +kernel
theorem dX5_rootOf_37 : decode cX5_rootOf 37 = .ok (.isub, 1) := by decide +kernel
theorem dX5_rootOf_38 : decode cX5_rootOf 38 = .ok (.iload_n 2, 1) := by decide +kernel
theorem dX5_rootOf_39 : decode cX5_rootOf 39 = .ok (.i2l, 1) := by decide +kernel
theorem dX5_rootOf_40 : decode cX5_rootOf 40 = .ok (.invokevirtual 132, 3) := by decide +kernel
theorem dX5_rootOf_43 : decode cX5_rootOf 43 = .ok (.aload_n 0, 1) := by decide +kernel
theorem dX5_rootOf_44 : decode cX5_rootOf 44 = .ok (.getfield 117, 3) := by decide +kernel
theorem dX5_rootOf_47 : decode cX5_rootOf 47 = .ok (.ifCond .le 14, 3) := by decide +kernel
theorem dX5_rootOf_50 : decode cX5_rootOf 50 = .ok (.aload_n 0, 1) := by decide +kernel
theorem dX5_rootOf_51 : decode cX5_rootOf 51 = .ok (.invokevirtual 111, 3) := by decide +kernel
theorem dX5_rootOf_54 : decode cX5_rootOf 54 = .ok (.aload_n 0, 1) := by decide +kernel
theorem dX5_rootOf_55 : decode cX5_rootOf 55 = .ok (.invokevirtual 123, 3) := by decide +kernel
theorem dX5_rootOf_58 : decode cX5_rootOf 58 = .ok (.goto (-15), 3) := by decide +kernel
theorem dX5_rootOf_61 : decode cX5_rootOf 61 = .ok (.return_, 1) := by decide +kernel
set_option maxRecDepth 20000 in
theorem ggX5_output_X5_isHasher : GoodIn wsX5_output wsX5_isHasher := goodIn_r _ [12] (by decide +kernel) (by decide +kernel)
set_option maxRecDepth 20000 in
theorem gX5_output_X5_isHasher : GoodIn wsX5_output (va_wsS RX5 153 yX5_isHasher wsX5_isHasher) := goodIn_app (goodIn_of _ (by decide +kernel)) ggX5_output_X5_isHasher
set_option maxRecDepth 20000 in
theorem ggX5_output_X5_isRegister : GoodIn wsX5_output wsX5_isRegister := goodIn_r _ [15] (by decide +kernel) (by decide +kernel)
set_option maxRecDepth 20000 in
theorem gX5_output_X5_isRegister : GoodIn wsX5_output (va_wsS RX5 147 yX5_isRegister wsX5_isRegister) := goodIn_app (goodIn_of _ (by decide +kernel)) ggX5_output_X5_isRegister
set_option maxRecDepth 20000 in
theorem ggX5_output_X5_in : GoodIn wsX5_output wsX5_in := goodIn_r _ [18] (by decide +kernel) (by decide +kernel)
set_option maxRecDepth 20000 in
theorem gX5_output_X5_in : GoodIn wsX5_output (va_wsS RX5 165 yX5_in wsX5_in) := goodIn_app (goodIn_of _ (by decide +kernel)) ggX5_output_X5_in
set_option maxRecDepth 20000 in
theorem ggX5_output_X5_rootOf : GoodIn wsX5_output wsX5_rootOf := goodIn_r _ [22, 23, 24, 25, 26, 27, 28, 29, 11, 30, 31, 32, 33, 34, 35, 36, 37, 38, 39, 40, 41, 42, 43, 44, 45, 46, 47, 48, 49, 50, 51, 52, 53, 4, 54, 55, 56, 57, 5, 58, 59, 60, 61, 62, 63, 64, 65, 66, 67, 68, 69, 70, 71, 72, 73, 74, 75, 76, 77, 78, 79, 80, 81, 82, 83, 84, 85, 86, 87, 88, 89, 90, 91, 92, 93, 94, 95, 96, 97, 98, 99, 100, 101, 102, 103, 104, 105, 106, 107, 108, 109, 110, 111, 112, 113] (by decide +kernel) (by decide +kernel)
set_option maxRecDepth 20000 in
theorem gX5_output_X5_rootOf : GoodIn wsX5_output (wsV RX5 169 RX5 yX5_rootOf wsX5_rootOf) := goodIn_app (goodIn_of _ (by decide +kernel)) ggX5_output_X5_rootOf
set_option maxRecDepth 20000 in
theorem ggX5_output_X5_mix : GoodIn wsX5_output wsX5_mix := goodIn_r _ [61, 5, 33, 39, 52, 62, 53, 63, 64, 65, 66, 67, 11, 68, 69, 70, 71, 86, 87, 88, 89, 90, 91, 92, 93, 94, 95, 96, 97, 98, 99, 100, 101, 102, 103, 104, 105, 106, 107, 108, 109, 110, 111, 112, 113] (by decide +kernel) (by decide +kernel)
set_option maxRecDepth 20000 in
theorem gX5_output_X5_mix : GoodIn wsX5_output (wsV RX5 107 RX5 yX5_mix wsX5_mix) := goodIn_app (goodIn_of _ (by decide +kernel)) ggX5_output_X5_mix
theorem dX5_output_0 : decode cX5_output 0 = .ok (.iload_n 1, 1) := by decide +kernel
theorem dX5_output_1 : decode cX5_output 1 = .ok (.invokestatic 153, 3) := by decide +kernel
theorem dX5_output_4 : decode cX5_output 4 = .ok (.ifCond .eq 33, 3) := by decide +kernel
theorem dX5_output_7 : decode cX5_output 7 = .ok (.iload_n 2, 1) := by decide +kernel
theorem dX5_output_8 : decode cX5_output 8 = .ok (.invokestatic 147, 3) := by decide +kernel
theorem dX5_output_11 : decode cX5_output 11 = .ok (.ifCond .eq 26, 3) := by decide +kernel
theorem dX5_output_14 : decode cX5_output 14 = .ok (.iload_n 3, 1) := by decide +kernel
theorem dX5_output_15 : decode cX5_output 15 = .ok (.ifCond .lt 22, 3) := by decide +kernel
theorem dX5_output_18 : decode cX5_output 18 = .ok (.iload_n 3, 1) := by decide +kernel
theorem dX5_output_19 : decode cX5_output 19 = .ok (.sipush 200, 3) := by decide +kernel
theorem dX5_output_22 : decode cX5_output 22 = .ok (.if_icmp .gt 15, 3) := by decide +kernel
theorem dX5_output_25 : decode cX5_output 25 = .ok (.lload 4, 2) := by decide +kernel
theorem dX5_output_27 : decode cX5_output 27 = .ok (.lconst 0, 1) := by decide +kernel
theorem dX5_output_28 : decode cX5_output 28 = .ok (.ldc2_w 163, 3) := by decide +kernel
theorem dX5_output_31 : decode cX5_output 31 = .ok (.invokestatic 165, 3) := by decide +kernel
theorem dX5_output_34 : decode cX5_output 34 = .ok (.ifCond .ne 6, 3) := by decide +kernel
theorem dX5_output_37 : decode cX5_output 37 = .ok (.bipush (-2), 2) := by decide +kernel
theorem dX5_output_39 : decode cX5_output 39 = .ok (.ireturn, 1) := by decide +kernel
theorem dX5_output_40 : decode cX5_output 40 = .ok (.aload_n 0, 1) := by decide +kernel
theorem dX5_output_41 : decode cX5_output 41 = .ok (.iload_n 1, 1) := by decide +kernel
theorem dX5_output_42 : decode cX5_output 42 = .ok (.invokevirtual 169, 3) := by decide +kernel
theorem dX5_output_45 : decode cX5_output 45 = .ok (.ldc2_w 172, 3) := by decide +kernel
theorem dX5_output_48 : decode cX5_output 48 = .ok (.lstore 6, 2) := by decide +kernel
theorem dX5_output_50 : decode cX5_output 50 = .ok (.iconst 0, 1) := by decide +kernel
theorem dX5_output_51 : decode cX5_output 51 = .ok (.istore 8, 2) := by decide +kernel
theorem dX5_output_53 : decode cX5_output 53 = .ok (.iload 8, 2) := by decide +kernel
theorem dX5_output_55 : decode cX5_output 55 = .ok (.iload_n 3, 1) := by decide +kernel
theorem dX5_output_56 : decode cX5_output 56 = .ok (.if_icmp .ge 96, 3) := by decide +kernel
theorem dX5_output_59 : decode cX5_output 59 = .ok (.lload 4, 2) := by decide +kernel
theorem dX5_output_61 : decode cX5_output 61 = .ok (.iload 8, 2) := by decide +kernel
theorem dX5_output_63 : decode cX5_output 63 = .ok (.i2l, 1) := by decide +kernel
theorem dX5_output_64 : decode cX5_output 64 = .ok (.ladd, 1) := by decide +kernel
theorem dX5_output_65 : decode cX5_output 65 = .ok (.lstore 9, 2) := by decide +kernel
theorem dX5_output_67 : decode cX5_output 67 = .ok (.lload 9, 2) := by decide +kernel
theorem dX5_output_69 : decode cX5_output 69 = .ok (.ldc2_w 174, 3) := by decide +kernel
theorem dX5_output_72 : decode cX5_output 72 = .ok (.ldiv, 1) := by decide +kernel
theorem dX5_output_73 : decode cX5_output 73 = .ok (.lload 6, 2) := by decide +kernel
theorem dX5_output_75 : decode cX5_output 75 = .ok (.lcmp, 1) := by decide +kernel
theorem dX5_output_76 : decode cX5_output 76 = .ok (.ifCond .eq 24, 3) := by decide +kernel
theorem dX5_output_79 : decode cX5_output 79 = .ok (.lload 9, 2) := by decide +kernel
theorem dX5_output_81 : decode cX5_output 81 = .ok (.ldc2_w 174, 3) := by decide +kernel
theorem dX5_output_84 : decode cX5_output 84 = .ok (.ldiv, 1) := by decide +kernel
theorem dX5_output_85 : decode cX5_output 85 = .ok (.lstore 6, 2) := by decide +kernel
theorem dX5_output_87 : decode cX5_output 87 = .ok (.aload_n 0, 1) := by decide +kernel
theorem dX5_output_88 : decode cX5_output 88 = .ok (.lload 6, 2) := by decide +kernel
theorem dX5_output_90 : decode cX5_output 90 = .ok (.aload_n 0, 1) := by decide +kernel
theorem dX5_output_91 : decode cX5_output 91 = .ok (.getfield 104, 3) := by decide +kernel
theorem dX5_output_94 : decode cX5_output 94 = .ok (.bipush 8, 2) := by decide +kernel
theorem dX5_output_96 : decode cX5_output 96 = .ok (.iadd, 1) := by decide +kernel
theorem dX5_output_97 : decode cX5_output 97 = .ok (.invokevirtual 107, 3) := by decide +kernel
theorem dX5_output_100 : decode cX5_output 100 = .ok (.aload_n 0, 1) := by decide +kernel
theorem dX5_output_101 : decode cX5_output 101 = .ok (.getfield 53, 3) := by decide +kernel
theorem dX5_output_104 : decode cX5_output 104 = .ok (.lload 9, 2) := by decide +kernel
theorem dX5_output_106 : decode cX5_output 106 = .ok (.ldc2_w 174, 3) := by decide +kernel
theorem dX5_output_109 : decode cX5_output 109 = .ok (.lrem, 1) := by decide +kernel
theorem dX5_output_110 : decode cX5_output 110 = .ok (.l2i, 1) := by decide +kernel
theorem dX5_output_111 : decode cX5_output 111 = .ok (.iconst 4, 1) := by decide +kernel
theorem dX5_output_112 : decode cX5_output 112 = .ok (.idiv, 1) := by decide +kernel
theorem dX5_output_113 : decode cX5_output 113 = .ok (.iaload, 1) := by decide +kernel
theorem dX5_output_114 : decode cX5_output 114 = .ok (.istore 11, 2) := by decide +kernel
theorem dX5_output_116 : decode cX5_output 116 = .ok (.aload_n 0, 1) := by decide +kernel
theorem dX5_output_117 : decode cX5_output 117 = .ok (.getfield 7, 3) := by decide +kernel
theorem dX5_output_120 : decode cX5_output 120 = .ok (.sipush 200, 3) := by decide +kernel
theorem dX5_output_123 : decode cX5_output 123 = .ok (.iload_n 2, 1) := by decide +kernel
theorem dX5_output_124 : decode cX5_output 124 = .ok (.imul, 1) := by decide +kernel
theorem dX5_output_125 : decode cX5_output 125 = .ok (.iload 8, 2) := by decide +kernel
theorem dX5_output_127 : decode cX5_output 127 = .ok (.iadd, 1) := by decide +kernel
theorem dX5_output_128 : decode cX5_output 128 = .ok (.iload 11, 2) := by decide +kernel
theorem dX5_output_130 : decode cX5_output 130 = .ok (.bipush 8, 2) := by decide +kernel
theorem dX5_output_132 : decode cX5_output 132 = .ok (.lload 9, 2) := by decide +kernel
theorem dX5_output_134 : decode cX5_output 134 = .ok (.ldc2_w 176, 3) := by decide +kernel
theorem dX5_output_137 : decode cX5_output 137 = .ok (.lrem, 1) := by decide +kernel
theorem dX5_output_138 : decode cX5_output 138 = .ok (.l2i, 1) := by decide +kernel
theorem dX5_output_139 : decode cX5_output 139 = .ok (.imul, 1) := by decide +kernel
theorem dX5_output_140 : decode cX5_output 140 = .ok (.ishr, 1) := by decide +kernel
theorem dX5_output_141 : decode cX5_output 141 = .ok (.sipush 255, 3) := by decide +kernel
theorem dX5_output_144 : decode cX5_output 144 = .ok (.iand, 1) := by decide +kernel
theorem dX5_output_145 : decode cX5_output 145 = .ok (.iastore, 1) := by decide +kernel
theorem dX5_output_146 : decode cX5_output 146 = .ok (.iinc 8 1, 3) := by decide +kernel
theorem dX5_output_149 : decode cX5_output 149 = .ok (.goto (-96), 3) := by decide +kernel
theorem dX5_output_152 : decode cX5_output 152 = .ok (.aload_n 0, 1) := by decide +kernel
theorem dX5_output_153 : decode cX5_output 153 = .ok (.getfield 13, 3) := by decide +kernel
theorem dX5_output_156 : decode cX5_output 156 = .ok (.iload_n 2, 1) := by decide +kernel
theorem dX5_output_157 : decode cX5_output 157 = .ok (.iload_n 3, 1) := by decide +kernel
theorem dX5_output_158 : decode cX5_output 158 = .ok (.iastore, 1) := by decide +kernel
theorem dX5_output_159 : decode cX5_output 159 = .ok (.iload_n 3, 1) := by decide +kernel
theorem dX5_output_160 : decode cX5_output 160 = .ok (.ireturn, 1) := by decide +kernel
set_option maxRecDepth 20000 in
theorem ggX5_copy_X5_isHasher : GoodIn wsX5_copy wsX5_isHasher := goodIn_r _ [11] (by decide +kernel) (by decide +kernel)
set_option maxRecDepth 20000 in
theorem gX5_copy_X5_isHasher : GoodIn wsX5_copy (va_wsS RX5 153 yX5_isHasher wsX5_isHasher) := goodIn_app (goodIn_of _ (by decide +kernel)) ggX5_copy_X5_isHasher
theorem dX5_copy_0 : decode cX5_copy 0 = .ok (.iload_n 1, 1) := by decide +kernel
theorem dX5_copy_1 : decode cX5_copy 1 = .ok (.invokestatic 153, 3) := by decide +kernel
theorem dX5_copy_4 : decode cX5_copy 4 = .ok (.ifCond .eq 10, 3) := by decide +kernel
theorem dX5_copy_7 : decode cX5_copy 7 = .ok (.iload_n 2, 1) := by decide +kernel
theorem dX5_copy_8 : decode cX5_copy 8 = .ok (.invokestatic 153, 3) := by decide +kernel
theorem dX5_copy_11 : decode cX5_copy 11 = .ok (.ifCond .ne 6, 3) := by decide +kernel
theorem dX5_copy_14 : decode cX5_copy 14 = .ok (.bipush (-2), 2) := by decide +kernel
theorem dX5_copy_16 : decode cX5_copy 16 = .ok (.ireturn, 1) := by decide +kernel
theorem dX5_copy_17 : decode cX5_copy 17 = .ok (.iconst 0, 1) := by decide +kernel
theorem dX5_copy_18 : decode cX5_copy 18 = .ok (.istore_n 3, 1) := by decide +kernel
theorem dX5_copy_19 : decode cX5_copy 19 = .ok (.iload_n 3, 1) := by decide +kernel
theorem dX5_copy_20 : decode cX5_copy 20 = .ok (.aload_n 0, 1) := by decide +kernel
theorem dX5_copy_21 : decode cX5_copy 21 = .ok (.getfield 20, 3) := by decide +kernel
theorem dX5_copy_24 : decode cX5_copy 24 = .ok (.iload_n 1, 1) := by decide +kernel
theorem dX5_copy_25 : decode cX5_copy 25 = .ok (.iaload, 1) := by decide +kernel
theorem dX5_copy_26 : decode cX5_copy 26 = .ok (.if_icmp .ge 31, 3) := by decide +kernel
theorem dX5_copy_29 : decode cX5_copy 29 = .ok (.aload_n 0, 1) := by decide +kernel
theorem dX5_copy_30 : decode cX5_copy 30 = .ok (.getfield 17, 3) := by decide +kernel
theorem dX5_copy_33 : decode cX5_copy 33 = .ok (.ldc 146, 2) := by decide +kernel
theorem dX5_copy_35 : decode cX5_copy 35 = .ok (.iload_n 2, 1) := by decide +kernel
theorem dX5_copy_36 : decode cX5_copy 36 = .ok (.imul, 1) := by decide +kernel
theorem dX5_copy_37 : decode cX5_copy 37 = .ok (.iload_n 3, 1) := by decide +kernel
theorem dX5_copy_38 : decode cX5_copy 38 = .ok (.iadd, 1) := by decide +kernel
theorem dX5_copy_39 : decode cX5_copy 39 = .ok (.aload_n 0, 1) := by decide +kernel
theorem dX5_copy_40 : decode cX5_copy 40 = .ok (.getfield 17, 3) := by decide +kernel
theorem dX5_copy_43 : decode cX5_copy 43 = .ok (.ldc 146, 2) := by decide +kernel
theorem dX5_copy_45 : decode cX5_copy 45 = .ok (.iload_n 1, 1) := by decide +kernel
theorem dX5_copy_46 : decode cX5_copy 46 = .ok (.imul, 1) := by decide +kernel
theorem dX5_copy_47 : decode cX5_copy 47 = .ok (.iload_n 3, 1) := by decide +kernel
theorem dX5_copy_48 : decode cX5_copy 48 = .ok (.iadd, 1) := by decide +kernel
theorem dX5_copy_49 : decode cX5_copy 49 = .ok (.iaload, 1) := by decide +kernel
theorem dX5_copy_50 : decode cX5_copy 50 = .ok (.iastore, 1) := by decide +kernel
theorem dX5_copy_51 : decode cX5_copy 51 = .ok (.iinc 3 1, 3) := by decide +kernel
theorem dX5_copy_54 : decode cX5_copy 54 = .ok (.goto (-35), 3) := by decide +kernel
theorem dX5_copy_57 : decode cX5_copy 57 = .ok (.iconst 0, 1) := by decide +kernel
theorem dX5_copy_58 : decode cX5_copy 58 = .ok (.istore_n 3, 1) := by decide +kernel
theorem dX5_copy_59 : decode cX5_copy 59 = .ok (.iload_n 3, 1) := by decide +kernel
theorem dX5_copy_60 : decode cX5_copy 60 = .ok (.bipush 8, 2) := by decide +kernel
theorem dX5_copy_62 : decode cX5_copy 62 = .ok (.if_icmp .ge 31, 3) := by decide +kernel
theorem dX5_copy_65 : decode cX5_copy 65 = .ok (.aload_n 0, 1) := by decide +kernel
theorem dX5_copy_66 : decode cX5_copy 66 = .ok (.getfield 26, 3) := by decide +kernel
theorem dX5_copy_69 : decode cX5_copy 69 = .ok (.bipush 8, 2) := by decide +kernel
theorem dX5_copy_71 : decode cX5_copy 71 = .ok (.iload_n 2, 1) := by decide +kernel
theorem dX5_copy_72 : decode cX5_copy 72 = .ok (.imul, 1) := by decide +kernel
theorem dX5_copy_73 : decode cX5_copy 73 = .ok (.iload_n 3, 1) := by decide +kernel
theorem dX5_copy_74 : decode cX5_copy 74 = .ok (.iadd, 1) := by decide +kernel
theorem dX5_copy_75 : decode cX5_copy 75 = .ok (.aload_n 0, 1) := by decide +kernel
theorem dX5_copy_76 : decode cX5_copy 76 = .ok (.getfield 26, 3) := by decide +kernel
theorem dX5_copy_79 : decode cX5_copy 79 = .ok (.bipush 8, 2) := by decide +kernel
theorem dX5_copy_81 : decode cX5_copy 81 = .ok (.iload_n 1, 1) := by decide +kernel
theorem dX5_copy_82 : decode cX5_copy 82 = .ok (.imul, 1) := by decide +kernel
theorem dX5_copy_83 : decode cX5_copy 83 = .ok (.iload_n 3, 1) := by decide +kernel
theorem dX5_copy_84 : decode cX5_copy 84 = .ok (.iadd, 1) := by decide +kernel
theorem dX5_copy_85 : decode cX5_copy 85 = .ok (.iaload, 1) := by decide +kernel
theorem dX5_copy_86 : decode cX5_copy 86 = .ok (.iastore, 1) := by decide +kernel
theorem dX5_copy_87 : decode cX5_copy 87 = .ok (.iinc 3 1, 3) := by decide +kernel
theorem dX5_copy_90 : decode cX5_copy 90 = .ok (.goto (-31), 3) := by decide +kernel
theorem dX5_copy_93 : decode cX5_copy 93 = .ok (.iconst 0, 1) := by decide +kernel
theorem dX5_copy_94 : decode cX5_copy 94 = .ok (.istore_n 3, 1) := by decide +kernel
theorem dX5_copy_95 : decode cX5_copy 95 = .ok (.iload_n 3, 1) := by decide +kernel
theorem dX5_copy_96 : decode cX5_copy 96 = .ok (.sipush 320, 3) := by decide +kernel
theorem dX5_copy_99 : decode cX5_copy 99 = .ok (.if_icmp .ge 33, 3) := by decide +kernel
theorem dX5_copy_102 : decode cX5_copy 102 = .ok (.aload_n 0, 1) := by decide +kernel
theorem dX5_copy_103 : decode cX5_copy 103 = .ok (.getfield 29, 3) := by decide +kernel
theorem dX5_copy_106 : decode cX5_copy 106 = .ok (.sipush 320, 3) := by decide +kernel
theorem dX5_copy_109 : decode cX5_copy 109 = .ok (.iload_n 2, 1) := by decide +kernel
theorem dX5_copy_110 : decode cX5_copy 110 = .ok (.imul, 1) := by decide +kernel
theorem dX5_copy_111 : decode cX5_copy 111 = .ok (.iload_n 3, 1) := by decide +kernel
theorem dX5_copy_112 : decode cX5_copy 112 = .ok (.iadd, 1) := by decide +kernel
theorem dX5_copy_113 : decode cX5_copy 113 = .ok (.aload_n 0, 1) := by decide +kernel
theorem dX5_copy_114 : decode cX5_copy 114 = .ok (.getfield 29, 3) := by decide +kernel
theorem dX5_copy_117 : decode cX5_copy 117 = .ok (.sipush 320, 3) := by decide +kernel
theorem dX5_copy_120 : decode cX5_copy 120 = .ok (.iload_n 1, 1) := by decide +kernel
theorem dX5_copy_121 : decode cX5_copy 121 = .ok (.imul, 1) := by decide +kernel
theorem dX5_copy_122 : decode cX5_copy 122 = .ok (.iload_n 3, 1) := by decide +kernel
theorem dX5_copy_123 : decode cX5_copy 123 = .ok (.iadd, 1) := by decide +kernel
theorem dX5_copy_124 : decode cX5_copy 124 = .ok (.iaload, 1) := by decide +kernel
theorem dX5_copy_125 : decode cX5_copy 125 = .ok (.iastore, 1) := by decide +kernel
theorem dX5_copy_126 : decode cX5_copy 126 = .ok (.iinc 3 1, 3) := by decide +kernel
theorem dX5_copy_129 : decode cX5_copy 129 = .ok (.goto (-34), 3) := by decide +kernel
theorem dX5_copy_132 : decode cX5_copy 132 = .ok (.aload_n 0, 1) := by decide +kernel
theorem dX5_copy_133 : decode cX5_copy 133 = .ok (.getfield 20, 3) := by decide +kernel
theorem dX5_copy_136 : decode cX5_copy 136 = .ok (.iload_n 2, 1) := by decide +kernel
theorem dX5_copy_137 : decode cX5_copy 137 = .ok (.aload_n 0, 1) := by decide +kernel
theorem dX5_copy_138 : decode cX5_copy 138 = .ok (.getfield 20, 3) := by decide +kernel
theorem dX5_copy_141 : decode cX5_copy 141 = .ok (.iload_n 1, 1) := by decide +kernel
theorem dX5_copy_142 : decode cX5_copy 142 = .ok (.iaload, 1) := by decide +kernel
theorem dX5_copy_143 : decode cX5_copy 143 = .ok (.iastore, 1) := by decide +kernel
theorem dX5_copy_144 : decode cX5_copy 144 = .ok (.aload_n 0, 1) := by decide +kernel
theorem dX5_copy_145 : decode cX5_copy 145 = .ok (.getfield 23, 3) := by decide +kernel
theorem dX5_copy_148 : decode cX5_copy 148 = .ok (.iload_n 2, 1) := by decide +kernel
theorem dX5_copy_149 : decode cX5_copy 149 = .ok (.aload_n 0, 1) := by decide +kernel
theorem dX5_copy_150 : decode cX5_copy 150 = .ok (.getfield 23, 3) := by decide +kernel
theorem dX5_copy_153 : decode cX5_copy 153 = .ok (.iload_n 1, 1) := by decide +kernel
theorem dX5_copy_154 : decode cX5_copy 154 = .ok (.iaload, 1) := by decide +kernel
theorem dX5_copy_155 : decode cX5_copy 155 = .ok (.iastore, 1) := by decide +kernel
theorem dX5_copy_156 : decode cX5_copy 156 = .ok (.aload_n 0, 1) := by decide +kernel
theorem dX5_copy_157 : decode cX5_copy 157 = .ok (.getfield 32, 3) := by decide +kernel
theorem dX5_copy_160 : decode cX5_copy 160 = .ok (.iload_n 2, 1) := by decide +kernel
theorem dX5_copy_161 : decode cX5_copy 161 = .ok (.aload_n 0, 1) := by decide +kernel
theorem dX5_copy_162 : decode cX5_copy 162 = .ok (.getfield 32, 3) := by decide +kernel
theorem dX5_copy_165 : decode cX5_copy 165 = .ok (.iload_n 1, 1) := by decide +kernel
theorem dX5_copy_166 : decode cX5_copy 166 = .ok (.iaload, 1) := by decide +kernel
theorem dX5_copy_167 : decode cX5_copy 167 = .ok (.iastore, 1) := by decide +kernel
theorem dX5_copy_168 : decode cX5_copy 168 = .ok (.aload_n 0, 1) := by decide +kernel
theorem dX5_copy_169 : decode cX5_copy 169 = .ok (.getfield 20, 3) := by decide +kernel
theorem dX5_copy_172 : decode cX5_copy 172 = .ok (.iload_n 2, 1) := by decide +kernel
theorem dX5_copy_173 : decode cX5_copy 173 = .ok (.iaload, 1) := by decide +kernel
theorem dX5_copy_174 : decode cX5_copy 174 = .ok (.ireturn, 1) := by decide +kernel
set_option maxRecDepth 20000 in
theorem ggX5_told_X5_isHasher : GoodIn wsX5_told wsX5_isHasher := goodIn_r _ [6] (by decide +kernel) (by decide +kernel)
set_option maxRecDepth 20000 in
theorem gX5_told_X5_isHasher : GoodIn wsX5_told (va_wsS RX5 153 yX5_isHasher wsX5_isHasher) := goodIn_app (goodIn_of _ (by decide +kernel)) ggX5_told_X5_isHasher
set_option maxRecDepth 20000 in
theorem ggX5_told_X5_closedOf : GoodIn wsX5_told wsX5_closedOf := goodIn_r _ [10, 2, 11, 12, 13, 14, 15, 16, 17, 18, 19, 20, 21, 22, 23, 24, 25, 26, 27, 28, 29, 30, 31, 32, 33, 34, 35, 36, 37, 38] (by decide +kernel) (by decide +kernel)
set_option maxRecDepth 20000 in
theorem gX5_told_X5_closedOf : GoodIn wsX5_told (wsV RX5 142 RX5 yX5_closedOf wsX5_closedOf) := goodIn_app (goodIn_of _ (by decide +kernel)) ggX5_told_X5_closedOf
theorem dX5_told_0 : decode cX5_told 0 = .ok (.iload_n 1, 1) := by decide +kernel
theorem dX5_told_1 : decode cX5_told 1 = .ok (.invokestatic 153, 3) := by decide +kernel
theorem dX5_told_4 : decode cX5_told 4 = .ok (.ifCond .eq 12, 3) := by decide +kernel
theorem dX5_told_7 : decode cX5_told 7 = .ok (.iload_n 2, 1) := by decide +kernel
theorem dX5_told_8 : decode cX5_told 8 = .ok (.ifCond .lt 8, 3) := by decide +kernel
theorem dX5_told_11 : decode cX5_told 11 = .ok (.iload_n 2, 1) := by decide +kernel
theorem dX5_told_12 : decode cX5_told 12 = .ok (.iconst 4, 1) := by decide +kernel
theorem dX5_told_13 : decode cX5_told 13 = .ok (.if_icmp .le 6, 3) := by decide +kernel
theorem dX5_told_16 : decode cX5_told 16 = .ok (.bipush (-2), 2) := by decide +kernel
theorem dX5_told_18 : decode cX5_told 18 = .ok (.ireturn, 1) := by decide +kernel
theorem dX5_told_19 : decode cX5_told 19 = .ok (.aload_n 0, 1) := by decide +kernel
theorem dX5_told_20 : decode cX5_told 20 = .ok (.iload_n 1, 1) := by decide +kernel
theorem dX5_told_21 : decode cX5_told 21 = .ok (.invokevirtual 142, 3) := by decide +kernel
theorem dX5_told_24 : decode cX5_told 24 = .ok (.istore_n 3, 1) := by decide +kernel
theorem dX5_told_25 : decode cX5_told 25 = .ok (.iconst 0, 1) := by decide +kernel
theorem dX5_told_26 : decode cX5_told 26 = .ok (.istore 4, 2) := by decide +kernel
theorem dX5_told_28 : decode cX5_told 28 = .ok (.iload_n 3, 1) := by decide +kernel
theorem dX5_told_29 : decode cX5_told 29 = .ok (.istore 5, 2) := by decide +kernel
theorem dX5_told_31 : decode cX5_told 31 = .ok (.iload 5, 2) := by decide +kernel
theorem dX5_told_33 : decode cX5_told 33 = .ok (.ifCond .le 21, 3) := by decide +kernel
theorem dX5_told_36 : decode cX5_told 36 = .ok (.iload 4, 2) := by decide +kernel
theorem dX5_told_38 : decode cX5_told 38 = .ok (.iload 5, 2) := by decide +kernel
theorem dX5_told_40 : decode cX5_told 40 = .ok (.iconst 2, 1) := by decide +kernel
theorem dX5_told_41 : decode cX5_told 41 = .ok (.irem, 1) := by decide +kernel
theorem dX5_told_42 : decode cX5_told 42 = .ok (.iadd, 1) := by decide +kernel
theorem dX5_told_43 : decode cX5_told 43 = .ok (.istore 4, 2) := by decide +kernel
theorem dX5_told_45 : decode cX5_told 45 = .ok (.iload 5, 2) := by decide +kernel
theorem dX5_told_47 : decode cX5_told 47 = .ok (.iconst 2, 1) := by decide +kernel
theorem dX5_told_48 : decode cX5_told 48 = .ok (.idiv, 1) := by decide +kernel
theorem dX5_told_49 : decode cX5_told 49 = .ok (.istore 5, 2) := by decide +kernel
theorem dX5_told_51 : decode cX5_told 51 = .ok (.goto (-20), 3) := by decide +kernel
theorem dX5_told_54 : decode cX5_told 54 = .ok (.iload_n 2, 1) := by decide +kernel
theorem dX5_told_55 : decode cX5_told 55 = .ok (.ifCond .ne 12, 3) := by decide +kernel
theorem dX5_told_58 : decode cX5_told 58 = .ok (.aload_n 0, 1) := by decide +kernel
theorem dX5_told_59 : decode cX5_told 59 = .ok (.getfield 23, 3) := by decide +kernel
theorem dX5_told_62 : decode cX5_told 62 = .ok (.iload_n 1, 1) := by decide +kernel
theorem dX5_told_63 : decode cX5_told 63 = .ok (.iaload, 1) := by decide +kernel
theorem dX5_told_64 : decode cX5_told 64 = .ok (.goto 48, 3) := by decide +kernel
theorem dX5_told_67 : decode cX5_told 67 = .ok (.iload_n 2, 1) := by decide +kernel
theorem dX5_told_68 : decode cX5_told 68 = .ok (.iconst 1, 1) := by decide +kernel
theorem dX5_told_69 : decode cX5_told 69 = .ok (.if_icmp .ne 12, 3) := by decide +kernel
theorem dX5_told_72 : decode cX5_told 72 = .ok (.aload_n 0, 1) := by decide +kernel
theorem dX5_told_73 : decode cX5_told 73 = .ok (.getfield 20, 3) := by decide +kernel
theorem dX5_told_76 : decode cX5_told 76 = .ok (.iload_n 1, 1) := by decide +kernel
theorem dX5_told_77 : decode cX5_told 77 = .ok (.iaload, 1) := by decide +kernel
theorem dX5_told_78 : decode cX5_told 78 = .ok (.goto 34, 3) := by decide +kernel
theorem dX5_told_81 : decode cX5_told 81 = .ok (.iload_n 2, 1) := by decide +kernel
theorem dX5_told_82 : decode cX5_told 82 = .ok (.iconst 2, 1) := by decide +kernel
theorem dX5_told_83 : decode cX5_told 83 = .ok (.if_icmp .ne 7, 3) := by decide +kernel
theorem dX5_told_86 : decode cX5_told 86 = .ok (.iload_n 3, 1) := by decide +kernel
theorem dX5_told_87 : decode cX5_told 87 = .ok (.goto 25, 3) := by decide +kernel
theorem dX5_told_90 : decode cX5_told 90 = .ok (.iload_n 2, 1) := by decide +kernel
theorem dX5_told_91 : decode cX5_told 91 = .ok (.iconst 3, 1) := by decide +kernel
theorem dX5_told_92 : decode cX5_told 92 = .ok (.if_icmp .ne 8, 3) := by decide +kernel
theorem dX5_told_95 : decode cX5_told 95 = .ok (.iload 4, 2) := by decide +kernel
theorem dX5_told_97 : decode cX5_told 97 = .ok (.goto 15, 3) := by decide +kernel
theorem dX5_told_100 : decode cX5_told 100 = .ok (.aload_n 0, 1) := by decide +kernel
theorem dX5_told_101 : decode cX5_told 101 = .ok (.getfield 20, 3) := by decide +kernel
theorem dX5_told_104 : decode cX5_told 104 = .ok (.iload_n 1, 1) := by decide +kernel
theorem dX5_told_105 : decode cX5_told 105 = .ok (.iaload, 1) := by decide +kernel
theorem dX5_told_106 : decode cX5_told 106 = .ok (.sipush 1024, 3) := by decide +kernel
theorem dX5_told_109 : decode cX5_told 109 = .ok (.iload_n 3, 1) := by decide +kernel
theorem dX5_told_110 : decode cX5_told 110 = .ok (.imul, 1) := by decide +kernel
theorem dX5_told_111 : decode cX5_told 111 = .ok (.isub, 1) := by decide +kernel
theorem dX5_told_112 : decode cX5_told 112 = .ok (.ireturn, 1) := by decide +kernel
set_option maxRecDepth 20000 in
theorem ggX5_chain_X5_isHasher : GoodIn wsX5_chain wsX5_isHasher := goodIn_r _ [6] (by decide +kernel) (by decide +kernel)
set_option maxRecDepth 20000 in
theorem gX5_chain_X5_isHasher : GoodIn wsX5_chain (va_wsS RX5 153 yX5_isHasher wsX5_isHasher) := goodIn_app (goodIn_of _ (by decide +kernel)) ggX5_chain_X5_isHasher
set_option maxRecDepth 20000 in
theorem ggX5_chain_X5_pileOf : GoodIn wsX5_chain wsX5_pileOf := goodIn_r _ [10, 11, 12, 13, 14, 15, 16, 17, 18, 5, 19, 20, 21, 22, 23, 24, 25, 26, 27, 28, 29, 30, 31, 32, 33, 34, 35, 36, 37, 38, 39, 40, 41, 42, 43, 44, 45, 46, 47, 48, 49, 50, 51, 52, 53, 54, 55, 56, 57, 58, 59, 60, 1, 61, 62, 63, 64, 65, 2, 66, 67, 68, 69, 70, 71, 72, 73, 74, 75, 76, 77, 78, 79, 80, 81, 82, 83, 84, 85, 86, 87, 88, 89, 90, 91, 92, 93, 94, 95, 96, 97] (by decide +kernel) (by decide +kernel)
set_option maxRecDepth 20000 in
theorem gX5_chain_X5_pileOf : GoodIn wsX5_chain (wsV RX5 160 RX5 yX5_pileOf wsX5_pileOf) := goodIn_app (goodIn_of _ (by decide +kernel)) ggX5_chain_X5_pileOf
theorem dX5_chain_0 : decode cX5_chain 0 = .ok (.iload_n 1, 1) := by decide +kernel
theorem dX5_chain_1 : decode cX5_chain 1 = .ok (.invokestatic 153, 3) := by decide +kernel
theorem dX5_chain_4 : decode cX5_chain 4 = .ok (.ifCond .ne 6, 3) := by decide +kernel
theorem dX5_chain_7 : decode cX5_chain 7 = .ok (.bipush (-2), 2) := by decide +kernel
theorem dX5_chain_9 : decode cX5_chain 9 = .ok (.ireturn, 1) := by decide +kernel
theorem dX5_chain_10 : decode cX5_chain 10 = .ok (.iload_n 2, 1) := by decide +kernel
theorem dX5_chain_11 : decode cX5_chain 11 = .ok (.ifCond .lt 13, 3) := by decide +kernel
theorem dX5_chain_14 : decode cX5_chain 14 = .ok (.iload_n 3, 1) := by decide +kernel
theorem dX5_chain_15 : decode cX5_chain 15 = .ok (.ifCond .lt 9, 3) := by decide +kernel
theorem dX5_chain_18 : decode cX5_chain 18 = .ok (.iload_n 3, 1) := by decide +kernel
theorem dX5_chain_19 : decode cX5_chain 19 = .ok (.bipush 7, 2) := by decide +kernel
theorem dX5_chain_21 : decode cX5_chain 21 = .ok (.if_icmp .le 5, 3) := by decide +kernel
theorem dX5_chain_24 : decode cX5_chain 24 = .ok (.iconst 0, 1) := by decide +kernel
theorem dX5_chain_25 : decode cX5_chain 25 = .ok (.ireturn, 1) := by decide +kernel
theorem dX5_chain_26 : decode cX5_chain 26 = .ok (.aload_n 0, 1) := by decide +kernel
theorem dX5_chain_27 : decode cX5_chain 27 = .ok (.iload_n 1, 1) := by decide +kernel
theorem dX5_chain_28 : decode cX5_chain 28 = .ok (.invokevirtual 160, 3) := by decide +kernel
theorem dX5_chain_31 : decode cX5_chain 31 = .ok (.iload_n 2, 1) := by decide +kernel
theorem dX5_chain_32 : decode cX5_chain 32 = .ok (.aload_n 0, 1) := by decide +kernel
theorem dX5_chain_33 : decode cX5_chain 33 = .ok (.getfield 117, 3) := by decide +kernel
theorem dX5_chain_36 : decode cX5_chain 36 = .ok (.if_icmp .ge 17, 3) := by decide +kernel
theorem dX5_chain_39 : decode cX5_chain 39 = .ok (.aload_n 0, 1) := by decide +kernel
theorem dX5_chain_40 : decode cX5_chain 40 = .ok (.getfield 65, 3) := by decide +kernel
theorem dX5_chain_43 : decode cX5_chain 43 = .ok (.bipush 8, 2) := by decide +kernel
theorem dX5_chain_45 : decode cX5_chain 45 = .ok (.iload_n 2, 1) := by decide +kernel
theorem dX5_chain_46 : decode cX5_chain 46 = .ok (.imul, 1) := by decide +kernel
theorem dX5_chain_47 : decode cX5_chain 47 = .ok (.iload_n 3, 1) := by decide +kernel
theorem dX5_chain_48 : decode cX5_chain 48 = .ok (.iadd, 1) := by decide +kernel
theorem dX5_chain_49 : decode cX5_chain 49 = .ok (.iaload, 1) := by decide +kernel
theorem dX5_chain_50 : decode cX5_chain 50 = .ok (.goto 4, 3) := by decide +kernel
theorem dX5_chain_53 : decode cX5_chain 53 = .ok (.iconst 0, 1) := by decide +kernel
theorem dX5_chain_54 : decode cX5_chain 54 = .ok (.ireturn, 1) := by decide +kernel
theorem dX5_grow_0 : decode cX5_grow 0 = .ok (.iload_n 1, 1) := by decide +kernel
theorem dX5_grow_1 : decode cX5_grow 1 = .ok (.iconst 1, 1) := by decide +kernel
theorem dX5_grow_2 : decode cX5_grow 2 = .ok (.if_icmp .lt 10, 3) := by decide +kernel
theorem dX5_grow_5 : decode cX5_grow 5 = .ok (.iload_n 1, 1) := by decide +kernel
theorem dX5_grow_6 : decode cX5_grow 6 = .ok (.sipush 5000, 3) := by decide +kernel
theorem dX5_grow_9 : decode cX5_grow 9 = .ok (.if_icmp .le 6, 3) := by decide +kernel
theorem dX5_grow_12 : decode cX5_grow 12 = .ok (.bipush (-2), 2) := by decide +kernel
theorem dX5_grow_14 : decode cX5_grow 14 = .ok (.ireturn, 1) := by decide +kernel
theorem dX5_grow_15 : decode cX5_grow 15 = .ok (.aload_n 0, 1) := by decide +kernel
theorem dX5_grow_16 : decode cX5_grow 16 = .ok (.getfield 178, 3) := by decide +kernel
theorem dX5_grow_19 : decode cX5_grow 19 = .ok (.iload_n 1, 1) := by decide +kernel
theorem dX5_grow_20 : decode cX5_grow 20 = .ok (.iadd, 1) := by decide +kernel
theorem dX5_grow_21 : decode cX5_grow 21 = .ok (.sipush 20000, 3) := by decide +kernel
theorem dX5_grow_24 : decode cX5_grow 24 = .ok (.if_icmp .le 6, 3) := by decide +kernel
theorem dX5_grow_27 : decode cX5_grow 27 = .ok (.bipush (-3), 2) := by decide +kernel
theorem dX5_grow_29 : decode cX5_grow 29 = .ok (.ireturn, 1) := by decide +kernel
theorem dX5_grow_30 : decode cX5_grow 30 = .ok (.iconst 0, 1) := by decide +kernel
theorem dX5_grow_31 : decode cX5_grow 31 = .ok (.istore 4, 2) := by decide +kernel
theorem dX5_grow_33 : decode cX5_grow 33 = .ok (.iload 4, 2) := by decide +kernel
theorem dX5_grow_35 : decode cX5_grow 35 = .ok (.iload_n 1, 1) := by decide +kernel
theorem dX5_grow_36 : decode cX5_grow 36 = .ok (.if_icmp .ge 38, 3) := by decide +kernel
theorem dX5_grow_39 : decode cX5_grow 39 = .ok (.aload_n 0, 1) := by decide +kernel
theorem dX5_grow_40 : decode cX5_grow 40 = .ok (.getfield 35, 3) := by decide +kernel
theorem dX5_grow_43 : decode cX5_grow 43 = .ok (.aload_n 0, 1) := by decide +kernel
theorem dX5_grow_44 : decode cX5_grow 44 = .ok (.getfield 178, 3) := by decide +kernel
theorem dX5_grow_47 : decode cX5_grow 47 = .ok (.iload_n 2, 1) := by decide +kernel
theorem dX5_grow_48 : decode cX5_grow 48 = .ok (.iload 4, 2) := by decide +kernel
theorem dX5_grow_50 : decode cX5_grow 50 = .ok (.iload_n 3, 1) := by decide +kernel
theorem dX5_grow_51 : decode cX5_grow 51 = .ok (.imul, 1) := by decide +kernel
theorem dX5_grow_52 : decode cX5_grow 52 = .ok (.iadd, 1) := by decide +kernel
theorem dX5_grow_53 : decode cX5_grow 53 = .ok (.sipush 255, 3) := by decide +kernel
theorem dX5_grow_56 : decode cX5_grow 56 = .ok (.iand, 1) := by decide +kernel
theorem dX5_grow_57 : decode cX5_grow 57 = .ok (.iastore, 1) := by decide +kernel
theorem dX5_grow_58 : decode cX5_grow 58 = .ok (.aload_n 0, 1) := by decide +kernel
theorem dX5_grow_59 : decode cX5_grow 59 = .ok (.dup, 1) := by decide +kernel
theorem dX5_grow_60 : decode cX5_grow 60 = .ok (.getfield 178, 3) := by decide +kernel
theorem dX5_grow_63 : decode cX5_grow 63 = .ok (.iconst 1, 1) := by decide +kernel
theorem dX5_grow_64 : decode cX5_grow 64 = .ok (.iadd, 1) := by decide +kernel
theorem dX5_grow_65 : decode cX5_grow 65 = .ok (.putfield 178, 3) := by decide +kernel
theorem dX5_grow_68 : decode cX5_grow 68 = .ok (.iinc 4 1, 3) := by decide +kernel
theorem dX5_grow_71 : decode cX5_grow 71 = .ok (.goto (-38), 3) := by decide +kernel
theorem dX5_grow_74 : decode cX5_grow 74 = .ok (.aload_n 0, 1) := by decide +kernel
theorem dX5_grow_75 : decode cX5_grow 75 = .ok (.getfield 178, 3) := by decide +kernel
theorem dX5_grow_78 : decode cX5_grow 78 = .ok (.ireturn, 1) := by decide +kernel
theorem dX5_spoil_0 : decode cX5_spoil 0 = .ok (.iload_n 1, 1) := by decide +kernel
theorem dX5_spoil_1 : decode cX5_spoil 1 = .ok (.ifCond .lt 22, 3) := by decide +kernel
theorem dX5_spoil_4 : decode cX5_spoil 4 = .ok (.iload_n 1, 1) := by decide +kernel
theorem dX5_spoil_5 : decode cX5_spoil 5 = .ok (.aload_n 0, 1) := by decide +kernel
theorem dX5_spoil_6 : decode cX5_spoil 6 = .ok (.getfield 178, 3) := by decide +kernel
theorem dX5_spoil_9 : decode cX5_spoil 9 = .ok (.if_icmp .ge 14, 3) := by decide +kernel
theorem dX5_spoil_12 : decode cX5_spoil 12 = .ok (.iload_n 2, 1) := by decide +kernel
theorem dX5_spoil_13 : decode cX5_spoil 13 = .ok (.ifCond .lt 10, 3) := by decide +kernel
theorem dX5_spoil_16 : decode cX5_spoil 16 = .ok (.iload_n 2, 1) := by decide +kernel
theorem dX5_spoil_17 : decode cX5_spoil 17 = .ok (.sipush 255, 3) := by decide +kernel
theorem dX5_spoil_20 : decode cX5_spoil 20 = .ok (.if_icmp .le 6, 3) := by decide +kernel
theorem dX5_spoil_23 : decode cX5_spoil 23 = .ok (.bipush (-2), 2) := by decide +kernel
theorem dX5_spoil_25 : decode cX5_spoil 25 = .ok (.ireturn, 1) := by decide +kernel
theorem dX5_spoil_26 : decode cX5_spoil 26 = .ok (.aload_n 0, 1) := by decide +kernel
theorem dX5_spoil_27 : decode cX5_spoil 27 = .ok (.getfield 35, 3) := by decide +kernel
theorem dX5_spoil_30 : decode cX5_spoil 30 = .ok (.iload_n 1, 1) := by decide +kernel
theorem dX5_spoil_31 : decode cX5_spoil 31 = .ok (.dup2, 1) := by decide +kernel
theorem dX5_spoil_32 : decode cX5_spoil 32 = .ok (.iaload, 1) := by decide +kernel
theorem dX5_spoil_33 : decode cX5_spoil 33 = .ok (.iload_n 2, 1) := by decide +kernel
theorem dX5_spoil_34 : decode cX5_spoil 34 = .ok (.ixor, 1) := by decide +kernel
theorem dX5_spoil_35 : decode cX5_spoil 35 = .ok (.iastore, 1) := by decide +kernel
theorem dX5_spoil_36 : decode cX5_spoil 36 = .ok (.aload_n 0, 1) := by decide +kernel
theorem dX5_spoil_37 : decode cX5_spoil 37 = .ok (.getfield 35, 3) := by decide +kernel
theorem dX5_spoil_40 : decode cX5_spoil 40 = .ok (.iload_n 1, 1) := by decide +kernel
theorem dX5_spoil_41 : decode cX5_spoil 41 = .ok (.iaload, 1) := by decide +kernel
theorem dX5_spoil_42 : decode cX5_spoil 42 = .ok (.ireturn, 1) := by decide +kernel
theorem dX5_shorten_0 : decode cX5_shorten 0 = .ok (.iload_n 1, 1) := by decide +kernel
theorem dX5_shorten_1 : decode cX5_shorten 1 = .ok (.ifCond .lt 11, 3) := by decide +kernel
theorem dX5_shorten_4 : decode cX5_shorten 4 = .ok (.iload_n 1, 1) := by decide +kernel
theorem dX5_shorten_5 : decode cX5_shorten 5 = .ok (.aload_n 0, 1) := by decide +kernel
theorem dX5_shorten_6 : decode cX5_shorten 6 = .ok (.getfield 178, 3) := by decide +kernel
theorem dX5_shorten_9 : decode cX5_shorten 9 = .ok (.if_icmp .le 6, 3) := by decide +kernel
theorem dX5_shorten_12 : decode cX5_shorten 12 = .ok (.bipush (-2), 2) := by decide +kernel
theorem dX5_shorten_14 : decode cX5_shorten 14 = .ok (.ireturn, 1) := by decide +kernel
theorem dX5_shorten_15 : decode cX5_shorten 15 = .ok (.aload_n 0, 1) := by decide +kernel
theorem dX5_shorten_16 : decode cX5_shorten 16 = .ok (.getfield 178, 3) := by decide +kernel
theorem dX5_shorten_19 : decode cX5_shorten 19 = .ok (.iload_n 1, 1) := by decide +kernel
theorem dX5_shorten_20 : decode cX5_shorten 20 = .ok (.isub, 1) := by decide +kernel
theorem dX5_shorten_21 : decode cX5_shorten 21 = .ok (.istore_n 2, 1) := by decide +kernel
theorem dX5_shorten_22 : decode cX5_shorten 22 = .ok (.aload_n 0, 1) := by decide +kernel
theorem dX5_shorten_23 : decode cX5_shorten 23 = .ok (.iload_n 1, 1) := by decide +kernel
theorem dX5_shorten_24 : decode cX5_shorten 24 = .ok (.putfield 178, 3) := by decide +kernel
theorem dX5_shorten_27 : decode cX5_shorten 27 = .ok (.iload_n 2, 1) := by decide +kernel
theorem dX5_shorten_28 : decode cX5_shorten 28 = .ok (.ireturn, 1) := by decide +kernel
set_option maxRecDepth 20000 in
theorem ggX5_root_X5_isRegister : GoodIn wsX5_root wsX5_isRegister := goodIn_r _ [10] (by decide +kernel) (by decide +kernel)
set_option maxRecDepth 20000 in
theorem gX5_root_X5_isRegister : GoodIn wsX5_root (va_wsS RX5 147 yX5_isRegister wsX5_isRegister) := goodIn_app (goodIn_of _ (by decide +kernel)) ggX5_root_X5_isRegister
set_option maxRecDepth 20000 in
theorem ggX5_root_X5_useKey : GoodIn wsX5_root wsX5_useKey := goodIn_r _ [14, 15, 16, 17, 18, 19, 71, 72, 73, 74, 75, 76, 77, 78, 79, 80, 81, 82, 83, 84, 85, 86, 87, 88, 89, 90, 91, 92, 93, 94, 95, 96, 97, 98] (by decide +kernel) (by decide +kernel)
set_option maxRecDepth 20000 in
theorem gX5_root_X5_useKey : GoodIn wsX5_root (wsV RX5 139 RX5 yX5_useKey wsX5_useKey) := goodIn_app (goodIn_of _ (by decide +kernel)) ggX5_root_X5_useKey
set_option maxRecDepth 20000 in
theorem ggX5_root_X5_chunksOf : GoodIn wsX5_root wsX5_chunksOf := goodIn_r _ [22] (by decide +kernel) (by decide +kernel)
set_option maxRecDepth 20000 in
theorem gX5_root_X5_chunksOf : GoodIn wsX5_root (va_wsS RX5 181 yX5_chunksOf wsX5_chunksOf) := goodIn_app (goodIn_of _ (by decide +kernel)) ggX5_root_X5_chunksOf
set_option maxRecDepth 20000 in
theorem ggX5_root_X5_tree : GoodIn wsX5_root wsX5_tree := goodIn_r _ [26, 27, 28, 29, 30, 9, 31, 32, 33, 34, 35, 36, 37, 38, 39, 40, 15, 41, 42, 43, 19, 3, 44, 45, 46, 47, 5, 48, 49, 50, 51, 16, 52, 53, 54, 55, 56, 57, 58, 59, 60, 61, 62, 63, 64, 65, 66, 67, 68, 69, 70, 71, 72, 73, 74, 75, 76, 77, 78, 79, 80, 81, 82, 83, 84, 85, 86, 87, 88, 89, 90, 91, 92, 93, 94, 95, 96, 97, 98] (by decide +kernel) (by decide +kernel)
set_option maxRecDepth 20000 in
theorem gX5_root_X5_tree : GoodIn wsX5_root (wsV RX5 184 RX5 yX5_tree wsX5_tree) := goodIn_app (goodIn_of _ (by decide +kernel)) ggX5_root_X5_tree
set_option maxRecDepth 20000 in
theorem ggX5_root_X5_mix : GoodIn wsX5_root wsX5_mix := goodIn_r _ [51, 5, 40, 16, 42, 52, 43, 53, 54, 55, 56, 57, 9, 58, 59, 60, 61, 71, 72, 73, 74, 75, 76, 77, 78, 79, 80, 81, 82, 83, 84, 85, 86, 87, 88, 89, 90, 91, 92, 93, 94, 95, 96, 97, 98] (by decide +kernel) (by decide +kernel)
set_option maxRecDepth 20000 in
theorem gX5_root_X5_mix : GoodIn wsX5_root (wsV RX5 107 RX5 yX5_mix wsX5_mix) := goodIn_app (goodIn_of _ (by decide +kernel)) ggX5_root_X5_mix
theorem dX5_root_0 : decode cX5_root 0 = .ok (.iload_n 1, 1) := by decide +kernel
theorem dX5_root_1 : decode cX5_root 1 = .ok (.invokestatic 147, 3) := by decide +kernel
theorem dX5_root_4 : decode cX5_root 4 = .ok (.ifCond .ne 6, 3) := by decide +kernel
theorem dX5_root_7 : decode cX5_root 7 = .ok (.bipush (-2), 2) := by decide +kernel
theorem dX5_root_9 : decode cX5_root 9 = .ok (.ireturn, 1) := by decide +kernel
theorem dX5_root_10 : decode cX5_root 10 = .ok (.aload_n 0, 1) := by decide +kernel
theorem dX5_root_11 : decode cX5_root 11 = .ok (.iconst (-1), 1) := by decide +kernel
theorem dX5_root_12 : decode cX5_root 12 = .ok (.invokevirtual 139, 3) := by decide +kernel
theorem dX5_root_15 : decode cX5_root 15 = .ok (.aload_n 0, 1) := by decide +kernel
theorem dX5_root_16 : decode cX5_root 16 = .ok (.aload_n 0, 1) := by decide +kernel
theorem dX5_root_17 : decode cX5_root 17 = .ok (.getfield 35, 3) := by decide +kernel
theorem dX5_root_20 : decode cX5_root 20 = .ok (.iconst 0, 1) := by decide +kernel
theorem dX5_root_21 : decode cX5_root 21 = .ok (.aload_n 0, 1) := by decide +kernel
theorem dX5_root_22 : decode cX5_root 22 = .ok (.getfield 178, 3) := by decide +kernel
theorem dX5_root_25 : decode cX5_root 25 = .ok (.iconst 0, 1) := by decide +kernel
theorem dX5_root_26 : decode cX5_root 26 = .ok (.aload_n 0, 1) := by decide +kernel
theorem dX5_root_27 : decode cX5_root 27 = .ok (.getfield 178, 3) := by decide +kernel
theorem dX5_root_30 : decode cX5_root 30 = .ok (.invokestatic 181, 3) := by decide +kernel
theorem dX5_root_33 : decode cX5_root 33 = .ok (.invokevirtual 184, 3) := by decide +kernel
theorem dX5_root_36 : decode cX5_root 36 = .ok (.aload_n 0, 1) := by decide +kernel
theorem dX5_root_37 : decode cX5_root 37 = .ok (.lconst 0, 1) := by decide +kernel
theorem dX5_root_38 : decode cX5_root 38 = .ok (.aload_n 0, 1) := by decide +kernel
theorem dX5_root_39 : decode cX5_root 39 = .ok (.getfield 104, 3) := by decide +kernel
theorem dX5_root_42 : decode cX5_root 42 = .ok (.bipush 8, 2) := by decide +kernel
theorem dX5_root_44 : decode cX5_root 44 = .ok (.iadd, 1) := by decide +kernel
theorem dX5_root_45 : decode cX5_root 45 = .ok (.invokevirtual 107, 3) := by decide +kernel
theorem dX5_root_48 : decode cX5_root 48 = .ok (.iconst 0, 1) := by decide +kernel
theorem dX5_root_49 : decode cX5_root 49 = .ok (.istore_n 2, 1) := by decide +kernel
theorem dX5_root_50 : decode cX5_root 50 = .ok (.iload_n 2, 1) := by decide +kernel
theorem dX5_root_51 : decode cX5_root 51 = .ok (.bipush 32, 2) := by decide +kernel
theorem dX5_root_53 : decode cX5_root 53 = .ok (.if_icmp .ge 40, 3) := by decide +kernel
theorem dX5_root_56 : decode cX5_root 56 = .ok (.aload_n 0, 1) := by decide +kernel
theorem dX5_root_57 : decode cX5_root 57 = .ok (.getfield 7, 3) := by decide +kernel
theorem dX5_root_60 : decode cX5_root 60 = .ok (.sipush 200, 3) := by decide +kernel
theorem dX5_root_63 : decode cX5_root 63 = .ok (.iload_n 1, 1) := by decide +kernel
theorem dX5_root_64 : decode cX5_root 64 = .ok (.imul, 1) := by decide +kernel
theorem dX5_root_65 : decode cX5_root 65 = .ok (.iload_n 2, 1) := by decide +kernel
theorem dX5_root_66 : decode cX5_root 66 = .ok (.iadd, 1) := by decide +kernel
theorem dX5_root_67 : decode cX5_root 67 = .ok (.aload_n 0, 1) := by decide +kernel
theorem dX5_root_68 : decode cX5_root 68 = .ok (.getfield 53, 3) := by decide +kernel
theorem dX5_root_71 : decode cX5_root 71 = .ok (.iload_n 2, 1) := by decide +kernel
theorem dX5_root_72 : decode cX5_root 72 = .ok (.iconst 4, 1) := by decide +kernel
theorem dX5_root_73 : decode cX5_root 73 = .ok (.idiv, 1) := by decide +kernel
theorem dX5_root_74 : decode cX5_root 74 = .ok (.iaload, 1) := by decide +kernel
theorem dX5_root_75 : decode cX5_root 75 = .ok (.bipush 8, 2) := by decide +kernel
theorem dX5_root_77 : decode cX5_root 77 = .ok (.iload_n 2, 1) := by decide +kernel
theorem dX5_root_78 : decode cX5_root 78 = .ok (.iconst 4, 1) := by decide +kernel
theorem dX5_root_79 : decode cX5_root 79 = .ok (.irem, 1) := by decide +kernel
theorem dX5_root_80 : decode cX5_root 80 = .ok (.imul, 1) := by decide +kernel
theorem dX5_root_81 : decode cX5_root 81 = .ok (.ishr, 1) := by decide +kernel
theorem dX5_root_82 : decode cX5_root 82 = .ok (.sipush 255, 3) := by decide +kernel
theorem dX5_root_85 : decode cX5_root 85 = .ok (.iand, 1) := by decide +kernel
theorem dX5_root_86 : decode cX5_root 86 = .ok (.iastore, 1) := by decide +kernel
theorem dX5_root_87 : decode cX5_root 87 = .ok (.iinc 2 1, 3) := by decide +kernel
theorem dX5_root_90 : decode cX5_root 90 = .ok (.goto (-40), 3) := by decide +kernel
theorem dX5_root_93 : decode cX5_root 93 = .ok (.aload_n 0, 1) := by decide +kernel
theorem dX5_root_94 : decode cX5_root 94 = .ok (.getfield 13, 3) := by decide +kernel
theorem dX5_root_97 : decode cX5_root 97 = .ok (.iload_n 1, 1) := by decide +kernel
theorem dX5_root_98 : decode cX5_root 98 = .ok (.bipush 32, 2) := by decide +kernel
theorem dX5_root_100 : decode cX5_root 100 = .ok (.iastore, 1) := by decide +kernel
theorem dX5_root_101 : decode cX5_root 101 = .ok (.aload_n 0, 1) := by decide +kernel
theorem dX5_root_102 : decode cX5_root 102 = .ok (.getfield 178, 3) := by decide +kernel
theorem dX5_root_105 : decode cX5_root 105 = .ok (.ireturn, 1) := by decide +kernel
theorem dX5_leftOf_0 : decode cX5_leftOf 0 = .ok (.iconst 1, 1) := by decide +kernel
theorem dX5_leftOf_1 : decode cX5_leftOf 1 = .ok (.istore_n 1, 1) := by decide +kernel
theorem dX5_leftOf_2 : decode cX5_leftOf 2 = .ok (.iconst 2, 1) := by decide +kernel
theorem dX5_leftOf_3 : decode cX5_leftOf 3 = .ok (.iload_n 1, 1) := by decide +kernel
theorem dX5_leftOf_4 : decode cX5_leftOf 4 = .ok (.imul, 1) := by decide +kernel
theorem dX5_leftOf_5 : decode cX5_leftOf 5 = .ok (.iload_n 0, 1) := by decide +kernel
theorem dX5_leftOf_6 : decode cX5_leftOf 6 = .ok (.if_icmp .ge 10, 3) := by decide +kernel
theorem dX5_leftOf_9 : decode cX5_leftOf 9 = .ok (.iload_n 1, 1) := by decide +kernel
theorem dX5_leftOf_10 : decode cX5_leftOf 10 = .ok (.iconst 2, 1) := by decide +kernel
theorem dX5_leftOf_11 : decode cX5_leftOf 11 = .ok (.imul, 1) := by decide +kernel
theorem dX5_leftOf_12 : decode cX5_leftOf 12 = .ok (.istore_n 1, 1) := by decide +kernel
theorem dX5_leftOf_13 : decode cX5_leftOf 13 = .ok (.goto (-11), 3) := by decide +kernel
theorem dX5_leftOf_16 : decode cX5_leftOf 16 = .ok (.iload_n 1, 1) := by decide +kernel
theorem dX5_leftOf_17 : decode cX5_leftOf 17 = .ok (.ireturn, 1) := by decide +kernel
set_option maxRecDepth 20000 in
theorem ggX5_prove_X5_chunksOf : GoodIn wsX5_prove wsX5_chunksOf := goodIn_r _ [9] (by decide +kernel) (by decide +kernel)
set_option maxRecDepth 20000 in
theorem gX5_prove_X5_chunksOf : GoodIn wsX5_prove (va_wsS RX5 181 yX5_chunksOf wsX5_chunksOf) := goodIn_app (goodIn_of _ (by decide +kernel)) ggX5_prove_X5_chunksOf
set_option maxRecDepth 20000 in
theorem ggX5_prove_X5_useKey : GoodIn wsX5_prove wsX5_useKey := goodIn_r _ [13, 14, 15, 16, 17, 18, 71, 72, 73, 74, 75, 76, 77, 78, 79, 80, 81, 82, 83, 84, 85, 86, 87, 88, 89, 90, 91, 92, 93, 94, 95, 96, 97, 98] (by decide +kernel) (by decide +kernel)
set_option maxRecDepth 20000 in
theorem gX5_prove_X5_useKey : GoodIn wsX5_prove (wsV RX5 139 RX5 yX5_useKey wsX5_useKey) := goodIn_app (goodIn_of _ (by decide +kernel)) ggX5_prove_X5_useKey
set_option maxRecDepth 20000 in
theorem ggX5_prove_X5_chunkSize : GoodIn wsX5_prove wsX5_chunkSize := goodIn_r _ [21] (by decide +kernel) (by decide +kernel)
set_option maxRecDepth 20000 in
theorem gX5_prove_X5_chunkSize : GoodIn wsX5_prove (va_wsS RX5 129 yX5_chunkSize wsX5_chunkSize) := goodIn_app (goodIn_of _ (by decide +kernel)) ggX5_prove_X5_chunkSize
set_option maxRecDepth 20000 in
theorem ggX5_prove_X5_leftOf : GoodIn wsX5_prove wsX5_leftOf := goodIn_r _ [24] (by decide +kernel) (by decide +kernel)
set_option maxRecDepth 20000 in
theorem gX5_prove_X5_leftOf : GoodIn wsX5_prove (va_wsS RX5 191 yX5_leftOf wsX5_leftOf) := goodIn_app (goodIn_of _ (by decide +kernel)) ggX5_prove_X5_leftOf
set_option maxRecDepth 20000 in
theorem ggX5_prove_X5_tree : GoodIn wsX5_prove wsX5_tree := goodIn_r _ [28, 29, 30, 31, 32, 8, 33, 34, 19, 20, 21, 35, 36, 37, 38, 5, 14, 39, 40, 41, 18, 42, 43, 44, 45, 46, 47, 48, 49, 50, 51, 15, 52, 53, 54, 55, 56, 57, 58, 59, 60, 61, 62, 63, 64, 65, 66, 67, 68, 69, 70, 71, 72, 73, 74, 75, 76, 77, 78, 79, 80, 81, 82, 83, 84, 85, 86, 87, 88, 89, 90, 91, 92, 93, 94, 95, 96, 97, 98] (by decide +kernel) (by decide +kernel)
set_option maxRecDepth 20000 in
theorem gX5_prove_X5_tree : GoodIn wsX5_prove (wsV RX5 184 RX5 yX5_tree wsX5_tree) := goodIn_app (goodIn_of _ (by decide +kernel)) ggX5_prove_X5_tree
set_option maxRecDepth 20000 in
theorem ggX5_prove_X5_mixIn : GoodIn wsX5_prove wsX5_mixIn := goodIn_r _ [46, 39, 42, 5, 47, 48, 49, 50, 8, 51, 15, 40, 52, 41, 53, 54, 55, 56, 57, 58, 59, 60, 61, 71, 72, 73, 74, 75, 76, 77, 78, 79, 80, 81, 82, 83, 84, 85, 86, 87, 88, 89, 90, 91, 92, 93, 94, 95, 96, 97, 98] (by decide +kernel) (by decide +kernel)
set_option maxRecDepth 20000 in
theorem gX5_prove_X5_mixIn : GoodIn wsX5_prove (wsV RX5 111 RX5 yX5_mixIn wsX5_mixIn) := goodIn_app (goodIn_of _ (by decide +kernel)) ggX5_prove_X5_mixIn
theorem dX5_prove_0 : decode cX5_prove 0 = .ok (.aload_n 0, 1) := by decide +kernel
theorem dX5_prove_1 : decode cX5_prove 1 = .ok (.getfield 178, 3) := by decide +kernel
theorem dX5_prove_4 : decode cX5_prove 4 = .ok (.invokestatic 181, 3) := by decide +kernel
theorem dX5_prove_7 : decode cX5_prove 7 = .ok (.istore_n 2, 1) := by decide +kernel
theorem dX5_prove_8 : decode cX5_prove 8 = .ok (.iload_n 1, 1) := by decide +kernel
theorem dX5_prove_9 : decode cX5_prove 9 = .ok (.ifCond .lt 8, 3) := by decide +kernel
theorem dX5_prove_12 : decode cX5_prove 12 = .ok (.iload_n 1, 1) := by decide +kernel
theorem dX5_prove_13 : decode cX5_prove 13 = .ok (.iload_n 2, 1) := by decide +kernel
theorem dX5_prove_14 : decode cX5_prove 14 = .ok (.if_icmp .lt 6, 3) := by decide +kernel
theorem dX5_prove_17 : decode cX5_prove 17 = .ok (.bipush (-2), 2) := by decide +kernel
theorem dX5_prove_19 : decode cX5_prove 19 = .ok (.ireturn, 1) := by decide +kernel
theorem dX5_prove_20 : decode cX5_prove 20 = .ok (.aload_n 0, 1) := by decide +kernel
theorem dX5_prove_21 : decode cX5_prove 21 = .ok (.iconst (-1), 1) := by decide +kernel
theorem dX5_prove_22 : decode cX5_prove 22 = .ok (.invokevirtual 139, 3) := by decide +kernel
theorem dX5_prove_25 : decode cX5_prove 25 = .ok (.aload_n 0, 1) := by decide +kernel
theorem dX5_prove_26 : decode cX5_prove 26 = .ok (.iconst 0, 1) := by decide +kernel
theorem dX5_prove_27 : decode cX5_prove 27 = .ok (.putfield 188, 3) := by decide +kernel
theorem dX5_prove_30 : decode cX5_prove 30 = .ok (.aload_n 0, 1) := by decide +kernel
theorem dX5_prove_31 : decode cX5_prove 31 = .ok (.getfield 178, 3) := by decide +kernel
theorem dX5_prove_34 : decode cX5_prove 34 = .ok (.iload_n 1, 1) := by decide +kernel
theorem dX5_prove_35 : decode cX5_prove 35 = .ok (.invokestatic 129, 3) := by decide +kernel
theorem dX5_prove_38 : decode cX5_prove 38 = .ok (.istore_n 3, 1) := by decide +kernel
theorem dX5_prove_39 : decode cX5_prove 39 = .ok (.iconst 0, 1) := by decide +kernel
theorem dX5_prove_40 : decode cX5_prove 40 = .ok (.istore 4, 2) := by decide +kernel
theorem dX5_prove_42 : decode cX5_prove 42 = .ok (.iload 4, 2) := by decide +kernel
theorem dX5_prove_44 : decode cX5_prove 44 = .ok (.iload_n 3, 1) := by decide +kernel
theorem dX5_prove_45 : decode cX5_prove 45 = .ok (.if_icmp .ge 41, 3) := by decide +kernel
theorem dX5_prove_48 : decode cX5_prove 48 = .ok (.aload_n 0, 1) := by decide +kernel
theorem dX5_prove_49 : decode cX5_prove 49 = .ok (.getfield 38, 3) := by decide +kernel
theorem dX5_prove_52 : decode cX5_prove 52 = .ok (.aload_n 0, 1) := by decide +kernel
theorem dX5_prove_53 : decode cX5_prove 53 = .ok (.getfield 188, 3) := by decide +kernel
theorem dX5_prove_56 : decode cX5_prove 56 = .ok (.aload_n 0, 1) := by decide +kernel
theorem dX5_prove_57 : decode cX5_prove 57 = .ok (.getfield 35, 3) := by decide +kernel
theorem dX5_prove_60 : decode cX5_prove 60 = .ok (.sipush 1024, 3) := by decide +kernel
theorem dX5_prove_63 : decode cX5_prove 63 = .ok (.iload_n 1, 1) := by decide +kernel
theorem dX5_prove_64 : decode cX5_prove 64 = .ok (.imul, 1) := by decide +kernel
theorem dX5_prove_65 : decode cX5_prove 65 = .ok (.iload 4, 2) := by decide +kernel
theorem dX5_prove_67 : decode cX5_prove 67 = .ok (.iadd, 1) := by decide +kernel
theorem dX5_prove_68 : decode cX5_prove 68 = .ok (.iaload, 1) := by decide +kernel
theorem dX5_prove_69 : decode cX5_prove 69 = .ok (.iastore, 1) := by decide +kernel
theorem dX5_prove_70 : decode cX5_prove 70 = .ok (.aload_n 0, 1) := by decide +kernel
theorem dX5_prove_71 : decode cX5_prove 71 = .ok (.dup, 1) := by decide +kernel
theorem dX5_prove_72 : decode cX5_prove 72 = .ok (.getfield 188, 3) := by decide +kernel
theorem dX5_prove_75 : decode cX5_prove 75 = .ok (.iconst 1, 1) := by decide +kernel
theorem dX5_prove_76 : decode cX5_prove 76 = .ok (.iadd, 1) := by decide +kernel
theorem dX5_prove_77 : decode cX5_prove 77 = .ok (.putfield 188, 3) := by decide +kernel
theorem dX5_prove_80 : decode cX5_prove 80 = .ok (.iinc 4 1, 3) := by decide +kernel
theorem dX5_prove_83 : decode cX5_prove 83 = .ok (.goto (-41), 3) := by decide +kernel
theorem dX5_prove_86 : decode cX5_prove 86 = .ok (.iconst 0, 1) := by decide +kernel
theorem dX5_prove_87 : decode cX5_prove 87 = .ok (.istore 4, 2) := by decide +kernel
theorem dX5_prove_89 : decode cX5_prove 89 = .ok (.iload_n 2, 1) := by decide +kernel
theorem dX5_prove_90 : decode cX5_prove 90 = .ok (.istore 5, 2) := by decide +kernel
theorem dX5_prove_92 : decode cX5_prove 92 = .ok (.iload 5, 2) := by decide +kernel
theorem dX5_prove_94 : decode cX5_prove 94 = .ok (.iconst 1, 1) := by decide +kernel
theorem dX5_prove_95 : decode cX5_prove 95 = .ok (.if_icmp .le 169, 3) := by decide +kernel
theorem dX5_prove_98 : decode cX5_prove 98 = .ok (.iload 5, 2) := by decide +kernel
theorem dX5_prove_100 : decode cX5_prove 100 = .ok (.invokestatic 191, 3) := by decide +kernel
theorem dX5_prove_103 : decode cX5_prove 103 = .ok (.istore 6, 2) := by decide +kernel
theorem dX5_prove_105 : decode cX5_prove 105 = .ok (.iload_n 1, 1) := by decide +kernel
theorem dX5_prove_106 : decode cX5_prove 106 = .ok (.iload 4, 2) := by decide +kernel
theorem dX5_prove_108 : decode cX5_prove 108 = .ok (.iload 6, 2) := by decide +kernel
theorem dX5_prove_110 : decode cX5_prove 110 = .ok (.iadd, 1) := by decide +kernel
theorem dX5_prove_111 : decode cX5_prove 111 = .ok (.if_icmp .ge 7, 3) := by decide +kernel
theorem dX5_prove_114 : decode cX5_prove 114 = .ok (.iconst 1, 1) := by decide +kernel
theorem dX5_prove_115 : decode cX5_prove 115 = .ok (.goto 4, 3) := by decide +kernel
theorem dX5_prove_118 : decode cX5_prove 118 = .ok (.iconst 0, 1) := by decide +kernel
theorem dX5_prove_119 : decode cX5_prove 119 = .ok (.istore 7, 2) := by decide +kernel
theorem dX5_prove_121 : decode cX5_prove 121 = .ok (.aload_n 0, 1) := by decide +kernel
theorem dX5_prove_122 : decode cX5_prove 122 = .ok (.aload_n 0, 1) := by decide +kernel
theorem dX5_prove_123 : decode cX5_prove 123 = .ok (.getfield 35, 3) := by decide +kernel
theorem dX5_prove_126 : decode cX5_prove 126 = .ok (.iconst 0, 1) := by decide +kernel
theorem dX5_prove_127 : decode cX5_prove 127 = .ok (.aload_n 0, 1) := by decide +kernel
theorem dX5_prove_128 : decode cX5_prove 128 = .ok (.getfield 178, 3) := by decide +kernel
theorem dX5_prove_131 : decode cX5_prove 131 = .ok (.iload 7, 2) := by decide +kernel
theorem dX5_prove_133 : decode cX5_prove 133 = .ok (.ifCond .eq 11, 3) := by decide +kernel
theorem dX5_prove_136 : decode cX5_prove 136 = .ok (.iload 4, 2) := by decide +kernel
theorem dX5_prove_138 : decode cX5_prove 138 = .ok (.iload 6, 2) := by decide +kernel
theorem dX5_prove_140 : decode cX5_prove 140 = .ok (.iadd, 1) := by decide +kernel
theorem dX5_prove_141 : decode cX5_prove 141 = .ok (.goto 5, 3) := by decide +kernel
theorem dX5_prove_144 : decode cX5_prove 144 = .ok (.iload 4, 2) := by decide +kernel
theorem dX5_prove_146 : decode cX5_prove 146 = .ok (.iload 7, 2) := by decide +kernel
theorem dX5_prove_148 : decode cX5_prove 148 = .ok (.ifCond .eq 11, 3) := by decide +kernel
theorem dX5_prove_151 : decode cX5_prove 151 = .ok (.iload 4, 2) := by decide +kernel
theorem dX5_prove_153 : decode cX5_prove 153 = .ok (.iload 5, 2) := by decide +kernel
theorem dX5_prove_155 : decode cX5_prove 155 = .ok (.iadd, 1) := by decide +kernel
theorem dX5_prove_156 : decode cX5_prove 156 = .ok (.goto 8, 3) := by decide +kernel
theorem dX5_prove_159 : decode cX5_prove 159 = .ok (.iload 4, 2) := by decide +kernel
theorem dX5_prove_161 : decode cX5_prove 161 = .ok (.iload 6, 2) := by decide +kernel
theorem dX5_prove_163 : decode cX5_prove 163 = .ok (.iadd, 1) := by decide +kernel
theorem dX5_prove_164 : decode cX5_prove 164 = .ok (.invokevirtual 184, 3) := by decide +kernel
theorem dX5_prove_167 : decode cX5_prove 167 = .ok (.aload_n 0, 1) := by decide +kernel
theorem dX5_prove_168 : decode cX5_prove 168 = .ok (.invokevirtual 111, 3) := by decide +kernel
theorem dX5_prove_171 : decode cX5_prove 171 = .ok (.iconst 0, 1) := by decide +kernel
theorem dX5_prove_172 : decode cX5_prove 172 = .ok (.istore 8, 2) := by decide +kernel
theorem dX5_prove_174 : decode cX5_prove 174 = .ok (.iload 8, 2) := by decide +kernel
theorem dX5_prove_176 : decode cX5_prove 176 = .ok (.bipush 32, 2) := by decide +kernel
theorem dX5_prove_178 : decode cX5_prove 178 = .ok (.if_icmp .ge 49, 3) := by decide +kernel
theorem dX5_prove_181 : decode cX5_prove 181 = .ok (.aload_n 0, 1) := by decide +kernel
theorem dX5_prove_182 : decode cX5_prove 182 = .ok (.getfield 38, 3) := by decide +kernel
theorem dX5_prove_185 : decode cX5_prove 185 = .ok (.aload_n 0, 1) := by decide +kernel
theorem dX5_prove_186 : decode cX5_prove 186 = .ok (.getfield 188, 3) := by decide +kernel
theorem dX5_prove_189 : decode cX5_prove 189 = .ok (.aload_n 0, 1) := by decide +kernel
theorem dX5_prove_190 : decode cX5_prove 190 = .ok (.getfield 47, 3) := by decide +kernel
theorem dX5_prove_193 : decode cX5_prove 193 = .ok (.iload 8, 2) := by decide +kernel
theorem dX5_prove_195 : decode cX5_prove 195 = .ok (.iconst 4, 1) := by decide +kernel
theorem dX5_prove_196 : decode cX5_prove 196 = .ok (.idiv, 1) := by decide +kernel
theorem dX5_prove_197 : decode cX5_prove 197 = .ok (.iaload, 1) := by decide +kernel
theorem dX5_prove_198 : decode cX5_prove 198 = .ok (.bipush 8, 2) := by decide +kernel
theorem dX5_prove_200 : decode cX5_prove 200 = .ok (.iload 8, 2) := by decide +kernel
theorem dX5_prove_202 : decode cX5_prove 202 = .ok (.iconst 4, 1) := by decide +kernel
theorem dX5_prove_203 : decode cX5_prove 203 = .ok (.irem, 1) := by decide +kernel
theorem dX5_prove_204 : decode cX5_prove 204 = .ok (.imul, 1) := by decide +kernel
theorem dX5_prove_205 : decode cX5_prove 205 = .ok (.ishr, 1) := by decide +kernel
theorem dX5_prove_206 : decode cX5_prove 206 = .ok (.sipush 255, 3) := by decide +kernel
theorem dX5_prove_209 : decode cX5_prove 209 = .ok (.iand, 1) := by decide +kernel
theorem dX5_prove_210 : decode cX5_prove 210 = .ok (.iastore, 1) := by decide +kernel
theorem dX5_prove_211 : decode cX5_prove 211 = .ok (.aload_n 0, 1) := by decide +kernel
theorem dX5_prove_212 : decode cX5_prove 212 = .ok (.dup, 1) := by decide +kernel
theorem dX5_prove_213 : decode cX5_prove 213 = .ok (.getfield 188, 3) := by decide +kernel
theorem dX5_prove_216 : decode cX5_prove 216 = .ok (.iconst 1, 1) := by decide +kernel
theorem dX5_prove_217 : decode cX5_prove 217 = .ok (.iadd, 1) := by decide +kernel
theorem dX5_prove_218 : decode cX5_prove 218 = .ok (.putfield 188, 3) := by decide +kernel
theorem dX5_prove_221 : decode cX5_prove 221 = .ok (.iinc 8 1, 3) := by decide +kernel
theorem dX5_prove_224 : decode cX5_prove 224 = .ok (.goto (-50), 3) := by decide +kernel
theorem dX5_prove_227 : decode cX5_prove 227 = .ok (.iload 7, 2) := by decide +kernel
theorem dX5_prove_229 : decode cX5_prove 229 = .ok (.ifCond .eq 8, 3) := by decide +kernel
theorem dX5_prove_232 : decode cX5_prove 232 = .ok (.iload 4, 2) := by decide +kernel
theorem dX5_prove_234 : decode cX5_prove 234 = .ok (.goto 8, 3) := by decide +kernel
theorem dX5_prove_237 : decode cX5_prove 237 = .ok (.iload 4, 2) := by decide +kernel
theorem dX5_prove_239 : decode cX5_prove 239 = .ok (.iload 6, 2) := by decide +kernel
theorem dX5_prove_241 : decode cX5_prove 241 = .ok (.iadd, 1) := by decide +kernel
theorem dX5_prove_242 : decode cX5_prove 242 = .ok (.istore 4, 2) := by decide +kernel
theorem dX5_prove_244 : decode cX5_prove 244 = .ok (.iload 7, 2) := by decide +kernel
theorem dX5_prove_246 : decode cX5_prove 246 = .ok (.ifCond .eq 8, 3) := by decide +kernel
theorem dX5_prove_249 : decode cX5_prove 249 = .ok (.iload 6, 2) := by decide +kernel
theorem dX5_prove_251 : decode cX5_prove 251 = .ok (.goto 8, 3) := by decide +kernel
theorem dX5_prove_254 : decode cX5_prove 254 = .ok (.iload 5, 2) := by decide +kernel
theorem dX5_prove_256 : decode cX5_prove 256 = .ok (.iload 6, 2) := by decide +kernel
theorem dX5_prove_258 : decode cX5_prove 258 = .ok (.isub, 1) := by decide +kernel
theorem dX5_prove_259 : decode cX5_prove 259 = .ok (.istore 5, 2) := by decide +kernel
theorem dX5_prove_261 : decode cX5_prove 261 = .ok (.goto (-169), 3) := by decide +kernel
theorem dX5_prove_264 : decode cX5_prove 264 = .ok (.aload_n 0, 1) := by decide +kernel
theorem dX5_prove_265 : decode cX5_prove 265 = .ok (.getfield 188, 3) := by decide +kernel
theorem dX5_prove_268 : decode cX5_prove 268 = .ok (.ireturn, 1) := by decide +kernel
theorem dX5_proof_0 : decode cX5_proof 0 = .ok (.iload_n 1, 1) := by decide +kernel
theorem dX5_proof_1 : decode cX5_proof 1 = .ok (.ifCond .lt 20, 3) := by decide +kernel
theorem dX5_proof_4 : decode cX5_proof 4 = .ok (.iload_n 1, 1) := by decide +kernel
theorem dX5_proof_5 : decode cX5_proof 5 = .ok (.aload_n 0, 1) := by decide +kernel
theorem dX5_proof_6 : decode cX5_proof 6 = .ok (.getfield 188, 3) := by decide +kernel
theorem dX5_proof_9 : decode cX5_proof 9 = .ok (.if_icmp .ge 12, 3) := by decide +kernel
theorem dX5_proof_12 : decode cX5_proof 12 = .ok (.aload_n 0, 1) := by decide +kernel
theorem dX5_proof_13 : decode cX5_proof 13 = .ok (.getfield 38, 3) := by decide +kernel
theorem dX5_proof_16 : decode cX5_proof 16 = .ok (.iload_n 1, 1) := by decide +kernel
theorem dX5_proof_17 : decode cX5_proof 17 = .ok (.iaload, 1) := by decide +kernel
theorem dX5_proof_18 : decode cX5_proof 18 = .ok (.goto 4, 3) := by decide +kernel
theorem dX5_proof_21 : decode cX5_proof 21 = .ok (.iconst (-1), 1) := by decide +kernel
theorem dX5_proof_22 : decode cX5_proof 22 = .ok (.ireturn, 1) := by decide +kernel
theorem dX5_forge_0 : decode cX5_forge 0 = .ok (.iload_n 1, 1) := by decide +kernel
theorem dX5_forge_1 : decode cX5_forge 1 = .ok (.ifCond .lt 22, 3) := by decide +kernel
theorem dX5_forge_4 : decode cX5_forge 4 = .ok (.iload_n 1, 1) := by decide +kernel
theorem dX5_forge_5 : decode cX5_forge 5 = .ok (.aload_n 0, 1) := by decide +kernel
theorem dX5_forge_6 : decode cX5_forge 6 = .ok (.getfield 188, 3) := by decide +kernel
theorem dX5_forge_9 : decode cX5_forge 9 = .ok (.if_icmp .ge 14, 3) := by decide +kernel
theorem dX5_forge_12 : decode cX5_forge 12 = .ok (.iload_n 2, 1) := by decide +kernel
theorem dX5_forge_13 : decode cX5_forge 13 = .ok (.ifCond .lt 10, 3) := by decide +kernel
theorem dX5_forge_16 : decode cX5_forge 16 = .ok (.iload_n 2, 1) := by decide +kernel
theorem dX5_forge_17 : decode cX5_forge 17 = .ok (.sipush 255, 3) := by decide +kernel
theorem dX5_forge_20 : decode cX5_forge 20 = .ok (.if_icmp .le 6, 3) := by decide +kernel
theorem dX5_forge_23 : decode cX5_forge 23 = .ok (.bipush (-2), 2) := by decide +kernel
theorem dX5_forge_25 : decode cX5_forge 25 = .ok (.ireturn, 1) := by decide +kernel
theorem dX5_forge_26 : decode cX5_forge 26 = .ok (.aload_n 0, 1) := by decide +kernel
theorem dX5_forge_27 : decode cX5_forge 27 = .ok (.getfield 38, 3) := by decide +kernel
theorem dX5_forge_30 : decode cX5_forge 30 = .ok (.iload_n 1, 1) := by decide +kernel
theorem dX5_forge_31 : decode cX5_forge 31 = .ok (.dup2, 1) := by decide +kernel
theorem dX5_forge_32 : decode cX5_forge 32 = .ok (.iaload, 1) := by decide +kernel
theorem dX5_forge_33 : decode cX5_forge 33 = .ok (.iload_n 2, 1) := by decide +kernel
theorem dX5_forge_34 : decode cX5_forge 34 = .ok (.ixor, 1) := by decide +kernel
theorem dX5_forge_35 : decode cX5_forge 35 = .ok (.iastore, 1) := by decide +kernel
theorem dX5_forge_36 : decode cX5_forge 36 = .ok (.aload_n 0, 1) := by decide +kernel
theorem dX5_forge_37 : decode cX5_forge 37 = .ok (.getfield 38, 3) := by decide +kernel
theorem dX5_forge_40 : decode cX5_forge 40 = .ok (.iload_n 1, 1) := by decide +kernel
theorem dX5_forge_41 : decode cX5_forge 41 = .ok (.iaload, 1) := by decide +kernel
theorem dX5_forge_42 : decode cX5_forge 42 = .ok (.ireturn, 1) := by decide +kernel
theorem dX5_cut_0 : decode cX5_cut 0 = .ok (.iload_n 1, 1) := by decide +kernel
theorem dX5_cut_1 : decode cX5_cut 1 = .ok (.ifCond .lt 11, 3) := by decide +kernel
theorem dX5_cut_4 : decode cX5_cut 4 = .ok (.iload_n 1, 1) := by decide +kernel
theorem dX5_cut_5 : decode cX5_cut 5 = .ok (.aload_n 0, 1) := by decide +kernel
theorem dX5_cut_6 : decode cX5_cut 6 = .ok (.getfield 188, 3) := by decide +kernel
theorem dX5_cut_9 : decode cX5_cut 9 = .ok (.if_icmp .le 6, 3) := by decide +kernel
theorem dX5_cut_12 : decode cX5_cut 12 = .ok (.bipush (-2), 2) := by decide +kernel
theorem dX5_cut_14 : decode cX5_cut 14 = .ok (.ireturn, 1) := by decide +kernel
theorem dX5_cut_15 : decode cX5_cut 15 = .ok (.aload_n 0, 1) := by decide +kernel
theorem dX5_cut_16 : decode cX5_cut 16 = .ok (.getfield 188, 3) := by decide +kernel
theorem dX5_cut_19 : decode cX5_cut 19 = .ok (.iload_n 1, 1) := by decide +kernel
theorem dX5_cut_20 : decode cX5_cut 20 = .ok (.isub, 1) := by decide +kernel
theorem dX5_cut_21 : decode cX5_cut 21 = .ok (.istore_n 2, 1) := by decide +kernel
theorem dX5_cut_22 : decode cX5_cut 22 = .ok (.aload_n 0, 1) := by decide +kernel
theorem dX5_cut_23 : decode cX5_cut 23 = .ok (.iload_n 1, 1) := by decide +kernel
theorem dX5_cut_24 : decode cX5_cut 24 = .ok (.putfield 188, 3) := by decide +kernel
theorem dX5_cut_27 : decode cX5_cut 27 = .ok (.iload_n 2, 1) := by decide +kernel
theorem dX5_cut_28 : decode cX5_cut 28 = .ok (.ireturn, 1) := by decide +kernel
set_option maxRecDepth 20000 in
theorem ggX5_check_X5_isRegister : GoodIn wsX5_check wsX5_isRegister := goodIn_r _ [18] (by decide +kernel) (by decide +kernel)
set_option maxRecDepth 20000 in
theorem gX5_check_X5_isRegister : GoodIn wsX5_check (va_wsS RX5 147 yX5_isRegister wsX5_isRegister) := goodIn_app (goodIn_of _ (by decide +kernel)) ggX5_check_X5_isRegister
set_option maxRecDepth 20000 in
theorem ggX5_check_X5_chunksOf : GoodIn wsX5_check wsX5_chunksOf := goodIn_r _ [21] (by decide +kernel) (by decide +kernel)
set_option maxRecDepth 20000 in
theorem gX5_check_X5_chunksOf : GoodIn wsX5_check (va_wsS RX5 181 yX5_chunksOf wsX5_chunksOf) := goodIn_app (goodIn_of _ (by decide +kernel)) ggX5_check_X5_chunksOf
set_option maxRecDepth 20000 in
theorem ggX5_check_X5_leftOf : GoodIn wsX5_check wsX5_leftOf := goodIn_r _ [24] (by decide +kernel) (by decide +kernel)
set_option maxRecDepth 20000 in
theorem gX5_check_X5_leftOf : GoodIn wsX5_check (va_wsS RX5 191 yX5_leftOf wsX5_leftOf) := goodIn_app (goodIn_of _ (by decide +kernel)) ggX5_check_X5_leftOf
set_option maxRecDepth 20000 in
theorem ggX5_check_X5_chunkSize : GoodIn wsX5_check wsX5_chunkSize := goodIn_r _ [27] (by decide +kernel) (by decide +kernel)
set_option maxRecDepth 20000 in
theorem gX5_check_X5_chunkSize : GoodIn wsX5_check (va_wsS RX5 129 yX5_chunkSize wsX5_chunkSize) := goodIn_app (goodIn_of _ (by decide +kernel)) ggX5_check_X5_chunkSize
set_option maxRecDepth 20000 in
theorem ggX5_check_X5_useKey : GoodIn wsX5_check wsX5_useKey := goodIn_r _ [31, 8, 32, 33, 34, 11, 60, 61, 62, 63, 64, 65, 66, 67, 68, 69, 70, 71, 72, 73, 74, 75, 76, 77, 78, 79, 80, 81, 82, 83, 84, 85, 86, 87] (by decide +kernel) (by decide +kernel)
set_option maxRecDepth 20000 in
theorem gX5_check_X5_useKey : GoodIn wsX5_check (wsV RX5 139 RX5 yX5_useKey wsX5_useKey) := goodIn_app (goodIn_of _ (by decide +kernel)) ggX5_check_X5_useKey
set_option maxRecDepth 20000 in
theorem ggX5_check_X5_chunk : GoodIn wsX5_check wsX5_chunk := goodIn_r _ [38, 7, 8, 9, 10, 6, 11, 12, 39, 40, 41, 17, 42, 14, 43, 44, 45, 46, 32, 47, 48, 49, 50, 51, 52, 53, 54, 55, 56, 60, 61, 62, 63, 64, 65, 66, 67, 68, 69, 70, 71, 72, 73, 74, 75, 76, 77, 78, 79, 80, 81, 82, 83, 84, 85, 86, 87] (by decide +kernel) (by decide +kernel)
set_option maxRecDepth 20000 in
theorem gX5_check_X5_chunk : GoodIn wsX5_check (wsV RX5 132 RX5 yX5_chunk wsX5_chunk) := goodIn_app (goodIn_of _ (by decide +kernel)) ggX5_check_X5_chunk
set_option maxRecDepth 20000 in
theorem ggX5_check_X5_mixIn : GoodIn wsX5_check wsX5_mixIn := goodIn_r _ [42, 9, 12, 7, 14, 43, 44, 45, 17, 46, 32, 10, 47, 6, 48, 49, 50, 51, 52, 53, 54, 55, 56, 60, 61, 62, 63, 64, 65, 66, 67, 68, 69, 70, 71, 72, 73, 74, 75, 76, 77, 78, 79, 80, 81, 82, 83, 84, 85, 86, 87] (by decide +kernel) (by decide +kernel)
set_option maxRecDepth 20000 in
theorem gX5_check_X5_mixIn : GoodIn wsX5_check (wsV RX5 111 RX5 yX5_mixIn wsX5_mixIn) := goodIn_app (goodIn_of _ (by decide +kernel)) ggX5_check_X5_mixIn
set_option maxRecDepth 20000 in
theorem ggX5_check_X5_wordAt : GoodIn wsX5_check wsX5_wordAt := goodIn_r _ [59] (by decide +kernel) (by decide +kernel)
set_option maxRecDepth 20000 in
theorem gX5_check_X5_wordAt : GoodIn wsX5_check (va_wsS RX5 156 yX5_wordAt wsX5_wordAt) := goodIn_app (goodIn_of _ (by decide +kernel)) ggX5_check_X5_wordAt
set_option maxRecDepth 20000 in
theorem ggX5_check_X5_mix : GoodIn wsX5_check wsX5_mix := goodIn_r _ [46, 14, 7, 32, 10, 47, 6, 48, 49, 50, 51, 52, 17, 53, 54, 55, 56, 60, 61, 62, 63, 64, 65, 66, 67, 68, 69, 70, 71, 72, 73, 74, 75, 76, 77, 78, 79, 80, 81, 82, 83, 84, 85, 86, 87] (by decide +kernel) (by decide +kernel)
set_option maxRecDepth 20000 in
theorem gX5_check_X5_mix : GoodIn wsX5_check (wsV RX5 107 RX5 yX5_mix wsX5_mix) := goodIn_app (goodIn_of _ (by decide +kernel)) ggX5_check_X5_mix
theorem dX5_check_0 : decode cX5_check 0 = .ok (.iload_n 1, 1) := by decide +kernel
theorem dX5_check_1 : decode cX5_check 1 = .ok (.invokestatic 147, 3) := by decide +kernel
theorem dX5_check_4 : decode cX5_check 4 = .ok (.ifCond .eq 36, 3) := by decide +kernel
theorem dX5_check_7 : decode cX5_check 7 = .ok (.iload_n 2, 1) := by decide +kernel
theorem dX5_check_8 : decode cX5_check 8 = .ok (.ifCond .lt 32, 3) := by decide +kernel
theorem dX5_check_11 : decode cX5_check 11 = .ok (.iload_n 2, 1) := by decide +kernel
theorem dX5_check_12 : decode cX5_check 12 = .ok (.ldc 194, 2) := by decide +kernel
theorem dX5_check_14 : decode cX5_check 14 = .ok (.if_icmp .gt 26, 3) := by decide +kernel
theorem dX5_check_17 : decode cX5_check 17 = .ok (.iload_n 3, 1) := by decide +kernel
theorem dX5_check_18 : decode cX5_check 18 = .ok (.ifCond .lt 22, 3) := by decide +kernel
theorem dX5_check_21 : decode cX5_check 21 = .ok (.iload_n 3, 1) := by decide +kernel
theorem dX5_check_22 : decode cX5_check 22 = .ok (.iload_n 2, 1) := by decide +kernel
theorem dX5_check_23 : decode cX5_check 23 = .ok (.invokestatic 181, 3) := by decide +kernel
theorem dX5_check_26 : decode cX5_check 26 = .ok (.if_icmp .ge 14, 3) := by decide +kernel
theorem dX5_check_29 : decode cX5_check 29 = .ok (.aload_n 0, 1) := by decide +kernel
theorem dX5_check_30 : decode cX5_check 30 = .ok (.getfield 13, 3) := by decide +kernel
theorem dX5_check_33 : decode cX5_check 33 = .ok (.iload_n 1, 1) := by decide +kernel
theorem dX5_check_34 : decode cX5_check 34 = .ok (.iaload, 1) := by decide +kernel
theorem dX5_check_35 : decode cX5_check 35 = .ok (.bipush 32, 2) := by decide +kernel
theorem dX5_check_37 : decode cX5_check 37 = .ok (.if_icmp .eq 6, 3) := by decide +kernel
theorem dX5_check_40 : decode cX5_check 40 = .ok (.bipush (-2), 2) := by decide +kernel
theorem dX5_check_42 : decode cX5_check 42 = .ok (.ireturn, 1) := by decide +kernel
theorem dX5_check_43 : decode cX5_check 43 = .ok (.iconst 0, 1) := by decide +kernel
theorem dX5_check_44 : decode cX5_check 44 = .ok (.istore 4, 2) := by decide +kernel
theorem dX5_check_46 : decode cX5_check 46 = .ok (.iconst 0, 1) := by decide +kernel
theorem dX5_check_47 : decode cX5_check 47 = .ok (.istore 5, 2) := by decide +kernel
theorem dX5_check_49 : decode cX5_check 49 = .ok (.iload_n 2, 1) := by decide +kernel
theorem dX5_check_50 : decode cX5_check 50 = .ok (.invokestatic 181, 3) := by decide +kernel
theorem dX5_check_53 : decode cX5_check 53 = .ok (.istore 6, 2) := by decide +kernel
theorem dX5_check_55 : decode cX5_check 55 = .ok (.iload 6, 2) := by decide +kernel
theorem dX5_check_57 : decode cX5_check 57 = .ok (.iconst 1, 1) := by decide +kernel
theorem dX5_check_58 : decode cX5_check 58 = .ok (.if_icmp .le 81, 3) := by decide +kernel
theorem dX5_check_61 : decode cX5_check 61 = .ok (.iload 6, 2) := by decide +kernel
theorem dX5_check_63 : decode cX5_check 63 = .ok (.invokestatic 191, 3) := by decide +kernel
theorem dX5_check_66 : decode cX5_check 66 = .ok (.istore 7, 2) := by decide +kernel
theorem dX5_check_68 : decode cX5_check 68 = .ok (.aload_n 0, 1) := by decide +kernel
theorem dX5_check_69 : decode cX5_check 69 = .ok (.getfield 68, 3) := by decide +kernel
theorem dX5_check_72 : decode cX5_check 72 = .ok (.iload 4, 2) := by decide +kernel
theorem dX5_check_74 : decode cX5_check 74 = .ok (.iload_n 3, 1) := by decide +kernel
theorem dX5_check_75 : decode cX5_check 75 = .ok (.iload 5, 2) := by decide +kernel
theorem dX5_check_77 : decode cX5_check 77 = .ok (.iload 7, 2) := by decide +kernel
theorem dX5_check_79 : decode cX5_check 79 = .ok (.iadd, 1) := by decide +kernel
theorem dX5_check_80 : decode cX5_check 80 = .ok (.if_icmp .ge 7, 3) := by decide +kernel
theorem dX5_check_83 : decode cX5_check 83 = .ok (.iconst 1, 1) := by decide +kernel
theorem dX5_check_84 : decode cX5_check 84 = .ok (.goto 4, 3) := by decide +kernel
theorem dX5_check_87 : decode cX5_check 87 = .ok (.iconst 0, 1) := by decide +kernel
theorem dX5_check_88 : decode cX5_check 88 = .ok (.bastore, 1) := by decide +kernel
theorem dX5_check_89 : decode cX5_check 89 = .ok (.aload_n 0, 1) := by decide +kernel
theorem dX5_check_90 : decode cX5_check 90 = .ok (.getfield 68, 3) := by decide +kernel
theorem dX5_check_93 : decode cX5_check 93 = .ok (.iload 4, 2) := by decide +kernel
theorem dX5_check_95 : decode cX5_check 95 = .ok (.baload, 1) := by decide +kernel
theorem dX5_check_96 : decode cX5_check 96 = .ok (.ifCond .eq 8, 3) := by decide +kernel
theorem dX5_check_99 : decode cX5_check 99 = .ok (.iload 5, 2) := by decide +kernel
theorem dX5_check_101 : decode cX5_check 101 = .ok (.goto 8, 3) := by decide +kernel
theorem dX5_check_104 : decode cX5_check 104 = .ok (.iload 5, 2) := by decide +kernel
theorem dX5_check_106 : decode cX5_check 106 = .ok (.iload 7, 2) := by decide +kernel
theorem dX5_check_108 : decode cX5_check 108 = .ok (.iadd, 1) := by decide +kernel
theorem dX5_check_109 : decode cX5_check 109 = .ok (.istore 5, 2) := by decide +kernel
theorem dX5_check_111 : decode cX5_check 111 = .ok (.aload_n 0, 1) := by decide +kernel
theorem dX5_check_112 : decode cX5_check 112 = .ok (.getfield 68, 3) := by decide +kernel
theorem dX5_check_115 : decode cX5_check 115 = .ok (.iload 4, 2) := by decide +kernel
theorem dX5_check_117 : decode cX5_check 117 = .ok (.baload, 1) := by decide +kernel
theorem dX5_check_118 : decode cX5_check 118 = .ok (.ifCond .eq 8, 3) := by decide +kernel
theorem dX5_check_121 : decode cX5_check 121 = .ok (.iload 7, 2) := by decide +kernel
theorem dX5_check_123 : decode cX5_check 123 = .ok (.goto 8, 3) := by decide +kernel
theorem dX5_check_126 : decode cX5_check 126 = .ok (.iload 6, 2) := by decide +kernel
theorem dX5_check_128 : decode cX5_check 128 = .ok (.iload 7, 2) := by decide +kernel
theorem dX5_check_130 : decode cX5_check 130 = .ok (.isub, 1) := by decide +kernel
theorem dX5_check_131 : decode cX5_check 131 = .ok (.istore 6, 2) := by decide +kernel
theorem dX5_check_133 : decode cX5_check 133 = .ok (.iinc 4 1, 3) := by decide +kernel
theorem dX5_check_136 : decode cX5_check 136 = .ok (.goto (-81), 3) := by decide +kernel
theorem dX5_check_139 : decode cX5_check 139 = .ok (.iload_n 2, 1) := by decide +kernel
theorem dX5_check_140 : decode cX5_check 140 = .ok (.iload_n 3, 1) := by decide +kernel
theorem dX5_check_141 : decode cX5_check 141 = .ok (.invokestatic 129, 3) := by decide +kernel
theorem dX5_check_144 : decode cX5_check 144 = .ok (.istore 7, 2) := by decide +kernel
theorem dX5_check_146 : decode cX5_check 146 = .ok (.aload_n 0, 1) := by decide +kernel
theorem dX5_check_147 : decode cX5_check 147 = .ok (.getfield 188, 3) := by decide +kernel
theorem dX5_check_150 : decode cX5_check 150 = .ok (.iload 7, 2) := by decide +kernel
theorem dX5_check_152 : decode cX5_check 152 = .ok (.bipush 32, 2) := by decide +kernel
theorem dX5_check_154 : decode cX5_check 154 = .ok (.iload 4, 2) := by decide +kernel
theorem dX5_check_156 : decode cX5_check 156 = .ok (.imul, 1) := by decide +kernel
theorem dX5_check_157 : decode cX5_check 157 = .ok (.iadd, 1) := by decide +kernel
theorem dX5_check_158 : decode cX5_check 158 = .ok (.if_icmp .eq 5, 3) := by decide +kernel
theorem dX5_check_161 : decode cX5_check 161 = .ok (.iconst 0, 1) := by decide +kernel
theorem dX5_check_162 : decode cX5_check 162 = .ok (.ireturn, 1) := by decide +kernel
theorem dX5_check_163 : decode cX5_check 163 = .ok (.aload_n 0, 1) := by decide +kernel
theorem dX5_check_164 : decode cX5_check 164 = .ok (.iconst (-1), 1) := by decide +kernel
theorem dX5_check_165 : decode cX5_check 165 = .ok (.invokevirtual 139, 3) := by decide +kernel
theorem dX5_check_168 : decode cX5_check 168 = .ok (.aload_n 0, 1) := by decide +kernel
theorem dX5_check_169 : decode cX5_check 169 = .ok (.aload_n 0, 1) := by decide +kernel
theorem dX5_check_170 : decode cX5_check 170 = .ok (.getfield 38, 3) := by decide +kernel
theorem dX5_check_173 : decode cX5_check 173 = .ok (.iconst 0, 1) := by decide +kernel
theorem dX5_check_174 : decode cX5_check 174 = .ok (.iload 7, 2) := by decide +kernel
theorem dX5_check_176 : decode cX5_check 176 = .ok (.iload_n 3, 1) := by decide +kernel
theorem dX5_check_177 : decode cX5_check 177 = .ok (.i2l, 1) := by decide +kernel
theorem dX5_check_178 : decode cX5_check 178 = .ok (.invokevirtual 132, 3) := by decide +kernel
theorem dX5_check_181 : decode cX5_check 181 = .ok (.iload 4, 2) := by decide +kernel
theorem dX5_check_183 : decode cX5_check 183 = .ok (.iconst 1, 1) := by decide +kernel
theorem dX5_check_184 : decode cX5_check 184 = .ok (.isub, 1) := by decide +kernel
theorem dX5_check_185 : decode cX5_check 185 = .ok (.istore 8, 2) := by decide +kernel
theorem dX5_check_187 : decode cX5_check 187 = .ok (.iload 8, 2) := by decide +kernel
theorem dX5_check_189 : decode cX5_check 189 = .ok (.ifCond .lt 167, 3) := by decide +kernel
theorem dX5_check_192 : decode cX5_check 192 = .ok (.aload_n 0, 1) := by decide +kernel
theorem dX5_check_193 : decode cX5_check 193 = .ok (.invokevirtual 111, 3) := by decide +kernel
theorem dX5_check_196 : decode cX5_check 196 = .ok (.iload 7, 2) := by decide +kernel
theorem dX5_check_198 : decode cX5_check 198 = .ok (.bipush 32, 2) := by decide +kernel
theorem dX5_check_200 : decode cX5_check 200 = .ok (.iload 8, 2) := by decide +kernel
theorem dX5_check_202 : decode cX5_check 202 = .ok (.imul, 1) := by decide +kernel
theorem dX5_check_203 : decode cX5_check 203 = .ok (.iadd, 1) := by decide +kernel
theorem dX5_check_204 : decode cX5_check 204 = .ok (.istore 9, 2) := by decide +kernel
theorem dX5_check_206 : decode cX5_check 206 = .ok (.iconst 0, 1) := by decide +kernel
theorem dX5_check_207 : decode cX5_check 207 = .ok (.istore 10, 2) := by decide +kernel
theorem dX5_check_209 : decode cX5_check 209 = .ok (.iload 10, 2) := by decide +kernel
theorem dX5_check_211 : decode cX5_check 211 = .ok (.bipush 8, 2) := by decide +kernel
theorem dX5_check_213 : decode cX5_check 213 = .ok (.if_icmp .ge 86, 3) := by decide +kernel
theorem dX5_check_216 : decode cX5_check 216 = .ok (.aload_n 0, 1) := by decide +kernel
theorem dX5_check_217 : decode cX5_check 217 = .ok (.getfield 38, 3) := by decide +kernel
theorem dX5_check_220 : decode cX5_check 220 = .ok (.iload 9, 2) := by decide +kernel
theorem dX5_check_222 : decode cX5_check 222 = .ok (.iconst 4, 1) := by decide +kernel
theorem dX5_check_223 : decode cX5_check 223 = .ok (.iload 10, 2) := by decide +kernel
theorem dX5_check_225 : decode cX5_check 225 = .ok (.imul, 1) := by decide +kernel
theorem dX5_check_226 : decode cX5_check 226 = .ok (.iadd, 1) := by decide +kernel
theorem dX5_check_227 : decode cX5_check 227 = .ok (.invokestatic 156, 3) := by decide +kernel
theorem dX5_check_230 : decode cX5_check 230 = .ok (.istore 11, 2) := by decide +kernel
theorem dX5_check_232 : decode cX5_check 232 = .ok (.aload_n 0, 1) := by decide +kernel
theorem dX5_check_233 : decode cX5_check 233 = .ok (.getfield 50, 3) := by decide +kernel
theorem dX5_check_236 : decode cX5_check 236 = .ok (.iload 10, 2) := by decide +kernel
theorem dX5_check_238 : decode cX5_check 238 = .ok (.aload_n 0, 1) := by decide +kernel
theorem dX5_check_239 : decode cX5_check 239 = .ok (.getfield 68, 3) := by decide +kernel
theorem dX5_check_242 : decode cX5_check 242 = .ok (.iload 8, 2) := by decide +kernel
theorem dX5_check_244 : decode cX5_check 244 = .ok (.baload, 1) := by decide +kernel
theorem dX5_check_245 : decode cX5_check 245 = .ok (.ifCond .eq 13, 3) := by decide +kernel
theorem dX5_check_248 : decode cX5_check 248 = .ok (.aload_n 0, 1) := by decide +kernel
theorem dX5_check_249 : decode cX5_check 249 = .ok (.getfield 47, 3) := by decide +kernel
theorem dX5_check_252 : decode cX5_check 252 = .ok (.iload 10, 2) := by decide +kernel
theorem dX5_check_254 : decode cX5_check 254 = .ok (.iaload, 1) := by decide +kernel
theorem dX5_check_255 : decode cX5_check 255 = .ok (.goto 5, 3) := by decide +kernel
theorem dX5_check_258 : decode cX5_check 258 = .ok (.iload 11, 2) := by decide +kernel
theorem dX5_check_260 : decode cX5_check 260 = .ok (.iastore, 1) := by decide +kernel
theorem dX5_check_261 : decode cX5_check 261 = .ok (.aload_n 0, 1) := by decide +kernel
theorem dX5_check_262 : decode cX5_check 262 = .ok (.getfield 50, 3) := by decide +kernel
theorem dX5_check_265 : decode cX5_check 265 = .ok (.bipush 8, 2) := by decide +kernel
theorem dX5_check_267 : decode cX5_check 267 = .ok (.iload 10, 2) := by decide +kernel
theorem dX5_check_269 : decode cX5_check 269 = .ok (.iadd, 1) := by decide +kernel
theorem dX5_check_270 : decode cX5_check 270 = .ok (.aload_n 0, 1) := by decide +kernel
theorem dX5_check_271 : decode cX5_check 271 = .ok (.getfield 68, 3) := by decide +kernel
theorem dX5_check_274 : decode cX5_check 274 = .ok (.iload 8, 2) := by decide +kernel
theorem dX5_check_276 : decode cX5_check 276 = .ok (.baload, 1) := by decide +kernel
theorem dX5_check_277 : decode cX5_check 277 = .ok (.ifCond .eq 8, 3) := by decide +kernel
theorem dX5_check_280 : decode cX5_check 280 = .ok (.iload 11, 2) := by decide +kernel
theorem dX5_check_282 : decode cX5_check 282 = .ok (.goto 10, 3) := by decide +kernel
theorem dX5_check_285 : decode cX5_check 285 = .ok (.aload_n 0, 1) := by decide +kernel
theorem dX5_check_286 : decode cX5_check 286 = .ok (.getfield 47, 3) := by decide +kernel
theorem dX5_check_289 : decode cX5_check 289 = .ok (.iload 10, 2) := by decide +kernel
theorem dX5_check_291 : decode cX5_check 291 = .ok (.iaload, 1) := by decide +kernel
theorem dX5_check_292 : decode cX5_check 292 = .ok (.iastore, 1) := by decide +kernel
theorem dX5_check_293 : decode cX5_check 293 = .ok (.iinc 10 1, 3) := by decide +kernel
theorem dX5_check_296 : decode cX5_check 296 = .ok (.goto (-87), 3) := by decide +kernel
theorem dX5_check_299 : decode cX5_check 299 = .ok (.iconst 0, 1) := by decide +kernel
theorem dX5_check_300 : decode cX5_check 300 = .ok (.istore 10, 2) := by decide +kernel
theorem dX5_check_302 : decode cX5_check 302 = .ok (.iload 10, 2) := by decide +kernel
theorem dX5_check_304 : decode cX5_check 304 = .ok (.bipush 8, 2) := by decide +kernel
theorem dX5_check_306 : decode cX5_check 306 = .ok (.if_icmp .ge 23, 3) := by decide +kernel
theorem dX5_check_309 : decode cX5_check 309 = .ok (.aload_n 0, 1) := by decide +kernel
theorem dX5_check_310 : decode cX5_check 310 = .ok (.getfield 47, 3) := by decide +kernel
theorem dX5_check_313 : decode cX5_check 313 = .ok (.iload 10, 2) := by decide +kernel
theorem dX5_check_315 : decode cX5_check 315 = .ok (.aload_n 0, 1) := by decide +kernel
theorem dX5_check_316 : decode cX5_check 316 = .ok (.getfield 44, 3) := by decide +kernel
theorem dX5_check_319 : decode cX5_check 319 = .ok (.iload 10, 2) := by decide +kernel
theorem dX5_check_321 : decode cX5_check 321 = .ok (.iaload, 1) := by decide +kernel
theorem dX5_check_322 : decode cX5_check 322 = .ok (.iastore, 1) := by decide +kernel
theorem dX5_check_323 : decode cX5_check 323 = .ok (.iinc 10 1, 3) := by decide +kernel
theorem dX5_check_326 : decode cX5_check 326 = .ok (.goto (-24), 3) := by decide +kernel
theorem dX5_check_329 : decode cX5_check 329 = .ok (.aload_n 0, 1) := by decide +kernel
theorem dX5_check_330 : decode cX5_check 330 = .ok (.lconst 0, 1) := by decide +kernel
theorem dX5_check_331 : decode cX5_check 331 = .ok (.putfield 100, 3) := by decide +kernel
theorem dX5_check_334 : decode cX5_check 334 = .ok (.aload_n 0, 1) := by decide +kernel
theorem dX5_check_335 : decode cX5_check 335 = .ok (.bipush 64, 2) := by decide +kernel
theorem dX5_check_337 : decode cX5_check 337 = .ok (.putfield 92, 3) := by decide +kernel
theorem dX5_check_340 : decode cX5_check 340 = .ok (.aload_n 0, 1) := by decide +kernel
theorem dX5_check_341 : decode cX5_check 341 = .ok (.aload_n 0, 1) := by decide +kernel
theorem dX5_check_342 : decode cX5_check 342 = .ok (.getfield 114, 3) := by decide +kernel
theorem dX5_check_345 : decode cX5_check 345 = .ok (.iconst 4, 1) := by decide +kernel
theorem dX5_check_346 : decode cX5_check 346 = .ok (.iadd, 1) := by decide +kernel
theorem dX5_check_347 : decode cX5_check 347 = .ok (.putfield 104, 3) := by decide +kernel
theorem dX5_check_350 : decode cX5_check 350 = .ok (.iinc 8 (-1), 3) := by decide +kernel
theorem dX5_check_353 : decode cX5_check 353 = .ok (.goto (-166), 3) := by decide +kernel
theorem dX5_check_356 : decode cX5_check 356 = .ok (.aload_n 0, 1) := by decide +kernel
theorem dX5_check_357 : decode cX5_check 357 = .ok (.lconst 0, 1) := by decide +kernel
theorem dX5_check_358 : decode cX5_check 358 = .ok (.aload_n 0, 1) := by decide +kernel
theorem dX5_check_359 : decode cX5_check 359 = .ok (.getfield 104, 3) := by decide +kernel
theorem dX5_check_362 : decode cX5_check 362 = .ok (.bipush 8, 2) := by decide +kernel
theorem dX5_check_364 : decode cX5_check 364 = .ok (.iadd, 1) := by decide +kernel
theorem dX5_check_365 : decode cX5_check 365 = .ok (.invokevirtual 107, 3) := by decide +kernel
theorem dX5_check_368 : decode cX5_check 368 = .ok (.iconst 1, 1) := by decide +kernel
theorem dX5_check_369 : decode cX5_check 369 = .ok (.istore 8, 2) := by decide +kernel
theorem dX5_check_371 : decode cX5_check 371 = .ok (.iconst 0, 1) := by decide +kernel
theorem dX5_check_372 : decode cX5_check 372 = .ok (.istore 9, 2) := by decide +kernel
theorem dX5_check_374 : decode cX5_check 374 = .ok (.iload 9, 2) := by decide +kernel
theorem dX5_check_376 : decode cX5_check 376 = .ok (.bipush 32, 2) := by decide +kernel
theorem dX5_check_378 : decode cX5_check 378 = .ok (.if_icmp .ge 58, 3) := by decide +kernel
theorem dX5_check_381 : decode cX5_check 381 = .ok (.iload 8, 2) := by decide +kernel
theorem dX5_check_383 : decode cX5_check 383 = .ok (.ifCond .eq 44, 3) := by decide +kernel
theorem dX5_check_386 : decode cX5_check 386 = .ok (.aload_n 0, 1) := by decide +kernel
theorem dX5_check_387 : decode cX5_check 387 = .ok (.getfield 7, 3) := by decide +kernel
theorem dX5_check_390 : decode cX5_check 390 = .ok (.sipush 200, 3) := by decide +kernel
theorem dX5_check_393 : decode cX5_check 393 = .ok (.iload_n 1, 1) := by decide +kernel
theorem dX5_check_394 : decode cX5_check 394 = .ok (.imul, 1) := by decide +kernel
theorem dX5_check_395 : decode cX5_check 395 = .ok (.iload 9, 2) := by decide +kernel
theorem dX5_check_397 : decode cX5_check 397 = .ok (.iadd, 1) := by decide +kernel
theorem dX5_check_398 : decode cX5_check 398 = .ok (.iaload, 1) := by decide +kernel
theorem dX5_check_399 : decode cX5_check 399 = .ok (.aload_n 0, 1) := by decide +kernel
theorem dX5_check_400 : decode cX5_check 400 = .ok (.getfield 53, 3) := by decide +kernel
theorem dX5_check_403 : decode cX5_check 403 = .ok (.iload 9, 2) := by decide +kernel
theorem dX5_check_405 : decode cX5_check 405 = .ok (.iconst 4, 1) := by decide +kernel
theorem dX5_check_406 : decode cX5_check 406 = .ok (.idiv, 1) := by decide +kernel
theorem dX5_check_407 : decode cX5_check 407 = .ok (.iaload, 1) := by decide +kernel
theorem dX5_check_408 : decode cX5_check 408 = .ok (.bipush 8, 2) := by decide +kernel
theorem dX5_check_410 : decode cX5_check 410 = .ok (.iload 9, 2) := by decide +kernel
theorem dX5_check_412 : decode cX5_check 412 = .ok (.iconst 4, 1) := by decide +kernel
theorem dX5_check_413 : decode cX5_check 413 = .ok (.irem, 1) := by decide +kernel
theorem dX5_check_414 : decode cX5_check 414 = .ok (.imul, 1) := by decide +kernel
theorem dX5_check_415 : decode cX5_check 415 = .ok (.ishr, 1) := by decide +kernel
theorem dX5_check_416 : decode cX5_check 416 = .ok (.sipush 255, 3) := by decide +kernel
theorem dX5_check_419 : decode cX5_check 419 = .ok (.iand, 1) := by decide +kernel
theorem dX5_check_420 : decode cX5_check 420 = .ok (.if_icmp .ne 7, 3) := by decide +kernel
theorem dX5_check_423 : decode cX5_check 423 = .ok (.iconst 1, 1) := by decide +kernel
theorem dX5_check_424 : decode cX5_check 424 = .ok (.goto 4, 3) := by decide +kernel
theorem dX5_check_427 : decode cX5_check 427 = .ok (.iconst 0, 1) := by decide +kernel
theorem dX5_check_428 : decode cX5_check 428 = .ok (.istore 8, 2) := by decide +kernel
theorem dX5_check_430 : decode cX5_check 430 = .ok (.iinc 9 1, 3) := by decide +kernel
theorem dX5_check_433 : decode cX5_check 433 = .ok (.goto (-59), 3) := by decide +kernel
theorem dX5_check_436 : decode cX5_check 436 = .ok (.iload 8, 2) := by decide +kernel
theorem dX5_check_438 : decode cX5_check 438 = .ok (.ifCond .eq 7, 3) := by decide +kernel
theorem dX5_check_441 : decode cX5_check 441 = .ok (.iconst 1, 1) := by decide +kernel
theorem dX5_check_442 : decode cX5_check 442 = .ok (.goto 4, 3) := by decide +kernel
theorem dX5_check_445 : decode cX5_check 445 = .ok (.iconst 0, 1) := by decide +kernel
theorem dX5_check_446 : decode cX5_check 446 = .ok (.ireturn, 1) := by decide +kernel
