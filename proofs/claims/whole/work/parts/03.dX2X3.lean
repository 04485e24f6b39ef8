theorem dX2_init_0 : decode cX2_init 0 = .ok (.aload_n 0, 1) := by decide +kernel
theorem dX2_init_1 : decode cX2_init 1 = .ok (.invokespecial 3, 3) := by decide +kernel
theorem dX2_init_4 : decode cX2_init 4 = .ok (.aload_n 0, 1) := by decide +kernel
theorem dX2_init_5 : decode cX2_init 5 = .ok (.bipush 8, 2) := by decide +kernel
theorem dX2_init_7 : decode cX2_init 7 = .ok (.newarray .int, 2) := by decide +kernel
theorem dX2_init_9 : decode cX2_init 9 = .ok (.putfield 9, 3) := by decide +kernel
theorem dX2_init_12 : decode cX2_init 12 = .ok (.aload_n 0, 1) := by decide +kernel
theorem dX2_init_13 : decode cX2_init 13 = .ok (.bipush 16, 2) := by decide +kernel
theorem dX2_init_15 : decode cX2_init 15 = .ok (.newarray .int, 2) := by decide +kernel
theorem dX2_init_17 : decode cX2_init 17 = .ok (.putfield 15, 3) := by decide +kernel
theorem dX2_init_20 : decode cX2_init 20 = .ok (.aload_n 0, 1) := by decide +kernel
theorem dX2_init_21 : decode cX2_init 21 = .ok (.bipush 16, 2) := by decide +kernel
theorem dX2_init_23 : decode cX2_init 23 = .ok (.newarray .int, 2) := by decide +kernel
theorem dX2_init_25 : decode cX2_init 25 = .ok (.putfield 18, 3) := by decide +kernel
theorem dX2_init_28 : decode cX2_init 28 = .ok (.aload_n 0, 1) := by decide +kernel
theorem dX2_init_29 : decode cX2_init 29 = .ok (.bipush 16, 2) := by decide +kernel
theorem dX2_init_31 : decode cX2_init 31 = .ok (.newarray .int, 2) := by decide +kernel
theorem dX2_init_33 : decode cX2_init 33 = .ok (.putfield 21, 3) := by decide +kernel
theorem dX2_init_36 : decode cX2_init 36 = .ok (.aload_n 0, 1) := by decide +kernel
theorem dX2_init_37 : decode cX2_init 37 = .ok (.bipush 16, 2) := by decide +kernel
theorem dX2_init_39 : decode cX2_init 39 = .ok (.newarray .int, 2) := by decide +kernel
theorem dX2_init_41 : decode cX2_init 41 = .ok (.putfield 24, 3) := by decide +kernel
theorem dX2_init_44 : decode cX2_init 44 = .ok (.return_, 1) := by decide +kernel
theorem dX2_prepare_0 : decode cX2_prepare 0 = .ok (.iconst 0, 1) := by decide +kernel
theorem dX2_prepare_1 : decode cX2_prepare 1 = .ok (.istore 7, 2) := by decide +kernel
theorem dX2_prepare_3 : decode cX2_prepare 3 = .ok (.iload 7, 2) := by decide +kernel
theorem dX2_prepare_5 : decode cX2_prepare 5 = .ok (.aload_n 0, 1) := by decide +kernel
theorem dX2_prepare_6 : decode cX2_prepare 6 = .ok (.getfield 9, 3) := by decide +kernel
theorem dX2_prepare_9 : decode cX2_prepare 9 = .ok (.arraylength, 1) := by decide +kernel
theorem dX2_prepare_10 : decode cX2_prepare 10 = .ok (.if_icmp .ge 27, 3) := by decide +kernel
theorem dX2_prepare_13 : decode cX2_prepare 13 = .ok (.iload 7, 2) := by decide +kernel
theorem dX2_prepare_15 : decode cX2_prepare 15 = .ok (.aload_n 1, 1) := by decide +kernel
theorem dX2_prepare_16 : decode cX2_prepare 16 = .ok (.arraylength, 1) := by decide +kernel
theorem dX2_prepare_17 : decode cX2_prepare 17 = .ok (.if_icmp .ge 20, 3) := by decide +kernel
theorem dX2_prepare_20 : decode cX2_prepare 20 = .ok (.aload_n 0, 1) := by decide +kernel
theorem dX2_prepare_21 : decode cX2_prepare 21 = .ok (.getfield 9, 3) := by decide +kernel
theorem dX2_prepare_24 : decode cX2_prepare 24 = .ok (.iload 7, 2) := by decide +kernel
theorem dX2_prepare_26 : decode cX2_prepare 26 = .ok (.aload_n 1, 1) := by decide +kernel
theorem dX2_prepare_27 : decode cX2_prepare 27 = .ok (.iload 7, 2) := by decide +kernel
theorem dX2_prepare_29 : decode cX2_prepare 29 = .ok (.iaload, 1) := by decide +kernel
theorem dX2_prepare_30 : decode cX2_prepare 30 = .ok (.iastore, 1) := by decide +kernel
theorem dX2_prepare_31 : decode cX2_prepare 31 = .ok (.iinc 7 1, 3) := by decide +kernel
theorem dX2_prepare_34 : decode cX2_prepare 34 = .ok (.goto (-31), 3) := by decide +kernel
theorem dX2_prepare_37 : decode cX2_prepare 37 = .ok (.iconst 0, 1) := by decide +kernel
theorem dX2_prepare_38 : decode cX2_prepare 38 = .ok (.istore 7, 2) := by decide +kernel
theorem dX2_prepare_40 : decode cX2_prepare 40 = .ok (.iload 7, 2) := by decide +kernel
theorem dX2_prepare_42 : decode cX2_prepare 42 = .ok (.aload_n 0, 1) := by decide +kernel
theorem dX2_prepare_43 : decode cX2_prepare 43 = .ok (.getfield 15, 3) := by decide +kernel
theorem dX2_prepare_46 : decode cX2_prepare 46 = .ok (.arraylength, 1) := by decide +kernel
theorem dX2_prepare_47 : decode cX2_prepare 47 = .ok (.if_icmp .ge 27, 3) := by decide +kernel
theorem dX2_prepare_50 : decode cX2_prepare 50 = .ok (.iload 7, 2) := by decide +kernel
theorem dX2_prepare_52 : decode cX2_prepare 52 = .ok (.aload_n 2, 1) := by decide +kernel
theorem dX2_prepare_53 : decode cX2_prepare 53 = .ok (.arraylength, 1) := by decide +kernel
theorem dX2_prepare_54 : decode cX2_prepare 54 = .ok (.if_icmp .ge 20, 3) := by decide +kernel
theorem dX2_prepare_57 : decode cX2_prepare 57 = .ok (.aload_n 0, 1) := by decide +kernel
theorem dX2_prepare_58 : decode cX2_prepare 58 = .ok (.getfield 15, 3) := by decide +kernel
theorem dX2_prepare_61 : decode cX2_prepare 61 = .ok (.iload 7, 2) := by decide +kernel
theorem dX2_prepare_63 : decode cX2_prepare 63 = .ok (.aload_n 2, 1) := by decide +kernel
theorem dX2_prepare_64 : decode cX2_prepare 64 = .ok (.iload 7, 2) := by decide +kernel
theorem dX2_prepare_66 : decode cX2_prepare 66 = .ok (.iaload, 1) := by decide +kernel
theorem dX2_prepare_67 : decode cX2_prepare 67 = .ok (.iastore, 1) := by decide +kernel
theorem dX2_prepare_68 : decode cX2_prepare 68 = .ok (.iinc 7 1, 3) := by decide +kernel
theorem dX2_prepare_71 : decode cX2_prepare 71 = .ok (.goto (-31), 3) := by decide +kernel
theorem dX2_prepare_74 : decode cX2_prepare 74 = .ok (.aload_n 0, 1) := by decide +kernel
theorem dX2_prepare_75 : decode cX2_prepare 75 = .ok (.lload_n 3, 1) := by decide +kernel
theorem dX2_prepare_76 : decode cX2_prepare 76 = .ok (.putfield 27, 3) := by decide +kernel
theorem dX2_prepare_79 : decode cX2_prepare 79 = .ok (.aload_n 0, 1) := by decide +kernel
theorem dX2_prepare_80 : decode cX2_prepare 80 = .ok (.iload 5, 2) := by decide +kernel
theorem dX2_prepare_82 : decode cX2_prepare 82 = .ok (.putfield 31, 3) := by decide +kernel
theorem dX2_prepare_85 : decode cX2_prepare 85 = .ok (.aload_n 0, 1) := by decide +kernel
theorem dX2_prepare_86 : decode cX2_prepare 86 = .ok (.iload 6, 2) := by decide +kernel
theorem dX2_prepare_88 : decode cX2_prepare 88 = .ok (.putfield 35, 3) := by decide +kernel
theorem dX2_prepare_91 : decode cX2_prepare 91 = .ok (.return_, 1) := by decide +kernel
set_option maxRecDepth 20000 in
theorem ggX2_joinBehind_X2_wordOf : GoodIn wsX2_joinBehind wsX2_wordOf := goodIn_r _ [6] (by decide +kernel) (by decide +kernel)
set_option maxRecDepth 20000 in
theorem gX2_joinBehind_X2_wordOf : GoodIn wsX2_joinBehind (va_wsS RX2 38 yX2_wordOf wsX2_wordOf) := goodIn_app (goodIn_of _ (by decide +kernel)) ggX2_joinBehind_X2_wordOf
set_option maxRecDepth 20000 in
theorem ggX2_joinBehind_X2_prepare : GoodIn wsX2_joinBehind wsX2_prepare := goodIn_r _ [10, 11, 1, 12, 13, 14, 15, 16, 17, 18, 19, 20, 21, 22] (by decide +kernel) (by decide +kernel)
set_option maxRecDepth 20000 in
theorem gX2_joinBehind_X2_prepare : GoodIn wsX2_joinBehind (wsV RX2 42 RX2 yX2_prepare wsX2_prepare) := goodIn_app (goodIn_of _ (by decide +kernel)) ggX2_joinBehind_X2_prepare
theorem dX2_joinBehind_0 : decode cX2_joinBehind 0 = .ok (.iconst 0, 1) := by decide +kernel
theorem dX2_joinBehind_1 : decode cX2_joinBehind 1 = .ok (.istore 5, 2) := by decide +kernel
theorem dX2_joinBehind_3 : decode cX2_joinBehind 3 = .ok (.iload 5, 2) := by decide +kernel
theorem dX2_joinBehind_5 : decode cX2_joinBehind 5 = .ok (.bipush 8, 2) := by decide +kernel
theorem dX2_joinBehind_7 : decode cX2_joinBehind 7 = .ok (.if_icmp .ge 41, 3) := by decide +kernel
theorem dX2_joinBehind_10 : decode cX2_joinBehind 10 = .ok (.aload_n 0, 1) := by decide +kernel
theorem dX2_joinBehind_11 : decode cX2_joinBehind 11 = .ok (.getfield 15, 3) := by decide +kernel
theorem dX2_joinBehind_14 : decode cX2_joinBehind 14 = .ok (.iload 5, 2) := by decide +kernel
theorem dX2_joinBehind_16 : decode cX2_joinBehind 16 = .ok (.aload_n 1, 1) := by decide +kernel
theorem dX2_joinBehind_17 : decode cX2_joinBehind 17 = .ok (.iload_n 2, 1) := by decide +kernel
theorem dX2_joinBehind_18 : decode cX2_joinBehind 18 = .ok (.iload 5, 2) := by decide +kernel
theorem dX2_joinBehind_20 : decode cX2_joinBehind 20 = .ok (.iadd, 1) := by decide +kernel
theorem dX2_joinBehind_21 : decode cX2_joinBehind 21 = .ok (.invokestatic 38, 3) := by decide +kernel
theorem dX2_joinBehind_24 : decode cX2_joinBehind 24 = .ok (.iastore, 1) := by decide +kernel
theorem dX2_joinBehind_25 : decode cX2_joinBehind 25 = .ok (.aload_n 0, 1) := by decide +kernel
theorem dX2_joinBehind_26 : decode cX2_joinBehind 26 = .ok (.getfield 15, 3) := by decide +kernel
theorem dX2_joinBehind_29 : decode cX2_joinBehind 29 = .ok (.bipush 8, 2) := by decide +kernel
theorem dX2_joinBehind_31 : decode cX2_joinBehind 31 = .ok (.iload 5, 2) := by decide +kernel
theorem dX2_joinBehind_33 : decode cX2_joinBehind 33 = .ok (.iadd, 1) := by decide +kernel
theorem dX2_joinBehind_34 : decode cX2_joinBehind 34 = .ok (.aload_n 0, 1) := by decide +kernel
theorem dX2_joinBehind_35 : decode cX2_joinBehind 35 = .ok (.getfield 18, 3) := by decide +kernel
theorem dX2_joinBehind_38 : decode cX2_joinBehind 38 = .ok (.iload 5, 2) := by decide +kernel
theorem dX2_joinBehind_40 : decode cX2_joinBehind 40 = .ok (.iaload, 1) := by decide +kernel
theorem dX2_joinBehind_41 : decode cX2_joinBehind 41 = .ok (.iastore, 1) := by decide +kernel
theorem dX2_joinBehind_42 : decode cX2_joinBehind 42 = .ok (.iinc 5 1, 3) := by decide +kernel
theorem dX2_joinBehind_45 : decode cX2_joinBehind 45 = .ok (.goto (-42), 3) := by decide +kernel
theorem dX2_joinBehind_48 : decode cX2_joinBehind 48 = .ok (.aload_n 0, 1) := by decide +kernel
theorem dX2_joinBehind_49 : decode cX2_joinBehind 49 = .ok (.aload_n 3, 1) := by decide +kernel
theorem dX2_joinBehind_50 : decode cX2_joinBehind 50 = .ok (.aload_n 0, 1) := by decide +kernel
theorem dX2_joinBehind_51 : decode cX2_joinBehind 51 = .ok (.getfield 15, 3) := by decide +kernel
theorem dX2_joinBehind_54 : decode cX2_joinBehind 54 = .ok (.lconst 0, 1) := by decide +kernel
theorem dX2_joinBehind_55 : decode cX2_joinBehind 55 = .ok (.bipush 64, 2) := by decide +kernel
theorem dX2_joinBehind_57 : decode cX2_joinBehind 57 = .ok (.iload 4, 2) := by decide +kernel
theorem dX2_joinBehind_59 : decode cX2_joinBehind 59 = .ok (.iconst 4, 1) := by decide +kernel
theorem dX2_joinBehind_60 : decode cX2_joinBehind 60 = .ok (.iadd, 1) := by decide +kernel
theorem dX2_joinBehind_61 : decode cX2_joinBehind 61 = .ok (.invokevirtual 42, 3) := by decide +kernel
theorem dX2_joinBehind_64 : decode cX2_joinBehind 64 = .ok (.return_, 1) := by decide +kernel
set_option maxRecDepth 20000 in
theorem ggX2_joinBefore_X2_wordOf : GoodIn wsX2_joinBefore wsX2_wordOf := goodIn_r _ [6] (by decide +kernel) (by decide +kernel)
set_option maxRecDepth 20000 in
theorem gX2_joinBefore_X2_wordOf : GoodIn wsX2_joinBefore (va_wsS RX2 38 yX2_wordOf wsX2_wordOf) := goodIn_app (goodIn_of _ (by decide +kernel)) ggX2_joinBefore_X2_wordOf
set_option maxRecDepth 20000 in
theorem ggX2_joinBefore_X2_prepare : GoodIn wsX2_joinBefore wsX2_prepare := goodIn_r _ [10, 11, 1, 12, 13, 14, 15, 16, 17, 18, 19, 20, 21, 22] (by decide +kernel) (by decide +kernel)
set_option maxRecDepth 20000 in
theorem gX2_joinBefore_X2_prepare : GoodIn wsX2_joinBefore (wsV RX2 42 RX2 yX2_prepare wsX2_prepare) := goodIn_app (goodIn_of _ (by decide +kernel)) ggX2_joinBefore_X2_prepare
theorem dX2_joinBefore_0 : decode cX2_joinBefore 0 = .ok (.iconst 0, 1) := by decide +kernel
theorem dX2_joinBefore_1 : decode cX2_joinBefore 1 = .ok (.istore 4, 2) := by decide +kernel
theorem dX2_joinBefore_3 : decode cX2_joinBefore 3 = .ok (.iload 4, 2) := by decide +kernel
theorem dX2_joinBefore_5 : decode cX2_joinBefore 5 = .ok (.bipush 8, 2) := by decide +kernel
theorem dX2_joinBefore_7 : decode cX2_joinBefore 7 = .ok (.if_icmp .ge 39, 3) := by decide +kernel
theorem dX2_joinBefore_10 : decode cX2_joinBefore 10 = .ok (.aload_n 0, 1) := by decide +kernel
theorem dX2_joinBefore_11 : decode cX2_joinBefore 11 = .ok (.getfield 15, 3) := by decide +kernel
theorem dX2_joinBefore_14 : decode cX2_joinBefore 14 = .ok (.iload 4, 2) := by decide +kernel
theorem dX2_joinBefore_16 : decode cX2_joinBefore 16 = .ok (.aload_n 0, 1) := by decide +kernel
theorem dX2_joinBefore_17 : decode cX2_joinBefore 17 = .ok (.getfield 18, 3) := by decide +kernel
theorem dX2_joinBefore_20 : decode cX2_joinBefore 20 = .ok (.iload 4, 2) := by decide +kernel
theorem dX2_joinBefore_22 : decode cX2_joinBefore 22 = .ok (.iaload, 1) := by decide +kernel
theorem dX2_joinBefore_23 : decode cX2_joinBefore 23 = .ok (.iastore, 1) := by decide +kernel
theorem dX2_joinBefore_24 : decode cX2_joinBefore 24 = .ok (.aload_n 0, 1) := by decide +kernel
theorem dX2_joinBefore_25 : decode cX2_joinBefore 25 = .ok (.getfield 15, 3) := by decide +kernel
theorem dX2_joinBefore_28 : decode cX2_joinBefore 28 = .ok (.bipush 8, 2) := by decide +kernel
theorem dX2_joinBefore_30 : decode cX2_joinBefore 30 = .ok (.iload 4, 2) := by decide +kernel
theorem dX2_joinBefore_32 : decode cX2_joinBefore 32 = .ok (.iadd, 1) := by decide +kernel
theorem dX2_joinBefore_33 : decode cX2_joinBefore 33 = .ok (.aload_n 1, 1) := by decide +kernel
theorem dX2_joinBefore_34 : decode cX2_joinBefore 34 = .ok (.iload 4, 2) := by decide +kernel
theorem dX2_joinBefore_36 : decode cX2_joinBefore 36 = .ok (.invokestatic 38, 3) := by decide +kernel
theorem dX2_joinBefore_39 : decode cX2_joinBefore 39 = .ok (.iastore, 1) := by decide +kernel
theorem dX2_joinBefore_40 : decode cX2_joinBefore 40 = .ok (.iinc 4 1, 3) := by decide +kernel
theorem dX2_joinBefore_43 : decode cX2_joinBefore 43 = .ok (.goto (-40), 3) := by decide +kernel
theorem dX2_joinBefore_46 : decode cX2_joinBefore 46 = .ok (.aload_n 0, 1) := by decide +kernel
theorem dX2_joinBefore_47 : decode cX2_joinBefore 47 = .ok (.aload_n 2, 1) := by decide +kernel
theorem dX2_joinBefore_48 : decode cX2_joinBefore 48 = .ok (.aload_n 0, 1) := by decide +kernel
theorem dX2_joinBefore_49 : decode cX2_joinBefore 49 = .ok (.getfield 15, 3) := by decide +kernel
theorem dX2_joinBefore_52 : decode cX2_joinBefore 52 = .ok (.lconst 0, 1) := by decide +kernel
theorem dX2_joinBefore_53 : decode cX2_joinBefore 53 = .ok (.bipush 64, 2) := by decide +kernel
theorem dX2_joinBefore_55 : decode cX2_joinBefore 55 = .ok (.iload_n 3, 1) := by decide +kernel
theorem dX2_joinBefore_56 : decode cX2_joinBefore 56 = .ok (.iconst 4, 1) := by decide +kernel
theorem dX2_joinBefore_57 : decode cX2_joinBefore 57 = .ok (.iadd, 1) := by decide +kernel
theorem dX2_joinBefore_58 : decode cX2_joinBefore 58 = .ok (.invokevirtual 42, 3) := by decide +kernel
theorem dX2_joinBefore_61 : decode cX2_joinBefore 61 = .ok (.return_, 1) := by decide +kernel
theorem dX2_wordOf_0 : decode cX2_wordOf 0 = .ok (.iload_n 1, 1) := by decide +kernel
theorem dX2_wordOf_1 : decode cX2_wordOf 1 = .ok (.ifCond .lt 15, 3) := by decide +kernel
theorem dX2_wordOf_4 : decode cX2_wordOf 4 = .ok (.iload_n 1, 1) := by decide +kernel
theorem dX2_wordOf_5 : decode cX2_wordOf 5 = .ok (.aload_n 0, 1) := by decide +kernel
theorem dX2_wordOf_6 : decode cX2_wordOf 6 = .ok (.arraylength, 1) := by decide +kernel
theorem dX2_wordOf_7 : decode cX2_wordOf 7 = .ok (.if_icmp .ge 9, 3) := by decide +kernel
theorem dX2_wordOf_10 : decode cX2_wordOf 10 = .ok (.aload_n 0, 1) := by decide +kernel
theorem dX2_wordOf_11 : decode cX2_wordOf 11 = .ok (.iload_n 1, 1) := by decide +kernel
theorem dX2_wordOf_12 : decode cX2_wordOf 12 = .ok (.iaload, 1) := by decide +kernel
theorem dX2_wordOf_13 : decode cX2_wordOf 13 = .ok (.goto 4, 3) := by decide +kernel
theorem dX2_wordOf_16 : decode cX2_wordOf 16 = .ok (.iconst 0, 1) := by decide +kernel
theorem dX2_wordOf_17 : decode cX2_wordOf 17 = .ok (.ireturn, 1) := by decide +kernel
theorem dX2_makeRoot_0 : decode cX2_makeRoot 0 = .ok (.aload_n 0, 1) := by decide +kernel
theorem dX2_makeRoot_1 : decode cX2_makeRoot 1 = .ok (.dup, 1) := by decide +kernel
theorem dX2_makeRoot_2 : decode cX2_makeRoot 2 = .ok (.getfield 35, 3) := by decide +kernel
theorem dX2_makeRoot_5 : decode cX2_makeRoot 5 = .ok (.bipush 8, 2) := by decide +kernel
theorem dX2_makeRoot_7 : decode cX2_makeRoot 7 = .ok (.ior, 1) := by decide +kernel
theorem dX2_makeRoot_8 : decode cX2_makeRoot 8 = .ok (.putfield 35, 3) := by decide +kernel
theorem dX2_makeRoot_11 : decode cX2_makeRoot 11 = .ok (.return_, 1) := by decide +kernel
theorem dX2_writeChain_0 : decode cX2_writeChain 0 = .ok (.iconst 0, 1) := by decide +kernel
theorem dX2_writeChain_1 : decode cX2_writeChain 1 = .ok (.istore_n 3, 1) := by decide +kernel
theorem dX2_writeChain_2 : decode cX2_writeChain 2 = .ok (.iload_n 3, 1) := by decide +kernel
theorem dX2_writeChain_3 : decode cX2_writeChain 3 = .ok (.bipush 8, 2) := by decide +kernel
theorem dX2_writeChain_5 : decode cX2_writeChain 5 = .ok (.if_icmp .ge 36, 3) := by decide +kernel
theorem dX2_writeChain_8 : decode cX2_writeChain 8 = .ok (.iload_n 2, 1) := by decide +kernel
theorem dX2_writeChain_9 : decode cX2_writeChain 9 = .ok (.iload_n 3, 1) := by decide +kernel
theorem dX2_writeChain_10 : decode cX2_writeChain 10 = .ok (.iadd, 1) := by decide +kernel
theorem dX2_writeChain_11 : decode cX2_writeChain 11 = .ok (.istore 4, 2) := by decide +kernel
theorem dX2_writeChain_13 : decode cX2_writeChain 13 = .ok (.iload 4, 2) := by decide +kernel
theorem dX2_writeChain_15 : decode cX2_writeChain 15 = .ok (.ifCond .lt 20, 3) := by decide +kernel
theorem dX2_writeChain_18 : decode cX2_writeChain 18 = .ok (.iload 4, 2) := by decide +kernel
theorem dX2_writeChain_20 : decode cX2_writeChain 20 = .ok (.aload_n 1, 1) := by decide +kernel
theorem dX2_writeChain_21 : decode cX2_writeChain 21 = .ok (.arraylength, 1) := by decide +kernel
theorem dX2_writeChain_22 : decode cX2_writeChain 22 = .ok (.if_icmp .ge 13, 3) := by decide +kernel
theorem dX2_writeChain_25 : decode cX2_writeChain 25 = .ok (.aload_n 1, 1) := by decide +kernel
theorem dX2_writeChain_26 : decode cX2_writeChain 26 = .ok (.iload 4, 2) := by decide +kernel
theorem dX2_writeChain_28 : decode cX2_writeChain 28 = .ok (.aload_n 0, 1) := by decide +kernel
theorem dX2_writeChain_29 : decode cX2_writeChain 29 = .ok (.getfield 18, 3) := by decide +kernel
theorem dX2_writeChain_32 : decode cX2_writeChain 32 = .ok (.iload_n 3, 1) := by decide +kernel
theorem dX2_writeChain_33 : decode cX2_writeChain 33 = .ok (.iaload, 1) := by decide +kernel
theorem dX2_writeChain_34 : decode cX2_writeChain 34 = .ok (.iastore, 1) := by decide +kernel
theorem dX2_writeChain_35 : decode cX2_writeChain 35 = .ok (.iinc 3 1, 3) := by decide +kernel
theorem dX2_writeChain_38 : decode cX2_writeChain 38 = .ok (.goto (-36), 3) := by decide +kernel
theorem dX2_writeChain_41 : decode cX2_writeChain 41 = .ok (.return_, 1) := by decide +kernel
set_option maxRecDepth 20000 in
theorem ggX2_writeOutput_X0_keepFirst : GoodIn wsX2_writeOutput wsX0_keepFirst := goodIn_r _ [7, 8, 56, 57] (by decide +kernel) (by decide +kernel)
set_option maxRecDepth 20000 in
theorem gX2_writeOutput_X0_keepFirst : GoodIn wsX2_writeOutput (wsV RX2 46 RX0 yX0_keepFirst wsX0_keepFirst) := goodIn_app (goodIn_of _ (by decide +kernel)) ggX2_writeOutput_X0_keepFirst
set_option maxRecDepth 20000 in
theorem ggX2_writeOutput_X2_makeRoot : GoodIn wsX2_writeOutput wsX2_makeRoot := goodIn_r _ [13, 14, 48, 49, 50, 51, 52, 53, 54, 55] (by decide +kernel) (by decide +kernel)
set_option maxRecDepth 20000 in
theorem gX2_writeOutput_X2_makeRoot : GoodIn wsX2_writeOutput (wsV RX2 52 RX2 yX2_makeRoot wsX2_makeRoot) := goodIn_app (goodIn_of _ (by decide +kernel)) ggX2_writeOutput_X2_makeRoot
set_option maxRecDepth 20000 in
theorem ggX2_writeOutput_X2_run : GoodIn wsX2_writeOutput wsX2_run := goodIn_r _ [18, 19, 20, 21, 22, 23, 24, 12, 25, 26, 2, 27, 14, 28, 29, 30, 31, 32, 33, 34, 35, 36, 37, 38, 48, 49, 50, 51, 52, 53, 54, 55] (by decide +kernel) (by decide +kernel)
set_option maxRecDepth 20000 in
theorem gX2_writeOutput_X2_run : GoodIn wsX2_writeOutput (wsV RX2 57 RX2 yX2_run wsX2_run) := goodIn_app (goodIn_of _ (by decide +kernel)) ggX2_writeOutput_X2_run
set_option maxRecDepth 20000 in
theorem ggX2_writeOutput_X2_outputByte : GoodIn wsX2_writeOutput wsX2_outputByte := goodIn_r _ [42, 20, 48, 49, 50, 51, 52, 53, 54, 55] (by decide +kernel) (by decide +kernel)
set_option maxRecDepth 20000 in
theorem gX2_writeOutput_X2_outputByte : GoodIn wsX2_writeOutput (wsV RX2 60 RX2 yX2_outputByte wsX2_outputByte) := goodIn_app (goodIn_of _ (by decide +kernel)) ggX2_writeOutput_X2_outputByte
set_option maxRecDepth 20000 in
theorem ggX2_writeOutput_X0_append : GoodIn wsX2_writeOutput wsX0_append := goodIn_r _ [46, 8, 47, 56, 57] (by decide +kernel) (by decide +kernel)
set_option maxRecDepth 20000 in
theorem gX2_writeOutput_X0_append : GoodIn wsX2_writeOutput (wsV RX2 63 RX0 yX0_append wsX0_append) := goodIn_app (goodIn_of _ (by decide +kernel)) ggX2_writeOutput_X0_append
theorem dX2_writeOutput_0 : decode cX2_writeOutput 0 = .ok (.aload_n 1, 1) := by decide +kernel
theorem dX2_writeOutput_1 : decode cX2_writeOutput 1 = .ok (.iconst 0, 1) := by decide +kernel
theorem dX2_writeOutput_2 : decode cX2_writeOutput 2 = .ok (.invokevirtual 46, 3) := by decide +kernel
theorem dX2_writeOutput_5 : decode cX2_writeOutput 5 = .ok (.pop, 1) := by decide +kernel
theorem dX2_writeOutput_6 : decode cX2_writeOutput 6 = .ok (.aload_n 0, 1) := by decide +kernel
theorem dX2_writeOutput_7 : decode cX2_writeOutput 7 = .ok (.invokevirtual 52, 3) := by decide +kernel
theorem dX2_writeOutput_10 : decode cX2_writeOutput 10 = .ok (.iconst 0, 1) := by decide +kernel
theorem dX2_writeOutput_11 : decode cX2_writeOutput 11 = .ok (.istore 5, 2) := by decide +kernel
theorem dX2_writeOutput_13 : decode cX2_writeOutput 13 = .ok (.iload 5, 2) := by decide +kernel
theorem dX2_writeOutput_15 : decode cX2_writeOutput 15 = .ok (.iload_n 2, 1) := by decide +kernel
theorem dX2_writeOutput_16 : decode cX2_writeOutput 16 = .ok (.if_icmp .ge 57, 3) := by decide +kernel
theorem dX2_writeOutput_19 : decode cX2_writeOutput 19 = .ok (.lload_n 3, 1) := by decide +kernel
theorem dX2_writeOutput_20 : decode cX2_writeOutput 20 = .ok (.iload 5, 2) := by decide +kernel
theorem dX2_writeOutput_22 : decode cX2_writeOutput 22 = .ok (.i2l, 1) := by decide +kernel
theorem dX2_writeOutput_23 : decode cX2_writeOutput 23 = .ok (.ladd, 1) := by decide +kernel
theorem dX2_writeOutput_24 : decode cX2_writeOutput 24 = .ok (.ldc2_w 55, 3) := by decide +kernel
theorem dX2_writeOutput_27 : decode cX2_writeOutput 27 = .ok (.land, 1) := by decide +kernel
theorem dX2_writeOutput_28 : decode cX2_writeOutput 28 = .ok (.l2i, 1) := by decide +kernel
theorem dX2_writeOutput_29 : decode cX2_writeOutput 29 = .ok (.istore 6, 2) := by decide +kernel
theorem dX2_writeOutput_31 : decode cX2_writeOutput 31 = .ok (.iload 5, 2) := by decide +kernel
theorem dX2_writeOutput_33 : decode cX2_writeOutput 33 = .ok (.ifCond .eq 8, 3) := by decide +kernel
theorem dX2_writeOutput_36 : decode cX2_writeOutput 36 = .ok (.iload 6, 2) := by decide +kernel
theorem dX2_writeOutput_38 : decode cX2_writeOutput 38 = .ok (.ifCond .ne 19, 3) := by decide +kernel
theorem dX2_writeOutput_41 : decode cX2_writeOutput 41 = .ok (.aload_n 0, 1) := by decide +kernel
theorem dX2_writeOutput_42 : decode cX2_writeOutput 42 = .ok (.lload_n 3, 1) := by decide +kernel
theorem dX2_writeOutput_43 : decode cX2_writeOutput 43 = .ok (.iload 5, 2) := by decide +kernel
theorem dX2_writeOutput_45 : decode cX2_writeOutput 45 = .ok (.i2l, 1) := by decide +kernel
theorem dX2_writeOutput_46 : decode cX2_writeOutput 46 = .ok (.ladd, 1) := by decide +kernel
theorem dX2_writeOutput_47 : decode cX2_writeOutput 47 = .ok (.bipush 6, 2) := by decide +kernel
theorem dX2_writeOutput_49 : decode cX2_writeOutput 49 = .ok (.lushr, 1) := by decide +kernel
theorem dX2_writeOutput_50 : decode cX2_writeOutput 50 = .ok (.putfield 27, 3) := by decide +kernel
theorem dX2_writeOutput_53 : decode cX2_writeOutput 53 = .ok (.aload_n 0, 1) := by decide +kernel
theorem dX2_writeOutput_54 : decode cX2_writeOutput 54 = .ok (.invokevirtual 57, 3) := by decide +kernel
theorem dX2_writeOutput_57 : decode cX2_writeOutput 57 = .ok (.aload_n 1, 1) := by decide +kernel
theorem dX2_writeOutput_58 : decode cX2_writeOutput 58 = .ok (.aload_n 0, 1) := by decide +kernel
theorem dX2_writeOutput_59 : decode cX2_writeOutput 59 = .ok (.iload 6, 2) := by decide +kernel
theorem dX2_writeOutput_61 : decode cX2_writeOutput 61 = .ok (.invokevirtual 60, 3) := by decide +kernel
theorem dX2_writeOutput_64 : decode cX2_writeOutput 64 = .ok (.invokevirtual 63, 3) := by decide +kernel
theorem dX2_writeOutput_67 : decode cX2_writeOutput 67 = .ok (.iinc 5 1, 3) := by decide +kernel
theorem dX2_writeOutput_70 : decode cX2_writeOutput 70 = .ok (.goto (-57), 3) := by decide +kernel
theorem dX2_writeOutput_73 : decode cX2_writeOutput 73 = .ok (.return_, 1) := by decide +kernel
set_option maxRecDepth 20000 in
theorem ggX2_rootBeginsWith_X2_makeRoot : GoodIn wsX2_rootBeginsWith wsX2_makeRoot := goodIn_r _ [5, 6, 43, 44, 45, 46, 47, 48, 49, 50] (by decide +kernel) (by decide +kernel)
set_option maxRecDepth 20000 in
theorem gX2_rootBeginsWith_X2_makeRoot : GoodIn wsX2_rootBeginsWith (wsV RX2 52 RX2 yX2_makeRoot wsX2_makeRoot) := goodIn_app (goodIn_of _ (by decide +kernel)) ggX2_rootBeginsWith_X2_makeRoot
set_option maxRecDepth 20000 in
theorem ggX2_rootBeginsWith_X2_run : GoodIn wsX2_rootBeginsWith wsX2_run := goodIn_r _ [10, 11, 12, 13, 14, 15, 16, 4, 17, 18, 19, 20, 6, 21, 22, 23, 24, 25, 26, 27, 28, 29, 30, 31, 43, 44, 45, 46, 47, 48, 49, 50] (by decide +kernel) (by decide +kernel)
set_option maxRecDepth 20000 in
theorem gX2_rootBeginsWith_X2_run : GoodIn wsX2_rootBeginsWith (wsV RX2 57 RX2 yX2_run wsX2_run) := goodIn_app (goodIn_of _ (by decide +kernel)) ggX2_rootBeginsWith_X2_run
set_option maxRecDepth 20000 in
theorem ggX2_rootBeginsWith_X2_outputByte : GoodIn wsX2_rootBeginsWith wsX2_outputByte := goodIn_r _ [35, 12, 43, 44, 45, 46, 47, 48, 49, 50] (by decide +kernel) (by decide +kernel)
set_option maxRecDepth 20000 in
theorem gX2_rootBeginsWith_X2_outputByte : GoodIn wsX2_rootBeginsWith (wsV RX2 60 RX2 yX2_outputByte wsX2_outputByte) := goodIn_app (goodIn_of _ (by decide +kernel)) ggX2_rootBeginsWith_X2_outputByte
set_option maxRecDepth 20000 in
theorem ggX2_rootBeginsWith_X0_byteAt : GoodIn wsX2_rootBeginsWith wsX0_byteAt := goodIn_r _ [40, 41, 42, 51, 52] (by decide +kernel) (by decide +kernel)
set_option maxRecDepth 20000 in
theorem gX2_rootBeginsWith_X0_byteAt : GoodIn wsX2_rootBeginsWith (wsV RX2 67 RX0 yX0_byteAt wsX0_byteAt) := goodIn_app (goodIn_of _ (by decide +kernel)) ggX2_rootBeginsWith_X0_byteAt
theorem dX2_rootBeginsWith_0 : decode cX2_rootBeginsWith 0 = .ok (.aload_n 0, 1) := by decide +kernel
theorem dX2_rootBeginsWith_1 : decode cX2_rootBeginsWith 1 = .ok (.invokevirtual 52, 3) := by decide +kernel
theorem dX2_rootBeginsWith_4 : decode cX2_rootBeginsWith 4 = .ok (.aload_n 0, 1) := by decide +kernel
theorem dX2_rootBeginsWith_5 : decode cX2_rootBeginsWith 5 = .ok (.invokevirtual 57, 3) := by decide +kernel
theorem dX2_rootBeginsWith_8 : decode cX2_rootBeginsWith 8 = .ok (.iconst 0, 1) := by decide +kernel
theorem dX2_rootBeginsWith_9 : decode cX2_rootBeginsWith 9 = .ok (.istore_n 2, 1) := by decide +kernel
theorem dX2_rootBeginsWith_10 : decode cX2_rootBeginsWith 10 = .ok (.iload_n 2, 1) := by decide +kernel
theorem dX2_rootBeginsWith_11 : decode cX2_rootBeginsWith 11 = .ok (.bipush 32, 2) := by decide +kernel
theorem dX2_rootBeginsWith_13 : decode cX2_rootBeginsWith 13 = .ok (.if_icmp .ge 24, 3) := by decide +kernel
theorem dX2_rootBeginsWith_16 : decode cX2_rootBeginsWith 16 = .ok (.aload_n 0, 1) := by decide +kernel
theorem dX2_rootBeginsWith_17 : decode cX2_rootBeginsWith 17 = .ok (.iload_n 2, 1) := by decide +kernel
theorem dX2_rootBeginsWith_18 : decode cX2_rootBeginsWith 18 = .ok (.invokevirtual 60, 3) := by decide +kernel
theorem dX2_rootBeginsWith_21 : decode cX2_rootBeginsWith 21 = .ok (.aload_n 1, 1) := by decide +kernel
theorem dX2_rootBeginsWith_22 : decode cX2_rootBeginsWith 22 = .ok (.iload_n 2, 1) := by decide +kernel
theorem dX2_rootBeginsWith_23 : decode cX2_rootBeginsWith 23 = .ok (.invokevirtual 67, 3) := by decide +kernel
theorem dX2_rootBeginsWith_26 : decode cX2_rootBeginsWith 26 = .ok (.if_icmp .eq 5, 3) := by decide +kernel
theorem dX2_rootBeginsWith_29 : decode cX2_rootBeginsWith 29 = .ok (.iconst 0, 1) := by decide +kernel
theorem dX2_rootBeginsWith_30 : decode cX2_rootBeginsWith 30 = .ok (.ireturn, 1) := by decide +kernel
theorem dX2_rootBeginsWith_31 : decode cX2_rootBeginsWith 31 = .ok (.iinc 2 1, 3) := by decide +kernel
theorem dX2_rootBeginsWith_34 : decode cX2_rootBeginsWith 34 = .ok (.goto (-24), 3) := by decide +kernel
theorem dX2_rootBeginsWith_37 : decode cX2_rootBeginsWith 37 = .ok (.iconst 1, 1) := by decide +kernel
theorem dX2_rootBeginsWith_38 : decode cX2_rootBeginsWith 38 = .ok (.ireturn, 1) := by decide +kernel
theorem dX2_outputByte_0 : decode cX2_outputByte 0 = .ok (.aload_n 0, 1) := by decide +kernel
theorem dX2_outputByte_1 : decode cX2_outputByte 1 = .ok (.getfield 18, 3) := by decide +kernel
theorem dX2_outputByte_4 : decode cX2_outputByte 4 = .ok (.iload_n 1, 1) := by decide +kernel
theorem dX2_outputByte_5 : decode cX2_outputByte 5 = .ok (.iconst 2, 1) := by decide +kernel
theorem dX2_outputByte_6 : decode cX2_outputByte 6 = .ok (.ishr, 1) := by decide +kernel
theorem dX2_outputByte_7 : decode cX2_outputByte 7 = .ok (.iaload, 1) := by decide +kernel
theorem dX2_outputByte_8 : decode cX2_outputByte 8 = .ok (.bipush 8, 2) := by decide +kernel
theorem dX2_outputByte_10 : decode cX2_outputByte 10 = .ok (.iload_n 1, 1) := by decide +kernel
theorem dX2_outputByte_11 : decode cX2_outputByte 11 = .ok (.iconst 3, 1) := by decide +kernel
theorem dX2_outputByte_12 : decode cX2_outputByte 12 = .ok (.iand, 1) := by decide +kernel
theorem dX2_outputByte_13 : decode cX2_outputByte 13 = .ok (.imul, 1) := by decide +kernel
theorem dX2_outputByte_14 : decode cX2_outputByte 14 = .ok (.iushr, 1) := by decide +kernel
theorem dX2_outputByte_15 : decode cX2_outputByte 15 = .ok (.sipush 255, 3) := by decide +kernel
theorem dX2_outputByte_18 : decode cX2_outputByte 18 = .ok (.iand, 1) := by decide +kernel
theorem dX2_outputByte_19 : decode cX2_outputByte 19 = .ok (.ireturn, 1) := by decide +kernel
set_option maxRecDepth 20000 in
theorem ggX2_run_X2_fillIn : GoodIn wsX2_run wsX2_fillIn := goodIn_r _ [8, 2, 3, 9, 10, 11, 12, 1, 13, 24, 25, 26, 27, 28, 29, 30, 31] (by decide +kernel) (by decide +kernel)
set_option maxRecDepth 20000 in
theorem gX2_run_X2_fillIn : GoodIn wsX2_run (wsV RX2 70 RX2 yX2_fillIn wsX2_fillIn) := goodIn_app (goodIn_of _ (by decide +kernel)) ggX2_run_X2_fillIn
set_option maxRecDepth 20000 in
theorem ggX2_run_X2_turn : GoodIn wsX2_run wsX2_turn := goodIn_r _ [17, 2, 24, 25, 26, 27, 28, 29, 30, 31] (by decide +kernel) (by decide +kernel)
set_option maxRecDepth 20000 in
theorem gX2_run_X2_turn : GoodIn wsX2_run (wsV RX2 73 RX2 yX2_turn wsX2_turn) := goodIn_app (goodIn_of _ (by decide +kernel)) ggX2_run_X2_turn
set_option maxRecDepth 20000 in
theorem ggX2_run_X2_reorder : GoodIn wsX2_run wsX2_reorder := goodIn_r _ [21, 22, 1, 23, 24, 25, 26, 27, 28, 29, 30, 31] (by decide +kernel) (by decide +kernel)
set_option maxRecDepth 20000 in
theorem gX2_run_X2_reorder : GoodIn wsX2_run (wsV RX2 77 RX2 yX2_reorder wsX2_reorder) := goodIn_app (goodIn_of _ (by decide +kernel)) ggX2_run_X2_reorder
theorem dX2_run_0 : decode cX2_run 0 = .ok (.aload_n 0, 1) := by decide +kernel
theorem dX2_run_1 : decode cX2_run 1 = .ok (.invokevirtual 70, 3) := by decide +kernel
theorem dX2_run_4 : decode cX2_run 4 = .ok (.iconst 0, 1) := by decide +kernel
theorem dX2_run_5 : decode cX2_run 5 = .ok (.istore_n 1, 1) := by decide +kernel
theorem dX2_run_6 : decode cX2_run 6 = .ok (.iload_n 1, 1) := by decide +kernel
theorem dX2_run_7 : decode cX2_run 7 = .ok (.bipush 7, 2) := by decide +kernel
theorem dX2_run_9 : decode cX2_run 9 = .ok (.if_icmp .ge 203, 3) := by decide +kernel
theorem dX2_run_12 : decode cX2_run 12 = .ok (.aload_n 0, 1) := by decide +kernel
theorem dX2_run_13 : decode cX2_run 13 = .ok (.iconst 0, 1) := by decide +kernel
theorem dX2_run_14 : decode cX2_run 14 = .ok (.iconst 4, 1) := by decide +kernel
theorem dX2_run_15 : decode cX2_run 15 = .ok (.bipush 8, 2) := by decide +kernel
theorem dX2_run_17 : decode cX2_run 17 = .ok (.bipush 12, 2) := by decide +kernel
theorem dX2_run_19 : decode cX2_run 19 = .ok (.aload_n 0, 1) := by decide +kernel
theorem dX2_run_20 : decode cX2_run 20 = .ok (.getfield 21, 3) := by decide +kernel
theorem dX2_run_23 : decode cX2_run 23 = .ok (.iconst 0, 1) := by decide +kernel
theorem dX2_run_24 : decode cX2_run 24 = .ok (.iaload, 1) := by decide +kernel
theorem dX2_run_25 : decode cX2_run 25 = .ok (.aload_n 0, 1) := by decide +kernel
theorem dX2_run_26 : decode cX2_run 26 = .ok (.getfield 21, 3) := by decide +kernel
theorem dX2_run_29 : decode cX2_run 29 = .ok (.iconst 1, 1) := by decide +kernel
theorem dX2_run_30 : decode cX2_run 30 = .ok (.iaload, 1) := by decide +kernel
theorem dX2_run_31 : decode cX2_run 31 = .ok (.invokevirtual 73, 3) := by decide +kernel
theorem dX2_run_34 : decode cX2_run 34 = .ok (.aload_n 0, 1) := by decide +kernel
theorem dX2_run_35 : decode cX2_run 35 = .ok (.iconst 1, 1) := by decide +kernel
theorem dX2_run_36 : decode cX2_run 36 = .ok (.iconst 5, 1) := by decide +kernel
theorem dX2_run_37 : decode cX2_run 37 = .ok (.bipush 9, 2) := by decide +kernel
theorem dX2_run_39 : decode cX2_run 39 = .ok (.bipush 13, 2) := by decide +kernel
theorem dX2_run_41 : decode cX2_run 41 = .ok (.aload_n 0, 1) := by decide +kernel
theorem dX2_run_42 : decode cX2_run 42 = .ok (.getfield 21, 3) := by decide +kernel
theorem dX2_run_45 : decode cX2_run 45 = .ok (.iconst 2, 1) := by decide +kernel
theorem dX2_run_46 : decode cX2_run 46 = .ok (.iaload, 1) := by decide +kernel
theorem dX2_run_47 : decode cX2_run 47 = .ok (.aload_n 0, 1) := by decide +kernel
theorem dX2_run_48 : decode cX2_run 48 = .ok (.getfield 21, 3) := by decide +kernel
theorem dX2_run_51 : decode cX2_run 51 = .ok (.iconst 3, 1) := by decide +kernel
theorem dX2_run_52 : decode cX2_run 52 = .ok (.iaload, 1) := by decide +kernel
theorem dX2_run_53 : decode cX2_run 53 = .ok (.invokevirtual 73, 3) := by decide +kernel
theorem dX2_run_56 : decode cX2_run 56 = .ok (.aload_n 0, 1) := by decide +kernel
theorem dX2_run_57 : decode cX2_run 57 = .ok (.iconst 2, 1) := by decide +kernel
theorem dX2_run_58 : decode cX2_run 58 = .ok (.bipush 6, 2) := by decide +kernel
theorem dX2_run_60 : decode cX2_run 60 = .ok (.bipush 10, 2) := by decide +kernel
theorem dX2_run_62 : decode cX2_run 62 = .ok (.bipush 14, 2) := by decide +kernel
theorem dX2_run_64 : decode cX2_run 64 = .ok (.aload_n 0, 1) := by decide +kernel
theorem dX2_run_65 : decode cX2_run 65 = .ok (.getfield 21, 3) := by decide +kernel
theorem dX2_run_68 : decode cX2_run 68 = .ok (.iconst 4, 1) := by decide +kernel
theorem dX2_run_69 : decode cX2_run 69 = .ok (.iaload, 1) := by decide +kernel
theorem dX2_run_70 : decode cX2_run 70 = .ok (.aload_n 0, 1) := by decide +kernel
theorem dX2_run_71 : decode cX2_run 71 = .ok (.getfield 21, 3) := by decide +kernel
theorem dX2_run_74 : decode cX2_run 74 = .ok (.iconst 5, 1) := by decide +kernel
theorem dX2_run_75 : decode cX2_run 75 = .ok (.iaload, 1) := by decide +kernel
theorem dX2_run_76 : decode cX2_run 76 = .ok (.invokevirtual 73, 3) := by decide +kernel
theorem dX2_run_79 : decode cX2_run 79 = .ok (.aload_n 0, 1) := by decide +kernel
theorem dX2_run_80 : decode cX2_run 80 = .ok (.iconst 3, 1) := by decide +kernel
theorem dX2_run_81 : decode cX2_run 81 = .ok (.bipush 7, 2) := by decide +kernel
theorem dX2_run_83 : decode cX2_run 83 = .ok (.bipush 11, 2) := by decide +kernel
theorem dX2_run_85 : decode cX2_run 85 = .ok (.bipush 15, 2) := by decide +kernel
theorem dX2_run_87 : decode cX2_run 87 = .ok (.aload_n 0, 1) := by decide +kernel
theorem dX2_run_88 : decode cX2_run 88 = .ok (.getfield 21, 3) := by decide +kernel
theorem dX2_run_91 : decode cX2_run 91 = .ok (.bipush 6, 2) := by decide +kernel
theorem dX2_run_93 : decode cX2_run 93 = .ok (.iaload, 1) := by decide +kernel
theorem dX2_run_94 : decode cX2_run 94 = .ok (.aload_n 0, 1) := by decide +kernel
theorem dX2_run_95 : decode cX2_run 95 = .ok (.getfield 21, 3) := by decide +kernel
theorem dX2_run_98 : decode cX2_run 98 = .ok (.bipush 7, 2) := by decide +kernel
theorem dX2_run_100 : decode cX2_run 100 = .ok (.iaload, 1) := by decide +kernel
theorem dX2_run_101 : decode cX2_run 101 = .ok (.invokevirtual 73, 3) := by decide +kernel
theorem dX2_run_104 : decode cX2_run 104 = .ok (.aload_n 0, 1) := by decide +kernel
theorem dX2_run_105 : decode cX2_run 105 = .ok (.iconst 0, 1) := by decide +kernel
theorem dX2_run_106 : decode cX2_run 106 = .ok (.iconst 5, 1) := by decide +kernel
theorem dX2_run_107 : decode cX2_run 107 = .ok (.bipush 10, 2) := by decide +kernel
theorem dX2_run_109 : decode cX2_run 109 = .ok (.bipush 15, 2) := by decide +kernel
theorem dX2_run_111 : decode cX2_run 111 = .ok (.aload_n 0, 1) := by decide +kernel
theorem dX2_run_112 : decode cX2_run 112 = .ok (.getfield 21, 3) := by decide +kernel
theorem dX2_run_115 : decode cX2_run 115 = .ok (.bipush 8, 2) := by decide +kernel
theorem dX2_run_117 : decode cX2_run 117 = .ok (.iaload, 1) := by decide +kernel
theorem dX2_run_118 : decode cX2_run 118 = .ok (.aload_n 0, 1) := by decide +kernel
theorem dX2_run_119 : decode cX2_run 119 = .ok (.getfield 21, 3) := by decide +kernel
theorem dX2_run_122 : decode cX2_run 122 = .ok (.bipush 9, 2) := by decide +kernel
theorem dX2_run_124 : decode cX2_run 124 = .ok (.iaload, 1) := by decide +kernel
theorem dX2_run_125 : decode cX2_run 125 = .ok (.invokevirtual 73, 3) := by decide +kernel
theorem dX2_run_128 : decode cX2_run 128 = .ok (.aload_n 0, 1) := by decide +kernel
theorem dX2_run_129 : decode cX2_run 129 = .ok (.iconst 1, 1) := by decide +kernel
theorem dX2_run_130 : decode cX2_run 130 = .ok (.bipush 6, 2) := by decide +kernel
theorem dX2_run_132 : decode cX2_run 132 = .ok (.bipush 11, 2) := by decide +kernel
theorem dX2_run_134 : decode cX2_run 134 = .ok (.bipush 12, 2) := by decide +kernel
theorem dX2_run_136 : decode cX2_run 136 = .ok (.aload_n 0, 1) := by decide +kernel
theorem dX2_run_137 : decode cX2_run 137 = .ok (.getfield 21, 3) := by decide +kernel
theorem dX2_run_140 : decode cX2_run 140 = .ok (.bipush 10, 2) := by decide +kernel
theorem dX2_run_142 : decode cX2_run 142 = .ok (.iaload, 1) := by decide +kernel
theorem dX2_run_143 : decode cX2_run 143 = .ok (.aload_n 0, 1) := by decide +kernel
theorem dX2_run_144 : decode cX2_run 144 = .ok (.getfield 21, 3) := by decide +kernel
theorem dX2_run_147 : decode cX2_run 147 = .ok (.bipush 11, 2) := by decide +kernel
theorem dX2_run_149 : decode cX2_run 149 = .ok (.iaload, 1) := by decide +kernel
theorem dX2_run_150 : decode cX2_run 150 = .ok (.invokevirtual 73, 3) := by decide +kernel
theorem dX2_run_153 : decode cX2_run 153 = .ok (.aload_n 0, 1) := by decide +kernel
theorem dX2_run_154 : decode cX2_run 154 = .ok (.iconst 2, 1) := by decide +kernel
theorem dX2_run_155 : decode cX2_run 155 = .ok (.bipush 7, 2) := by decide +kernel
theorem dX2_run_157 : decode cX2_run 157 = .ok (.bipush 8, 2) := by decide +kernel
theorem dX2_run_159 : decode cX2_run 159 = .ok (.bipush 13, 2) := by decide +kernel
theorem dX2_run_161 : decode cX2_run 161 = .ok (.aload_n 0, 1) := by decide +kernel
theorem dX2_run_162 : decode cX2_run 162 = .ok (.getfield 21, 3) := by decide +kernel
theorem dX2_run_165 : decode cX2_run 165 = .ok (.bipush 12, 2) := by decide +kernel
theorem dX2_run_167 : decode cX2_run 167 = .ok (.iaload, 1) := by decide +kernel
theorem dX2_run_168 : decode cX2_run 168 = .ok (.aload_n 0, 1) := by decide +kernel
theorem dX2_run_169 : decode cX2_run 169 = .ok (.getfield 21, 3) := by decide +kernel
theorem dX2_run_172 : decode cX2_run 172 = .ok (.bipush 13, 2) := by decide +kernel
theorem dX2_run_174 : decode cX2_run 174 = .ok (.iaload, 1) := by decide +kernel
theorem dX2_run_175 : decode cX2_run 175 = .ok (.invokevirtual 73, 3) := by decide +kernel
theorem dX2_run_178 : decode cX2_run 178 = .ok (.aload_n 0, 1) := by decide +kernel
theorem dX2_run_179 : decode cX2_run 179 = .ok (.iconst 3, 1) := by decide +kernel
theorem dX2_run_180 : decode cX2_run 180 = .ok (.iconst 4, 1) := by decide +kernel
theorem dX2_run_181 : decode cX2_run 181 = .ok (.bipush 9, 2) := by decide +kernel
theorem dX2_run_183 : decode cX2_run 183 = .ok (.bipush 14, 2) := by decide +kernel
theorem dX2_run_185 : decode cX2_run 185 = .ok (.aload_n 0, 1) := by decide +kernel
theorem dX2_run_186 : decode cX2_run 186 = .ok (.getfield 21, 3) := by decide +kernel
theorem dX2_run_189 : decode cX2_run 189 = .ok (.bipush 14, 2) := by decide +kernel
theorem dX2_run_191 : decode cX2_run 191 = .ok (.iaload, 1) := by decide +kernel
theorem dX2_run_192 : decode cX2_run 192 = .ok (.aload_n 0, 1) := by decide +kernel
theorem dX2_run_193 : decode cX2_run 193 = .ok (.getfield 21, 3) := by decide +kernel
theorem dX2_run_196 : decode cX2_run 196 = .ok (.bipush 15, 2) := by decide +kernel
theorem dX2_run_198 : decode cX2_run 198 = .ok (.iaload, 1) := by decide +kernel
theorem dX2_run_199 : decode cX2_run 199 = .ok (.invokevirtual 73, 3) := by decide +kernel
theorem dX2_run_202 : decode cX2_run 202 = .ok (.aload_n 0, 1) := by decide +kernel
theorem dX2_run_203 : decode cX2_run 203 = .ok (.invokevirtual 77, 3) := by decide +kernel
theorem dX2_run_206 : decode cX2_run 206 = .ok (.iinc 1 1, 3) := by decide +kernel
theorem dX2_run_209 : decode cX2_run 209 = .ok (.goto (-203), 3) := by decide +kernel
theorem dX2_run_212 : decode cX2_run 212 = .ok (.iconst 0, 1) := by decide +kernel
theorem dX2_run_213 : decode cX2_run 213 = .ok (.istore_n 1, 1) := by decide +kernel
theorem dX2_run_214 : decode cX2_run 214 = .ok (.iload_n 1, 1) := by decide +kernel
theorem dX2_run_215 : decode cX2_run 215 = .ok (.bipush 8, 2) := by decide +kernel
theorem dX2_run_217 : decode cX2_run 217 = .ok (.if_icmp .ge 45, 3) := by decide +kernel
theorem dX2_run_220 : decode cX2_run 220 = .ok (.aload_n 0, 1) := by decide +kernel
theorem dX2_run_221 : decode cX2_run 221 = .ok (.getfield 18, 3) := by decide +kernel
theorem dX2_run_224 : decode cX2_run 224 = .ok (.iload_n 1, 1) := by decide +kernel
theorem dX2_run_225 : decode cX2_run 225 = .ok (.dup2, 1) := by decide +kernel
theorem dX2_run_226 : decode cX2_run 226 = .ok (.iaload, 1) := by decide +kernel
theorem dX2_run_227 : decode cX2_run 227 = .ok (.aload_n 0, 1) := by decide +kernel
theorem dX2_run_228 : decode cX2_run 228 = .ok (.getfield 18, 3) := by decide +kernel
theorem dX2_run_231 : decode cX2_run 231 = .ok (.iload_n 1, 1) := by decide +kernel
theorem dX2_run_232 : decode cX2_run 232 = .ok (.bipush 8, 2) := by decide +kernel
theorem dX2_run_234 : decode cX2_run 234 = .ok (.iadd, 1) := by decide +kernel
theorem dX2_run_235 : decode cX2_run 235 = .ok (.iaload, 1) := by decide +kernel
theorem dX2_run_236 : decode cX2_run 236 = .ok (.ixor, 1) := by decide +kernel
theorem dX2_run_237 : decode cX2_run 237 = .ok (.iastore, 1) := by decide +kernel
theorem dX2_run_238 : decode cX2_run 238 = .ok (.aload_n 0, 1) := by decide +kernel
theorem dX2_run_239 : decode cX2_run 239 = .ok (.getfield 18, 3) := by decide +kernel
theorem dX2_run_242 : decode cX2_run 242 = .ok (.iload_n 1, 1) := by decide +kernel
theorem dX2_run_243 : decode cX2_run 243 = .ok (.bipush 8, 2) := by decide +kernel
theorem dX2_run_245 : decode cX2_run 245 = .ok (.iadd, 1) := by decide +kernel
theorem dX2_run_246 : decode cX2_run 246 = .ok (.dup2, 1) := by decide +kernel
theorem dX2_run_247 : decode cX2_run 247 = .ok (.iaload, 1) := by decide +kernel
theorem dX2_run_248 : decode cX2_run 248 = .ok (.aload_n 0, 1) := by decide +kernel
theorem dX2_run_249 : decode cX2_run 249 = .ok (.getfield 9, 3) := by decide +kernel
theorem dX2_run_252 : decode cX2_run 252 = .ok (.iload_n 1, 1) := by decide +kernel
theorem dX2_run_253 : decode cX2_run 253 = .ok (.iaload, 1) := by decide +kernel
theorem dX2_run_254 : decode cX2_run 254 = .ok (.ixor, 1) := by decide +kernel
theorem dX2_run_255 : decode cX2_run 255 = .ok (.iastore, 1) := by decide +kernel
theorem dX2_run_256 : decode cX2_run 256 = .ok (.iinc 1 1, 3) := by decide +kernel
theorem dX2_run_259 : decode cX2_run 259 = .ok (.goto (-45), 3) := by decide +kernel
theorem dX2_run_262 : decode cX2_run 262 = .ok (.return_, 1) := by decide +kernel
theorem dX2_fillIn_0 : decode cX2_fillIn 0 = .ok (.iconst 0, 1) := by decide +kernel
theorem dX2_fillIn_1 : decode cX2_fillIn 1 = .ok (.istore_n 1, 1) := by decide +kernel
theorem dX2_fillIn_2 : decode cX2_fillIn 2 = .ok (.iload_n 1, 1) := by decide +kernel
theorem dX2_fillIn_3 : decode cX2_fillIn 3 = .ok (.bipush 8, 2) := by decide +kernel
theorem dX2_fillIn_5 : decode cX2_fillIn 5 = .ok (.if_icmp .ge 21, 3) := by decide +kernel
theorem dX2_fillIn_8 : decode cX2_fillIn 8 = .ok (.aload_n 0, 1) := by decide +kernel
theorem dX2_fillIn_9 : decode cX2_fillIn 9 = .ok (.getfield 18, 3) := by decide +kernel
theorem dX2_fillIn_12 : decode cX2_fillIn 12 = .ok (.iload_n 1, 1) := by decide +kernel
theorem dX2_fillIn_13 : decode cX2_fillIn 13 = .ok (.aload_n 0, 1) := by decide +kernel
theorem dX2_fillIn_14 : decode cX2_fillIn 14 = .ok (.getfield 9, 3) := by decide +kernel
theorem dX2_fillIn_17 : decode cX2_fillIn 17 = .ok (.iload_n 1, 1) := by decide +kernel
theorem dX2_fillIn_18 : decode cX2_fillIn 18 = .ok (.iaload, 1) := by decide +kernel
theorem dX2_fillIn_19 : decode cX2_fillIn 19 = .ok (.iastore, 1) := by decide +kernel
theorem dX2_fillIn_20 : decode cX2_fillIn 20 = .ok (.iinc 1 1, 3) := by decide +kernel
theorem dX2_fillIn_23 : decode cX2_fillIn 23 = .ok (.goto (-21), 3) := by decide +kernel
theorem dX2_fillIn_26 : decode cX2_fillIn 26 = .ok (.iconst 0, 1) := by decide +kernel
theorem dX2_fillIn_27 : decode cX2_fillIn 27 = .ok (.istore_n 1, 1) := by decide +kernel
theorem dX2_fillIn_28 : decode cX2_fillIn 28 = .ok (.iload_n 1, 1) := by decide +kernel
theorem dX2_fillIn_29 : decode cX2_fillIn 29 = .ok (.iconst 4, 1) := by decide +kernel
theorem dX2_fillIn_30 : decode cX2_fillIn 30 = .ok (.if_icmp .ge 23, 3) := by decide +kernel
theorem dX2_fillIn_33 : decode cX2_fillIn 33 = .ok (.aload_n 0, 1) := by decide +kernel
theorem dX2_fillIn_34 : decode cX2_fillIn 34 = .ok (.getfield 18, 3) := by decide +kernel
theorem dX2_fillIn_37 : decode cX2_fillIn 37 = .ok (.bipush 8, 2) := by decide +kernel
theorem dX2_fillIn_39 : decode cX2_fillIn 39 = .ok (.iload_n 1, 1) := by decide +kernel
theorem dX2_fillIn_40 : decode cX2_fillIn 40 = .ok (.iadd, 1) := by decide +kernel
theorem dX2_fillIn_41 : decode cX2_fillIn 41 = .ok (.getstatic 80, 3) := by decide +kernel
theorem dX2_fillIn_44 : decode cX2_fillIn 44 = .ok (.iload_n 1, 1) := by decide +kernel
theorem dX2_fillIn_45 : decode cX2_fillIn 45 = .ok (.iaload, 1) := by decide +kernel
theorem dX2_fillIn_46 : decode cX2_fillIn 46 = .ok (.iastore, 1) := by decide +kernel
theorem dX2_fillIn_47 : decode cX2_fillIn 47 = .ok (.iinc 1 1, 3) := by decide +kernel
theorem dX2_fillIn_50 : decode cX2_fillIn 50 = .ok (.goto (-22), 3) := by decide +kernel
theorem dX2_fillIn_53 : decode cX2_fillIn 53 = .ok (.aload_n 0, 1) := by decide +kernel
theorem dX2_fillIn_54 : decode cX2_fillIn 54 = .ok (.getfield 18, 3) := by decide +kernel
theorem dX2_fillIn_57 : decode cX2_fillIn 57 = .ok (.bipush 12, 2) := by decide +kernel
theorem dX2_fillIn_59 : decode cX2_fillIn 59 = .ok (.aload_n 0, 1) := by decide +kernel
theorem dX2_fillIn_60 : decode cX2_fillIn 60 = .ok (.getfield 27, 3) := by decide +kernel
theorem dX2_fillIn_63 : decode cX2_fillIn 63 = .ok (.l2i, 1) := by decide +kernel
theorem dX2_fillIn_64 : decode cX2_fillIn 64 = .ok (.iastore, 1) := by decide +kernel
theorem dX2_fillIn_65 : decode cX2_fillIn 65 = .ok (.aload_n 0, 1) := by decide +kernel
theorem dX2_fillIn_66 : decode cX2_fillIn 66 = .ok (.getfield 18, 3) := by decide +kernel
theorem dX2_fillIn_69 : decode cX2_fillIn 69 = .ok (.bipush 13, 2) := by decide +kernel
theorem dX2_fillIn_71 : decode cX2_fillIn 71 = .ok (.aload_n 0, 1) := by decide +kernel
theorem dX2_fillIn_72 : decode cX2_fillIn 72 = .ok (.getfield 27, 3) := by decide +kernel
theorem dX2_fillIn_75 : decode cX2_fillIn 75 = .ok (.bipush 32, 2) := by decide +kernel
theorem dX2_fillIn_77 : decode cX2_fillIn 77 = .ok (.lushr, 1) := by decide +kernel
theorem dX2_fillIn_78 : decode cX2_fillIn 78 = .ok (.l2i, 1) := by decide +kernel
theorem dX2_fillIn_79 : decode cX2_fillIn 79 = .ok (.iastore, 1) := by decide +kernel
theorem dX2_fillIn_80 : decode cX2_fillIn 80 = .ok (.aload_n 0, 1) := by decide +kernel
theorem dX2_fillIn_81 : decode cX2_fillIn 81 = .ok (.getfield 18, 3) := by decide +kernel
theorem dX2_fillIn_84 : decode cX2_fillIn 84 = .ok (.bipush 14, 2) := by decide +kernel
theorem dX2_fillIn_86 : decode cX2_fillIn 86 = .ok (.aload_n 0, 1) := by decide +kernel
theorem dX2_fillIn_87 : decode cX2_fillIn 87 = .ok (.getfield 31, 3) := by decide +kernel
theorem dX2_fillIn_90 : decode cX2_fillIn 90 = .ok (.iastore, 1) := by decide +kernel
theorem dX2_fillIn_91 : decode cX2_fillIn 91 = .ok (.aload_n 0, 1) := by decide +kernel
theorem dX2_fillIn_92 : decode cX2_fillIn 92 = .ok (.getfield 18, 3) := by decide +kernel
theorem dX2_fillIn_95 : decode cX2_fillIn 95 = .ok (.bipush 15, 2) := by decide +kernel
theorem dX2_fillIn_97 : decode cX2_fillIn 97 = .ok (.aload_n 0, 1) := by decide +kernel
theorem dX2_fillIn_98 : decode cX2_fillIn 98 = .ok (.getfield 35, 3) := by decide +kernel
theorem dX2_fillIn_101 : decode cX2_fillIn 101 = .ok (.iastore, 1) := by decide +kernel
theorem dX2_fillIn_102 : decode cX2_fillIn 102 = .ok (.iconst 0, 1) := by decide +kernel
theorem dX2_fillIn_103 : decode cX2_fillIn 103 = .ok (.istore_n 1, 1) := by decide +kernel
theorem dX2_fillIn_104 : decode cX2_fillIn 104 = .ok (.iload_n 1, 1) := by decide +kernel
theorem dX2_fillIn_105 : decode cX2_fillIn 105 = .ok (.bipush 16, 2) := by decide +kernel
theorem dX2_fillIn_107 : decode cX2_fillIn 107 = .ok (.if_icmp .ge 21, 3) := by decide +kernel
theorem dX2_fillIn_110 : decode cX2_fillIn 110 = .ok (.aload_n 0, 1) := by decide +kernel
theorem dX2_fillIn_111 : decode cX2_fillIn 111 = .ok (.getfield 21, 3) := by decide +kernel
theorem dX2_fillIn_114 : decode cX2_fillIn 114 = .ok (.iload_n 1, 1) := by decide +kernel
theorem dX2_fillIn_115 : decode cX2_fillIn 115 = .ok (.aload_n 0, 1) := by decide +kernel
theorem dX2_fillIn_116 : decode cX2_fillIn 116 = .ok (.getfield 15, 3) := by decide +kernel
theorem dX2_fillIn_119 : decode cX2_fillIn 119 = .ok (.iload_n 1, 1) := by decide +kernel
theorem dX2_fillIn_120 : decode cX2_fillIn 120 = .ok (.iaload, 1) := by decide +kernel
theorem dX2_fillIn_121 : decode cX2_fillIn 121 = .ok (.iastore, 1) := by decide +kernel
theorem dX2_fillIn_122 : decode cX2_fillIn 122 = .ok (.iinc 1 1, 3) := by decide +kernel
theorem dX2_fillIn_125 : decode cX2_fillIn 125 = .ok (.goto (-21), 3) := by decide +kernel
theorem dX2_fillIn_128 : decode cX2_fillIn 128 = .ok (.return_, 1) := by decide +kernel
theorem dX2_turn_0 : decode cX2_turn 0 = .ok (.aload_n 0, 1) := by decide +kernel
theorem dX2_turn_1 : decode cX2_turn 1 = .ok (.getfield 18, 3) := by decide +kernel
theorem dX2_turn_4 : decode cX2_turn 4 = .ok (.iload_n 1, 1) := by decide +kernel
theorem dX2_turn_5 : decode cX2_turn 5 = .ok (.iaload, 1) := by decide +kernel
theorem dX2_turn_6 : decode cX2_turn 6 = .ok (.aload_n 0, 1) := by decide +kernel
theorem dX2_turn_7 : decode cX2_turn 7 = .ok (.getfield 18, 3) := by decide +kernel
theorem dX2_turn_10 : decode cX2_turn 10 = .ok (.iload_n 2, 1) := by decide +kernel
theorem dX2_turn_11 : decode cX2_turn 11 = .ok (.iaload, 1) := by decide +kernel
theorem dX2_turn_12 : decode cX2_turn 12 = .ok (.iadd, 1) := by decide +kernel
theorem dX2_turn_13 : decode cX2_turn 13 = .ok (.iload 5, 2) := by decide +kernel
theorem dX2_turn_15 : decode cX2_turn 15 = .ok (.iadd, 1) := by decide +kernel
theorem dX2_turn_16 : decode cX2_turn 16 = .ok (.istore 7, 2) := by decide +kernel
theorem dX2_turn_18 : decode cX2_turn 18 = .ok (.aload_n 0, 1) := by decide +kernel
theorem dX2_turn_19 : decode cX2_turn 19 = .ok (.getfield 18, 3) := by decide +kernel
theorem dX2_turn_22 : decode cX2_turn 22 = .ok (.iload 4, 2) := by decide +kernel
theorem dX2_turn_24 : decode cX2_turn 24 = .ok (.iaload, 1) := by decide +kernel
theorem dX2_turn_25 : decode cX2_turn 25 = .ok (.iload 7, 2) := by decide +kernel
theorem dX2_turn_27 : decode cX2_turn 27 = .ok (.ixor, 1) := by decide +kernel
theorem dX2_turn_28 : decode cX2_turn 28 = .ok (.istore 8, 2) := by decide +kernel
theorem dX2_turn_30 : decode cX2_turn 30 = .ok (.iload 8, 2) := by decide +kernel
theorem dX2_turn_32 : decode cX2_turn 32 = .ok (.bipush 16, 2) := by decide +kernel
theorem dX2_turn_34 : decode cX2_turn 34 = .ok (.iushr, 1) := by decide +kernel
theorem dX2_turn_35 : decode cX2_turn 35 = .ok (.iload 8, 2) := by decide +kernel
theorem dX2_turn_37 : decode cX2_turn 37 = .ok (.bipush 16, 2) := by decide +kernel
theorem dX2_turn_39 : decode cX2_turn 39 = .ok (.ishl, 1) := by decide +kernel
theorem dX2_turn_40 : decode cX2_turn 40 = .ok (.ior, 1) := by decide +kernel
theorem dX2_turn_41 : decode cX2_turn 41 = .ok (.istore 8, 2) := by decide +kernel
theorem dX2_turn_43 : decode cX2_turn 43 = .ok (.aload_n 0, 1) := by decide +kernel
theorem dX2_turn_44 : decode cX2_turn 44 = .ok (.getfield 18, 3) := by decide +kernel
theorem dX2_turn_47 : decode cX2_turn 47 = .ok (.iload_n 3, 1) := by decide +kernel
theorem dX2_turn_48 : decode cX2_turn 48 = .ok (.iaload, 1) := by decide +kernel
theorem dX2_turn_49 : decode cX2_turn 49 = .ok (.iload 8, 2) := by decide +kernel
theorem dX2_turn_51 : decode cX2_turn 51 = .ok (.iadd, 1) := by decide +kernel
theorem dX2_turn_52 : decode cX2_turn 52 = .ok (.istore 9, 2) := by decide +kernel
theorem dX2_turn_54 : decode cX2_turn 54 = .ok (.aload_n 0, 1) := by decide +kernel
theorem dX2_turn_55 : decode cX2_turn 55 = .ok (.getfield 18, 3) := by decide +kernel
theorem dX2_turn_58 : decode cX2_turn 58 = .ok (.iload_n 2, 1) := by decide +kernel
theorem dX2_turn_59 : decode cX2_turn 59 = .ok (.iaload, 1) := by decide +kernel
theorem dX2_turn_60 : decode cX2_turn 60 = .ok (.iload 9, 2) := by decide +kernel
theorem dX2_turn_62 : decode cX2_turn 62 = .ok (.ixor, 1) := by decide +kernel
theorem dX2_turn_63 : decode cX2_turn 63 = .ok (.istore 10, 2) := by decide +kernel
theorem dX2_turn_65 : decode cX2_turn 65 = .ok (.iload 10, 2) := by decide +kernel
theorem dX2_turn_67 : decode cX2_turn 67 = .ok (.bipush 12, 2) := by decide +kernel
theorem dX2_turn_69 : decode cX2_turn 69 = .ok (.iushr, 1) := by decide +kernel
theorem dX2_turn_70 : decode cX2_turn 70 = .ok (.iload 10, 2) := by decide +kernel
theorem dX2_turn_72 : decode cX2_turn 72 = .ok (.bipush 20, 2) := by decide +kernel
theorem dX2_turn_74 : decode cX2_turn 74 = .ok (.ishl, 1) := by decide +kernel
theorem dX2_turn_75 : decode cX2_turn 75 = .ok (.ior, 1) := by decide +kernel
theorem dX2_turn_76 : decode cX2_turn 76 = .ok (.istore 10, 2) := by decide +kernel
theorem dX2_turn_78 : decode cX2_turn 78 = .ok (.iload 7, 2) := by decide +kernel
theorem dX2_turn_80 : decode cX2_turn 80 = .ok (.iload 10, 2) := by decide +kernel
theorem dX2_turn_82 : decode cX2_turn 82 = .ok (.iload 6, 2) := by decide +kernel
theorem dX2_turn_84 : decode cX2_turn 84 = .ok (.iadd, 1) := by decide +kernel
theorem dX2_turn_85 : decode cX2_turn 85 = .ok (.iadd, 1) := by decide +kernel
theorem dX2_turn_86 : decode cX2_turn 86 = .ok (.istore 7, 2) := by decide +kernel
theorem dX2_turn_88 : decode cX2_turn 88 = .ok (.iload 8, 2) := by decide +kernel
theorem dX2_turn_90 : decode cX2_turn 90 = .ok (.iload 7, 2) := by decide +kernel
theorem dX2_turn_92 : decode cX2_turn 92 = .ok (.ixor, 1) := by decide +kernel
theorem dX2_turn_93 : decode cX2_turn 93 = .ok (.istore 8, 2) := by decide +kernel
theorem dX2_turn_95 : decode cX2_turn 95 = .ok (.iload 8, 2) := by decide +kernel
theorem dX2_turn_97 : decode cX2_turn 97 = .ok (.bipush 8, 2) := by decide +kernel
theorem dX2_turn_99 : decode cX2_turn 99 = .ok (.iushr, 1) := by decide +kernel
theorem dX2_turn_100 : decode cX2_turn 100 = .ok (.iload 8, 2) := by decide +kernel
theorem dX2_turn_102 : decode cX2_turn 102 = .ok (.bipush 24, 2) := by decide +kernel
theorem dX2_turn_104 : decode cX2_turn 104 = .ok (.ishl, 1) := by decide +kernel
theorem dX2_turn_105 : decode cX2_turn 105 = .ok (.ior, 1) := by decide +kernel
theorem dX2_turn_106 : decode cX2_turn 106 = .ok (.istore 8, 2) := by decide +kernel
theorem dX2_turn_108 : decode cX2_turn 108 = .ok (.iload 9, 2) := by decide +kernel
theorem dX2_turn_110 : decode cX2_turn 110 = .ok (.iload 8, 2) := by decide +kernel
theorem dX2_turn_112 : decode cX2_turn 112 = .ok (.iadd, 1) := by decide +kernel
theorem dX2_turn_113 : decode cX2_turn 113 = .ok (.istore 9, 2) := by decide +kernel
theorem dX2_turn_115 : decode cX2_turn 115 = .ok (.iload 10, 2) := by decide +kernel
theorem dX2_turn_117 : decode cX2_turn 117 = .ok (.iload 9, 2) := by decide +kernel
theorem dX2_turn_119 : decode cX2_turn 119 = .ok (.ixor, 1) := by decide +kernel
theorem dX2_turn_120 : decode cX2_turn 120 = .ok (.istore 10, 2) := by decide +kernel
theorem dX2_turn_122 : decode cX2_turn 122 = .ok (.iload 10, 2) := by decide +kernel
theorem dX2_turn_124 : decode cX2_turn 124 = .ok (.bipush 7, 2) := by decide +kernel
theorem dX2_turn_126 : decode cX2_turn 126 = .ok (.iushr, 1) := by decide +kernel
theorem dX2_turn_127 : decode cX2_turn 127 = .ok (.iload 10, 2) := by decide +kernel
theorem dX2_turn_129 : decode cX2_turn 129 = .ok (.bipush 25, 2) := by decide +kernel
theorem dX2_turn_131 : decode cX2_turn 131 = .ok (.ishl, 1) := by decide +kernel
theorem dX2_turn_132 : decode cX2_turn 132 = .ok (.ior, 1) := by decide +kernel
theorem dX2_turn_133 : decode cX2_turn 133 = .ok (.istore 10, 2) := by decide +kernel
theorem dX2_turn_135 : decode cX2_turn 135 = .ok (.aload_n 0, 1) := by decide +kernel
theorem dX2_turn_136 : decode cX2_turn 136 = .ok (.getfield 18, 3) := by decide +kernel
theorem dX2_turn_139 : decode cX2_turn 139 = .ok (.iload_n 1, 1) := by decide +kernel
theorem dX2_turn_140 : decode cX2_turn 140 = .ok (.iload 7, 2) := by decide +kernel
theorem dX2_turn_142 : decode cX2_turn 142 = .ok (.iastore, 1) := by decide +kernel
theorem dX2_turn_143 : decode cX2_turn 143 = .ok (.aload_n 0, 1) := by decide +kernel
theorem dX2_turn_144 : decode cX2_turn 144 = .ok (.getfield 18, 3) := by decide +kernel
theorem dX2_turn_147 : decode cX2_turn 147 = .ok (.iload_n 2, 1) := by decide +kernel
theorem dX2_turn_148 : decode cX2_turn 148 = .ok (.iload 10, 2) := by decide +kernel
theorem dX2_turn_150 : decode cX2_turn 150 = .ok (.iastore, 1) := by decide +kernel
theorem dX2_turn_151 : decode cX2_turn 151 = .ok (.aload_n 0, 1) := by decide +kernel
theorem dX2_turn_152 : decode cX2_turn 152 = .ok (.getfield 18, 3) := by decide +kernel
theorem dX2_turn_155 : decode cX2_turn 155 = .ok (.iload_n 3, 1) := by decide +kernel
theorem dX2_turn_156 : decode cX2_turn 156 = .ok (.iload 9, 2) := by decide +kernel
theorem dX2_turn_158 : decode cX2_turn 158 = .ok (.iastore, 1) := by decide +kernel
theorem dX2_turn_159 : decode cX2_turn 159 = .ok (.aload_n 0, 1) := by decide +kernel
theorem dX2_turn_160 : decode cX2_turn 160 = .ok (.getfield 18, 3) := by decide +kernel
theorem dX2_turn_163 : decode cX2_turn 163 = .ok (.iload 4, 2) := by decide +kernel
theorem dX2_turn_165 : decode cX2_turn 165 = .ok (.iload 8, 2) := by decide +kernel
theorem dX2_turn_167 : decode cX2_turn 167 = .ok (.iastore, 1) := by decide +kernel
theorem dX2_turn_168 : decode cX2_turn 168 = .ok (.return_, 1) := by decide +kernel
theorem dX2_reorder_0 : decode cX2_reorder 0 = .ok (.iconst 0, 1) := by decide +kernel
theorem dX2_reorder_1 : decode cX2_reorder 1 = .ok (.istore_n 1, 1) := by decide +kernel
theorem dX2_reorder_2 : decode cX2_reorder 2 = .ok (.iload_n 1, 1) := by decide +kernel
theorem dX2_reorder_3 : decode cX2_reorder 3 = .ok (.bipush 16, 2) := by decide +kernel
theorem dX2_reorder_5 : decode cX2_reorder 5 = .ok (.if_icmp .ge 25, 3) := by decide +kernel
theorem dX2_reorder_8 : decode cX2_reorder 8 = .ok (.aload_n 0, 1) := by decide +kernel
theorem dX2_reorder_9 : decode cX2_reorder 9 = .ok (.getfield 24, 3) := by decide +kernel
theorem dX2_reorder_12 : decode cX2_reorder 12 = .ok (.iload_n 1, 1) := by decide +kernel
theorem dX2_reorder_13 : decode cX2_reorder 13 = .ok (.aload_n 0, 1) := by decide +kernel
theorem dX2_reorder_14 : decode cX2_reorder 14 = .ok (.getfield 21, 3) := by decide +kernel
theorem dX2_reorder_17 : decode cX2_reorder 17 = .ok (.getstatic 83, 3) := by decide +kernel
theorem dX2_reorder_20 : decode cX2_reorder 20 = .ok (.iload_n 1, 1) := by decide +kernel
theorem dX2_reorder_21 : decode cX2_reorder 21 = .ok (.iaload, 1) := by decide +kernel
theorem dX2_reorder_22 : decode cX2_reorder 22 = .ok (.iaload, 1) := by decide +kernel
theorem dX2_reorder_23 : decode cX2_reorder 23 = .ok (.iastore, 1) := by decide +kernel
theorem dX2_reorder_24 : decode cX2_reorder 24 = .ok (.iinc 1 1, 3) := by decide +kernel
theorem dX2_reorder_27 : decode cX2_reorder 27 = .ok (.goto (-25), 3) := by decide +kernel
theorem dX2_reorder_30 : decode cX2_reorder 30 = .ok (.aload_n 0, 1) := by decide +kernel
theorem dX2_reorder_31 : decode cX2_reorder 31 = .ok (.getfield 21, 3) := by decide +kernel
theorem dX2_reorder_34 : decode cX2_reorder 34 = .ok (.astore_n 1, 1) := by decide +kernel
theorem dX2_reorder_35 : decode cX2_reorder 35 = .ok (.aload_n 0, 1) := by decide +kernel
theorem dX2_reorder_36 : decode cX2_reorder 36 = .ok (.aload_n 0, 1) := by decide +kernel
theorem dX2_reorder_37 : decode cX2_reorder 37 = .ok (.getfield 24, 3) := by decide +kernel
theorem dX2_reorder_40 : decode cX2_reorder 40 = .ok (.putfield 21, 3) := by decide +kernel
theorem dX2_reorder_43 : decode cX2_reorder 43 = .ok (.aload_n 0, 1) := by decide +kernel
theorem dX2_reorder_44 : decode cX2_reorder 44 = .ok (.aload_n 1, 1) := by decide +kernel
theorem dX2_reorder_45 : decode cX2_reorder 45 = .ok (.putfield 24, 3) := by decide +kernel
theorem dX2_reorder_48 : decode cX2_reorder 48 = .ok (.return_, 1) := by decide +kernel
theorem dX3_init_0 : decode cX3_init 0 = .ok (.aload_n 0, 1) := by decide +kernel
theorem dX3_init_1 : decode cX3_init 1 = .ok (.invokespecial 1, 3) := by decide +kernel
theorem dX3_init_4 : decode cX3_init 4 = .ok (.aload_n 0, 1) := by decide +kernel
theorem dX3_init_5 : decode cX3_init 5 = .ok (.bipush 10, 2) := by decide +kernel
theorem dX3_init_7 : decode cX3_init 7 = .ok (.newarray .int, 2) := by decide +kernel
theorem dX3_init_9 : decode cX3_init 9 = .ok (.putfield 9, 3) := by decide +kernel
theorem dX3_init_12 : decode cX3_init 12 = .ok (.aload_n 0, 1) := by decide +kernel
theorem dX3_init_13 : decode cX3_init 13 = .ok (.bipush 10, 2) := by decide +kernel
theorem dX3_init_15 : decode cX3_init 15 = .ok (.newarray .int, 2) := by decide +kernel
theorem dX3_init_17 : decode cX3_init 17 = .ok (.putfield 13, 3) := by decide +kernel
theorem dX3_init_20 : decode cX3_init 20 = .ok (.return_, 1) := by decide +kernel
set_option maxRecDepth 20000 in
theorem ggX3_lead_X3_leftOf : GoodIn wsX3_lead wsX3_leftOf := goodIn_r _ [7] (by decide +kernel) (by decide +kernel)
set_option maxRecDepth 20000 in
theorem gX3_lead_X3_leftOf : GoodIn wsX3_lead (va_wsS RX3 20 yX3_leftOf wsX3_leftOf) := goodIn_app (goodIn_of _ (by decide +kernel)) ggX3_lead_X3_leftOf
theorem dX3_lead_0 : decode cX3_lead 0 = .ok (.iconst 0, 1) := by decide +kernel
theorem dX3_lead_1 : decode cX3_lead 1 = .ok (.istore_n 3, 1) := by decide +kernel
theorem dX3_lead_2 : decode cX3_lead 2 = .ok (.iload_n 1, 1) := by decide +kernel
theorem dX3_lead_3 : decode cX3_lead 3 = .ok (.istore 4, 2) := by decide +kernel
theorem dX3_lead_5 : decode cX3_lead 5 = .ok (.aload_n 0, 1) := by decide +kernel
theorem dX3_lead_6 : decode cX3_lead 6 = .ok (.iconst 0, 1) := by decide +kernel
theorem dX3_lead_7 : decode cX3_lead 7 = .ok (.putfield 16, 3) := by decide +kernel
theorem dX3_lead_10 : decode cX3_lead 10 = .ok (.iload 4, 2) := by decide +kernel
theorem dX3_lead_12 : decode cX3_lead 12 = .ok (.iconst 1, 1) := by decide +kernel
theorem dX3_lead_13 : decode cX3_lead 13 = .ok (.if_icmp .le 107, 3) := by decide +kernel
theorem dX3_lead_16 : decode cX3_lead 16 = .ok (.aload_n 0, 1) := by decide +kernel
theorem dX3_lead_17 : decode cX3_lead 17 = .ok (.getfield 16, 3) := by decide +kernel
theorem dX3_lead_20 : decode cX3_lead 20 = .ok (.bipush 10, 2) := by decide +kernel
theorem dX3_lead_22 : decode cX3_lead 22 = .ok (.if_icmp .ge 98, 3) := by decide +kernel
theorem dX3_lead_25 : decode cX3_lead 25 = .ok (.iload 4, 2) := by decide +kernel
theorem dX3_lead_27 : decode cX3_lead 27 = .ok (.invokestatic 20, 3) := by decide +kernel
theorem dX3_lead_30 : decode cX3_lead 30 = .ok (.istore 5, 2) := by decide +kernel
theorem dX3_lead_32 : decode cX3_lead 32 = .ok (.iload_n 2, 1) := by decide +kernel
theorem dX3_lead_33 : decode cX3_lead 33 = .ok (.iload_n 3, 1) := by decide +kernel
theorem dX3_lead_34 : decode cX3_lead 34 = .ok (.iload 5, 2) := by decide +kernel
theorem dX3_lead_36 : decode cX3_lead 36 = .ok (.iadd, 1) := by decide +kernel
theorem dX3_lead_37 : decode cX3_lead 37 = .ok (.if_icmp .ge 37, 3) := by decide +kernel
theorem dX3_lead_40 : decode cX3_lead 40 = .ok (.aload_n 0, 1) := by decide +kernel
theorem dX3_lead_41 : decode cX3_lead 41 = .ok (.getfield 9, 3) := by decide +kernel
theorem dX3_lead_44 : decode cX3_lead 44 = .ok (.aload_n 0, 1) := by decide +kernel
theorem dX3_lead_45 : decode cX3_lead 45 = .ok (.getfield 16, 3) := by decide +kernel
theorem dX3_lead_48 : decode cX3_lead 48 = .ok (.iload_n 3, 1) := by decide +kernel
theorem dX3_lead_49 : decode cX3_lead 49 = .ok (.iload 5, 2) := by decide +kernel
theorem dX3_lead_51 : decode cX3_lead 51 = .ok (.iadd, 1) := by decide +kernel
theorem dX3_lead_52 : decode cX3_lead 52 = .ok (.iastore, 1) := by decide +kernel
theorem dX3_lead_53 : decode cX3_lead 53 = .ok (.aload_n 0, 1) := by decide +kernel
theorem dX3_lead_54 : decode cX3_lead 54 = .ok (.getfield 13, 3) := by decide +kernel
theorem dX3_lead_57 : decode cX3_lead 57 = .ok (.aload_n 0, 1) := by decide +kernel
theorem dX3_lead_58 : decode cX3_lead 58 = .ok (.getfield 16, 3) := by decide +kernel
theorem dX3_lead_61 : decode cX3_lead 61 = .ok (.iload 4, 2) := by decide +kernel
theorem dX3_lead_63 : decode cX3_lead 63 = .ok (.iload 5, 2) := by decide +kernel
theorem dX3_lead_65 : decode cX3_lead 65 = .ok (.isub, 1) := by decide +kernel
theorem dX3_lead_66 : decode cX3_lead 66 = .ok (.iastore, 1) := by decide +kernel
theorem dX3_lead_67 : decode cX3_lead 67 = .ok (.iload 5, 2) := by decide +kernel
theorem dX3_lead_69 : decode cX3_lead 69 = .ok (.istore 4, 2) := by decide +kernel
theorem dX3_lead_71 : decode cX3_lead 71 = .ok (.goto 36, 3) := by decide +kernel
theorem dX3_lead_74 : decode cX3_lead 74 = .ok (.aload_n 0, 1) := by decide +kernel
theorem dX3_lead_75 : decode cX3_lead 75 = .ok (.getfield 9, 3) := by decide +kernel
theorem dX3_lead_78 : decode cX3_lead 78 = .ok (.aload_n 0, 1) := by decide +kernel
theorem dX3_lead_79 : decode cX3_lead 79 = .ok (.getfield 16, 3) := by decide +kernel
theorem dX3_lead_82 : decode cX3_lead 82 = .ok (.iload_n 3, 1) := by decide +kernel
theorem dX3_lead_83 : decode cX3_lead 83 = .ok (.iastore, 1) := by decide +kernel
theorem dX3_lead_84 : decode cX3_lead 84 = .ok (.aload_n 0, 1) := by decide +kernel
theorem dX3_lead_85 : decode cX3_lead 85 = .ok (.getfield 13, 3) := by decide +kernel
theorem dX3_lead_88 : decode cX3_lead 88 = .ok (.aload_n 0, 1) := by decide +kernel
theorem dX3_lead_89 : decode cX3_lead 89 = .ok (.getfield 16, 3) := by decide +kernel
theorem dX3_lead_92 : decode cX3_lead 92 = .ok (.iload 5, 2) := by decide +kernel
theorem dX3_lead_94 : decode cX3_lead 94 = .ok (.iastore, 1) := by decide +kernel
theorem dX3_lead_95 : decode cX3_lead 95 = .ok (.iload_n 3, 1) := by decide +kernel
theorem dX3_lead_96 : decode cX3_lead 96 = .ok (.iload 5, 2) := by decide +kernel
theorem dX3_lead_98 : decode cX3_lead 98 = .ok (.iadd, 1) := by decide +kernel
theorem dX3_lead_99 : decode cX3_lead 99 = .ok (.istore_n 3, 1) := by decide +kernel
theorem dX3_lead_100 : decode cX3_lead 100 = .ok (.iload 4, 2) := by decide +kernel
theorem dX3_lead_102 : decode cX3_lead 102 = .ok (.iload 5, 2) := by decide +kernel
theorem dX3_lead_104 : decode cX3_lead 104 = .ok (.isub, 1) := by decide +kernel
theorem dX3_lead_105 : decode cX3_lead 105 = .ok (.istore 4, 2) := by decide +kernel
theorem dX3_lead_107 : decode cX3_lead 107 = .ok (.aload_n 0, 1) := by decide +kernel
theorem dX3_lead_108 : decode cX3_lead 108 = .ok (.dup, 1) := by decide +kernel
theorem dX3_lead_109 : decode cX3_lead 109 = .ok (.getfield 16, 3) := by decide +kernel
theorem dX3_lead_112 : decode cX3_lead 112 = .ok (.iconst 1, 1) := by decide +kernel
theorem dX3_lead_113 : decode cX3_lead 113 = .ok (.iadd, 1) := by decide +kernel
theorem dX3_lead_114 : decode cX3_lead 114 = .ok (.putfield 16, 3) := by decide +kernel
theorem dX3_lead_117 : decode cX3_lead 117 = .ok (.goto (-107), 3) := by decide +kernel
theorem dX3_lead_120 : decode cX3_lead 120 = .ok (.return_, 1) := by decide +kernel
theorem dX3_leftOf_0 : decode cX3_leftOf 0 = .ok (.iconst 1, 1) := by decide +kernel
theorem dX3_leftOf_1 : decode cX3_leftOf 1 = .ok (.istore_n 1, 1) := by decide +kernel
theorem dX3_leftOf_2 : decode cX3_leftOf 2 = .ok (.iconst 1, 1) := by decide +kernel
theorem dX3_leftOf_3 : decode cX3_leftOf 3 = .ok (.istore_n 2, 1) := by decide +kernel
theorem dX3_leftOf_4 : decode cX3_leftOf 4 = .ok (.iload_n 2, 1) := by decide +kernel
theorem dX3_leftOf_5 : decode cX3_leftOf 5 = .ok (.bipush 10, 2) := by decide +kernel
theorem dX3_leftOf_7 : decode cX3_leftOf 7 = .ok (.if_icmp .ge 20, 3) := by decide +kernel
theorem dX3_leftOf_10 : decode cX3_leftOf 10 = .ok (.iconst 2, 1) := by decide +kernel
theorem dX3_leftOf_11 : decode cX3_leftOf 11 = .ok (.iload_n 1, 1) := by decide +kernel
theorem dX3_leftOf_12 : decode cX3_leftOf 12 = .ok (.imul, 1) := by decide +kernel
theorem dX3_leftOf_13 : decode cX3_leftOf 13 = .ok (.iload_n 0, 1) := by decide +kernel
theorem dX3_leftOf_14 : decode cX3_leftOf 14 = .ok (.if_icmp .ge 13, 3) := by decide +kernel
theorem dX3_leftOf_17 : decode cX3_leftOf 17 = .ok (.iload_n 1, 1) := by decide +kernel
theorem dX3_leftOf_18 : decode cX3_leftOf 18 = .ok (.iconst 2, 1) := by decide +kernel
theorem dX3_leftOf_19 : decode cX3_leftOf 19 = .ok (.imul, 1) := by decide +kernel
theorem dX3_leftOf_20 : decode cX3_leftOf 20 = .ok (.istore_n 1, 1) := by decide +kernel
theorem dX3_leftOf_21 : decode cX3_leftOf 21 = .ok (.iinc 2 1, 3) := by decide +kernel
theorem dX3_leftOf_24 : decode cX3_leftOf 24 = .ok (.goto (-20), 3) := by decide +kernel
theorem dX3_leftOf_27 : decode cX3_leftOf 27 = .ok (.iload_n 1, 1) := by decide +kernel
theorem dX3_leftOf_28 : decode cX3_leftOf 28 = .ok (.ireturn, 1) := by decide +kernel
