set_option maxRecDepth 20000 in
theorem ggX4_init_X0_init : GoodIn wsX4_init wsX0_init := goodIn_r _ [23, 24, 2, 3, 25, 26, 27, 28, 29, 30, 87, 88] (by decide +kernel) (by decide +kernel)
set_option maxRecDepth 20000 in
theorem gX4_init_X0_init : GoodIn wsX4_init (wsX0_init) := ggX4_init_X0_init
set_option maxRecDepth 20000 in
theorem ggX4_init_X1_init : GoodIn wsX4_init wsX1_init := goodIn_r _ [33, 34, 2, 3, 35, 36, 37, 38, 19, 39, 40, 41, 42, 43, 44, 45, 46, 47, 48, 49, 50, 51, 52, 53, 54, 13, 55, 56, 57, 58, 59, 60, 61, 62, 63, 64, 65, 66, 67, 68, 69, 70, 71, 72, 73, 74, 105, 106, 107, 108, 109, 110, 111, 112, 89, 90, 91, 92, 93, 94, 95, 96, 97, 98, 99, 100, 101] (by decide +kernel) (by decide +kernel)
set_option maxRecDepth 20000 in
theorem gX4_init_X1_init : GoodIn wsX4_init (wsX1_init) := ggX4_init_X1_init
set_option maxRecDepth 20000 in
theorem ggX4_init_X3_init : GoodIn wsX4_init wsX3_init := goodIn_r _ [76, 77, 2, 3, 19, 78, 79, 102, 103, 104] (by decide +kernel) (by decide +kernel)
set_option maxRecDepth 20000 in
theorem gX4_init_X3_init_n38 : GoodIn wsX4_init (wsX3_init) := ggX4_init_X3_init
theorem dX4_init_0 : decode cX4_init 0 = .ok (.aload_n 0, 1) := by decide +kernel
theorem dX4_init_1 : decode cX4_init 1 = .ok (.invokespecial 3, 3) := by decide +kernel
theorem dX4_init_4 : decode cX4_init 4 = .ok (.aload_n 0, 1) := by decide +kernel
theorem dX4_init_5 : decode cX4_init 5 = .ok (.bipush 8, 2) := by decide +kernel
theorem dX4_init_7 : decode cX4_init 7 = .ok (.anewarray 9, 3) := by decide +kernel
theorem dX4_init_10 : decode cX4_init 10 = .ok (.putfield 11, 3) := by decide +kernel
theorem dX4_init_13 : decode cX4_init 13 = .ok (.aload_n 0, 1) := by decide +kernel
theorem dX4_init_14 : decode cX4_init 14 = .ok (.iconst 4, 1) := by decide +kernel
theorem dX4_init_15 : decode cX4_init 15 = .ok (.anewarray 15, 3) := by decide +kernel
theorem dX4_init_18 : decode cX4_init 18 = .ok (.putfield 17, 3) := by decide +kernel
theorem dX4_init_21 : decode cX4_init 21 = .ok (.aload_n 0, 1) := by decide +kernel
theorem dX4_init_22 : decode cX4_init 22 = .ok (.new 9, 3) := by decide +kernel
theorem dX4_init_25 : decode cX4_init 25 = .ok (.dup, 1) := by decide +kernel
theorem dX4_init_26 : decode cX4_init 26 = .ok (.sipush 20000, 3) := by decide +kernel
theorem dX4_init_29 : decode cX4_init 29 = .ok (.invokespecial 21, 3) := by decide +kernel
theorem dX4_init_32 : decode cX4_init 32 = .ok (.putfield 24, 3) := by decide +kernel
theorem dX4_init_35 : decode cX4_init 35 = .ok (.aload_n 0, 1) := by decide +kernel
theorem dX4_init_36 : decode cX4_init 36 = .ok (.new 9, 3) := by decide +kernel
theorem dX4_init_39 : decode cX4_init 39 = .ok (.dup, 1) := by decide +kernel
theorem dX4_init_40 : decode cX4_init 40 = .ok (.sipush 1184, 3) := by decide +kernel
theorem dX4_init_43 : decode cX4_init 43 = .ok (.invokespecial 21, 3) := by decide +kernel
theorem dX4_init_46 : decode cX4_init 46 = .ok (.putfield 28, 3) := by decide +kernel
theorem dX4_init_49 : decode cX4_init 49 = .ok (.aload_n 0, 1) := by decide +kernel
theorem dX4_init_50 : decode cX4_init 50 = .ok (.new 15, 3) := by decide +kernel
theorem dX4_init_53 : decode cX4_init 53 = .ok (.dup, 1) := by decide +kernel
theorem dX4_init_54 : decode cX4_init 54 = .ok (.invokespecial 31, 3) := by decide +kernel
theorem dX4_init_57 : decode cX4_init 57 = .ok (.putfield 32, 3) := by decide +kernel
theorem dX4_init_60 : decode cX4_init 60 = .ok (.aload_n 0, 1) := by decide +kernel
theorem dX4_init_61 : decode cX4_init 61 = .ok (.new 36, 3) := by decide +kernel
theorem dX4_init_64 : decode cX4_init 64 = .ok (.dup, 1) := by decide +kernel
theorem dX4_init_65 : decode cX4_init 65 = .ok (.invokespecial 38, 3) := by decide +kernel
theorem dX4_init_68 : decode cX4_init 68 = .ok (.putfield 39, 3) := by decide +kernel
theorem dX4_init_71 : decode cX4_init 71 = .ok (.aload_n 0, 1) := by decide +kernel
theorem dX4_init_72 : decode cX4_init 72 = .ok (.bipush 8, 2) := by decide +kernel
theorem dX4_init_74 : decode cX4_init 74 = .ok (.newarray .int, 2) := by decide +kernel
theorem dX4_init_76 : decode cX4_init 76 = .ok (.putfield 43, 3) := by decide +kernel
theorem dX4_init_79 : decode cX4_init 79 = .ok (.iconst 0, 1) := by decide +kernel
theorem dX4_init_80 : decode cX4_init 80 = .ok (.istore_n 1, 1) := by decide +kernel
theorem dX4_init_81 : decode cX4_init 81 = .ok (.iload_n 1, 1) := by decide +kernel
theorem dX4_init_82 : decode cX4_init 82 = .ok (.bipush 8, 2) := by decide +kernel
theorem dX4_init_84 : decode cX4_init 84 = .ok (.if_icmp .ge 25, 3) := by decide +kernel
theorem dX4_init_87 : decode cX4_init 87 = .ok (.aload_n 0, 1) := by decide +kernel
theorem dX4_init_88 : decode cX4_init 88 = .ok (.getfield 11, 3) := by decide +kernel
theorem dX4_init_91 : decode cX4_init 91 = .ok (.iload_n 1, 1) := by decide +kernel
theorem dX4_init_92 : decode cX4_init 92 = .ok (.new 9, 3) := by decide +kernel
theorem dX4_init_95 : decode cX4_init 95 = .ok (.dup, 1) := by decide +kernel
theorem dX4_init_96 : decode cX4_init 96 = .ok (.sipush 200, 3) := by decide +kernel
theorem dX4_init_99 : decode cX4_init 99 = .ok (.invokespecial 21, 3) := by decide +kernel
theorem dX4_init_102 : decode cX4_init 102 = .ok (.aastore, 1) := by decide +kernel
theorem dX4_init_103 : decode cX4_init 103 = .ok (.iinc 1 1, 3) := by decide +kernel
theorem dX4_init_106 : decode cX4_init 106 = .ok (.goto (-25), 3) := by decide +kernel
theorem dX4_init_109 : decode cX4_init 109 = .ok (.iconst 0, 1) := by decide +kernel
theorem dX4_init_110 : decode cX4_init 110 = .ok (.istore_n 1, 1) := by decide +kernel
theorem dX4_init_111 : decode cX4_init 111 = .ok (.iload_n 1, 1) := by decide +kernel
theorem dX4_init_112 : decode cX4_init 112 = .ok (.iconst 4, 1) := by decide +kernel
theorem dX4_init_113 : decode cX4_init 113 = .ok (.if_icmp .ge 22, 3) := by decide +kernel
theorem dX4_init_116 : decode cX4_init 116 = .ok (.aload_n 0, 1) := by decide +kernel
theorem dX4_init_117 : decode cX4_init 117 = .ok (.getfield 17, 3) := by decide +kernel
theorem dX4_init_120 : decode cX4_init 120 = .ok (.iload_n 1, 1) := by decide +kernel
theorem dX4_init_121 : decode cX4_init 121 = .ok (.new 15, 3) := by decide +kernel
theorem dX4_init_124 : decode cX4_init 124 = .ok (.dup, 1) := by decide +kernel
theorem dX4_init_125 : decode cX4_init 125 = .ok (.invokespecial 31, 3) := by decide +kernel
theorem dX4_init_128 : decode cX4_init 128 = .ok (.aastore, 1) := by decide +kernel
theorem dX4_init_129 : decode cX4_init 129 = .ok (.iinc 1 1, 3) := by decide +kernel
theorem dX4_init_132 : decode cX4_init 132 = .ok (.goto (-21), 3) := by decide +kernel
theorem dX4_init_135 : decode cX4_init 135 = .ok (.return_, 1) := by decide +kernel
set_option maxRecDepth 20000 in
theorem ggX4_add_X4_isRegister : GoodIn wsX4_add wsX4_isRegister := goodIn_r _ [5] (by decide +kernel) (by decide +kernel)
set_option maxRecDepth 20000 in
theorem gX4_add_X4_isRegister : GoodIn wsX4_add (va_wsS RX4 47 yX4_isRegister wsX4_isRegister) := goodIn_app (goodIn_of _ (by decide +kernel)) ggX4_add_X4_isRegister
set_option maxRecDepth 20000 in
theorem ggX4_add_X0_hasRoomFor : GoodIn wsX4_add wsX0_hasRoomFor := goodIn_r _ [10, 11, 12, 24, 25] (by decide +kernel) (by decide +kernel)
set_option maxRecDepth 20000 in
theorem gX4_add_X0_hasRoomFor : GoodIn wsX4_add (wsV RX4 51 RX0 yX0_hasRoomFor wsX0_hasRoomFor) := goodIn_app (goodIn_of _ (by decide +kernel)) ggX4_add_X0_hasRoomFor
set_option maxRecDepth 20000 in
theorem ggX4_add_X0_append : GoodIn wsX4_add wsX0_append := goodIn_r _ [16, 12, 11, 24, 25] (by decide +kernel) (by decide +kernel)
set_option maxRecDepth 20000 in
theorem gX4_add_X0_append : GoodIn wsX4_add (wsV RX4 54 RX0 yX0_append wsX0_append) := goodIn_app (goodIn_of _ (by decide +kernel)) ggX4_add_X0_append
theorem dX4_add_0 : decode cX4_add 0 = .ok (.iload_n 1, 1) := by decide +kernel
theorem dX4_add_1 : decode cX4_add 1 = .ok (.invokestatic 47, 3) := by decide +kernel
theorem dX4_add_4 : decode cX4_add 4 = .ok (.ifCond .eq 14, 3) := by decide +kernel
theorem dX4_add_7 : decode cX4_add 7 = .ok (.iload_n 2, 1) := by decide +kernel
theorem dX4_add_8 : decode cX4_add 8 = .ok (.iconst 1, 1) := by decide +kernel
theorem dX4_add_9 : decode cX4_add 9 = .ok (.if_icmp .lt 9, 3) := by decide +kernel
theorem dX4_add_12 : decode cX4_add 12 = .ok (.iload_n 2, 1) := by decide +kernel
theorem dX4_add_13 : decode cX4_add 13 = .ok (.bipush 8, 2) := by decide +kernel
theorem dX4_add_15 : decode cX4_add 15 = .ok (.if_icmp .le 6, 3) := by decide +kernel
theorem dX4_add_18 : decode cX4_add 18 = .ok (.bipush (-2), 2) := by decide +kernel
theorem dX4_add_20 : decode cX4_add 20 = .ok (.ireturn, 1) := by decide +kernel
theorem dX4_add_21 : decode cX4_add 21 = .ok (.aload_n 0, 1) := by decide +kernel
theorem dX4_add_22 : decode cX4_add 22 = .ok (.getfield 11, 3) := by decide +kernel
theorem dX4_add_25 : decode cX4_add 25 = .ok (.iload_n 1, 1) := by decide +kernel
theorem dX4_add_26 : decode cX4_add 26 = .ok (.aaload, 1) := by decide +kernel
theorem dX4_add_27 : decode cX4_add 27 = .ok (.iload_n 2, 1) := by decide +kernel
theorem dX4_add_28 : decode cX4_add 28 = .ok (.invokevirtual 51, 3) := by decide +kernel
theorem dX4_add_31 : decode cX4_add 31 = .ok (.ifCond .ne 6, 3) := by decide +kernel
theorem dX4_add_34 : decode cX4_add 34 = .ok (.bipush (-3), 2) := by decide +kernel
theorem dX4_add_36 : decode cX4_add 36 = .ok (.ireturn, 1) := by decide +kernel
theorem dX4_add_37 : decode cX4_add 37 = .ok (.iconst 0, 1) := by decide +kernel
theorem dX4_add_38 : decode cX4_add 38 = .ok (.istore 5, 2) := by decide +kernel
theorem dX4_add_40 : decode cX4_add 40 = .ok (.iload 5, 2) := by decide +kernel
theorem dX4_add_42 : decode cX4_add 42 = .ok (.iload_n 2, 1) := by decide +kernel
theorem dX4_add_43 : decode cX4_add 43 = .ok (.if_icmp .ge 26, 3) := by decide +kernel
theorem dX4_add_46 : decode cX4_add 46 = .ok (.aload_n 0, 1) := by decide +kernel
theorem dX4_add_47 : decode cX4_add 47 = .ok (.getfield 11, 3) := by decide +kernel
theorem dX4_add_50 : decode cX4_add 50 = .ok (.iload_n 1, 1) := by decide +kernel
theorem dX4_add_51 : decode cX4_add 51 = .ok (.aaload, 1) := by decide +kernel
theorem dX4_add_52 : decode cX4_add 52 = .ok (.lload_n 3, 1) := by decide +kernel
theorem dX4_add_53 : decode cX4_add 53 = .ok (.bipush 8, 2) := by decide +kernel
theorem dX4_add_55 : decode cX4_add 55 = .ok (.iload 5, 2) := by decide +kernel
theorem dX4_add_57 : decode cX4_add 57 = .ok (.imul, 1) := by decide +kernel
theorem dX4_add_58 : decode cX4_add 58 = .ok (.lushr, 1) := by decide +kernel
theorem dX4_add_59 : decode cX4_add 59 = .ok (.l2i, 1) := by decide +kernel
theorem dX4_add_60 : decode cX4_add 60 = .ok (.invokevirtual 54, 3) := by decide +kernel
theorem dX4_add_63 : decode cX4_add 63 = .ok (.iinc 5 1, 3) := by decide +kernel
theorem dX4_add_66 : decode cX4_add 66 = .ok (.goto (-26), 3) := by decide +kernel
theorem dX4_add_69 : decode cX4_add 69 = .ok (.aload_n 0, 1) := by decide +kernel
theorem dX4_add_70 : decode cX4_add 70 = .ok (.getfield 11, 3) := by decide +kernel
theorem dX4_add_73 : decode cX4_add 73 = .ok (.iload_n 1, 1) := by decide +kernel
theorem dX4_add_74 : decode cX4_add 74 = .ok (.aaload, 1) := by decide +kernel
theorem dX4_add_75 : decode cX4_add 75 = .ok (.getfield 57, 3) := by decide +kernel
theorem dX4_add_78 : decode cX4_add 78 = .ok (.ireturn, 1) := by decide +kernel
set_option maxRecDepth 20000 in
theorem ggX4_clear_X4_isRegister : GoodIn wsX4_clear wsX4_isRegister := goodIn_r _ [5] (by decide +kernel) (by decide +kernel)
set_option maxRecDepth 20000 in
theorem gX4_clear_X4_isRegister : GoodIn wsX4_clear (va_wsS RX4 47 yX4_isRegister wsX4_isRegister) := goodIn_app (goodIn_of _ (by decide +kernel)) ggX4_clear_X4_isRegister
set_option maxRecDepth 20000 in
theorem ggX4_clear_X0_keepFirst : GoodIn wsX4_clear wsX0_keepFirst := goodIn_r _ [10, 11, 19, 20] (by decide +kernel) (by decide +kernel)
set_option maxRecDepth 20000 in
theorem gX4_clear_X0_keepFirst : GoodIn wsX4_clear (wsV RX4 61 RX0 yX0_keepFirst wsX0_keepFirst) := goodIn_app (goodIn_of _ (by decide +kernel)) ggX4_clear_X0_keepFirst
theorem dX4_clear_0 : decode cX4_clear 0 = .ok (.iload_n 1, 1) := by decide +kernel
theorem dX4_clear_1 : decode cX4_clear 1 = .ok (.invokestatic 47, 3) := by decide +kernel
theorem dX4_clear_4 : decode cX4_clear 4 = .ok (.ifCond .eq 16, 3) := by decide +kernel
theorem dX4_clear_7 : decode cX4_clear 7 = .ok (.aload_n 0, 1) := by decide +kernel
theorem dX4_clear_8 : decode cX4_clear 8 = .ok (.getfield 11, 3) := by decide +kernel
theorem dX4_clear_11 : decode cX4_clear 11 = .ok (.iload_n 1, 1) := by decide +kernel
theorem dX4_clear_12 : decode cX4_clear 12 = .ok (.aaload, 1) := by decide +kernel
theorem dX4_clear_13 : decode cX4_clear 13 = .ok (.iconst 0, 1) := by decide +kernel
theorem dX4_clear_14 : decode cX4_clear 14 = .ok (.invokevirtual 61, 3) := by decide +kernel
theorem dX4_clear_17 : decode cX4_clear 17 = .ok (.goto 5, 3) := by decide +kernel
theorem dX4_clear_20 : decode cX4_clear 20 = .ok (.bipush (-2), 2) := by decide +kernel
theorem dX4_clear_22 : decode cX4_clear 22 = .ok (.ireturn, 1) := by decide +kernel
set_option maxRecDepth 20000 in
theorem ggX4_size_X4_isRegister : GoodIn wsX4_size wsX4_isRegister := goodIn_r _ [5] (by decide +kernel) (by decide +kernel)
set_option maxRecDepth 20000 in
theorem gX4_size_X4_isRegister : GoodIn wsX4_size (va_wsS RX4 47 yX4_isRegister wsX4_isRegister) := goodIn_app (goodIn_of _ (by decide +kernel)) ggX4_size_X4_isRegister
theorem dX4_size_0 : decode cX4_size 0 = .ok (.iload_n 1, 1) := by decide +kernel
theorem dX4_size_1 : decode cX4_size 1 = .ok (.invokestatic 47, 3) := by decide +kernel
theorem dX4_size_4 : decode cX4_size 4 = .ok (.ifCond .eq 15, 3) := by decide +kernel
theorem dX4_size_7 : decode cX4_size 7 = .ok (.aload_n 0, 1) := by decide +kernel
theorem dX4_size_8 : decode cX4_size 8 = .ok (.getfield 11, 3) := by decide +kernel
theorem dX4_size_11 : decode cX4_size 11 = .ok (.iload_n 1, 1) := by decide +kernel
theorem dX4_size_12 : decode cX4_size 12 = .ok (.aaload, 1) := by decide +kernel
theorem dX4_size_13 : decode cX4_size 13 = .ok (.getfield 57, 3) := by decide +kernel
theorem dX4_size_16 : decode cX4_size 16 = .ok (.goto 5, 3) := by decide +kernel
theorem dX4_size_19 : decode cX4_size 19 = .ok (.bipush (-2), 2) := by decide +kernel
theorem dX4_size_21 : decode cX4_size 21 = .ok (.ireturn, 1) := by decide +kernel
set_option maxRecDepth 20000 in
theorem ggX4_at_X4_isRegister : GoodIn wsX4_at wsX4_isRegister := goodIn_r _ [5] (by decide +kernel) (by decide +kernel)
set_option maxRecDepth 20000 in
theorem gX4_at_X4_isRegister : GoodIn wsX4_at (va_wsS RX4 47 yX4_isRegister wsX4_isRegister) := goodIn_app (goodIn_of _ (by decide +kernel)) ggX4_at_X4_isRegister
set_option maxRecDepth 20000 in
theorem ggX4_at_X0_byteAt : GoodIn wsX4_at wsX0_byteAt := goodIn_r _ [10, 11, 12, 20, 21] (by decide +kernel) (by decide +kernel)
set_option maxRecDepth 20000 in
theorem gX4_at_X0_byteAt : GoodIn wsX4_at (wsV RX4 65 RX0 yX0_byteAt wsX0_byteAt) := goodIn_app (goodIn_of _ (by decide +kernel)) ggX4_at_X0_byteAt
theorem dX4_at_0 : decode cX4_at 0 = .ok (.iload_n 1, 1) := by decide +kernel
theorem dX4_at_1 : decode cX4_at 1 = .ok (.invokestatic 47, 3) := by decide +kernel
theorem dX4_at_4 : decode cX4_at 4 = .ok (.ifCond .eq 16, 3) := by decide +kernel
theorem dX4_at_7 : decode cX4_at 7 = .ok (.aload_n 0, 1) := by decide +kernel
theorem dX4_at_8 : decode cX4_at 8 = .ok (.getfield 11, 3) := by decide +kernel
theorem dX4_at_11 : decode cX4_at 11 = .ok (.iload_n 1, 1) := by decide +kernel
theorem dX4_at_12 : decode cX4_at 12 = .ok (.aaload, 1) := by decide +kernel
theorem dX4_at_13 : decode cX4_at 13 = .ok (.iload_n 2, 1) := by decide +kernel
theorem dX4_at_14 : decode cX4_at 14 = .ok (.invokevirtual 65, 3) := by decide +kernel
theorem dX4_at_17 : decode cX4_at 17 = .ok (.goto 5, 3) := by decide +kernel
theorem dX4_at_20 : decode cX4_at 20 = .ok (.bipush (-2), 2) := by decide +kernel
theorem dX4_at_22 : decode cX4_at 22 = .ok (.ireturn, 1) := by decide +kernel
set_option maxRecDepth 20000 in
theorem ggX4_begin_X4_isHasher : GoodIn wsX4_begin wsX4_isHasher := goodIn_r _ [8] (by decide +kernel) (by decide +kernel)
set_option maxRecDepth 20000 in
theorem gX4_begin_X4_isHasher : GoodIn wsX4_begin (va_wsS RX4 68 yX4_isHasher wsX4_isHasher) := goodIn_app (goodIn_of _ (by decide +kernel)) ggX4_begin_X4_isHasher
set_option maxRecDepth 20000 in
theorem ggX4_begin_X1_restart : GoodIn wsX4_begin wsX1_restart := goodIn_r _ [13, 14, 15, 16, 17, 18, 19, 20, 21, 22, 12, 23, 24, 25, 26, 27, 28, 29, 30, 31, 32, 33, 34, 35, 144, 145, 146, 147, 148, 149, 150, 151, 152, 153, 154, 155, 156] (by decide +kernel) (by decide +kernel)
set_option maxRecDepth 20000 in
theorem gX4_begin_X1_restart : GoodIn wsX4_begin (wsV RX4 76 RX1 yX1_restart wsX1_restart) := goodIn_app (goodIn_of _ (by decide +kernel)) ggX4_begin_X1_restart
set_option maxRecDepth 20000 in
theorem ggX4_begin_X4_isRegister : GoodIn wsX4_begin wsX4_isRegister := goodIn_r _ [38] (by decide +kernel) (by decide +kernel)
set_option maxRecDepth 20000 in
theorem gX4_begin_X4_isRegister : GoodIn wsX4_begin (va_wsS RX4 47 yX4_isRegister wsX4_isRegister) := goodIn_app (goodIn_of _ (by decide +kernel)) ggX4_begin_X4_isRegister
set_option maxRecDepth 20000 in
theorem ggX4_begin_X0_readChain : GoodIn wsX4_begin wsX0_readChain := goodIn_r _ [43, 44, 45, 46, 42, 47, 48, 49, 50, 51, 52, 53, 142, 143] (by decide +kernel) (by decide +kernel)
set_option maxRecDepth 20000 in
theorem gX4_begin_X0_readChain : GoodIn wsX4_begin (wsV RX4 80 RX0 yX0_readChain wsX0_readChain) := goodIn_app (goodIn_of _ (by decide +kernel)) ggX4_begin_X0_readChain
set_option maxRecDepth 20000 in
theorem ggX4_begin_X4_deriveKey : GoodIn wsX4_begin wsX4_deriveKey := goodIn_r _ [57, 58, 2, 4, 9, 10, 11, 12, 13, 14, 15, 16, 17, 18, 19, 20, 21, 22, 23, 24, 25, 26, 27, 28, 29, 30, 31, 32, 33, 34, 35, 59, 60, 61, 62, 63, 49, 50, 42, 51, 52, 53, 64, 65, 66, 67, 68, 69, 70, 71, 72, 73, 74, 75, 76, 77, 78, 79, 80, 81, 82, 83, 84, 85, 86, 87, 88, 89, 90, 91, 92, 93, 94, 95, 96, 97, 98, 99, 100, 101, 102, 103, 104, 105, 106, 107, 108, 109, 110, 111, 112, 113, 114, 115, 116, 117, 118, 119, 120, 121, 122, 123, 124, 125, 126, 127, 128, 129, 130, 131, 132, 133, 134, 135, 136, 137, 138, 139, 140, 141, 142, 143, 144, 145, 146, 147, 148, 149, 150, 151, 152, 153, 154, 155, 156, 157, 158, 159, 160, 161, 162, 163, 164] (by decide +kernel) (by decide +kernel)
set_option maxRecDepth 20000 in
theorem gX4_begin_X4_deriveKey : GoodIn wsX4_begin (wsV RX4 84 RX4 yX4_deriveKey wsX4_deriveKey) := goodIn_app (goodIn_of _ (by decide +kernel)) ggX4_begin_X4_deriveKey
theorem dX4_begin_0 : decode cX4_begin 0 = .ok (.iload_n 1, 1) := by decide +kernel
theorem dX4_begin_1 : decode cX4_begin 1 = .ok (.invokestatic 68, 3) := by decide +kernel
theorem dX4_begin_4 : decode cX4_begin 4 = .ok (.ifCond .ne 6, 3) := by decide +kernel
theorem dX4_begin_7 : decode cX4_begin 7 = .ok (.bipush (-2), 2) := by decide +kernel
theorem dX4_begin_9 : decode cX4_begin 9 = .ok (.ireturn, 1) := by decide +kernel
theorem dX4_begin_10 : decode cX4_begin 10 = .ok (.iload_n 2, 1) := by decide +kernel
theorem dX4_begin_11 : decode cX4_begin 11 = .ok (.ifCond .ne 20, 3) := by decide +kernel
theorem dX4_begin_14 : decode cX4_begin 14 = .ok (.aload_n 0, 1) := by decide +kernel
theorem dX4_begin_15 : decode cX4_begin 15 = .ok (.getfield 17, 3) := by decide +kernel
theorem dX4_begin_18 : decode cX4_begin 18 = .ok (.iload_n 1, 1) := by decide +kernel
theorem dX4_begin_19 : decode cX4_begin 19 = .ok (.aaload, 1) := by decide +kernel
theorem dX4_begin_20 : decode cX4_begin 20 = .ok (.iconst 0, 1) := by decide +kernel
theorem dX4_begin_21 : decode cX4_begin 21 = .ok (.iconst 0, 1) := by decide +kernel
theorem dX4_begin_22 : decode cX4_begin 22 = .ok (.getstatic 71, 3) := by decide +kernel
theorem dX4_begin_25 : decode cX4_begin 25 = .ok (.iconst 0, 1) := by decide +kernel
theorem dX4_begin_26 : decode cX4_begin 26 = .ok (.invokevirtual 76, 3) := by decide +kernel
theorem dX4_begin_29 : decode cX4_begin 29 = .ok (.iconst 0, 1) := by decide +kernel
theorem dX4_begin_30 : decode cX4_begin 30 = .ok (.ireturn, 1) := by decide +kernel
theorem dX4_begin_31 : decode cX4_begin 31 = .ok (.iload_n 3, 1) := by decide +kernel
theorem dX4_begin_32 : decode cX4_begin 32 = .ok (.invokestatic 47, 3) := by decide +kernel
theorem dX4_begin_35 : decode cX4_begin 35 = .ok (.ifCond .ne 6, 3) := by decide +kernel
theorem dX4_begin_38 : decode cX4_begin 38 = .ok (.bipush (-2), 2) := by decide +kernel
theorem dX4_begin_40 : decode cX4_begin 40 = .ok (.ireturn, 1) := by decide +kernel
theorem dX4_begin_41 : decode cX4_begin 41 = .ok (.iload_n 2, 1) := by decide +kernel
theorem dX4_begin_42 : decode cX4_begin 42 = .ok (.iconst 1, 1) := by decide +kernel
theorem dX4_begin_43 : decode cX4_begin 43 = .ok (.if_icmp .ne 50, 3) := by decide +kernel
theorem dX4_begin_46 : decode cX4_begin 46 = .ok (.aload_n 0, 1) := by decide +kernel
theorem dX4_begin_47 : decode cX4_begin 47 = .ok (.getfield 11, 3) := by decide +kernel
theorem dX4_begin_50 : decode cX4_begin 50 = .ok (.iload_n 3, 1) := by decide +kernel
theorem dX4_begin_51 : decode cX4_begin 51 = .ok (.aaload, 1) := by decide +kernel
theorem dX4_begin_52 : decode cX4_begin 52 = .ok (.getfield 57, 3) := by decide +kernel
theorem dX4_begin_55 : decode cX4_begin 55 = .ok (.bipush 32, 2) := by decide +kernel
theorem dX4_begin_57 : decode cX4_begin 57 = .ok (.if_icmp .ne 36, 3) := by decide +kernel
theorem dX4_begin_60 : decode cX4_begin 60 = .ok (.aload_n 0, 1) := by decide +kernel
theorem dX4_begin_61 : decode cX4_begin 61 = .ok (.getfield 11, 3) := by decide +kernel
theorem dX4_begin_64 : decode cX4_begin 64 = .ok (.iload_n 3, 1) := by decide +kernel
theorem dX4_begin_65 : decode cX4_begin 65 = .ok (.aaload, 1) := by decide +kernel
theorem dX4_begin_66 : decode cX4_begin 66 = .ok (.iconst 0, 1) := by decide +kernel
theorem dX4_begin_67 : decode cX4_begin 67 = .ok (.aload_n 0, 1) := by decide +kernel
theorem dX4_begin_68 : decode cX4_begin 68 = .ok (.getfield 43, 3) := by decide +kernel
theorem dX4_begin_71 : decode cX4_begin 71 = .ok (.invokevirtual 80, 3) := by decide +kernel
theorem dX4_begin_74 : decode cX4_begin 74 = .ok (.aload_n 0, 1) := by decide +kernel
theorem dX4_begin_75 : decode cX4_begin 75 = .ok (.getfield 17, 3) := by decide +kernel
theorem dX4_begin_78 : decode cX4_begin 78 = .ok (.iload_n 1, 1) := by decide +kernel
theorem dX4_begin_79 : decode cX4_begin 79 = .ok (.aaload, 1) := by decide +kernel
theorem dX4_begin_80 : decode cX4_begin 80 = .ok (.iconst 1, 1) := by decide +kernel
theorem dX4_begin_81 : decode cX4_begin 81 = .ok (.bipush 16, 2) := by decide +kernel
theorem dX4_begin_83 : decode cX4_begin 83 = .ok (.aload_n 0, 1) := by decide +kernel
theorem dX4_begin_84 : decode cX4_begin 84 = .ok (.getfield 43, 3) := by decide +kernel
theorem dX4_begin_87 : decode cX4_begin 87 = .ok (.iconst 0, 1) := by decide +kernel
theorem dX4_begin_88 : decode cX4_begin 88 = .ok (.invokevirtual 76, 3) := by decide +kernel
theorem dX4_begin_91 : decode cX4_begin 91 = .ok (.iconst 0, 1) := by decide +kernel
theorem dX4_begin_92 : decode cX4_begin 92 = .ok (.ireturn, 1) := by decide +kernel
theorem dX4_begin_93 : decode cX4_begin 93 = .ok (.iload_n 2, 1) := by decide +kernel
theorem dX4_begin_94 : decode cX4_begin 94 = .ok (.iconst 2, 1) := by decide +kernel
theorem dX4_begin_95 : decode cX4_begin 95 = .ok (.if_icmp .ne 32, 3) := by decide +kernel
theorem dX4_begin_98 : decode cX4_begin 98 = .ok (.aload_n 0, 1) := by decide +kernel
theorem dX4_begin_99 : decode cX4_begin 99 = .ok (.aload_n 0, 1) := by decide +kernel
theorem dX4_begin_100 : decode cX4_begin 100 = .ok (.getfield 11, 3) := by decide +kernel
theorem dX4_begin_103 : decode cX4_begin 103 = .ok (.iload_n 3, 1) := by decide +kernel
theorem dX4_begin_104 : decode cX4_begin 104 = .ok (.aaload, 1) := by decide +kernel
theorem dX4_begin_105 : decode cX4_begin 105 = .ok (.invokevirtual 84, 3) := by decide +kernel
theorem dX4_begin_108 : decode cX4_begin 108 = .ok (.aload_n 0, 1) := by decide +kernel
theorem dX4_begin_109 : decode cX4_begin 109 = .ok (.getfield 17, 3) := by decide +kernel
theorem dX4_begin_112 : decode cX4_begin 112 = .ok (.iload_n 1, 1) := by decide +kernel
theorem dX4_begin_113 : decode cX4_begin 113 = .ok (.aaload, 1) := by decide +kernel
theorem dX4_begin_114 : decode cX4_begin 114 = .ok (.iconst 2, 1) := by decide +kernel
theorem dX4_begin_115 : decode cX4_begin 115 = .ok (.bipush 64, 2) := by decide +kernel
theorem dX4_begin_117 : decode cX4_begin 117 = .ok (.aload_n 0, 1) := by decide +kernel
theorem dX4_begin_118 : decode cX4_begin 118 = .ok (.getfield 43, 3) := by decide +kernel
theorem dX4_begin_121 : decode cX4_begin 121 = .ok (.iconst 0, 1) := by decide +kernel
theorem dX4_begin_122 : decode cX4_begin 122 = .ok (.invokevirtual 76, 3) := by decide +kernel
theorem dX4_begin_125 : decode cX4_begin 125 = .ok (.iconst 0, 1) := by decide +kernel
theorem dX4_begin_126 : decode cX4_begin 126 = .ok (.ireturn, 1) := by decide +kernel
theorem dX4_begin_127 : decode cX4_begin 127 = .ok (.bipush (-2), 2) := by decide +kernel
theorem dX4_begin_129 : decode cX4_begin 129 = .ok (.ireturn, 1) := by decide +kernel
set_option maxRecDepth 20000 in
theorem ggX4_take_X4_isHasher : GoodIn wsX4_take wsX4_isHasher := goodIn_r _ [7] (by decide +kernel) (by decide +kernel)
set_option maxRecDepth 20000 in
theorem gX4_take_X4_isHasher : GoodIn wsX4_take (va_wsS RX4 68 yX4_isHasher wsX4_isHasher) := goodIn_app (goodIn_of _ (by decide +kernel)) ggX4_take_X4_isHasher
set_option maxRecDepth 20000 in
theorem ggX4_take_X4_isRegister : GoodIn wsX4_take wsX4_isRegister := goodIn_r _ [10] (by decide +kernel) (by decide +kernel)
set_option maxRecDepth 20000 in
theorem gX4_take_X4_isRegister : GoodIn wsX4_take (va_wsS RX4 47 yX4_isRegister wsX4_isRegister) := goodIn_app (goodIn_of _ (by decide +kernel)) ggX4_take_X4_isRegister
set_option maxRecDepth 20000 in
theorem ggX4_take_X1_absorb : GoodIn wsX4_take wsX1_absorb := goodIn_r _ [15, 16, 17, 18, 19, 20, 21, 22, 23, 24, 25, 14, 26, 27, 28, 29, 30, 31, 32, 33, 34, 35, 36, 37, 38, 39, 40, 41, 42, 43, 44, 45, 46, 47, 48, 49, 50, 51, 52, 53, 54, 55, 56, 57, 58, 59, 60, 61, 62, 63, 64, 65, 66, 67, 68, 69, 70, 71, 72, 73, 74, 75, 76, 77, 78, 79, 80, 81, 82, 83, 84, 85, 86, 87, 88, 89, 90, 91, 92, 93, 94, 95, 96, 97, 98, 99, 100, 101, 102, 103, 104, 112, 113, 114, 115, 116, 117, 118, 119, 120, 121, 122, 123, 124, 125, 126, 127, 128, 129, 130, 131, 132, 133, 134] (by decide +kernel) (by decide +kernel)
set_option maxRecDepth 20000 in
theorem gX4_take_X1_absorb : GoodIn wsX4_take (wsV RX4 92 RX1 yX1_absorb wsX1_absorb) := goodIn_app (goodIn_of _ (by decide +kernel)) ggX4_take_X1_absorb
theorem dX4_take_0 : decode cX4_take 0 = .ok (.iload_n 1, 1) := by decide +kernel
theorem dX4_take_1 : decode cX4_take 1 = .ok (.invokestatic 68, 3) := by decide +kernel
theorem dX4_take_4 : decode cX4_take 4 = .ok (.ifCond .eq 10, 3) := by decide +kernel
theorem dX4_take_7 : decode cX4_take 7 = .ok (.iload_n 2, 1) := by decide +kernel
theorem dX4_take_8 : decode cX4_take 8 = .ok (.invokestatic 47, 3) := by decide +kernel
theorem dX4_take_11 : decode cX4_take 11 = .ok (.ifCond .ne 6, 3) := by decide +kernel
theorem dX4_take_14 : decode cX4_take 14 = .ok (.bipush (-2), 2) := by decide +kernel
theorem dX4_take_16 : decode cX4_take 16 = .ok (.ireturn, 1) := by decide +kernel
theorem dX4_take_17 : decode cX4_take 17 = .ok (.aload_n 0, 1) := by decide +kernel
theorem dX4_take_18 : decode cX4_take 18 = .ok (.getfield 11, 3) := by decide +kernel
theorem dX4_take_21 : decode cX4_take 21 = .ok (.iload_n 2, 1) := by decide +kernel
theorem dX4_take_22 : decode cX4_take 22 = .ok (.aaload, 1) := by decide +kernel
theorem dX4_take_23 : decode cX4_take 23 = .ok (.getfield 57, 3) := by decide +kernel
theorem dX4_take_26 : decode cX4_take 26 = .ok (.ldc 88, 2) := by decide +kernel
theorem dX4_take_28 : decode cX4_take 28 = .ok (.aload_n 0, 1) := by decide +kernel
theorem dX4_take_29 : decode cX4_take 29 = .ok (.getfield 17, 3) := by decide +kernel
theorem dX4_take_32 : decode cX4_take 32 = .ok (.iload_n 1, 1) := by decide +kernel
theorem dX4_take_33 : decode cX4_take 33 = .ok (.aaload, 1) := by decide +kernel
theorem dX4_take_34 : decode cX4_take 34 = .ok (.getfield 89, 3) := by decide +kernel
theorem dX4_take_37 : decode cX4_take 37 = .ok (.isub, 1) := by decide +kernel
theorem dX4_take_38 : decode cX4_take 38 = .ok (.if_icmp .le 6, 3) := by decide +kernel
theorem dX4_take_41 : decode cX4_take 41 = .ok (.bipush (-3), 2) := by decide +kernel
theorem dX4_take_43 : decode cX4_take 43 = .ok (.ireturn, 1) := by decide +kernel
theorem dX4_take_44 : decode cX4_take 44 = .ok (.aload_n 0, 1) := by decide +kernel
theorem dX4_take_45 : decode cX4_take 45 = .ok (.getfield 17, 3) := by decide +kernel
theorem dX4_take_48 : decode cX4_take 48 = .ok (.iload_n 1, 1) := by decide +kernel
theorem dX4_take_49 : decode cX4_take 49 = .ok (.aaload, 1) := by decide +kernel
theorem dX4_take_50 : decode cX4_take 50 = .ok (.aload_n 0, 1) := by decide +kernel
theorem dX4_take_51 : decode cX4_take 51 = .ok (.getfield 11, 3) := by decide +kernel
theorem dX4_take_54 : decode cX4_take 54 = .ok (.iload_n 2, 1) := by decide +kernel
theorem dX4_take_55 : decode cX4_take 55 = .ok (.aaload, 1) := by decide +kernel
theorem dX4_take_56 : decode cX4_take 56 = .ok (.iconst 0, 1) := by decide +kernel
theorem dX4_take_57 : decode cX4_take 57 = .ok (.aload_n 0, 1) := by decide +kernel
theorem dX4_take_58 : decode cX4_take 58 = .ok (.getfield 11, 3) := by decide +kernel
theorem dX4_take_61 : decode cX4_take 61 = .ok (.iload_n 2, 1) := by decide +kernel
theorem dX4_take_62 : decode cX4_take 62 = .ok (.aaload, 1) := by decide +kernel
theorem dX4_take_63 : decode cX4_take 63 = .ok (.getfield 57, 3) := by decide +kernel
theorem dX4_take_66 : decode cX4_take 66 = .ok (.invokevirtual 92, 3) := by decide +kernel
theorem dX4_take_69 : decode cX4_take 69 = .ok (.aload_n 0, 1) := by decide +kernel
theorem dX4_take_70 : decode cX4_take 70 = .ok (.getfield 17, 3) := by decide +kernel
theorem dX4_take_73 : decode cX4_take 73 = .ok (.iload_n 1, 1) := by decide +kernel
theorem dX4_take_74 : decode cX4_take 74 = .ok (.aaload, 1) := by decide +kernel
theorem dX4_take_75 : decode cX4_take 75 = .ok (.getfield 89, 3) := by decide +kernel
theorem dX4_take_78 : decode cX4_take 78 = .ok (.ireturn, 1) := by decide +kernel
set_option maxRecDepth 20000 in
theorem ggX4_fill_X4_isHasher : GoodIn wsX4_fill wsX4_isHasher := goodIn_r _ [6] (by decide +kernel) (by decide +kernel)
set_option maxRecDepth 20000 in
theorem gX4_fill_X4_isHasher : GoodIn wsX4_fill (va_wsS RX4 68 yX4_isHasher wsX4_isHasher) := goodIn_app (goodIn_of _ (by decide +kernel)) ggX4_fill_X4_isHasher
set_option maxRecDepth 20000 in
theorem ggX4_fill_X1_absorbByte : GoodIn wsX4_fill wsX1_absorbByte := goodIn_r _ [11, 12, 13, 14, 15, 16, 17, 18, 10, 19, 20, 21, 22, 23, 24, 25, 26, 27, 28, 29, 30, 31, 32, 33, 34, 35, 36, 37, 38, 39, 40, 41, 42, 43, 44, 45, 46, 47, 48, 49, 50, 51, 52, 53, 54, 55, 56, 57, 58, 59, 60, 61, 62, 63, 64, 65, 66, 67, 68, 69, 70, 71, 72, 73, 74, 75, 76, 77, 78, 79, 80, 81, 82, 83, 84, 85, 86, 87, 88, 89, 97, 98, 99, 100, 101, 102, 103, 104, 105, 106, 107, 108, 109, 110, 111, 112, 113, 114, 115, 116, 117] (by decide +kernel) (by decide +kernel)
set_option maxRecDepth 20000 in
theorem gX4_fill_X1_absorbByte : GoodIn wsX4_fill (wsV RX4 96 RX1 yX1_absorbByte wsX1_absorbByte) := goodIn_app (goodIn_of _ (by decide +kernel)) ggX4_fill_X1_absorbByte
theorem dX4_fill_0 : decode cX4_fill 0 = .ok (.iload_n 1, 1) := by decide +kernel
theorem dX4_fill_1 : decode cX4_fill 1 = .ok (.invokestatic 68, 3) := by decide +kernel
theorem dX4_fill_4 : decode cX4_fill 4 = .ok (.ifCond .eq 14, 3) := by decide +kernel
theorem dX4_fill_7 : decode cX4_fill 7 = .ok (.iload_n 2, 1) := by decide +kernel
theorem dX4_fill_8 : decode cX4_fill 8 = .ok (.ifCond .lt 10, 3) := by decide +kernel
theorem dX4_fill_11 : decode cX4_fill 11 = .ok (.iload_n 2, 1) := by decide +kernel
theorem dX4_fill_12 : decode cX4_fill 12 = .ok (.sipush 5000, 3) := by decide +kernel
theorem dX4_fill_15 : decode cX4_fill 15 = .ok (.if_icmp .le 6, 3) := by decide +kernel
theorem dX4_fill_18 : decode cX4_fill 18 = .ok (.bipush (-2), 2) := by decide +kernel
theorem dX4_fill_20 : decode cX4_fill 20 = .ok (.ireturn, 1) := by decide +kernel
theorem dX4_fill_21 : decode cX4_fill 21 = .ok (.iload_n 2, 1) := by decide +kernel
theorem dX4_fill_22 : decode cX4_fill 22 = .ok (.ldc 88, 2) := by decide +kernel
theorem dX4_fill_24 : decode cX4_fill 24 = .ok (.aload_n 0, 1) := by decide +kernel
theorem dX4_fill_25 : decode cX4_fill 25 = .ok (.getfield 17, 3) := by decide +kernel
theorem dX4_fill_28 : decode cX4_fill 28 = .ok (.iload_n 1, 1) := by decide +kernel
theorem dX4_fill_29 : decode cX4_fill 29 = .ok (.aaload, 1) := by decide +kernel
theorem dX4_fill_30 : decode cX4_fill 30 = .ok (.getfield 89, 3) := by decide +kernel
theorem dX4_fill_33 : decode cX4_fill 33 = .ok (.isub, 1) := by decide +kernel
theorem dX4_fill_34 : decode cX4_fill 34 = .ok (.if_icmp .le 6, 3) := by decide +kernel
theorem dX4_fill_37 : decode cX4_fill 37 = .ok (.bipush (-3), 2) := by decide +kernel
theorem dX4_fill_39 : decode cX4_fill 39 = .ok (.ireturn, 1) := by decide +kernel
theorem dX4_fill_40 : decode cX4_fill 40 = .ok (.iconst 0, 1) := by decide +kernel
theorem dX4_fill_41 : decode cX4_fill 41 = .ok (.istore 5, 2) := by decide +kernel
theorem dX4_fill_43 : decode cX4_fill 43 = .ok (.iload 5, 2) := by decide +kernel
theorem dX4_fill_45 : decode cX4_fill 45 = .ok (.iload_n 2, 1) := by decide +kernel
theorem dX4_fill_46 : decode cX4_fill 46 = .ok (.if_icmp .ge 25, 3) := by decide +kernel
theorem dX4_fill_49 : decode cX4_fill 49 = .ok (.aload_n 0, 1) := by decide +kernel
theorem dX4_fill_50 : decode cX4_fill 50 = .ok (.getfield 17, 3) := by decide +kernel
theorem dX4_fill_53 : decode cX4_fill 53 = .ok (.iload_n 1, 1) := by decide +kernel
theorem dX4_fill_54 : decode cX4_fill 54 = .ok (.aaload, 1) := by decide +kernel
theorem dX4_fill_55 : decode cX4_fill 55 = .ok (.iload_n 3, 1) := by decide +kernel
theorem dX4_fill_56 : decode cX4_fill 56 = .ok (.iload 5, 2) := by decide +kernel
theorem dX4_fill_58 : decode cX4_fill 58 = .ok (.iload 4, 2) := by decide +kernel
theorem dX4_fill_60 : decode cX4_fill 60 = .ok (.imul, 1) := by decide +kernel
theorem dX4_fill_61 : decode cX4_fill 61 = .ok (.iadd, 1) := by decide +kernel
theorem dX4_fill_62 : decode cX4_fill 62 = .ok (.invokevirtual 96, 3) := by decide +kernel
theorem dX4_fill_65 : decode cX4_fill 65 = .ok (.iinc 5 1, 3) := by decide +kernel
theorem dX4_fill_68 : decode cX4_fill 68 = .ok (.goto (-25), 3) := by decide +kernel
theorem dX4_fill_71 : decode cX4_fill 71 = .ok (.aload_n 0, 1) := by decide +kernel
theorem dX4_fill_72 : decode cX4_fill 72 = .ok (.getfield 17, 3) := by decide +kernel
theorem dX4_fill_75 : decode cX4_fill 75 = .ok (.iload_n 1, 1) := by decide +kernel
theorem dX4_fill_76 : decode cX4_fill 76 = .ok (.aaload, 1) := by decide +kernel
theorem dX4_fill_77 : decode cX4_fill 77 = .ok (.getfield 89, 3) := by decide +kernel
theorem dX4_fill_80 : decode cX4_fill 80 = .ok (.ireturn, 1) := by decide +kernel
set_option maxRecDepth 20000 in
theorem ggX4_output_X4_isHasher : GoodIn wsX4_output wsX4_isHasher := goodIn_r _ [7] (by decide +kernel) (by decide +kernel)
set_option maxRecDepth 20000 in
theorem gX4_output_X4_isHasher : GoodIn wsX4_output (va_wsS RX4 68 yX4_isHasher wsX4_isHasher) := goodIn_app (goodIn_of _ (by decide +kernel)) ggX4_output_X4_isHasher
set_option maxRecDepth 20000 in
theorem ggX4_output_X4_isRegister : GoodIn wsX4_output wsX4_isRegister := goodIn_r _ [10] (by decide +kernel) (by decide +kernel)
set_option maxRecDepth 20000 in
theorem gX4_output_X4_isRegister : GoodIn wsX4_output (va_wsS RX4 47 yX4_isRegister wsX4_isRegister) := goodIn_app (goodIn_of _ (by decide +kernel)) ggX4_output_X4_isRegister
set_option maxRecDepth 20000 in
theorem ggX4_output_X1_prepareLast : GoodIn wsX4_output wsX1_prepareLast := goodIn_r _ [15, 16, 17, 18, 19, 20, 21, 22, 23, 14, 24, 25, 26, 27, 28, 29, 30, 31, 32, 33, 34, 35, 36, 37, 38, 39, 40, 41, 42, 43, 44, 45, 46, 47, 48, 49, 50, 51, 52, 53, 54, 55, 56, 57, 58, 59, 60, 61, 62, 63, 64, 65, 66, 67, 68, 69, 102, 103, 104, 105, 106, 107, 108, 109, 110, 111, 112, 113, 114, 115, 116, 117, 118, 119, 120, 121, 122] (by decide +kernel) (by decide +kernel)
set_option maxRecDepth 20000 in
theorem gX4_output_X1_prepareLast : GoodIn wsX4_output (wsV RX4 101 RX1 yX1_prepareLast wsX1_prepareLast) := goodIn_app (goodIn_of _ (by decide +kernel)) ggX4_output_X1_prepareLast
set_option maxRecDepth 20000 in
theorem ggX4_output_X2_writeOutput : GoodIn wsX4_output wsX2_writeOutput := goodIn_r _ [73, 74, 38, 75, 76, 77, 78, 79, 80, 81, 82, 83, 34, 84, 40, 85, 42, 43, 44, 45, 46, 36, 47, 48, 49, 50, 51, 39, 37, 52, 53, 54, 55, 56, 57, 58, 59, 60, 61, 86, 87, 88, 89, 90, 91, 92, 93, 94, 115, 116, 117, 118, 119, 120, 121, 122, 123, 124] (by decide +kernel) (by decide +kernel)
set_option maxRecDepth 20000 in
theorem gX4_output_X2_writeOutput : GoodIn wsX4_output (wsV RX4 108 RX2 yX2_writeOutput wsX2_writeOutput) := goodIn_app (goodIn_of _ (by decide +kernel)) ggX4_output_X2_writeOutput
theorem dX4_output_0 : decode cX4_output 0 = .ok (.iload_n 1, 1) := by decide +kernel
theorem dX4_output_1 : decode cX4_output 1 = .ok (.invokestatic 68, 3) := by decide +kernel
theorem dX4_output_4 : decode cX4_output 4 = .ok (.ifCond .eq 21, 3) := by decide +kernel
theorem dX4_output_7 : decode cX4_output 7 = .ok (.iload_n 2, 1) := by decide +kernel
theorem dX4_output_8 : decode cX4_output 8 = .ok (.invokestatic 47, 3) := by decide +kernel
theorem dX4_output_11 : decode cX4_output 11 = .ok (.ifCond .eq 14, 3) := by decide +kernel
theorem dX4_output_14 : decode cX4_output 14 = .ok (.iload_n 3, 1) := by decide +kernel
theorem dX4_output_15 : decode cX4_output 15 = .ok (.ifCond .lt 10, 3) := by decide +kernel
theorem dX4_output_18 : decode cX4_output 18 = .ok (.iload_n 3, 1) := by decide +kernel
theorem dX4_output_19 : decode cX4_output 19 = .ok (.sipush 200, 3) := by decide +kernel
theorem dX4_output_22 : decode cX4_output 22 = .ok (.if_icmp .le 6, 3) := by decide +kernel
theorem dX4_output_25 : decode cX4_output 25 = .ok (.bipush (-2), 2) := by decide +kernel
theorem dX4_output_27 : decode cX4_output 27 = .ok (.ireturn, 1) := by decide +kernel
theorem dX4_output_28 : decode cX4_output 28 = .ok (.lload 4, 2) := by decide +kernel
theorem dX4_output_30 : decode cX4_output 30 = .ok (.lconst 0, 1) := by decide +kernel
theorem dX4_output_31 : decode cX4_output 31 = .ok (.lcmp, 1) := by decide +kernel
theorem dX4_output_32 : decode cX4_output 32 = .ok (.ifCond .lt 12, 3) := by decide +kernel
theorem dX4_output_35 : decode cX4_output 35 = .ok (.lload 4, 2) := by decide +kernel
theorem dX4_output_37 : decode cX4_output 37 = .ok (.ldc2_w 99, 3) := by decide +kernel
theorem dX4_output_40 : decode cX4_output 40 = .ok (.lcmp, 1) := by decide +kernel
theorem dX4_output_41 : decode cX4_output 41 = .ok (.ifCond .le 6, 3) := by decide +kernel
theorem dX4_output_44 : decode cX4_output 44 = .ok (.bipush (-2), 2) := by decide +kernel
theorem dX4_output_46 : decode cX4_output 46 = .ok (.ireturn, 1) := by decide +kernel
theorem dX4_output_47 : decode cX4_output 47 = .ok (.aload_n 0, 1) := by decide +kernel
theorem dX4_output_48 : decode cX4_output 48 = .ok (.getfield 17, 3) := by decide +kernel
theorem dX4_output_51 : decode cX4_output 51 = .ok (.iload_n 1, 1) := by decide +kernel
theorem dX4_output_52 : decode cX4_output 52 = .ok (.aaload, 1) := by decide +kernel
theorem dX4_output_53 : decode cX4_output 53 = .ok (.invokevirtual 101, 3) := by decide +kernel
theorem dX4_output_56 : decode cX4_output 56 = .ok (.aload_n 0, 1) := by decide +kernel
theorem dX4_output_57 : decode cX4_output 57 = .ok (.getfield 17, 3) := by decide +kernel
theorem dX4_output_60 : decode cX4_output 60 = .ok (.iload_n 1, 1) := by decide +kernel
theorem dX4_output_61 : decode cX4_output 61 = .ok (.aaload, 1) := by decide +kernel
theorem dX4_output_62 : decode cX4_output 62 = .ok (.getfield 104, 3) := by decide +kernel
theorem dX4_output_65 : decode cX4_output 65 = .ok (.aload_n 0, 1) := by decide +kernel
theorem dX4_output_66 : decode cX4_output 66 = .ok (.getfield 11, 3) := by decide +kernel
theorem dX4_output_69 : decode cX4_output 69 = .ok (.iload_n 2, 1) := by decide +kernel
theorem dX4_output_70 : decode cX4_output 70 = .ok (.aaload, 1) := by decide +kernel
theorem dX4_output_71 : decode cX4_output 71 = .ok (.iload_n 3, 1) := by decide +kernel
theorem dX4_output_72 : decode cX4_output 72 = .ok (.lload 4, 2) := by decide +kernel
theorem dX4_output_74 : decode cX4_output 74 = .ok (.invokevirtual 108, 3) := by decide +kernel
theorem dX4_output_77 : decode cX4_output 77 = .ok (.iload_n 3, 1) := by decide +kernel
theorem dX4_output_78 : decode cX4_output 78 = .ok (.ireturn, 1) := by decide +kernel
set_option maxRecDepth 20000 in
theorem ggX4_copy_X4_isHasher : GoodIn wsX4_copy wsX4_isHasher := goodIn_r _ [5] (by decide +kernel) (by decide +kernel)
set_option maxRecDepth 20000 in
theorem gX4_copy_X4_isHasher : GoodIn wsX4_copy (va_wsS RX4 68 yX4_isHasher wsX4_isHasher) := goodIn_app (goodIn_of _ (by decide +kernel)) ggX4_copy_X4_isHasher
set_option maxRecDepth 20000 in
theorem ggX4_copy_X1_becomeAs : GoodIn wsX4_copy wsX1_becomeAs := goodIn_r _ [10, 11, 12, 13, 14, 15, 16, 17, 18, 19, 20, 21, 22, 23, 24, 9, 25, 33, 34, 35, 36, 37, 38, 39, 40, 41, 42, 43, 44, 45] (by decide +kernel) (by decide +kernel)
set_option maxRecDepth 20000 in
theorem gX4_copy_X1_becomeAs : GoodIn wsX4_copy (wsV RX4 112 RX1 yX1_becomeAs wsX1_becomeAs) := goodIn_app (goodIn_of _ (by decide +kernel)) ggX4_copy_X1_becomeAs
theorem dX4_copy_0 : decode cX4_copy 0 = .ok (.iload_n 1, 1) := by decide +kernel
theorem dX4_copy_1 : decode cX4_copy 1 = .ok (.invokestatic 68, 3) := by decide +kernel
theorem dX4_copy_4 : decode cX4_copy 4 = .ok (.ifCond .eq 10, 3) := by decide +kernel
theorem dX4_copy_7 : decode cX4_copy 7 = .ok (.iload_n 2, 1) := by decide +kernel
theorem dX4_copy_8 : decode cX4_copy 8 = .ok (.invokestatic 68, 3) := by decide +kernel
theorem dX4_copy_11 : decode cX4_copy 11 = .ok (.ifCond .ne 6, 3) := by decide +kernel
theorem dX4_copy_14 : decode cX4_copy 14 = .ok (.bipush (-2), 2) := by decide +kernel
theorem dX4_copy_16 : decode cX4_copy 16 = .ok (.ireturn, 1) := by decide +kernel
theorem dX4_copy_17 : decode cX4_copy 17 = .ok (.aload_n 0, 1) := by decide +kernel
theorem dX4_copy_18 : decode cX4_copy 18 = .ok (.getfield 17, 3) := by decide +kernel
theorem dX4_copy_21 : decode cX4_copy 21 = .ok (.iload_n 2, 1) := by decide +kernel
theorem dX4_copy_22 : decode cX4_copy 22 = .ok (.aaload, 1) := by decide +kernel
theorem dX4_copy_23 : decode cX4_copy 23 = .ok (.aload_n 0, 1) := by decide +kernel
theorem dX4_copy_24 : decode cX4_copy 24 = .ok (.getfield 17, 3) := by decide +kernel
theorem dX4_copy_27 : decode cX4_copy 27 = .ok (.iload_n 1, 1) := by decide +kernel
theorem dX4_copy_28 : decode cX4_copy 28 = .ok (.aaload, 1) := by decide +kernel
theorem dX4_copy_29 : decode cX4_copy 29 = .ok (.invokevirtual 112, 3) := by decide +kernel
theorem dX4_copy_32 : decode cX4_copy 32 = .ok (.aload_n 0, 1) := by decide +kernel
theorem dX4_copy_33 : decode cX4_copy 33 = .ok (.getfield 17, 3) := by decide +kernel
theorem dX4_copy_36 : decode cX4_copy 36 = .ok (.iload_n 2, 1) := by decide +kernel
theorem dX4_copy_37 : decode cX4_copy 37 = .ok (.aaload, 1) := by decide +kernel
theorem dX4_copy_38 : decode cX4_copy 38 = .ok (.getfield 89, 3) := by decide +kernel
theorem dX4_copy_41 : decode cX4_copy 41 = .ok (.ireturn, 1) := by decide +kernel
set_option maxRecDepth 20000 in
theorem ggX4_told_X4_isHasher : GoodIn wsX4_told wsX4_isHasher := goodIn_r _ [5] (by decide +kernel) (by decide +kernel)
set_option maxRecDepth 20000 in
theorem gX4_told_X4_isHasher : GoodIn wsX4_told (va_wsS RX4 68 yX4_isHasher wsX4_isHasher) := goodIn_app (goodIn_of _ (by decide +kernel)) ggX4_told_X4_isHasher
set_option maxRecDepth 20000 in
theorem ggX4_told_X1_inChunk : GoodIn wsX4_told wsX1_inChunk := goodIn_r _ [10, 11, 12, 20, 21, 22, 23, 24, 25, 26, 27, 28, 29, 30, 31, 32] (by decide +kernel) (by decide +kernel)
set_option maxRecDepth 20000 in
theorem gX4_told_X1_inChunk : GoodIn wsX4_told (wsV RX4 125 RX1 yX1_inChunk wsX1_inChunk) := goodIn_app (goodIn_of _ (by decide +kernel)) ggX4_told_X1_inChunk
theorem dX4_told_0 : decode cX4_told 0 = .ok (.iload_n 1, 1) := by decide +kernel
theorem dX4_told_1 : decode cX4_told 1 = .ok (.invokestatic 68, 3) := by decide +kernel
theorem dX4_told_4 : decode cX4_told 4 = .ok (.ifCond .ne 6, 3) := by decide +kernel
theorem dX4_told_7 : decode cX4_told 7 = .ok (.bipush (-2), 2) := by decide +kernel
theorem dX4_told_9 : decode cX4_told 9 = .ok (.ireturn, 1) := by decide +kernel
theorem dX4_told_10 : decode cX4_told 10 = .ok (.iload_n 2, 1) := by decide +kernel
theorem dX4_told_11 : decode cX4_told 11 = .ok (.tableswitch 83 0 4 #[33, 43, 53, 63, 73], 33) := by decide +kernel
theorem dX4_told_44 : decode cX4_told 44 = .ok (.aload_n 0, 1) := by decide +kernel
theorem dX4_told_45 : decode cX4_told 45 = .ok (.getfield 17, 3) := by decide +kernel
theorem dX4_told_48 : decode cX4_told 48 = .ok (.iload_n 1, 1) := by decide +kernel
theorem dX4_told_49 : decode cX4_told 49 = .ok (.aaload, 1) := by decide +kernel
theorem dX4_told_50 : decode cX4_told 50 = .ok (.getfield 116, 3) := by decide +kernel
theorem dX4_told_53 : decode cX4_told 53 = .ok (.ireturn, 1) := by decide +kernel
theorem dX4_told_54 : decode cX4_told 54 = .ok (.aload_n 0, 1) := by decide +kernel
theorem dX4_told_55 : decode cX4_told 55 = .ok (.getfield 17, 3) := by decide +kernel
theorem dX4_told_58 : decode cX4_told 58 = .ok (.iload_n 1, 1) := by decide +kernel
theorem dX4_told_59 : decode cX4_told 59 = .ok (.aaload, 1) := by decide +kernel
theorem dX4_told_60 : decode cX4_told 60 = .ok (.getfield 89, 3) := by decide +kernel
theorem dX4_told_63 : decode cX4_told 63 = .ok (.ireturn, 1) := by decide +kernel
theorem dX4_told_64 : decode cX4_told 64 = .ok (.aload_n 0, 1) := by decide +kernel
theorem dX4_told_65 : decode cX4_told 65 = .ok (.getfield 17, 3) := by decide +kernel
theorem dX4_told_68 : decode cX4_told 68 = .ok (.iload_n 1, 1) := by decide +kernel
theorem dX4_told_69 : decode cX4_told 69 = .ok (.aaload, 1) := by decide +kernel
theorem dX4_told_70 : decode cX4_told 70 = .ok (.getfield 119, 3) := by decide +kernel
theorem dX4_told_73 : decode cX4_told 73 = .ok (.ireturn, 1) := by decide +kernel
theorem dX4_told_74 : decode cX4_told 74 = .ok (.aload_n 0, 1) := by decide +kernel
theorem dX4_told_75 : decode cX4_told 75 = .ok (.getfield 17, 3) := by decide +kernel
theorem dX4_told_78 : decode cX4_told 78 = .ok (.iload_n 1, 1) := by decide +kernel
theorem dX4_told_79 : decode cX4_told 79 = .ok (.aaload, 1) := by decide +kernel
theorem dX4_told_80 : decode cX4_told 80 = .ok (.getfield 122, 3) := by decide +kernel
theorem dX4_told_83 : decode cX4_told 83 = .ok (.ireturn, 1) := by decide +kernel
theorem dX4_told_84 : decode cX4_told 84 = .ok (.aload_n 0, 1) := by decide +kernel
theorem dX4_told_85 : decode cX4_told 85 = .ok (.getfield 17, 3) := by decide +kernel
theorem dX4_told_88 : decode cX4_told 88 = .ok (.iload_n 1, 1) := by decide +kernel
theorem dX4_told_89 : decode cX4_told 89 = .ok (.aaload, 1) := by decide +kernel
theorem dX4_told_90 : decode cX4_told 90 = .ok (.invokevirtual 125, 3) := by decide +kernel
theorem dX4_told_93 : decode cX4_told 93 = .ok (.ireturn, 1) := by decide +kernel
theorem dX4_told_94 : decode cX4_told 94 = .ok (.bipush (-2), 2) := by decide +kernel
theorem dX4_told_96 : decode cX4_told 96 = .ok (.ireturn, 1) := by decide +kernel
set_option maxRecDepth 20000 in
theorem ggX4_chain_X4_isHasher : GoodIn wsX4_chain wsX4_isHasher := goodIn_r _ [5] (by decide +kernel) (by decide +kernel)
set_option maxRecDepth 20000 in
theorem gX4_chain_X4_isHasher : GoodIn wsX4_chain (va_wsS RX4 68 yX4_isHasher wsX4_isHasher) := goodIn_app (goodIn_of _ (by decide +kernel)) ggX4_chain_X4_isHasher
set_option maxRecDepth 20000 in
theorem ggX4_chain_X1_stackWord : GoodIn wsX4_chain wsX1_stackWord := goodIn_r _ [10, 11, 12, 20, 21, 22, 23, 24, 25, 26, 27, 28, 29, 30, 31, 32] (by decide +kernel) (by decide +kernel)
set_option maxRecDepth 20000 in
theorem gX4_chain_X1_stackWord : GoodIn wsX4_chain (wsV RX4 129 RX1 yX1_stackWord wsX1_stackWord) := goodIn_app (goodIn_of _ (by decide +kernel)) ggX4_chain_X1_stackWord
theorem dX4_chain_0 : decode cX4_chain 0 = .ok (.iload_n 1, 1) := by decide +kernel
theorem dX4_chain_1 : decode cX4_chain 1 = .ok (.invokestatic 68, 3) := by decide +kernel
theorem dX4_chain_4 : decode cX4_chain 4 = .ok (.ifCond .eq 17, 3) := by decide +kernel
theorem dX4_chain_7 : decode cX4_chain 7 = .ok (.aload_n 0, 1) := by decide +kernel
theorem dX4_chain_8 : decode cX4_chain 8 = .ok (.getfield 17, 3) := by decide +kernel
theorem dX4_chain_11 : decode cX4_chain 11 = .ok (.iload_n 1, 1) := by decide +kernel
theorem dX4_chain_12 : decode cX4_chain 12 = .ok (.aaload, 1) := by decide +kernel
theorem dX4_chain_13 : decode cX4_chain 13 = .ok (.iload_n 2, 1) := by decide +kernel
theorem dX4_chain_14 : decode cX4_chain 14 = .ok (.iload_n 3, 1) := by decide +kernel
theorem dX4_chain_15 : decode cX4_chain 15 = .ok (.invokevirtual 129, 3) := by decide +kernel
theorem dX4_chain_18 : decode cX4_chain 18 = .ok (.goto 5, 3) := by decide +kernel
theorem dX4_chain_21 : decode cX4_chain 21 = .ok (.bipush (-2), 2) := by decide +kernel
theorem dX4_chain_23 : decode cX4_chain 23 = .ok (.ireturn, 1) := by decide +kernel
set_option maxRecDepth 20000 in
theorem ggX4_grow_X0_hasRoomFor : GoodIn wsX4_grow wsX0_hasRoomFor := goodIn_r _ [6, 7, 8, 20, 21] (by decide +kernel) (by decide +kernel)
set_option maxRecDepth 20000 in
theorem gX4_grow_X0_hasRoomFor : GoodIn wsX4_grow (wsV RX4 51 RX0 yX0_hasRoomFor wsX0_hasRoomFor) := goodIn_app (goodIn_of _ (by decide +kernel)) ggX4_grow_X0_hasRoomFor
set_option maxRecDepth 20000 in
theorem ggX4_grow_X0_append : GoodIn wsX4_grow wsX0_append := goodIn_r _ [12, 8, 7, 20, 21] (by decide +kernel) (by decide +kernel)
set_option maxRecDepth 20000 in
theorem gX4_grow_X0_append : GoodIn wsX4_grow (wsV RX4 54 RX0 yX0_append wsX0_append) := goodIn_app (goodIn_of _ (by decide +kernel)) ggX4_grow_X0_append
theorem dX4_grow_0 : decode cX4_grow 0 = .ok (.iload_n 1, 1) := by decide +kernel
theorem dX4_grow_1 : decode cX4_grow 1 = .ok (.iconst 1, 1) := by decide +kernel
theorem dX4_grow_2 : decode cX4_grow 2 = .ok (.if_icmp .lt 10, 3) := by decide +kernel
theorem dX4_grow_5 : decode cX4_grow 5 = .ok (.iload_n 1, 1) := by decide +kernel
theorem dX4_grow_6 : decode cX4_grow 6 = .ok (.sipush 5000, 3) := by decide +kernel
theorem dX4_grow_9 : decode cX4_grow 9 = .ok (.if_icmp .le 6, 3) := by decide +kernel
theorem dX4_grow_12 : decode cX4_grow 12 = .ok (.bipush (-2), 2) := by decide +kernel
theorem dX4_grow_14 : decode cX4_grow 14 = .ok (.ireturn, 1) := by decide +kernel
theorem dX4_grow_15 : decode cX4_grow 15 = .ok (.aload_n 0, 1) := by decide +kernel
theorem dX4_grow_16 : decode cX4_grow 16 = .ok (.getfield 24, 3) := by decide +kernel
theorem dX4_grow_19 : decode cX4_grow 19 = .ok (.iload_n 1, 1) := by decide +kernel
theorem dX4_grow_20 : decode cX4_grow 20 = .ok (.invokevirtual 51, 3) := by decide +kernel
theorem dX4_grow_23 : decode cX4_grow 23 = .ok (.ifCond .ne 6, 3) := by decide +kernel
theorem dX4_grow_26 : decode cX4_grow 26 = .ok (.bipush (-3), 2) := by decide +kernel
theorem dX4_grow_28 : decode cX4_grow 28 = .ok (.ireturn, 1) := by decide +kernel
theorem dX4_grow_29 : decode cX4_grow 29 = .ok (.iconst 0, 1) := by decide +kernel
theorem dX4_grow_30 : decode cX4_grow 30 = .ok (.istore 4, 2) := by decide +kernel
theorem dX4_grow_32 : decode cX4_grow 32 = .ok (.iload 4, 2) := by decide +kernel
theorem dX4_grow_34 : decode cX4_grow 34 = .ok (.iload_n 1, 1) := by decide +kernel
theorem dX4_grow_35 : decode cX4_grow 35 = .ok (.if_icmp .ge 22, 3) := by decide +kernel
theorem dX4_grow_38 : decode cX4_grow 38 = .ok (.aload_n 0, 1) := by decide +kernel
theorem dX4_grow_39 : decode cX4_grow 39 = .ok (.getfield 24, 3) := by decide +kernel
theorem dX4_grow_42 : decode cX4_grow 42 = .ok (.iload_n 2, 1) := by decide +kernel
theorem dX4_grow_43 : decode cX4_grow 43 = .ok (.iload 4, 2) := by decide +kernel
theorem dX4_grow_45 : decode cX4_grow 45 = .ok (.iload_n 3, 1) := by decide +kernel
theorem dX4_grow_46 : decode cX4_grow 46 = .ok (.imul, 1) := by decide +kernel
theorem dX4_grow_47 : decode cX4_grow 47 = .ok (.iadd, 1) := by decide +kernel
theorem dX4_grow_48 : decode cX4_grow 48 = .ok (.invokevirtual 54, 3) := by decide +kernel
theorem dX4_grow_51 : decode cX4_grow 51 = .ok (.iinc 4 1, 3) := by decide +kernel
theorem dX4_grow_54 : decode cX4_grow 54 = .ok (.goto (-22), 3) := by decide +kernel
theorem dX4_grow_57 : decode cX4_grow 57 = .ok (.aload_n 0, 1) := by decide +kernel
theorem dX4_grow_58 : decode cX4_grow 58 = .ok (.getfield 24, 3) := by decide +kernel
theorem dX4_grow_61 : decode cX4_grow 61 = .ok (.getfield 57, 3) := by decide +kernel
theorem dX4_grow_64 : decode cX4_grow 64 = .ok (.ireturn, 1) := by decide +kernel
set_option maxRecDepth 20000 in
theorem ggX4_spoil_X0_change : GoodIn wsX4_spoil wsX0_change := goodIn_r _ [6, 7, 8, 16, 17] (by decide +kernel) (by decide +kernel)
set_option maxRecDepth 20000 in
theorem gX4_spoil_X0_change : GoodIn wsX4_spoil (wsV RX4 133 RX0 yX0_change wsX0_change) := goodIn_app (goodIn_of _ (by decide +kernel)) ggX4_spoil_X0_change
theorem dX4_spoil_0 : decode cX4_spoil 0 = .ok (.aload_n 0, 1) := by decide +kernel
theorem dX4_spoil_1 : decode cX4_spoil 1 = .ok (.getfield 24, 3) := by decide +kernel
theorem dX4_spoil_4 : decode cX4_spoil 4 = .ok (.iload_n 1, 1) := by decide +kernel
theorem dX4_spoil_5 : decode cX4_spoil 5 = .ok (.iload_n 2, 1) := by decide +kernel
theorem dX4_spoil_6 : decode cX4_spoil 6 = .ok (.invokevirtual 133, 3) := by decide +kernel
theorem dX4_spoil_9 : decode cX4_spoil 9 = .ok (.ireturn, 1) := by decide +kernel
set_option maxRecDepth 20000 in
theorem ggX4_shorten_X0_keepFirst : GoodIn wsX4_shorten wsX0_keepFirst := goodIn_r _ [6, 7, 15, 16] (by decide +kernel) (by decide +kernel)
set_option maxRecDepth 20000 in
theorem gX4_shorten_X0_keepFirst : GoodIn wsX4_shorten (wsV RX4 61 RX0 yX0_keepFirst wsX0_keepFirst) := goodIn_app (goodIn_of _ (by decide +kernel)) ggX4_shorten_X0_keepFirst
theorem dX4_shorten_0 : decode cX4_shorten 0 = .ok (.aload_n 0, 1) := by decide +kernel
theorem dX4_shorten_1 : decode cX4_shorten 1 = .ok (.getfield 24, 3) := by decide +kernel
theorem dX4_shorten_4 : decode cX4_shorten 4 = .ok (.iload_n 1, 1) := by decide +kernel
theorem dX4_shorten_5 : decode cX4_shorten 5 = .ok (.invokevirtual 61, 3) := by decide +kernel
theorem dX4_shorten_8 : decode cX4_shorten 8 = .ok (.ireturn, 1) := by decide +kernel
set_option maxRecDepth 20000 in
theorem ggX4_root_X4_isRegister : GoodIn wsX4_root wsX4_isRegister := goodIn_r _ [7] (by decide +kernel) (by decide +kernel)
set_option maxRecDepth 20000 in
theorem gX4_root_X4_isRegister : GoodIn wsX4_root (va_wsS RX4 47 yX4_isRegister wsX4_isRegister) := goodIn_app (goodIn_of _ (by decide +kernel)) ggX4_root_X4_isRegister
set_option maxRecDepth 20000 in
theorem ggX4_root_X4_prepareTree : GoodIn wsX4_root wsX4_prepareTree := goodIn_r _ [11, 2, 12, 13, 14, 15, 16, 17, 18, 19, 20, 21, 22, 23, 24, 25, 26, 27, 28, 29, 30, 31, 32, 33, 34, 35, 36, 37, 38, 39, 40, 41, 42, 43, 44, 45, 46, 47, 48, 49, 50, 51, 52, 53, 54, 55, 56, 57, 58, 59, 60, 61, 62, 63, 64, 65, 66, 67, 68, 69, 70, 71, 72, 73, 74, 75, 76, 77, 78, 79, 80, 81, 82, 83, 84, 85, 86, 87, 88, 89, 90, 91, 92, 93, 94, 95, 96, 97, 98, 99, 100, 101, 102, 103, 104, 105, 106, 107, 108, 109, 110, 111, 112, 113, 114, 115, 138, 139, 140, 141, 142, 143, 144, 147, 148, 149, 150, 151, 152, 153, 154, 155, 156, 157, 158, 159, 145, 146, 160, 161, 162, 163, 164, 165, 166, 167] (by decide +kernel) (by decide +kernel)
set_option maxRecDepth 20000 in
theorem gX4_root_X4_prepareTree : GoodIn wsX4_root (wsV RX4 136 RX4 yX4_prepareTree wsX4_prepareTree) := goodIn_app (goodIn_of _ (by decide +kernel)) ggX4_root_X4_prepareTree
set_option maxRecDepth 20000 in
theorem ggX4_root_X2_writeOutput : GoodIn wsX4_root wsX2_writeOutput := goodIn_r _ [119, 120, 72, 121, 122, 123, 47, 124, 49, 125, 126, 127, 68, 128, 74, 129, 76, 77, 78, 79, 80, 70, 81, 82, 83, 84, 85, 73, 71, 86, 87, 88, 89, 90, 91, 92, 93, 94, 95, 130, 131, 132, 133, 134, 135, 136, 137, 50, 160, 161, 162, 163, 164, 165, 166, 167, 145, 146] (by decide +kernel) (by decide +kernel)
set_option maxRecDepth 20000 in
theorem gX4_root_X2_writeOutput : GoodIn wsX4_root (wsV RX4 108 RX2 yX2_writeOutput wsX2_writeOutput) := goodIn_app (goodIn_of _ (by decide +kernel)) ggX4_root_X2_writeOutput
theorem dX4_root_0 : decode cX4_root 0 = .ok (.iload_n 1, 1) := by decide +kernel
theorem dX4_root_1 : decode cX4_root 1 = .ok (.invokestatic 47, 3) := by decide +kernel
theorem dX4_root_4 : decode cX4_root 4 = .ok (.ifCond .ne 6, 3) := by decide +kernel
theorem dX4_root_7 : decode cX4_root 7 = .ok (.bipush (-2), 2) := by decide +kernel
theorem dX4_root_9 : decode cX4_root 9 = .ok (.ireturn, 1) := by decide +kernel
theorem dX4_root_10 : decode cX4_root 10 = .ok (.aload_n 0, 1) := by decide +kernel
theorem dX4_root_11 : decode cX4_root 11 = .ok (.aload_n 0, 1) := by decide +kernel
theorem dX4_root_12 : decode cX4_root 12 = .ok (.getfield 24, 3) := by decide +kernel
theorem dX4_root_15 : decode cX4_root 15 = .ok (.iconst 0, 1) := by decide +kernel
theorem dX4_root_16 : decode cX4_root 16 = .ok (.aload_n 0, 1) := by decide +kernel
theorem dX4_root_17 : decode cX4_root 17 = .ok (.getfield 24, 3) := by decide +kernel
theorem dX4_root_20 : decode cX4_root 20 = .ok (.getfield 57, 3) := by decide +kernel
theorem dX4_root_23 : decode cX4_root 23 = .ok (.iconst 0, 1) := by decide +kernel
theorem dX4_root_24 : decode cX4_root 24 = .ok (.invokevirtual 136, 3) := by decide +kernel
theorem dX4_root_27 : decode cX4_root 27 = .ok (.aload_n 0, 1) := by decide +kernel
theorem dX4_root_28 : decode cX4_root 28 = .ok (.getfield 32, 3) := by decide +kernel
theorem dX4_root_31 : decode cX4_root 31 = .ok (.getfield 104, 3) := by decide +kernel
theorem dX4_root_34 : decode cX4_root 34 = .ok (.aload_n 0, 1) := by decide +kernel
theorem dX4_root_35 : decode cX4_root 35 = .ok (.getfield 11, 3) := by decide +kernel
theorem dX4_root_38 : decode cX4_root 38 = .ok (.iload_n 1, 1) := by decide +kernel
theorem dX4_root_39 : decode cX4_root 39 = .ok (.aaload, 1) := by decide +kernel
theorem dX4_root_40 : decode cX4_root 40 = .ok (.bipush 32, 2) := by decide +kernel
theorem dX4_root_42 : decode cX4_root 42 = .ok (.lconst 0, 1) := by decide +kernel
theorem dX4_root_43 : decode cX4_root 43 = .ok (.invokevirtual 108, 3) := by decide +kernel
theorem dX4_root_46 : decode cX4_root 46 = .ok (.aload_n 0, 1) := by decide +kernel
theorem dX4_root_47 : decode cX4_root 47 = .ok (.getfield 24, 3) := by decide +kernel
theorem dX4_root_50 : decode cX4_root 50 = .ok (.getfield 57, 3) := by decide +kernel
theorem dX4_root_53 : decode cX4_root 53 = .ok (.ireturn, 1) := by decide +kernel
set_option maxRecDepth 20000 in
theorem ggX4_prove_X4_hasChunk : GoodIn wsX4_prove wsX4_hasChunk := goodIn_r _ [13, 14, 15, 12, 16] (by decide +kernel) (by decide +kernel)
set_option maxRecDepth 20000 in
theorem gX4_prove_X4_hasChunk : GoodIn wsX4_prove (va_wsS RX4 140 yX4_hasChunk wsX4_hasChunk) := goodIn_app (goodIn_of _ (by decide +kernel)) ggX4_prove_X4_hasChunk
set_option maxRecDepth 20000 in
theorem ggX4_prove_X0_keepFirst : GoodIn wsX4_prove wsX0_keepFirst := goodIn_r _ [21, 22, 165, 166] (by decide +kernel) (by decide +kernel)
set_option maxRecDepth 20000 in
theorem gX4_prove_X0_keepFirst : GoodIn wsX4_prove (wsV RX4 61 RX0 yX0_keepFirst wsX0_keepFirst) := goodIn_app (goodIn_of _ (by decide +kernel)) ggX4_prove_X0_keepFirst
set_option maxRecDepth 20000 in
theorem ggX4_prove_X4_chunkLength : GoodIn wsX4_prove wsX4_chunkLength := goodIn_r _ [25, 4, 5, 6, 7] (by decide +kernel) (by decide +kernel)
set_option maxRecDepth 20000 in
theorem gX4_prove_X4_chunkLength : GoodIn wsX4_prove (va_wsS RX4 144 yX4_chunkLength wsX4_chunkLength) := goodIn_app (goodIn_of _ (by decide +kernel)) ggX4_prove_X4_chunkLength
set_option maxRecDepth 20000 in
theorem ggX4_prove_X0_appendFrom : GoodIn wsX4_prove wsX0_appendFrom := goodIn_r _ [29, 30, 31, 32, 20, 33, 22, 34, 35, 36, 37, 38, 165, 166] (by decide +kernel) (by decide +kernel)
set_option maxRecDepth 20000 in
theorem gX4_prove_X0_appendFrom : GoodIn wsX4_prove (wsV RX4 147 RX0 yX0_appendFrom wsX0_appendFrom) := goodIn_app (goodIn_of _ (by decide +kernel)) ggX4_prove_X0_appendFrom
set_option maxRecDepth 20000 in
theorem ggX4_prove_X4_chunksOf : GoodIn wsX4_prove wsX4_chunksOf := goodIn_r _ [16] (by decide +kernel) (by decide +kernel)
set_option maxRecDepth 20000 in
theorem gX4_prove_X4_chunksOf : GoodIn wsX4_prove (va_wsS RX4 150 yX4_chunksOf wsX4_chunksOf) := goodIn_app (goodIn_of _ (by decide +kernel)) ggX4_prove_X4_chunksOf
set_option maxRecDepth 20000 in
theorem ggX4_prove_X3_lead : GoodIn wsX4_prove wsX3_lead := goodIn_r _ [43, 44, 45, 46, 47, 48, 42, 49, 167, 168, 169] (by decide +kernel) (by decide +kernel)
set_option maxRecDepth 20000 in
theorem gX4_prove_X3_lead : GoodIn wsX4_prove (wsV RX4 153 RX3 yX3_lead wsX3_lead) := goodIn_app (goodIn_of _ (by decide +kernel)) ggX4_prove_X3_lead
set_option maxRecDepth 20000 in
theorem ggX4_prove_X4_prepareTree : GoodIn wsX4_prove wsX4_prepareTree := goodIn_r _ [53, 8, 54, 55, 56, 57, 58, 59, 60, 61, 62, 63, 64, 65, 66, 67, 68, 69, 70, 71, 72, 73, 74, 75, 76, 77, 78, 79, 80, 81, 82, 83, 84, 85, 86, 31, 32, 20, 33, 22, 34, 87, 88, 89, 90, 91, 92, 93, 94, 95, 96, 97, 98, 99, 100, 101, 102, 103, 104, 105, 106, 107, 108, 109, 110, 111, 112, 113, 114, 115, 116, 117, 118, 119, 120, 121, 122, 123, 124, 125, 126, 127, 128, 129, 130, 131, 132, 133, 134, 135, 136, 137, 138, 139, 140, 141, 142, 143, 144, 145, 146, 147, 148, 149, 150, 151, 158, 159, 160, 161, 162, 163, 164, 170, 171, 172, 173, 174, 175, 176, 177, 178, 179, 180, 181, 182, 165, 166, 183, 184, 185, 186, 187, 188, 189, 190] (by decide +kernel) (by decide +kernel)
set_option maxRecDepth 20000 in
theorem gX4_prove_X4_prepareTree : GoodIn wsX4_prove (wsV RX4 136 RX4 yX4_prepareTree wsX4_prepareTree) := goodIn_app (goodIn_of _ (by decide +kernel)) ggX4_prove_X4_prepareTree
set_option maxRecDepth 20000 in
theorem ggX4_prove_X2_run : GoodIn wsX4_prove wsX2_run := goodIn_r _ [114, 115, 116, 106, 117, 118, 119, 104, 120, 121, 108, 109, 110, 107, 122, 123, 124, 125, 126, 127, 128, 129, 130, 131, 183, 184, 185, 186, 187, 188, 189, 190] (by decide +kernel) (by decide +kernel)
set_option maxRecDepth 20000 in
theorem gX4_prove_X2_run : GoodIn wsX4_prove (wsV RX4 171 RX2 yX2_run wsX2_run) := goodIn_app (goodIn_of _ (by decide +kernel)) ggX4_prove_X2_run
set_option maxRecDepth 20000 in
theorem ggX4_prove_X2_writeChain : GoodIn wsX4_prove wsX2_writeChain := goodIn_r _ [143, 116, 183, 184, 185, 186, 187, 188, 189, 190] (by decide +kernel) (by decide +kernel)
set_option maxRecDepth 20000 in
theorem gX4_prove_X2_writeChain : GoodIn wsX4_prove (wsV RX4 174 RX2 yX2_writeChain wsX2_writeChain) := goodIn_app (goodIn_of _ (by decide +kernel)) ggX4_prove_X2_writeChain
set_option maxRecDepth 20000 in
theorem ggX4_prove_X0_appendChain : GoodIn wsX4_prove wsX0_appendChain := goodIn_r _ [157, 35, 36, 37, 20, 38, 22, 34, 165, 166] (by decide +kernel) (by decide +kernel)
set_option maxRecDepth 20000 in
theorem gX4_prove_X0_appendChain : GoodIn wsX4_prove (wsV RX4 178 RX0 yX0_appendChain wsX0_appendChain) := goodIn_app (goodIn_of _ (by decide +kernel)) ggX4_prove_X0_appendChain
theorem dX4_prove_0 : decode cX4_prove 0 = .ok (.aload_n 0, 1) := by decide +kernel
theorem dX4_prove_1 : decode cX4_prove 1 = .ok (.getfield 24, 3) := by decide +kernel
theorem dX4_prove_4 : decode cX4_prove 4 = .ok (.getfield 57, 3) := by decide +kernel
theorem dX4_prove_7 : decode cX4_prove 7 = .ok (.iload_n 1, 1) := by decide +kernel
theorem dX4_prove_8 : decode cX4_prove 8 = .ok (.invokestatic 140, 3) := by decide +kernel
theorem dX4_prove_11 : decode cX4_prove 11 = .ok (.ifCond .ne 6, 3) := by decide +kernel
theorem dX4_prove_14 : decode cX4_prove 14 = .ok (.bipush (-2), 2) := by decide +kernel
theorem dX4_prove_16 : decode cX4_prove 16 = .ok (.ireturn, 1) := by decide +kernel
theorem dX4_prove_17 : decode cX4_prove 17 = .ok (.aload_n 0, 1) := by decide +kernel
theorem dX4_prove_18 : decode cX4_prove 18 = .ok (.getfield 28, 3) := by decide +kernel
theorem dX4_prove_21 : decode cX4_prove 21 = .ok (.iconst 0, 1) := by decide +kernel
theorem dX4_prove_22 : decode cX4_prove 22 = .ok (.invokevirtual 61, 3) := by decide +kernel
theorem dX4_prove_25 : decode cX4_prove 25 = .ok (.pop, 1) := by decide +kernel
theorem dX4_prove_26 : decode cX4_prove 26 = .ok (.aload_n 0, 1) := by decide +kernel
theorem dX4_prove_27 : decode cX4_prove 27 = .ok (.getfield 28, 3) := by decide +kernel
theorem dX4_prove_30 : decode cX4_prove 30 = .ok (.aload_n 0, 1) := by decide +kernel
theorem dX4_prove_31 : decode cX4_prove 31 = .ok (.getfield 24, 3) := by decide +kernel
theorem dX4_prove_34 : decode cX4_prove 34 = .ok (.iload_n 1, 1) := by decide +kernel
theorem dX4_prove_35 : decode cX4_prove 35 = .ok (.sipush 1024, 3) := by decide +kernel
theorem dX4_prove_38 : decode cX4_prove 38 = .ok (.imul, 1) := by decide +kernel
theorem dX4_prove_39 : decode cX4_prove 39 = .ok (.aload_n 0, 1) := by decide +kernel
theorem dX4_prove_40 : decode cX4_prove 40 = .ok (.getfield 24, 3) := by decide +kernel
theorem dX4_prove_43 : decode cX4_prove 43 = .ok (.getfield 57, 3) := by decide +kernel
theorem dX4_prove_46 : decode cX4_prove 46 = .ok (.iload_n 1, 1) := by decide +kernel
theorem dX4_prove_47 : decode cX4_prove 47 = .ok (.invokestatic 144, 3) := by decide +kernel
theorem dX4_prove_50 : decode cX4_prove 50 = .ok (.invokevirtual 147, 3) := by decide +kernel
theorem dX4_prove_53 : decode cX4_prove 53 = .ok (.aload_n 0, 1) := by decide +kernel
theorem dX4_prove_54 : decode cX4_prove 54 = .ok (.getfield 39, 3) := by decide +kernel
theorem dX4_prove_57 : decode cX4_prove 57 = .ok (.aload_n 0, 1) := by decide +kernel
theorem dX4_prove_58 : decode cX4_prove 58 = .ok (.getfield 24, 3) := by decide +kernel
theorem dX4_prove_61 : decode cX4_prove 61 = .ok (.getfield 57, 3) := by decide +kernel
theorem dX4_prove_64 : decode cX4_prove 64 = .ok (.invokestatic 150, 3) := by decide +kernel
theorem dX4_prove_67 : decode cX4_prove 67 = .ok (.iload_n 1, 1) := by decide +kernel
theorem dX4_prove_68 : decode cX4_prove 68 = .ok (.invokevirtual 153, 3) := by decide +kernel
theorem dX4_prove_71 : decode cX4_prove 71 = .ok (.iconst 0, 1) := by decide +kernel
theorem dX4_prove_72 : decode cX4_prove 72 = .ok (.istore_n 2, 1) := by decide +kernel
theorem dX4_prove_73 : decode cX4_prove 73 = .ok (.iload_n 2, 1) := by decide +kernel
theorem dX4_prove_74 : decode cX4_prove 74 = .ok (.aload_n 0, 1) := by decide +kernel
theorem dX4_prove_75 : decode cX4_prove 75 = .ok (.getfield 39, 3) := by decide +kernel
theorem dX4_prove_78 : decode cX4_prove 78 = .ok (.getfield 157, 3) := by decide +kernel
theorem dX4_prove_81 : decode cX4_prove 81 = .ok (.if_icmp .ge 102, 3) := by decide +kernel
theorem dX4_prove_84 : decode cX4_prove 84 = .ok (.aload_n 0, 1) := by decide +kernel
theorem dX4_prove_85 : decode cX4_prove 85 = .ok (.getfield 39, 3) := by decide +kernel
theorem dX4_prove_88 : decode cX4_prove 88 = .ok (.getfield 160, 3) := by decide +kernel
theorem dX4_prove_91 : decode cX4_prove 91 = .ok (.iload_n 2, 1) := by decide +kernel
theorem dX4_prove_92 : decode cX4_prove 92 = .ok (.iaload, 1) := by decide +kernel
theorem dX4_prove_93 : decode cX4_prove 93 = .ok (.istore_n 3, 1) := by decide +kernel
theorem dX4_prove_94 : decode cX4_prove 94 = .ok (.aload_n 0, 1) := by decide +kernel
theorem dX4_prove_95 : decode cX4_prove 95 = .ok (.getfield 39, 3) := by decide +kernel
theorem dX4_prove_98 : decode cX4_prove 98 = .ok (.getfield 163, 3) := by decide +kernel
theorem dX4_prove_101 : decode cX4_prove 101 = .ok (.iload_n 2, 1) := by decide +kernel
theorem dX4_prove_102 : decode cX4_prove 102 = .ok (.iaload, 1) := by decide +kernel
theorem dX4_prove_103 : decode cX4_prove 103 = .ok (.sipush 1024, 3) := by decide +kernel
theorem dX4_prove_106 : decode cX4_prove 106 = .ok (.imul, 1) := by decide +kernel
theorem dX4_prove_107 : decode cX4_prove 107 = .ok (.aload_n 0, 1) := by decide +kernel
theorem dX4_prove_108 : decode cX4_prove 108 = .ok (.getfield 24, 3) := by decide +kernel
theorem dX4_prove_111 : decode cX4_prove 111 = .ok (.getfield 57, 3) := by decide +kernel
theorem dX4_prove_114 : decode cX4_prove 114 = .ok (.iload_n 3, 1) := by decide +kernel
theorem dX4_prove_115 : decode cX4_prove 115 = .ok (.sipush 1024, 3) := by decide +kernel
theorem dX4_prove_118 : decode cX4_prove 118 = .ok (.imul, 1) := by decide +kernel
theorem dX4_prove_119 : decode cX4_prove 119 = .ok (.isub, 1) := by decide +kernel
theorem dX4_prove_120 : decode cX4_prove 120 = .ok (.invokestatic 166, 3) := by decide +kernel
theorem dX4_prove_123 : decode cX4_prove 123 = .ok (.istore 4, 2) := by decide +kernel
theorem dX4_prove_125 : decode cX4_prove 125 = .ok (.aload_n 0, 1) := by decide +kernel
theorem dX4_prove_126 : decode cX4_prove 126 = .ok (.aload_n 0, 1) := by decide +kernel
theorem dX4_prove_127 : decode cX4_prove 127 = .ok (.getfield 24, 3) := by decide +kernel
theorem dX4_prove_130 : decode cX4_prove 130 = .ok (.iload_n 3, 1) := by decide +kernel
theorem dX4_prove_131 : decode cX4_prove 131 = .ok (.sipush 1024, 3) := by decide +kernel
theorem dX4_prove_134 : decode cX4_prove 134 = .ok (.imul, 1) := by decide +kernel
theorem dX4_prove_135 : decode cX4_prove 135 = .ok (.iload 4, 2) := by decide +kernel
theorem dX4_prove_137 : decode cX4_prove 137 = .ok (.iload_n 3, 1) := by decide +kernel
theorem dX4_prove_138 : decode cX4_prove 138 = .ok (.invokevirtual 136, 3) := by decide +kernel
theorem dX4_prove_141 : decode cX4_prove 141 = .ok (.aload_n 0, 1) := by decide +kernel
theorem dX4_prove_142 : decode cX4_prove 142 = .ok (.getfield 32, 3) := by decide +kernel
theorem dX4_prove_145 : decode cX4_prove 145 = .ok (.getfield 104, 3) := by decide +kernel
theorem dX4_prove_148 : decode cX4_prove 148 = .ok (.invokevirtual 171, 3) := by decide +kernel
theorem dX4_prove_151 : decode cX4_prove 151 = .ok (.aload_n 0, 1) := by decide +kernel
theorem dX4_prove_152 : decode cX4_prove 152 = .ok (.getfield 32, 3) := by decide +kernel
theorem dX4_prove_155 : decode cX4_prove 155 = .ok (.getfield 104, 3) := by decide +kernel
theorem dX4_prove_158 : decode cX4_prove 158 = .ok (.aload_n 0, 1) := by decide +kernel
theorem dX4_prove_159 : decode cX4_prove 159 = .ok (.getfield 43, 3) := by decide +kernel
theorem dX4_prove_162 : decode cX4_prove 162 = .ok (.iconst 0, 1) := by decide +kernel
theorem dX4_prove_163 : decode cX4_prove 163 = .ok (.invokevirtual 174, 3) := by decide +kernel
theorem dX4_prove_166 : decode cX4_prove 166 = .ok (.aload_n 0, 1) := by decide +kernel
theorem dX4_prove_167 : decode cX4_prove 167 = .ok (.getfield 28, 3) := by decide +kernel
theorem dX4_prove_170 : decode cX4_prove 170 = .ok (.aload_n 0, 1) := by decide +kernel
theorem dX4_prove_171 : decode cX4_prove 171 = .ok (.getfield 43, 3) := by decide +kernel
theorem dX4_prove_174 : decode cX4_prove 174 = .ok (.invokevirtual 178, 3) := by decide +kernel
theorem dX4_prove_177 : decode cX4_prove 177 = .ok (.iinc 2 1, 3) := by decide +kernel
theorem dX4_prove_180 : decode cX4_prove 180 = .ok (.goto (-107), 3) := by decide +kernel
theorem dX4_prove_183 : decode cX4_prove 183 = .ok (.aload_n 0, 1) := by decide +kernel
theorem dX4_prove_184 : decode cX4_prove 184 = .ok (.getfield 28, 3) := by decide +kernel
theorem dX4_prove_187 : decode cX4_prove 187 = .ok (.getfield 57, 3) := by decide +kernel
theorem dX4_prove_190 : decode cX4_prove 190 = .ok (.ireturn, 1) := by decide +kernel
set_option maxRecDepth 20000 in
theorem ggX4_proof_X0_byteAt : GoodIn wsX4_proof wsX0_byteAt := goodIn_r _ [6, 7, 8, 16, 17] (by decide +kernel) (by decide +kernel)
set_option maxRecDepth 20000 in
theorem gX4_proof_X0_byteAt : GoodIn wsX4_proof (wsV RX4 65 RX0 yX0_byteAt wsX0_byteAt) := goodIn_app (goodIn_of _ (by decide +kernel)) ggX4_proof_X0_byteAt
theorem dX4_proof_0 : decode cX4_proof 0 = .ok (.aload_n 0, 1) := by decide +kernel
theorem dX4_proof_1 : decode cX4_proof 1 = .ok (.getfield 28, 3) := by decide +kernel
theorem dX4_proof_4 : decode cX4_proof 4 = .ok (.iload_n 1, 1) := by decide +kernel
theorem dX4_proof_5 : decode cX4_proof 5 = .ok (.invokevirtual 65, 3) := by decide +kernel
theorem dX4_proof_8 : decode cX4_proof 8 = .ok (.ireturn, 1) := by decide +kernel
set_option maxRecDepth 20000 in
theorem ggX4_forge_X0_change : GoodIn wsX4_forge wsX0_change := goodIn_r _ [6, 7, 8, 16, 17] (by decide +kernel) (by decide +kernel)
set_option maxRecDepth 20000 in
theorem gX4_forge_X0_change : GoodIn wsX4_forge (wsV RX4 133 RX0 yX0_change wsX0_change) := goodIn_app (goodIn_of _ (by decide +kernel)) ggX4_forge_X0_change
theorem dX4_forge_0 : decode cX4_forge 0 = .ok (.aload_n 0, 1) := by decide +kernel
theorem dX4_forge_1 : decode cX4_forge 1 = .ok (.getfield 28, 3) := by decide +kernel
theorem dX4_forge_4 : decode cX4_forge 4 = .ok (.iload_n 1, 1) := by decide +kernel
theorem dX4_forge_5 : decode cX4_forge 5 = .ok (.iload_n 2, 1) := by decide +kernel
theorem dX4_forge_6 : decode cX4_forge 6 = .ok (.invokevirtual 133, 3) := by decide +kernel
theorem dX4_forge_9 : decode cX4_forge 9 = .ok (.ireturn, 1) := by decide +kernel
set_option maxRecDepth 20000 in
theorem ggX4_cut_X0_keepFirst : GoodIn wsX4_cut wsX0_keepFirst := goodIn_r _ [6, 7, 15, 16] (by decide +kernel) (by decide +kernel)
set_option maxRecDepth 20000 in
theorem gX4_cut_X0_keepFirst : GoodIn wsX4_cut (wsV RX4 61 RX0 yX0_keepFirst wsX0_keepFirst) := goodIn_app (goodIn_of _ (by decide +kernel)) ggX4_cut_X0_keepFirst
theorem dX4_cut_0 : decode cX4_cut 0 = .ok (.aload_n 0, 1) := by decide +kernel
theorem dX4_cut_1 : decode cX4_cut 1 = .ok (.getfield 28, 3) := by decide +kernel
theorem dX4_cut_4 : decode cX4_cut 4 = .ok (.iload_n 1, 1) := by decide +kernel
theorem dX4_cut_5 : decode cX4_cut 5 = .ok (.invokevirtual 61, 3) := by decide +kernel
theorem dX4_cut_8 : decode cX4_cut 8 = .ok (.ireturn, 1) := by decide +kernel
set_option maxRecDepth 20000 in
theorem ggX4_check_X4_isRegister : GoodIn wsX4_check wsX4_isRegister := goodIn_r _ [9] (by decide +kernel) (by decide +kernel)
set_option maxRecDepth 20000 in
theorem gX4_check_X4_isRegister : GoodIn wsX4_check (va_wsS RX4 47 yX4_isRegister wsX4_isRegister) := goodIn_app (goodIn_of _ (by decide +kernel)) ggX4_check_X4_isRegister
set_option maxRecDepth 20000 in
theorem ggX4_check_X4_hasChunk : GoodIn wsX4_check wsX4_hasChunk := goodIn_r _ [12, 13, 14, 8, 15] (by decide +kernel) (by decide +kernel)
set_option maxRecDepth 20000 in
theorem gX4_check_X4_hasChunk : GoodIn wsX4_check (va_wsS RX4 140 yX4_hasChunk wsX4_hasChunk) := goodIn_app (goodIn_of _ (by decide +kernel)) ggX4_check_X4_hasChunk
set_option maxRecDepth 20000 in
theorem ggX4_check_X4_chunksOf : GoodIn wsX4_check wsX4_chunksOf := goodIn_r _ [15] (by decide +kernel) (by decide +kernel)
set_option maxRecDepth 20000 in
theorem gX4_check_X4_chunksOf : GoodIn wsX4_check (va_wsS RX4 150 yX4_chunksOf wsX4_chunksOf) := goodIn_app (goodIn_of _ (by decide +kernel)) ggX4_check_X4_chunksOf
set_option maxRecDepth 20000 in
theorem ggX4_check_X3_lead : GoodIn wsX4_check wsX3_lead := goodIn_r _ [20, 21, 22, 23, 24, 25, 19, 26, 185, 186, 187] (by decide +kernel) (by decide +kernel)
set_option maxRecDepth 20000 in
theorem gX4_check_X3_lead : GoodIn wsX4_check (wsV RX4 153 RX3 yX3_lead wsX3_lead) := goodIn_app (goodIn_of _ (by decide +kernel)) ggX4_check_X3_lead
set_option maxRecDepth 20000 in
theorem ggX4_check_X4_chunkLength : GoodIn wsX4_check wsX4_chunkLength := goodIn_r _ [29, 30, 31, 32, 33] (by decide +kernel) (by decide +kernel)
set_option maxRecDepth 20000 in
theorem gX4_check_X4_chunkLength : GoodIn wsX4_check (va_wsS RX4 144 yX4_chunkLength wsX4_chunkLength) := goodIn_app (goodIn_of _ (by decide +kernel)) ggX4_check_X4_chunkLength
set_option maxRecDepth 20000 in
theorem ggX4_check_X4_prepareTree : GoodIn wsX4_check wsX4_prepareTree := goodIn_r _ [37, 5, 38, 39, 40, 41, 42, 43, 44, 45, 46, 47, 48, 49, 50, 51, 52, 53, 54, 55, 56, 57, 58, 59, 60, 61, 62, 63, 64, 65, 66, 67, 68, 69, 70, 71, 72, 73, 74, 75, 76, 77, 78, 79, 80, 81, 82, 83, 84, 85, 86, 87, 88, 89, 90, 91, 92, 93, 94, 95, 96, 97, 98, 99, 100, 101, 102, 103, 104, 105, 106, 107, 108, 109, 110, 111, 112, 113, 114, 115, 116, 117, 118, 119, 120, 121, 122, 123, 124, 125, 126, 127, 128, 129, 130, 131, 132, 133, 134, 135, 136, 137, 138, 139, 140, 141, 176, 177, 178, 179, 180, 181, 182, 188, 189, 190, 191, 192, 193, 194, 195, 196, 197, 198, 199, 200, 183, 184, 201, 202, 203, 204, 205, 206, 207, 208] (by decide +kernel) (by decide +kernel)
set_option maxRecDepth 20000 in
theorem gX4_check_X4_prepareTree : GoodIn wsX4_check (wsV RX4 136 RX4 yX4_prepareTree wsX4_prepareTree) := goodIn_app (goodIn_of _ (by decide +kernel)) ggX4_check_X4_prepareTree
set_option maxRecDepth 20000 in
theorem ggX4_check_X4_climb : GoodIn wsX4_check wsX4_climb := goodIn_r _ [145, 3, 4, 146, 5, 38, 147, 148, 149, 73, 150, 151, 152, 153, 154, 155, 71, 72, 74, 75, 76, 156, 102, 103, 94, 104, 105, 106, 96, 107, 108, 109, 110, 111, 98, 99, 100, 97, 112, 113, 114, 115, 116, 117, 118, 119, 120, 121, 157, 123, 124, 125, 126, 127, 128, 129, 92, 93, 95, 158, 159, 160, 161, 176, 177, 178, 179, 180, 181, 182, 185, 186, 187, 188, 189, 190, 191, 192, 193, 194, 195, 196, 197, 198, 199, 200, 183, 184, 201, 202, 203, 204, 205, 206, 207, 208] (by decide +kernel) (by decide +kernel)
set_option maxRecDepth 20000 in
theorem gX4_check_X4_climb : GoodIn wsX4_check (wsV RX4 183 RX4 yX4_climb wsX4_climb) := goodIn_app (goodIn_of _ (by decide +kernel)) ggX4_check_X4_climb
set_option maxRecDepth 20000 in
theorem ggX4_check_X2_rootBeginsWith : GoodIn wsX4_check wsX2_rootBeginsWith := goodIn_r _ [165, 166, 167, 168, 94, 169, 100, 170, 102, 103, 104, 105, 106, 96, 107, 108, 109, 110, 111, 98, 99, 97, 112, 113, 114, 115, 116, 117, 118, 119, 120, 121, 171, 172, 173, 174, 175, 71, 72, 73, 74, 75, 76, 201, 202, 203, 204, 205, 206, 207, 208, 183, 184] (by decide +kernel) (by decide +kernel)
set_option maxRecDepth 20000 in
theorem gX4_check_X2_rootBeginsWith : GoodIn wsX4_check (wsV RX4 186 RX2 yX2_rootBeginsWith wsX2_rootBeginsWith) := goodIn_app (goodIn_of _ (by decide +kernel)) ggX4_check_X2_rootBeginsWith
theorem dX4_check_0 : decode cX4_check 0 = .ok (.iload_n 1, 1) := by decide +kernel
theorem dX4_check_1 : decode cX4_check 1 = .ok (.invokestatic 47, 3) := by decide +kernel
theorem dX4_check_4 : decode cX4_check 4 = .ok (.ifCond .eq 17, 3) := by decide +kernel
theorem dX4_check_7 : decode cX4_check 7 = .ok (.aload_n 0, 1) := by decide +kernel
theorem dX4_check_8 : decode cX4_check 8 = .ok (.getfield 11, 3) := by decide +kernel
theorem dX4_check_11 : decode cX4_check 11 = .ok (.iload_n 1, 1) := by decide +kernel
theorem dX4_check_12 : decode cX4_check 12 = .ok (.aaload, 1) := by decide +kernel
theorem dX4_check_13 : decode cX4_check 13 = .ok (.getfield 57, 3) := by decide +kernel
theorem dX4_check_16 : decode cX4_check 16 = .ok (.bipush 32, 2) := by decide +kernel
theorem dX4_check_18 : decode cX4_check 18 = .ok (.if_icmp .eq 6, 3) := by decide +kernel
theorem dX4_check_21 : decode cX4_check 21 = .ok (.bipush (-2), 2) := by decide +kernel
theorem dX4_check_23 : decode cX4_check 23 = .ok (.ireturn, 1) := by decide +kernel
theorem dX4_check_24 : decode cX4_check 24 = .ok (.iload_n 2, 1) := by decide +kernel
theorem dX4_check_25 : decode cX4_check 25 = .ok (.ifCond .lt 17, 3) := by decide +kernel
theorem dX4_check_28 : decode cX4_check 28 = .ok (.iload_n 2, 1) := by decide +kernel
theorem dX4_check_29 : decode cX4_check 29 = .ok (.ldc 182, 2) := by decide +kernel
theorem dX4_check_31 : decode cX4_check 31 = .ok (.if_icmp .gt 11, 3) := by decide +kernel
theorem dX4_check_34 : decode cX4_check 34 = .ok (.iload_n 2, 1) := by decide +kernel
theorem dX4_check_35 : decode cX4_check 35 = .ok (.iload_n 3, 1) := by decide +kernel
theorem dX4_check_36 : decode cX4_check 36 = .ok (.invokestatic 140, 3) := by decide +kernel
theorem dX4_check_39 : decode cX4_check 39 = .ok (.ifCond .ne 6, 3) := by decide +kernel
theorem dX4_check_42 : decode cX4_check 42 = .ok (.bipush (-2), 2) := by decide +kernel
theorem dX4_check_44 : decode cX4_check 44 = .ok (.ireturn, 1) := by decide +kernel
theorem dX4_check_45 : decode cX4_check 45 = .ok (.aload_n 0, 1) := by decide +kernel
theorem dX4_check_46 : decode cX4_check 46 = .ok (.getfield 39, 3) := by decide +kernel
theorem dX4_check_49 : decode cX4_check 49 = .ok (.iload_n 2, 1) := by decide +kernel
theorem dX4_check_50 : decode cX4_check 50 = .ok (.invokestatic 150, 3) := by decide +kernel
theorem dX4_check_53 : decode cX4_check 53 = .ok (.iload_n 3, 1) := by decide +kernel
theorem dX4_check_54 : decode cX4_check 54 = .ok (.invokevirtual 153, 3) := by decide +kernel
theorem dX4_check_57 : decode cX4_check 57 = .ok (.iload_n 2, 1) := by decide +kernel
theorem dX4_check_58 : decode cX4_check 58 = .ok (.iload_n 3, 1) := by decide +kernel
theorem dX4_check_59 : decode cX4_check 59 = .ok (.invokestatic 144, 3) := by decide +kernel
theorem dX4_check_62 : decode cX4_check 62 = .ok (.istore 4, 2) := by decide +kernel
theorem dX4_check_64 : decode cX4_check 64 = .ok (.aload_n 0, 1) := by decide +kernel
theorem dX4_check_65 : decode cX4_check 65 = .ok (.getfield 28, 3) := by decide +kernel
theorem dX4_check_68 : decode cX4_check 68 = .ok (.getfield 57, 3) := by decide +kernel
theorem dX4_check_71 : decode cX4_check 71 = .ok (.iload 4, 2) := by decide +kernel
theorem dX4_check_73 : decode cX4_check 73 = .ok (.aload_n 0, 1) := by decide +kernel
theorem dX4_check_74 : decode cX4_check 74 = .ok (.getfield 39, 3) := by decide +kernel
theorem dX4_check_77 : decode cX4_check 77 = .ok (.getfield 157, 3) := by decide +kernel
theorem dX4_check_80 : decode cX4_check 80 = .ok (.bipush 32, 2) := by decide +kernel
theorem dX4_check_82 : decode cX4_check 82 = .ok (.imul, 1) := by decide +kernel
theorem dX4_check_83 : decode cX4_check 83 = .ok (.iadd, 1) := by decide +kernel
theorem dX4_check_84 : decode cX4_check 84 = .ok (.if_icmp .eq 5, 3) := by decide +kernel
theorem dX4_check_87 : decode cX4_check 87 = .ok (.iconst 0, 1) := by decide +kernel
theorem dX4_check_88 : decode cX4_check 88 = .ok (.ireturn, 1) := by decide +kernel
theorem dX4_check_89 : decode cX4_check 89 = .ok (.aload_n 0, 1) := by decide +kernel
theorem dX4_check_90 : decode cX4_check 90 = .ok (.aload_n 0, 1) := by decide +kernel
theorem dX4_check_91 : decode cX4_check 91 = .ok (.getfield 28, 3) := by decide +kernel
theorem dX4_check_94 : decode cX4_check 94 = .ok (.iconst 0, 1) := by decide +kernel
theorem dX4_check_95 : decode cX4_check 95 = .ok (.iload 4, 2) := by decide +kernel
theorem dX4_check_97 : decode cX4_check 97 = .ok (.iload_n 3, 1) := by decide +kernel
theorem dX4_check_98 : decode cX4_check 98 = .ok (.invokevirtual 136, 3) := by decide +kernel
theorem dX4_check_101 : decode cX4_check 101 = .ok (.aload_n 0, 1) := by decide +kernel
theorem dX4_check_102 : decode cX4_check 102 = .ok (.iload 4, 2) := by decide +kernel
theorem dX4_check_104 : decode cX4_check 104 = .ok (.iload_n 3, 1) := by decide +kernel
theorem dX4_check_105 : decode cX4_check 105 = .ok (.invokevirtual 183, 3) := by decide +kernel
theorem dX4_check_108 : decode cX4_check 108 = .ok (.aload_n 0, 1) := by decide +kernel
theorem dX4_check_109 : decode cX4_check 109 = .ok (.getfield 32, 3) := by decide +kernel
theorem dX4_check_112 : decode cX4_check 112 = .ok (.getfield 104, 3) := by decide +kernel
theorem dX4_check_115 : decode cX4_check 115 = .ok (.aload_n 0, 1) := by decide +kernel
theorem dX4_check_116 : decode cX4_check 116 = .ok (.getfield 11, 3) := by decide +kernel
theorem dX4_check_119 : decode cX4_check 119 = .ok (.iload_n 1, 1) := by decide +kernel
theorem dX4_check_120 : decode cX4_check 120 = .ok (.aaload, 1) := by decide +kernel
theorem dX4_check_121 : decode cX4_check 121 = .ok (.invokevirtual 186, 3) := by decide +kernel
theorem dX4_check_124 : decode cX4_check 124 = .ok (.ifCond .eq 7, 3) := by decide +kernel
theorem dX4_check_127 : decode cX4_check 127 = .ok (.iconst 1, 1) := by decide +kernel
theorem dX4_check_128 : decode cX4_check 128 = .ok (.goto 4, 3) := by decide +kernel
theorem dX4_check_131 : decode cX4_check 131 = .ok (.iconst 0, 1) := by decide +kernel
theorem dX4_check_132 : decode cX4_check 132 = .ok (.ireturn, 1) := by decide +kernel
theorem dX4_isRegister_0 : decode cX4_isRegister 0 = .ok (.iload_n 0, 1) := by decide +kernel
theorem dX4_isRegister_1 : decode cX4_isRegister 1 = .ok (.ifCond .lt 13, 3) := by decide +kernel
theorem dX4_isRegister_4 : decode cX4_isRegister 4 = .ok (.iload_n 0, 1) := by decide +kernel
theorem dX4_isRegister_5 : decode cX4_isRegister 5 = .ok (.bipush 8, 2) := by decide +kernel
theorem dX4_isRegister_7 : decode cX4_isRegister 7 = .ok (.if_icmp .ge 7, 3) := by decide +kernel
theorem dX4_isRegister_10 : decode cX4_isRegister 10 = .ok (.iconst 1, 1) := by decide +kernel
theorem dX4_isRegister_11 : decode cX4_isRegister 11 = .ok (.goto 4, 3) := by decide +kernel
theorem dX4_isRegister_14 : decode cX4_isRegister 14 = .ok (.iconst 0, 1) := by decide +kernel
theorem dX4_isRegister_15 : decode cX4_isRegister 15 = .ok (.ireturn, 1) := by decide +kernel
theorem dX4_isHasher_0 : decode cX4_isHasher 0 = .ok (.iload_n 0, 1) := by decide +kernel
theorem dX4_isHasher_1 : decode cX4_isHasher 1 = .ok (.ifCond .lt 12, 3) := by decide +kernel
theorem dX4_isHasher_4 : decode cX4_isHasher 4 = .ok (.iload_n 0, 1) := by decide +kernel
theorem dX4_isHasher_5 : decode cX4_isHasher 5 = .ok (.iconst 4, 1) := by decide +kernel
theorem dX4_isHasher_6 : decode cX4_isHasher 6 = .ok (.if_icmp .ge 7, 3) := by decide +kernel
theorem dX4_isHasher_9 : decode cX4_isHasher 9 = .ok (.iconst 1, 1) := by decide +kernel
theorem dX4_isHasher_10 : decode cX4_isHasher 10 = .ok (.goto 4, 3) := by decide +kernel
theorem dX4_isHasher_13 : decode cX4_isHasher 13 = .ok (.iconst 0, 1) := by decide +kernel
theorem dX4_isHasher_14 : decode cX4_isHasher 14 = .ok (.ireturn, 1) := by decide +kernel
theorem dX4_chunksOf_0 : decode cX4_chunksOf 0 = .ok (.iload_n 0, 1) := by decide +kernel
theorem dX4_chunksOf_1 : decode cX4_chunksOf 1 = .ok (.ifCond .ne 7, 3) := by decide +kernel
theorem dX4_chunksOf_4 : decode cX4_chunksOf 4 = .ok (.iconst 1, 1) := by decide +kernel
theorem dX4_chunksOf_5 : decode cX4_chunksOf 5 = .ok (.goto 12, 3) := by decide +kernel
theorem dX4_chunksOf_8 : decode cX4_chunksOf 8 = .ok (.iload_n 0, 1) := by decide +kernel
theorem dX4_chunksOf_9 : decode cX4_chunksOf 9 = .ok (.iconst 1, 1) := by decide +kernel
theorem dX4_chunksOf_10 : decode cX4_chunksOf 10 = .ok (.isub, 1) := by decide +kernel
theorem dX4_chunksOf_11 : decode cX4_chunksOf 11 = .ok (.sipush 1024, 3) := by decide +kernel
theorem dX4_chunksOf_14 : decode cX4_chunksOf 14 = .ok (.idiv, 1) := by decide +kernel
theorem dX4_chunksOf_15 : decode cX4_chunksOf 15 = .ok (.iconst 1, 1) := by decide +kernel
theorem dX4_chunksOf_16 : decode cX4_chunksOf 16 = .ok (.iadd, 1) := by decide +kernel
theorem dX4_chunksOf_17 : decode cX4_chunksOf 17 = .ok (.ireturn, 1) := by decide +kernel
set_option maxRecDepth 20000 in
theorem ggX4_hasChunk_X4_chunksOf : GoodIn wsX4_hasChunk wsX4_chunksOf := goodIn_r _ [4] (by decide +kernel) (by decide +kernel)
set_option maxRecDepth 20000 in
theorem gX4_hasChunk_X4_chunksOf : GoodIn wsX4_hasChunk (va_wsS RX4 150 yX4_chunksOf wsX4_chunksOf) := goodIn_app (goodIn_of _ (by decide +kernel)) ggX4_hasChunk_X4_chunksOf
theorem dX4_hasChunk_0 : decode cX4_hasChunk 0 = .ok (.iload_n 1, 1) := by decide +kernel
theorem dX4_hasChunk_1 : decode cX4_hasChunk 1 = .ok (.ifCond .lt 15, 3) := by decide +kernel
theorem dX4_hasChunk_4 : decode cX4_hasChunk 4 = .ok (.iload_n 1, 1) := by decide +kernel
theorem dX4_hasChunk_5 : decode cX4_hasChunk 5 = .ok (.iload_n 0, 1) := by decide +kernel
theorem dX4_hasChunk_6 : decode cX4_hasChunk 6 = .ok (.invokestatic 150, 3) := by decide +kernel
theorem dX4_hasChunk_9 : decode cX4_hasChunk 9 = .ok (.if_icmp .ge 7, 3) := by decide +kernel
theorem dX4_hasChunk_12 : decode cX4_hasChunk 12 = .ok (.iconst 1, 1) := by decide +kernel
theorem dX4_hasChunk_13 : decode cX4_hasChunk 13 = .ok (.goto 4, 3) := by decide +kernel
theorem dX4_hasChunk_16 : decode cX4_hasChunk 16 = .ok (.iconst 0, 1) := by decide +kernel
theorem dX4_hasChunk_17 : decode cX4_hasChunk 17 = .ok (.ireturn, 1) := by decide +kernel
theorem dX4_chunkLength_0 : decode cX4_chunkLength 0 = .ok (.sipush 1024, 3) := by decide +kernel
theorem dX4_chunkLength_3 : decode cX4_chunkLength 3 = .ok (.iload_n 0, 1) := by decide +kernel
theorem dX4_chunkLength_4 : decode cX4_chunkLength 4 = .ok (.iload_n 1, 1) := by decide +kernel
theorem dX4_chunkLength_5 : decode cX4_chunkLength 5 = .ok (.sipush 1024, 3) := by decide +kernel
theorem dX4_chunkLength_8 : decode cX4_chunkLength 8 = .ok (.imul, 1) := by decide +kernel
theorem dX4_chunkLength_9 : decode cX4_chunkLength 9 = .ok (.isub, 1) := by decide +kernel
theorem dX4_chunkLength_10 : decode cX4_chunkLength 10 = .ok (.invokestatic 166, 3) := by decide +kernel
theorem dX4_chunkLength_13 : decode cX4_chunkLength 13 = .ok (.ireturn, 1) := by decide +kernel
set_option maxRecDepth 20000 in
theorem ggX4_deriveKey_X1_restart : GoodIn wsX4_deriveKey wsX1_restart := goodIn_r _ [8, 9, 10, 11, 12, 13, 14, 15, 16, 17, 7, 18, 19, 20, 21, 22, 23, 24, 25, 26, 27, 28, 29, 30, 122, 123, 124, 125, 126, 127, 128, 129, 130, 131, 132, 133, 134] (by decide +kernel) (by decide +kernel)
set_option maxRecDepth 20000 in
theorem gX4_deriveKey_X1_restart : GoodIn wsX4_deriveKey (wsV RX4 76 RX1 yX1_restart wsX1_restart) := goodIn_app (goodIn_of _ (by decide +kernel)) ggX4_deriveKey_X1_restart
set_option maxRecDepth 20000 in
theorem ggX4_deriveKey_X1_absorb : GoodIn wsX4_deriveKey wsX1_absorb := goodIn_r _ [34, 35, 36, 37, 38, 39, 40, 41, 42, 43, 44, 7, 45, 30, 24, 29, 13, 46, 47, 48, 49, 50, 14, 15, 51, 9, 11, 52, 53, 54, 55, 23, 12, 56, 57, 58, 59, 60, 61, 62, 63, 64, 65, 66, 67, 68, 69, 70, 71, 72, 73, 74, 75, 76, 77, 78, 79, 80, 81, 82, 83, 84, 85, 86, 87, 88, 89, 90, 91, 92, 93, 94, 95, 96, 97, 98, 19, 20, 21, 22, 16, 17, 18, 25, 26, 27, 28, 99, 100, 101, 102, 120, 121, 122, 123, 124, 125, 126, 127, 128, 129, 130, 131, 132, 133, 134, 135, 136, 137, 138, 139, 140, 141, 142] (by decide +kernel) (by decide +kernel)
set_option maxRecDepth 20000 in
theorem gX4_deriveKey_X1_absorb : GoodIn wsX4_deriveKey (wsV RX4 92 RX1 yX1_absorb wsX1_absorb) := goodIn_app (goodIn_of _ (by decide +kernel)) ggX4_deriveKey_X1_absorb
set_option maxRecDepth 20000 in
theorem ggX4_deriveKey_X1_prepareLast : GoodIn wsX4_deriveKey wsX1_prepareLast := goodIn_r _ [106, 15, 50, 51, 9, 11, 52, 53, 54, 7, 55, 24, 23, 29, 12, 14, 30, 56, 57, 58, 59, 60, 61, 62, 63, 64, 65, 66, 67, 68, 69, 70, 71, 72, 73, 74, 75, 76, 77, 78, 79, 80, 81, 82, 83, 84, 85, 86, 87, 88, 89, 90, 91, 92, 93, 94, 122, 123, 124, 125, 126, 127, 128, 129, 130, 131, 132, 133, 134, 135, 136, 137, 138, 139, 140, 141, 142] (by decide +kernel) (by decide +kernel)
set_option maxRecDepth 20000 in
theorem gX4_deriveKey_X1_prepareLast : GoodIn wsX4_deriveKey (wsV RX4 101 RX1 yX1_prepareLast wsX1_prepareLast) := goodIn_app (goodIn_of _ (by decide +kernel)) ggX4_deriveKey_X1_prepareLast
set_option maxRecDepth 20000 in
theorem ggX4_deriveKey_X2_makeRoot : GoodIn wsX4_deriveKey wsX2_makeRoot := goodIn_r _ [110, 65, 135, 136, 137, 138, 139, 140, 141, 142] (by decide +kernel) (by decide +kernel)
set_option maxRecDepth 20000 in
theorem gX4_deriveKey_X2_makeRoot : GoodIn wsX4_deriveKey (wsV RX4 190 RX2 yX2_makeRoot wsX2_makeRoot) := goodIn_app (goodIn_of _ (by decide +kernel)) ggX4_deriveKey_X2_makeRoot
set_option maxRecDepth 20000 in
theorem ggX4_deriveKey_X2_run : GoodIn wsX4_deriveKey wsX2_run := goodIn_r _ [69, 70, 71, 61, 72, 73, 74, 59, 75, 76, 63, 64, 65, 62, 77, 78, 79, 80, 81, 82, 83, 84, 85, 86, 135, 136, 137, 138, 139, 140, 141, 142] (by decide +kernel) (by decide +kernel)
set_option maxRecDepth 20000 in
theorem gX4_deriveKey_X2_run : GoodIn wsX4_deriveKey (wsV RX4 171 RX2 yX2_run wsX2_run) := goodIn_app (goodIn_of _ (by decide +kernel)) ggX4_deriveKey_X2_run
set_option maxRecDepth 20000 in
theorem ggX4_deriveKey_X2_writeChain : GoodIn wsX4_deriveKey wsX2_writeChain := goodIn_r _ [98, 71, 135, 136, 137, 138, 139, 140, 141, 142] (by decide +kernel) (by decide +kernel)
set_option maxRecDepth 20000 in
theorem gX4_deriveKey_X2_writeChain : GoodIn wsX4_deriveKey (wsV RX4 174 RX2 yX2_writeChain wsX2_writeChain) := goodIn_app (goodIn_of _ (by decide +kernel)) ggX4_deriveKey_X2_writeChain
theorem dX4_deriveKey_0 : decode cX4_deriveKey 0 = .ok (.aload_n 0, 1) := by decide +kernel
theorem dX4_deriveKey_1 : decode cX4_deriveKey 1 = .ok (.getfield 32, 3) := by decide +kernel
theorem dX4_deriveKey_4 : decode cX4_deriveKey 4 = .ok (.iconst 0, 1) := by decide +kernel
theorem dX4_deriveKey_5 : decode cX4_deriveKey 5 = .ok (.bipush 32, 2) := by decide +kernel
theorem dX4_deriveKey_7 : decode cX4_deriveKey 7 = .ok (.getstatic 71, 3) := by decide +kernel
theorem dX4_deriveKey_10 : decode cX4_deriveKey 10 = .ok (.iconst 0, 1) := by decide +kernel
theorem dX4_deriveKey_11 : decode cX4_deriveKey 11 = .ok (.invokevirtual 76, 3) := by decide +kernel
theorem dX4_deriveKey_14 : decode cX4_deriveKey 14 = .ok (.aload_n 0, 1) := by decide +kernel
theorem dX4_deriveKey_15 : decode cX4_deriveKey 15 = .ok (.getfield 32, 3) := by decide +kernel
theorem dX4_deriveKey_18 : decode cX4_deriveKey 18 = .ok (.aload_n 1, 1) := by decide +kernel
theorem dX4_deriveKey_19 : decode cX4_deriveKey 19 = .ok (.iconst 0, 1) := by decide +kernel
theorem dX4_deriveKey_20 : decode cX4_deriveKey 20 = .ok (.aload_n 1, 1) := by decide +kernel
theorem dX4_deriveKey_21 : decode cX4_deriveKey 21 = .ok (.getfield 57, 3) := by decide +kernel
theorem dX4_deriveKey_24 : decode cX4_deriveKey 24 = .ok (.invokevirtual 92, 3) := by decide +kernel
theorem dX4_deriveKey_27 : decode cX4_deriveKey 27 = .ok (.aload_n 0, 1) := by decide +kernel
theorem dX4_deriveKey_28 : decode cX4_deriveKey 28 = .ok (.getfield 32, 3) := by decide +kernel
theorem dX4_deriveKey_31 : decode cX4_deriveKey 31 = .ok (.invokevirtual 101, 3) := by decide +kernel
theorem dX4_deriveKey_34 : decode cX4_deriveKey 34 = .ok (.aload_n 0, 1) := by decide +kernel
theorem dX4_deriveKey_35 : decode cX4_deriveKey 35 = .ok (.getfield 32, 3) := by decide +kernel
theorem dX4_deriveKey_38 : decode cX4_deriveKey 38 = .ok (.getfield 104, 3) := by decide +kernel
theorem dX4_deriveKey_41 : decode cX4_deriveKey 41 = .ok (.invokevirtual 190, 3) := by decide +kernel
theorem dX4_deriveKey_44 : decode cX4_deriveKey 44 = .ok (.aload_n 0, 1) := by decide +kernel
theorem dX4_deriveKey_45 : decode cX4_deriveKey 45 = .ok (.getfield 32, 3) := by decide +kernel
theorem dX4_deriveKey_48 : decode cX4_deriveKey 48 = .ok (.getfield 104, 3) := by decide +kernel
theorem dX4_deriveKey_51 : decode cX4_deriveKey 51 = .ok (.invokevirtual 171, 3) := by decide +kernel
theorem dX4_deriveKey_54 : decode cX4_deriveKey 54 = .ok (.aload_n 0, 1) := by decide +kernel
theorem dX4_deriveKey_55 : decode cX4_deriveKey 55 = .ok (.getfield 32, 3) := by decide +kernel
theorem dX4_deriveKey_58 : decode cX4_deriveKey 58 = .ok (.getfield 104, 3) := by decide +kernel
theorem dX4_deriveKey_61 : decode cX4_deriveKey 61 = .ok (.aload_n 0, 1) := by decide +kernel
theorem dX4_deriveKey_62 : decode cX4_deriveKey 62 = .ok (.getfield 43, 3) := by decide +kernel
theorem dX4_deriveKey_65 : decode cX4_deriveKey 65 = .ok (.iconst 0, 1) := by decide +kernel
theorem dX4_deriveKey_66 : decode cX4_deriveKey 66 = .ok (.invokevirtual 174, 3) := by decide +kernel
theorem dX4_deriveKey_69 : decode cX4_deriveKey 69 = .ok (.return_, 1) := by decide +kernel
set_option maxRecDepth 20000 in
theorem ggX4_prepareTree_X1_restart : GoodIn wsX4_prepareTree wsX1_restart := goodIn_r _ [7, 8, 9, 10, 11, 12, 13, 14, 15, 16, 6, 17, 18, 19, 20, 21, 22, 23, 24, 25, 26, 27, 28, 29, 113, 114, 115, 116, 117, 118, 119, 120, 121, 122, 123, 124, 125] (by decide +kernel) (by decide +kernel)
set_option maxRecDepth 20000 in
theorem gX4_prepareTree_X1_restart : GoodIn wsX4_prepareTree (wsV RX4 76 RX1 yX1_restart wsX1_restart) := goodIn_app (goodIn_of _ (by decide +kernel)) ggX4_prepareTree_X1_restart
set_option maxRecDepth 20000 in
theorem ggX4_prepareTree_X1_absorb : GoodIn wsX4_prepareTree wsX1_absorb := goodIn_r _ [33, 34, 35, 36, 37, 38, 39, 40, 41, 42, 43, 6, 44, 29, 23, 28, 12, 45, 46, 47, 48, 49, 13, 14, 50, 8, 10, 51, 52, 53, 54, 22, 11, 55, 56, 57, 58, 59, 60, 61, 62, 63, 64, 65, 66, 67, 68, 69, 70, 71, 72, 73, 74, 75, 76, 77, 78, 79, 80, 81, 82, 83, 84, 85, 86, 87, 88, 89, 90, 91, 92, 93, 94, 95, 96, 97, 18, 19, 20, 21, 15, 16, 17, 24, 25, 26, 27, 98, 99, 100, 101, 126, 127, 113, 114, 115, 116, 117, 118, 119, 120, 121, 122, 123, 124, 125, 128, 129, 130, 131, 132, 133, 134, 135] (by decide +kernel) (by decide +kernel)
set_option maxRecDepth 20000 in
theorem gX4_prepareTree_X1_absorb : GoodIn wsX4_prepareTree (wsV RX4 92 RX1 yX1_absorb wsX1_absorb) := goodIn_app (goodIn_of _ (by decide +kernel)) ggX4_prepareTree_X1_absorb
set_option maxRecDepth 20000 in
theorem ggX4_prepareTree_X1_prepareLast : GoodIn wsX4_prepareTree wsX1_prepareLast := goodIn_r _ [105, 14, 49, 50, 8, 10, 51, 52, 53, 6, 54, 23, 22, 28, 11, 13, 29, 55, 56, 57, 58, 59, 60, 61, 62, 63, 64, 65, 66, 67, 68, 69, 70, 71, 72, 73, 74, 75, 76, 77, 78, 79, 80, 81, 82, 83, 84, 85, 86, 87, 88, 89, 90, 91, 92, 93, 113, 114, 115, 116, 117, 118, 119, 120, 121, 122, 123, 124, 125, 128, 129, 130, 131, 132, 133, 134, 135] (by decide +kernel) (by decide +kernel)
set_option maxRecDepth 20000 in
theorem gX4_prepareTree_X1_prepareLast : GoodIn wsX4_prepareTree (wsV RX4 101 RX1 yX1_prepareLast wsX1_prepareLast) := goodIn_app (goodIn_of _ (by decide +kernel)) ggX4_prepareTree_X1_prepareLast
theorem dX4_prepareTree_0 : decode cX4_prepareTree 0 = .ok (.aload_n 0, 1) := by decide +kernel
theorem dX4_prepareTree_1 : decode cX4_prepareTree 1 = .ok (.getfield 32, 3) := by decide +kernel
theorem dX4_prepareTree_4 : decode cX4_prepareTree 4 = .ok (.iconst 0, 1) := by decide +kernel
theorem dX4_prepareTree_5 : decode cX4_prepareTree 5 = .ok (.iconst 0, 1) := by decide +kernel
theorem dX4_prepareTree_6 : decode cX4_prepareTree 6 = .ok (.getstatic 71, 3) := by decide +kernel
theorem dX4_prepareTree_9 : decode cX4_prepareTree 9 = .ok (.iload 4, 2) := by decide +kernel
theorem dX4_prepareTree_11 : decode cX4_prepareTree 11 = .ok (.invokevirtual 76, 3) := by decide +kernel
theorem dX4_prepareTree_14 : decode cX4_prepareTree 14 = .ok (.aload_n 0, 1) := by decide +kernel
theorem dX4_prepareTree_15 : decode cX4_prepareTree 15 = .ok (.getfield 32, 3) := by decide +kernel
theorem dX4_prepareTree_18 : decode cX4_prepareTree 18 = .ok (.aload_n 1, 1) := by decide +kernel
theorem dX4_prepareTree_19 : decode cX4_prepareTree 19 = .ok (.iload_n 2, 1) := by decide +kernel
theorem dX4_prepareTree_20 : decode cX4_prepareTree 20 = .ok (.iload_n 3, 1) := by decide +kernel
theorem dX4_prepareTree_21 : decode cX4_prepareTree 21 = .ok (.invokevirtual 92, 3) := by decide +kernel
theorem dX4_prepareTree_24 : decode cX4_prepareTree 24 = .ok (.aload_n 0, 1) := by decide +kernel
theorem dX4_prepareTree_25 : decode cX4_prepareTree 25 = .ok (.getfield 32, 3) := by decide +kernel
theorem dX4_prepareTree_28 : decode cX4_prepareTree 28 = .ok (.invokevirtual 101, 3) := by decide +kernel
theorem dX4_prepareTree_31 : decode cX4_prepareTree 31 = .ok (.return_, 1) := by decide +kernel
set_option maxRecDepth 20000 in
theorem ggX4_climb_X0_readChain : GoodIn wsX4_climb wsX0_readChain := goodIn_r _ [10, 11, 12, 13, 9, 14, 15, 16, 17, 18, 19, 20, 86, 87] (by decide +kernel) (by decide +kernel)
set_option maxRecDepth 20000 in
theorem gX4_climb_X0_readChain : GoodIn wsX4_climb (wsV RX4 80 RX0 yX0_readChain wsX0_readChain) := goodIn_app (goodIn_of _ (by decide +kernel)) ggX4_climb_X0_readChain
set_option maxRecDepth 20000 in
theorem ggX4_climb_X2_run : GoodIn wsX4_climb wsX2_run := goodIn_r _ [25, 26, 27, 28, 29, 30, 31, 24, 32, 33, 34, 35, 36, 37, 38, 39, 40, 41, 42, 43, 44, 45, 46, 47, 88, 89, 90, 91, 92, 93, 94, 95] (by decide +kernel) (by decide +kernel)
set_option maxRecDepth 20000 in
theorem gX4_climb_X2_run : GoodIn wsX4_climb (wsV RX4 171 RX2 yX2_run wsX2_run) := goodIn_app (goodIn_of _ (by decide +kernel)) ggX4_climb_X2_run
set_option maxRecDepth 20000 in
theorem ggX4_climb_X2_joinBehind : GoodIn wsX4_climb wsX2_joinBehind := goodIn_r _ [51, 37, 27, 52, 53, 24, 54, 55, 56, 57, 58, 28, 34, 35, 36, 88, 89, 90, 91, 92, 93, 94, 95] (by decide +kernel) (by decide +kernel)
set_option maxRecDepth 20000 in
theorem gX4_climb_X2_joinBehind : GoodIn wsX4_climb (wsV RX4 193 RX2 yX2_joinBehind wsX2_joinBehind) := goodIn_app (goodIn_of _ (by decide +kernel)) ggX4_climb_X2_joinBehind
set_option maxRecDepth 20000 in
theorem ggX4_climb_X2_joinBefore : GoodIn wsX4_climb wsX2_joinBefore := goodIn_r _ [62, 37, 27, 52, 53, 24, 54, 55, 56, 57, 58, 28, 34, 35, 36, 88, 89, 90, 91, 92, 93, 94, 95] (by decide +kernel) (by decide +kernel)
set_option maxRecDepth 20000 in
theorem gX4_climb_X2_joinBefore : GoodIn wsX4_climb (wsV RX4 197 RX2 yX2_joinBefore wsX2_joinBefore) := goodIn_app (goodIn_of _ (by decide +kernel)) ggX4_climb_X2_joinBefore
theorem dX4_climb_0 : decode cX4_climb 0 = .ok (.aload_n 0, 1) := by decide +kernel
theorem dX4_climb_1 : decode cX4_climb 1 = .ok (.getfield 39, 3) := by decide +kernel
theorem dX4_climb_4 : decode cX4_climb 4 = .ok (.getfield 157, 3) := by decide +kernel
theorem dX4_climb_7 : decode cX4_climb 7 = .ok (.iconst 1, 1) := by decide +kernel
theorem dX4_climb_8 : decode cX4_climb 8 = .ok (.isub, 1) := by decide +kernel
theorem dX4_climb_9 : decode cX4_climb 9 = .ok (.istore_n 3, 1) := by decide +kernel
theorem dX4_climb_10 : decode cX4_climb 10 = .ok (.iload_n 3, 1) := by decide +kernel
theorem dX4_climb_11 : decode cX4_climb 11 = .ok (.ifCond .lt 89, 3) := by decide +kernel
theorem dX4_climb_14 : decode cX4_climb 14 = .ok (.aload_n 0, 1) := by decide +kernel
theorem dX4_climb_15 : decode cX4_climb 15 = .ok (.getfield 28, 3) := by decide +kernel
theorem dX4_climb_18 : decode cX4_climb 18 = .ok (.iload_n 1, 1) := by decide +kernel
theorem dX4_climb_19 : decode cX4_climb 19 = .ok (.iload_n 3, 1) := by decide +kernel
theorem dX4_climb_20 : decode cX4_climb 20 = .ok (.bipush 32, 2) := by decide +kernel
theorem dX4_climb_22 : decode cX4_climb 22 = .ok (.imul, 1) := by decide +kernel
theorem dX4_climb_23 : decode cX4_climb 23 = .ok (.iadd, 1) := by decide +kernel
theorem dX4_climb_24 : decode cX4_climb 24 = .ok (.aload_n 0, 1) := by decide +kernel
theorem dX4_climb_25 : decode cX4_climb 25 = .ok (.getfield 43, 3) := by decide +kernel
theorem dX4_climb_28 : decode cX4_climb 28 = .ok (.invokevirtual 80, 3) := by decide +kernel
theorem dX4_climb_31 : decode cX4_climb 31 = .ok (.aload_n 0, 1) := by decide +kernel
theorem dX4_climb_32 : decode cX4_climb 32 = .ok (.getfield 32, 3) := by decide +kernel
theorem dX4_climb_35 : decode cX4_climb 35 = .ok (.getfield 104, 3) := by decide +kernel
theorem dX4_climb_38 : decode cX4_climb 38 = .ok (.invokevirtual 171, 3) := by decide +kernel
theorem dX4_climb_41 : decode cX4_climb 41 = .ok (.aload_n 0, 1) := by decide +kernel
theorem dX4_climb_42 : decode cX4_climb 42 = .ok (.getfield 39, 3) := by decide +kernel
theorem dX4_climb_45 : decode cX4_climb 45 = .ok (.getfield 160, 3) := by decide +kernel
theorem dX4_climb_48 : decode cX4_climb 48 = .ok (.iload_n 3, 1) := by decide +kernel
theorem dX4_climb_49 : decode cX4_climb 49 = .ok (.iaload, 1) := by decide +kernel
theorem dX4_climb_50 : decode cX4_climb 50 = .ok (.iload_n 2, 1) := by decide +kernel
theorem dX4_climb_51 : decode cX4_climb 51 = .ok (.if_icmp .ge 25, 3) := by decide +kernel
theorem dX4_climb_54 : decode cX4_climb 54 = .ok (.aload_n 0, 1) := by decide +kernel
theorem dX4_climb_55 : decode cX4_climb 55 = .ok (.getfield 32, 3) := by decide +kernel
theorem dX4_climb_58 : decode cX4_climb 58 = .ok (.getfield 104, 3) := by decide +kernel
theorem dX4_climb_61 : decode cX4_climb 61 = .ok (.aload_n 0, 1) := by decide +kernel
theorem dX4_climb_62 : decode cX4_climb 62 = .ok (.getfield 43, 3) := by decide +kernel
theorem dX4_climb_65 : decode cX4_climb 65 = .ok (.iconst 0, 1) := by decide +kernel
theorem dX4_climb_66 : decode cX4_climb 66 = .ok (.getstatic 71, 3) := by decide +kernel
theorem dX4_climb_69 : decode cX4_climb 69 = .ok (.iconst 0, 1) := by decide +kernel
theorem dX4_climb_70 : decode cX4_climb 70 = .ok (.invokevirtual 193, 3) := by decide +kernel
theorem dX4_climb_73 : decode cX4_climb 73 = .ok (.goto 21, 3) := by decide +kernel
theorem dX4_climb_76 : decode cX4_climb 76 = .ok (.aload_n 0, 1) := by decide +kernel
theorem dX4_climb_77 : decode cX4_climb 77 = .ok (.getfield 32, 3) := by decide +kernel
theorem dX4_climb_80 : decode cX4_climb 80 = .ok (.getfield 104, 3) := by decide +kernel
theorem dX4_climb_83 : decode cX4_climb 83 = .ok (.aload_n 0, 1) := by decide +kernel
theorem dX4_climb_84 : decode cX4_climb 84 = .ok (.getfield 43, 3) := by decide +kernel
theorem dX4_climb_87 : decode cX4_climb 87 = .ok (.getstatic 71, 3) := by decide +kernel
theorem dX4_climb_90 : decode cX4_climb 90 = .ok (.iconst 0, 1) := by decide +kernel
theorem dX4_climb_91 : decode cX4_climb 91 = .ok (.invokevirtual 197, 3) := by decide +kernel
theorem dX4_climb_94 : decode cX4_climb 94 = .ok (.iinc 3 (-1), 3) := by decide +kernel
theorem dX4_climb_97 : decode cX4_climb 97 = .ok (.goto (-87), 3) := by decide +kernel
theorem dX4_climb_100 : decode cX4_climb 100 = .ok (.return_, 1) := by decide +kernel
