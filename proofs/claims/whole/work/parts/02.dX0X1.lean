theorem dX0_init_0 : decode cX0_init 0 = .ok (.aload_n 0, 1) := by decide +kernel
theorem dX0_init_1 : decode cX0_init 1 = .ok (.invokespecial 3, 3) := by decide +kernel
theorem dX0_init_4 : decode cX0_init 4 = .ok (.aload_n 0, 1) := by decide +kernel
theorem dX0_init_5 : decode cX0_init 5 = .ok (.iconst 0, 1) := by decide +kernel
theorem dX0_init_6 : decode cX0_init 6 = .ok (.iload_n 1, 1) := by decide +kernel
theorem dX0_init_7 : decode cX0_init 7 = .ok (.invokestatic 9, 3) := by decide +kernel
theorem dX0_init_10 : decode cX0_init 10 = .ok (.newarray .byte, 2) := by decide +kernel
theorem dX0_init_12 : decode cX0_init 12 = .ok (.putfield 15, 3) := by decide +kernel
theorem dX0_init_15 : decode cX0_init 15 = .ok (.return_, 1) := by decide +kernel
theorem dX0_hasRoomFor_0 : decode cX0_hasRoomFor 0 = .ok (.iload_n 1, 1) := by decide +kernel
theorem dX0_hasRoomFor_1 : decode cX0_hasRoomFor 1 = .ok (.aload_n 0, 1) := by decide +kernel
theorem dX0_hasRoomFor_2 : decode cX0_hasRoomFor 2 = .ok (.getfield 15, 3) := by decide +kernel
theorem dX0_hasRoomFor_5 : decode cX0_hasRoomFor 5 = .ok (.arraylength, 1) := by decide +kernel
theorem dX0_hasRoomFor_6 : decode cX0_hasRoomFor 6 = .ok (.aload_n 0, 1) := by decide +kernel
theorem dX0_hasRoomFor_7 : decode cX0_hasRoomFor 7 = .ok (.getfield 21, 3) := by decide +kernel
theorem dX0_hasRoomFor_10 : decode cX0_hasRoomFor 10 = .ok (.isub, 1) := by decide +kernel
theorem dX0_hasRoomFor_11 : decode cX0_hasRoomFor 11 = .ok (.if_icmp .gt 7, 3) := by decide +kernel
theorem dX0_hasRoomFor_14 : decode cX0_hasRoomFor 14 = .ok (.iconst 1, 1) := by decide +kernel
theorem dX0_hasRoomFor_15 : decode cX0_hasRoomFor 15 = .ok (.goto 4, 3) := by decide +kernel
theorem dX0_hasRoomFor_18 : decode cX0_hasRoomFor 18 = .ok (.iconst 0, 1) := by decide +kernel
theorem dX0_hasRoomFor_19 : decode cX0_hasRoomFor 19 = .ok (.ireturn, 1) := by decide +kernel
theorem dX0_byteAt_0 : decode cX0_byteAt 0 = .ok (.iload_n 1, 1) := by decide +kernel
theorem dX0_byteAt_1 : decode cX0_byteAt 1 = .ok (.ifCond .lt 24, 3) := by decide +kernel
theorem dX0_byteAt_4 : decode cX0_byteAt 4 = .ok (.iload_n 1, 1) := by decide +kernel
theorem dX0_byteAt_5 : decode cX0_byteAt 5 = .ok (.aload_n 0, 1) := by decide +kernel
theorem dX0_byteAt_6 : decode cX0_byteAt 6 = .ok (.getfield 21, 3) := by decide +kernel
theorem dX0_byteAt_9 : decode cX0_byteAt 9 = .ok (.if_icmp .ge 16, 3) := by decide +kernel
theorem dX0_byteAt_12 : decode cX0_byteAt 12 = .ok (.aload_n 0, 1) := by decide +kernel
theorem dX0_byteAt_13 : decode cX0_byteAt 13 = .ok (.getfield 15, 3) := by decide +kernel
theorem dX0_byteAt_16 : decode cX0_byteAt 16 = .ok (.iload_n 1, 1) := by decide +kernel
theorem dX0_byteAt_17 : decode cX0_byteAt 17 = .ok (.baload, 1) := by decide +kernel
theorem dX0_byteAt_18 : decode cX0_byteAt 18 = .ok (.sipush 255, 3) := by decide +kernel
theorem dX0_byteAt_21 : decode cX0_byteAt 21 = .ok (.iand, 1) := by decide +kernel
theorem dX0_byteAt_22 : decode cX0_byteAt 22 = .ok (.goto 4, 3) := by decide +kernel
theorem dX0_byteAt_25 : decode cX0_byteAt 25 = .ok (.iconst (-1), 1) := by decide +kernel
theorem dX0_byteAt_26 : decode cX0_byteAt 26 = .ok (.ireturn, 1) := by decide +kernel
theorem dX0_append_0 : decode cX0_append 0 = .ok (.aload_n 0, 1) := by decide +kernel
theorem dX0_append_1 : decode cX0_append 1 = .ok (.getfield 21, 3) := by decide +kernel
theorem dX0_append_4 : decode cX0_append 4 = .ok (.aload_n 0, 1) := by decide +kernel
theorem dX0_append_5 : decode cX0_append 5 = .ok (.getfield 15, 3) := by decide +kernel
theorem dX0_append_8 : decode cX0_append 8 = .ok (.arraylength, 1) := by decide +kernel
theorem dX0_append_9 : decode cX0_append 9 = .ok (.if_icmp .ge 24, 3) := by decide +kernel
theorem dX0_append_12 : decode cX0_append 12 = .ok (.aload_n 0, 1) := by decide +kernel
theorem dX0_append_13 : decode cX0_append 13 = .ok (.getfield 15, 3) := by decide +kernel
theorem dX0_append_16 : decode cX0_append 16 = .ok (.aload_n 0, 1) := by decide +kernel
theorem dX0_append_17 : decode cX0_append 17 = .ok (.getfield 21, 3) := by decide +kernel
theorem dX0_append_20 : decode cX0_append 20 = .ok (.iload_n 1, 1) := by decide +kernel
theorem dX0_append_21 : decode cX0_append 21 = .ok (.i2b, 1) := by decide +kernel
theorem dX0_append_22 : decode cX0_append 22 = .ok (.bastore, 1) := by decide +kernel
theorem dX0_append_23 : decode cX0_append 23 = .ok (.aload_n 0, 1) := by decide +kernel
theorem dX0_append_24 : decode cX0_append 24 = .ok (.dup, 1) := by decide +kernel
theorem dX0_append_25 : decode cX0_append 25 = .ok (.getfield 21, 3) := by decide +kernel
theorem dX0_append_28 : decode cX0_append 28 = .ok (.iconst 1, 1) := by decide +kernel
theorem dX0_append_29 : decode cX0_append 29 = .ok (.iadd, 1) := by decide +kernel
theorem dX0_append_30 : decode cX0_append 30 = .ok (.putfield 21, 3) := by decide +kernel
theorem dX0_append_33 : decode cX0_append 33 = .ok (.return_, 1) := by decide +kernel
set_option maxRecDepth 20000 in
theorem ggX0_appendChain_X0_append : GoodIn wsX0_appendChain wsX0_append := goodIn_r _ [5, 6, 7, 8, 9] (by decide +kernel) (by decide +kernel)
set_option maxRecDepth 20000 in
theorem gX0_appendChain_X0_append : GoodIn wsX0_appendChain (wsV RX0 25 RX0 yX0_append wsX0_append) := goodIn_app (goodIn_of _ (by decide +kernel)) ggX0_appendChain_X0_append
theorem dX0_appendChain_0 : decode cX0_appendChain 0 = .ok (.iconst 0, 1) := by decide +kernel
theorem dX0_appendChain_1 : decode cX0_appendChain 1 = .ok (.istore_n 2, 1) := by decide +kernel
theorem dX0_appendChain_2 : decode cX0_appendChain 2 = .ok (.iload_n 2, 1) := by decide +kernel
theorem dX0_appendChain_3 : decode cX0_appendChain 3 = .ok (.iconst 4, 1) := by decide +kernel
theorem dX0_appendChain_4 : decode cX0_appendChain 4 = .ok (.aload_n 1, 1) := by decide +kernel
theorem dX0_appendChain_5 : decode cX0_appendChain 5 = .ok (.arraylength, 1) := by decide +kernel
theorem dX0_appendChain_6 : decode cX0_appendChain 6 = .ok (.imul, 1) := by decide +kernel
theorem dX0_appendChain_7 : decode cX0_appendChain 7 = .ok (.if_icmp .ge 25, 3) := by decide +kernel
theorem dX0_appendChain_10 : decode cX0_appendChain 10 = .ok (.aload_n 0, 1) := by decide +kernel
theorem dX0_appendChain_11 : decode cX0_appendChain 11 = .ok (.aload_n 1, 1) := by decide +kernel
theorem dX0_appendChain_12 : decode cX0_appendChain 12 = .ok (.iload_n 2, 1) := by decide +kernel
theorem dX0_appendChain_13 : decode cX0_appendChain 13 = .ok (.iconst 2, 1) := by decide +kernel
theorem dX0_appendChain_14 : decode cX0_appendChain 14 = .ok (.ishr, 1) := by decide +kernel
theorem dX0_appendChain_15 : decode cX0_appendChain 15 = .ok (.iaload, 1) := by decide +kernel
theorem dX0_appendChain_16 : decode cX0_appendChain 16 = .ok (.bipush 8, 2) := by decide +kernel
theorem dX0_appendChain_18 : decode cX0_appendChain 18 = .ok (.iload_n 2, 1) := by decide +kernel
theorem dX0_appendChain_19 : decode cX0_appendChain 19 = .ok (.iconst 3, 1) := by decide +kernel
theorem dX0_appendChain_20 : decode cX0_appendChain 20 = .ok (.iand, 1) := by decide +kernel
theorem dX0_appendChain_21 : decode cX0_appendChain 21 = .ok (.imul, 1) := by decide +kernel
theorem dX0_appendChain_22 : decode cX0_appendChain 22 = .ok (.iushr, 1) := by decide +kernel
theorem dX0_appendChain_23 : decode cX0_appendChain 23 = .ok (.invokevirtual 25, 3) := by decide +kernel
theorem dX0_appendChain_26 : decode cX0_appendChain 26 = .ok (.iinc 2 1, 3) := by decide +kernel
theorem dX0_appendChain_29 : decode cX0_appendChain 29 = .ok (.goto (-27), 3) := by decide +kernel
theorem dX0_appendChain_32 : decode cX0_appendChain 32 = .ok (.return_, 1) := by decide +kernel
set_option maxRecDepth 20000 in
theorem ggX0_appendFrom_X0_byteAt : GoodIn wsX0_appendFrom wsX0_byteAt := goodIn_r _ [5, 6, 7, 12, 13] (by decide +kernel) (by decide +kernel)
set_option maxRecDepth 20000 in
theorem gX0_appendFrom_X0_byteAt : GoodIn wsX0_appendFrom (wsV RX0 29 RX0 yX0_byteAt wsX0_byteAt) := goodIn_app (goodIn_of _ (by decide +kernel)) ggX0_appendFrom_X0_byteAt
set_option maxRecDepth 20000 in
theorem ggX0_appendFrom_X0_append : GoodIn wsX0_appendFrom wsX0_append := goodIn_r _ [11, 6, 7, 12, 13] (by decide +kernel) (by decide +kernel)
set_option maxRecDepth 20000 in
theorem gX0_appendFrom_X0_append : GoodIn wsX0_appendFrom (wsV RX0 25 RX0 yX0_append wsX0_append) := goodIn_app (goodIn_of _ (by decide +kernel)) ggX0_appendFrom_X0_append
theorem dX0_appendFrom_0 : decode cX0_appendFrom 0 = .ok (.iconst 0, 1) := by decide +kernel
theorem dX0_appendFrom_1 : decode cX0_appendFrom 1 = .ok (.istore 4, 2) := by decide +kernel
theorem dX0_appendFrom_3 : decode cX0_appendFrom 3 = .ok (.iload 4, 2) := by decide +kernel
theorem dX0_appendFrom_5 : decode cX0_appendFrom 5 = .ok (.iload_n 3, 1) := by decide +kernel
theorem dX0_appendFrom_6 : decode cX0_appendFrom 6 = .ok (.if_icmp .ge 21, 3) := by decide +kernel
theorem dX0_appendFrom_9 : decode cX0_appendFrom 9 = .ok (.aload_n 0, 1) := by decide +kernel
theorem dX0_appendFrom_10 : decode cX0_appendFrom 10 = .ok (.aload_n 1, 1) := by decide +kernel
theorem dX0_appendFrom_11 : decode cX0_appendFrom 11 = .ok (.iload_n 2, 1) := by decide +kernel
theorem dX0_appendFrom_12 : decode cX0_appendFrom 12 = .ok (.iload 4, 2) := by decide +kernel
theorem dX0_appendFrom_14 : decode cX0_appendFrom 14 = .ok (.iadd, 1) := by decide +kernel
theorem dX0_appendFrom_15 : decode cX0_appendFrom 15 = .ok (.invokevirtual 29, 3) := by decide +kernel
theorem dX0_appendFrom_18 : decode cX0_appendFrom 18 = .ok (.invokevirtual 25, 3) := by decide +kernel
theorem dX0_appendFrom_21 : decode cX0_appendFrom 21 = .ok (.iinc 4 1, 3) := by decide +kernel
theorem dX0_appendFrom_24 : decode cX0_appendFrom 24 = .ok (.goto (-21), 3) := by decide +kernel
theorem dX0_appendFrom_27 : decode cX0_appendFrom 27 = .ok (.return_, 1) := by decide +kernel
theorem dX0_keepFirst_0 : decode cX0_keepFirst 0 = .ok (.iload_n 1, 1) := by decide +kernel
theorem dX0_keepFirst_1 : decode cX0_keepFirst 1 = .ok (.ifCond .lt 11, 3) := by decide +kernel
theorem dX0_keepFirst_4 : decode cX0_keepFirst 4 = .ok (.iload_n 1, 1) := by decide +kernel
theorem dX0_keepFirst_5 : decode cX0_keepFirst 5 = .ok (.aload_n 0, 1) := by decide +kernel
theorem dX0_keepFirst_6 : decode cX0_keepFirst 6 = .ok (.getfield 21, 3) := by decide +kernel
theorem dX0_keepFirst_9 : decode cX0_keepFirst 9 = .ok (.if_icmp .le 6, 3) := by decide +kernel
theorem dX0_keepFirst_12 : decode cX0_keepFirst 12 = .ok (.bipush (-2), 2) := by decide +kernel
theorem dX0_keepFirst_14 : decode cX0_keepFirst 14 = .ok (.ireturn, 1) := by decide +kernel
theorem dX0_keepFirst_15 : decode cX0_keepFirst 15 = .ok (.aload_n 0, 1) := by decide +kernel
theorem dX0_keepFirst_16 : decode cX0_keepFirst 16 = .ok (.getfield 21, 3) := by decide +kernel
theorem dX0_keepFirst_19 : decode cX0_keepFirst 19 = .ok (.iload_n 1, 1) := by decide +kernel
theorem dX0_keepFirst_20 : decode cX0_keepFirst 20 = .ok (.isub, 1) := by decide +kernel
theorem dX0_keepFirst_21 : decode cX0_keepFirst 21 = .ok (.istore_n 2, 1) := by decide +kernel
theorem dX0_keepFirst_22 : decode cX0_keepFirst 22 = .ok (.aload_n 0, 1) := by decide +kernel
theorem dX0_keepFirst_23 : decode cX0_keepFirst 23 = .ok (.iload_n 1, 1) := by decide +kernel
theorem dX0_keepFirst_24 : decode cX0_keepFirst 24 = .ok (.putfield 21, 3) := by decide +kernel
theorem dX0_keepFirst_27 : decode cX0_keepFirst 27 = .ok (.iload_n 2, 1) := by decide +kernel
theorem dX0_keepFirst_28 : decode cX0_keepFirst 28 = .ok (.ireturn, 1) := by decide +kernel
theorem dX0_change_0 : decode cX0_change 0 = .ok (.iload_n 1, 1) := by decide +kernel
theorem dX0_change_1 : decode cX0_change 1 = .ok (.ifCond .lt 22, 3) := by decide +kernel
theorem dX0_change_4 : decode cX0_change 4 = .ok (.iload_n 1, 1) := by decide +kernel
theorem dX0_change_5 : decode cX0_change 5 = .ok (.aload_n 0, 1) := by decide +kernel
theorem dX0_change_6 : decode cX0_change 6 = .ok (.getfield 21, 3) := by decide +kernel
theorem dX0_change_9 : decode cX0_change 9 = .ok (.if_icmp .ge 14, 3) := by decide +kernel
theorem dX0_change_12 : decode cX0_change 12 = .ok (.iload_n 2, 1) := by decide +kernel
theorem dX0_change_13 : decode cX0_change 13 = .ok (.ifCond .lt 10, 3) := by decide +kernel
theorem dX0_change_16 : decode cX0_change 16 = .ok (.iload_n 2, 1) := by decide +kernel
theorem dX0_change_17 : decode cX0_change 17 = .ok (.sipush 255, 3) := by decide +kernel
theorem dX0_change_20 : decode cX0_change 20 = .ok (.if_icmp .le 6, 3) := by decide +kernel
theorem dX0_change_23 : decode cX0_change 23 = .ok (.bipush (-2), 2) := by decide +kernel
theorem dX0_change_25 : decode cX0_change 25 = .ok (.ireturn, 1) := by decide +kernel
theorem dX0_change_26 : decode cX0_change 26 = .ok (.aload_n 0, 1) := by decide +kernel
theorem dX0_change_27 : decode cX0_change 27 = .ok (.getfield 15, 3) := by decide +kernel
theorem dX0_change_30 : decode cX0_change 30 = .ok (.iload_n 1, 1) := by decide +kernel
theorem dX0_change_31 : decode cX0_change 31 = .ok (.aload_n 0, 1) := by decide +kernel
theorem dX0_change_32 : decode cX0_change 32 = .ok (.getfield 15, 3) := by decide +kernel
theorem dX0_change_35 : decode cX0_change 35 = .ok (.iload_n 1, 1) := by decide +kernel
theorem dX0_change_36 : decode cX0_change 36 = .ok (.baload, 1) := by decide +kernel
theorem dX0_change_37 : decode cX0_change 37 = .ok (.iload_n 2, 1) := by decide +kernel
theorem dX0_change_38 : decode cX0_change 38 = .ok (.ixor, 1) := by decide +kernel
theorem dX0_change_39 : decode cX0_change 39 = .ok (.i2b, 1) := by decide +kernel
theorem dX0_change_40 : decode cX0_change 40 = .ok (.bastore, 1) := by decide +kernel
theorem dX0_change_41 : decode cX0_change 41 = .ok (.aload_n 0, 1) := by decide +kernel
theorem dX0_change_42 : decode cX0_change 42 = .ok (.getfield 15, 3) := by decide +kernel
theorem dX0_change_45 : decode cX0_change 45 = .ok (.iload_n 1, 1) := by decide +kernel
theorem dX0_change_46 : decode cX0_change 46 = .ok (.baload, 1) := by decide +kernel
theorem dX0_change_47 : decode cX0_change 47 = .ok (.sipush 255, 3) := by decide +kernel
theorem dX0_change_50 : decode cX0_change 50 = .ok (.iand, 1) := by decide +kernel
theorem dX0_change_51 : decode cX0_change 51 = .ok (.ireturn, 1) := by decide +kernel
set_option maxRecDepth 20000 in
theorem ggX0_readChain_X0_wordAt : GoodIn wsX0_readChain wsX0_wordAt := goodIn_r _ [5, 6, 7, 8, 4, 9, 10, 11, 12, 13] (by decide +kernel) (by decide +kernel)
set_option maxRecDepth 20000 in
theorem gX0_readChain_X0_wordAt : GoodIn wsX0_readChain (wsV RX0 33 RX0 yX0_wordAt wsX0_wordAt) := goodIn_app (goodIn_of _ (by decide +kernel)) ggX0_readChain_X0_wordAt
theorem dX0_readChain_0 : decode cX0_readChain 0 = .ok (.iconst 0, 1) := by decide +kernel
theorem dX0_readChain_1 : decode cX0_readChain 1 = .ok (.istore_n 3, 1) := by decide +kernel
theorem dX0_readChain_2 : decode cX0_readChain 2 = .ok (.iload_n 3, 1) := by decide +kernel
theorem dX0_readChain_3 : decode cX0_readChain 3 = .ok (.bipush 8, 2) := by decide +kernel
theorem dX0_readChain_5 : decode cX0_readChain 5 = .ok (.if_icmp .ge 27, 3) := by decide +kernel
theorem dX0_readChain_8 : decode cX0_readChain 8 = .ok (.iload_n 3, 1) := by decide +kernel
theorem dX0_readChain_9 : decode cX0_readChain 9 = .ok (.aload_n 2, 1) := by decide +kernel
theorem dX0_readChain_10 : decode cX0_readChain 10 = .ok (.arraylength, 1) := by decide +kernel
theorem dX0_readChain_11 : decode cX0_readChain 11 = .ok (.if_icmp .ge 21, 3) := by decide +kernel
theorem dX0_readChain_14 : decode cX0_readChain 14 = .ok (.aload_n 2, 1) := by decide +kernel
theorem dX0_readChain_15 : decode cX0_readChain 15 = .ok (.iload_n 3, 1) := by decide +kernel
theorem dX0_readChain_16 : decode cX0_readChain 16 = .ok (.aload_n 0, 1) := by decide +kernel
theorem dX0_readChain_17 : decode cX0_readChain 17 = .ok (.iload_n 1, 1) := by decide +kernel
theorem dX0_readChain_18 : decode cX0_readChain 18 = .ok (.iconst 4, 1) := by decide +kernel
theorem dX0_readChain_19 : decode cX0_readChain 19 = .ok (.iload_n 3, 1) := by decide +kernel
theorem dX0_readChain_20 : decode cX0_readChain 20 = .ok (.imul, 1) := by decide +kernel
theorem dX0_readChain_21 : decode cX0_readChain 21 = .ok (.iadd, 1) := by decide +kernel
theorem dX0_readChain_22 : decode cX0_readChain 22 = .ok (.invokevirtual 33, 3) := by decide +kernel
theorem dX0_readChain_25 : decode cX0_readChain 25 = .ok (.iastore, 1) := by decide +kernel
theorem dX0_readChain_26 : decode cX0_readChain 26 = .ok (.iinc 3 1, 3) := by decide +kernel
theorem dX0_readChain_29 : decode cX0_readChain 29 = .ok (.goto (-27), 3) := by decide +kernel
theorem dX0_readChain_32 : decode cX0_readChain 32 = .ok (.return_, 1) := by decide +kernel
set_option maxRecDepth 20000 in
theorem ggX0_wordAt_X0_byteAt : GoodIn wsX0_wordAt wsX0_byteAt := goodIn_r _ [5, 6, 7, 8, 9] (by decide +kernel) (by decide +kernel)
set_option maxRecDepth 20000 in
theorem gX0_wordAt_X0_byteAt : GoodIn wsX0_wordAt (wsV RX0 29 RX0 yX0_byteAt wsX0_byteAt) := goodIn_app (goodIn_of _ (by decide +kernel)) ggX0_wordAt_X0_byteAt
theorem dX0_wordAt_0 : decode cX0_wordAt 0 = .ok (.aload_n 0, 1) := by decide +kernel
theorem dX0_wordAt_1 : decode cX0_wordAt 1 = .ok (.iload_n 1, 1) := by decide +kernel
theorem dX0_wordAt_2 : decode cX0_wordAt 2 = .ok (.invokevirtual 29, 3) := by decide +kernel
theorem dX0_wordAt_5 : decode cX0_wordAt 5 = .ok (.aload_n 0, 1) := by decide +kernel
theorem dX0_wordAt_6 : decode cX0_wordAt 6 = .ok (.iload_n 1, 1) := by decide +kernel
theorem dX0_wordAt_7 : decode cX0_wordAt 7 = .ok (.iconst 1, 1) := by decide +kernel
theorem dX0_wordAt_8 : decode cX0_wordAt 8 = .ok (.iadd, 1) := by decide +kernel
theorem dX0_wordAt_9 : decode cX0_wordAt 9 = .ok (.invokevirtual 29, 3) := by decide +kernel
theorem dX0_wordAt_12 : decode cX0_wordAt 12 = .ok (.bipush 8, 2) := by decide +kernel
theorem dX0_wordAt_14 : decode cX0_wordAt 14 = .ok (.ishl, 1) := by decide +kernel
theorem dX0_wordAt_15 : decode cX0_wordAt 15 = .ok (.ior, 1) := by decide +kernel
theorem dX0_wordAt_16 : decode cX0_wordAt 16 = .ok (.aload_n 0, 1) := by decide +kernel
theorem dX0_wordAt_17 : decode cX0_wordAt 17 = .ok (.iload_n 1, 1) := by decide +kernel
theorem dX0_wordAt_18 : decode cX0_wordAt 18 = .ok (.iconst 2, 1) := by decide +kernel
theorem dX0_wordAt_19 : decode cX0_wordAt 19 = .ok (.iadd, 1) := by decide +kernel
theorem dX0_wordAt_20 : decode cX0_wordAt 20 = .ok (.invokevirtual 29, 3) := by decide +kernel
theorem dX0_wordAt_23 : decode cX0_wordAt 23 = .ok (.bipush 16, 2) := by decide +kernel
theorem dX0_wordAt_25 : decode cX0_wordAt 25 = .ok (.ishl, 1) := by decide +kernel
theorem dX0_wordAt_26 : decode cX0_wordAt 26 = .ok (.ior, 1) := by decide +kernel
theorem dX0_wordAt_27 : decode cX0_wordAt 27 = .ok (.aload_n 0, 1) := by decide +kernel
theorem dX0_wordAt_28 : decode cX0_wordAt 28 = .ok (.iload_n 1, 1) := by decide +kernel
theorem dX0_wordAt_29 : decode cX0_wordAt 29 = .ok (.iconst 3, 1) := by decide +kernel
theorem dX0_wordAt_30 : decode cX0_wordAt 30 = .ok (.iadd, 1) := by decide +kernel
theorem dX0_wordAt_31 : decode cX0_wordAt 31 = .ok (.invokevirtual 29, 3) := by decide +kernel
theorem dX0_wordAt_34 : decode cX0_wordAt 34 = .ok (.bipush 24, 2) := by decide +kernel
theorem dX0_wordAt_36 : decode cX0_wordAt 36 = .ok (.ishl, 1) := by decide +kernel
theorem dX0_wordAt_37 : decode cX0_wordAt 37 = .ok (.ior, 1) := by decide +kernel
theorem dX0_wordAt_38 : decode cX0_wordAt 38 = .ok (.ireturn, 1) := by decide +kernel
set_option maxRecDepth 20000 in
theorem ggX1_init_X2_init : GoodIn wsX1_init wsX2_init := goodIn_r _ [15, 16, 2, 3, 8, 17, 18, 19, 20, 21, 46, 47, 48, 49, 50, 51, 52, 53] (by decide +kernel) (by decide +kernel)
set_option maxRecDepth 20000 in
theorem gX1_init_X2_init_n13 : GoodIn wsX1_init (wsX2_init) := ggX1_init_X2_init
set_option maxRecDepth 20000 in
theorem ggX1_init_X1_restart : GoodIn wsX1_init wsX1_restart := goodIn_r _ [26, 9, 27, 28, 29, 30, 31, 32, 33, 34, 25, 35, 36, 37, 38, 39, 11, 40, 41, 42, 43, 44, 12, 45, 54, 55, 56, 57, 58, 59, 60, 61, 62, 63, 64, 65, 66] (by decide +kernel) (by decide +kernel)
set_option maxRecDepth 20000 in
theorem gX1_init_X1_restart : GoodIn wsX1_init (wsV RX1 34 RX1 yX1_restart wsX1_restart) := goodIn_app (goodIn_of _ (by decide +kernel)) ggX1_init_X1_restart
theorem dX1_init_0 : decode cX1_init 0 = .ok (.aload_n 0, 1) := by decide +kernel
theorem dX1_init_1 : decode cX1_init 1 = .ok (.invokespecial 5, 3) := by decide +kernel
theorem dX1_init_4 : decode cX1_init 4 = .ok (.aload_n 0, 1) := by decide +kernel
theorem dX1_init_5 : decode cX1_init 5 = .ok (.new 11, 3) := by decide +kernel
theorem dX1_init_8 : decode cX1_init 8 = .ok (.dup, 1) := by decide +kernel
theorem dX1_init_9 : decode cX1_init 9 = .ok (.invokespecial 13, 3) := by decide +kernel
theorem dX1_init_12 : decode cX1_init 12 = .ok (.putfield 14, 3) := by decide +kernel
theorem dX1_init_15 : decode cX1_init 15 = .ok (.aload_n 0, 1) := by decide +kernel
theorem dX1_init_16 : decode cX1_init 16 = .ok (.bipush 8, 2) := by decide +kernel
theorem dX1_init_18 : decode cX1_init 18 = .ok (.newarray .int, 2) := by decide +kernel
theorem dX1_init_20 : decode cX1_init 20 = .ok (.putfield 18, 3) := by decide +kernel
theorem dX1_init_23 : decode cX1_init 23 = .ok (.aload_n 0, 1) := by decide +kernel
theorem dX1_init_24 : decode cX1_init 24 = .ok (.bipush 40, 2) := by decide +kernel
theorem dX1_init_26 : decode cX1_init 26 = .ok (.newarray .int, 2) := by decide +kernel
theorem dX1_init_28 : decode cX1_init 28 = .ok (.putfield 22, 3) := by decide +kernel
theorem dX1_init_31 : decode cX1_init 31 = .ok (.aload_n 0, 1) := by decide +kernel
theorem dX1_init_32 : decode cX1_init 32 = .ok (.bipush 8, 2) := by decide +kernel
theorem dX1_init_34 : decode cX1_init 34 = .ok (.newarray .int, 2) := by decide +kernel
theorem dX1_init_36 : decode cX1_init 36 = .ok (.putfield 25, 3) := by decide +kernel
theorem dX1_init_39 : decode cX1_init 39 = .ok (.aload_n 0, 1) := by decide +kernel
theorem dX1_init_40 : decode cX1_init 40 = .ok (.bipush 16, 2) := by decide +kernel
theorem dX1_init_42 : decode cX1_init 42 = .ok (.newarray .int, 2) := by decide +kernel
theorem dX1_init_44 : decode cX1_init 44 = .ok (.putfield 28, 3) := by decide +kernel
theorem dX1_init_47 : decode cX1_init 47 = .ok (.aload_n 0, 1) := by decide +kernel
theorem dX1_init_48 : decode cX1_init 48 = .ok (.iconst 0, 1) := by decide +kernel
theorem dX1_init_49 : decode cX1_init 49 = .ok (.iconst 0, 1) := by decide +kernel
theorem dX1_init_50 : decode cX1_init 50 = .ok (.getstatic 31, 3) := by decide +kernel
theorem dX1_init_53 : decode cX1_init 53 = .ok (.iconst 0, 1) := by decide +kernel
theorem dX1_init_54 : decode cX1_init 54 = .ok (.invokevirtual 34, 3) := by decide +kernel
theorem dX1_init_57 : decode cX1_init 57 = .ok (.return_, 1) := by decide +kernel
set_option maxRecDepth 20000 in
theorem ggX1_restart_X1_copyWords : GoodIn wsX1_restart wsX1_copyWords := goodIn_r _ [11] (by decide +kernel) (by decide +kernel)
set_option maxRecDepth 20000 in
theorem gX1_restart_X1_copyWords : GoodIn wsX1_restart (va_wsS RX1 38 yX1_copyWords wsX1_copyWords) := goodIn_app (goodIn_of _ (by decide +kernel)) ggX1_restart_X1_copyWords
set_option maxRecDepth 20000 in
theorem ggX1_restart_X1_startChunk : GoodIn wsX1_restart wsX1_startChunk := goodIn_r _ [15, 1, 16, 17, 8, 9, 10, 11, 18, 19, 20, 21, 22, 23, 24, 25, 26, 27, 28, 29, 30, 31, 32, 33, 34, 35, 36] (by decide +kernel) (by decide +kernel)
set_option maxRecDepth 20000 in
theorem gX1_restart_X1_startChunk : GoodIn wsX1_restart (wsV RX1 61 RX1 yX1_startChunk wsX1_startChunk) := goodIn_app (goodIn_of _ (by decide +kernel)) ggX1_restart_X1_startChunk
theorem dX1_restart_0 : decode cX1_restart 0 = .ok (.aload_n 3, 1) := by decide +kernel
theorem dX1_restart_1 : decode cX1_restart 1 = .ok (.aload_n 0, 1) := by decide +kernel
theorem dX1_restart_2 : decode cX1_restart 2 = .ok (.getfield 18, 3) := by decide +kernel
theorem dX1_restart_5 : decode cX1_restart 5 = .ok (.invokestatic 38, 3) := by decide +kernel
theorem dX1_restart_8 : decode cX1_restart 8 = .ok (.aload_n 0, 1) := by decide +kernel
theorem dX1_restart_9 : decode cX1_restart 9 = .ok (.iload_n 1, 1) := by decide +kernel
theorem dX1_restart_10 : decode cX1_restart 10 = .ok (.putfield 42, 3) := by decide +kernel
theorem dX1_restart_13 : decode cX1_restart 13 = .ok (.aload_n 0, 1) := by decide +kernel
theorem dX1_restart_14 : decode cX1_restart 14 = .ok (.iload_n 2, 1) := by decide +kernel
theorem dX1_restart_15 : decode cX1_restart 15 = .ok (.putfield 46, 3) := by decide +kernel
theorem dX1_restart_18 : decode cX1_restart 18 = .ok (.aload_n 0, 1) := by decide +kernel
theorem dX1_restart_19 : decode cX1_restart 19 = .ok (.iload 4, 2) := by decide +kernel
theorem dX1_restart_21 : decode cX1_restart 21 = .ok (.putfield 49, 3) := by decide +kernel
theorem dX1_restart_24 : decode cX1_restart 24 = .ok (.aload_n 0, 1) := by decide +kernel
theorem dX1_restart_25 : decode cX1_restart 25 = .ok (.iconst 0, 1) := by decide +kernel
theorem dX1_restart_26 : decode cX1_restart 26 = .ok (.putfield 52, 3) := by decide +kernel
theorem dX1_restart_29 : decode cX1_restart 29 = .ok (.aload_n 0, 1) := by decide +kernel
theorem dX1_restart_30 : decode cX1_restart 30 = .ok (.iconst 0, 1) := by decide +kernel
theorem dX1_restart_31 : decode cX1_restart 31 = .ok (.putfield 55, 3) := by decide +kernel
theorem dX1_restart_34 : decode cX1_restart 34 = .ok (.aload_n 0, 1) := by decide +kernel
theorem dX1_restart_35 : decode cX1_restart 35 = .ok (.iconst 0, 1) := by decide +kernel
theorem dX1_restart_36 : decode cX1_restart 36 = .ok (.putfield 58, 3) := by decide +kernel
theorem dX1_restart_39 : decode cX1_restart 39 = .ok (.aload_n 0, 1) := by decide +kernel
theorem dX1_restart_40 : decode cX1_restart 40 = .ok (.invokevirtual 61, 3) := by decide +kernel
theorem dX1_restart_43 : decode cX1_restart 43 = .ok (.return_, 1) := by decide +kernel
set_option maxRecDepth 20000 in
theorem ggX1_becomeAs_X1_copyWords : GoodIn wsX1_becomeAs wsX1_copyWords := goodIn_r _ [16] (by decide +kernel) (by decide +kernel)
set_option maxRecDepth 20000 in
theorem gX1_becomeAs_X1_copyWords : GoodIn wsX1_becomeAs (va_wsS RX1 38 yX1_copyWords wsX1_copyWords) := goodIn_app (goodIn_of _ (by decide +kernel)) ggX1_becomeAs_X1_copyWords
theorem dX1_becomeAs_0 : decode cX1_becomeAs 0 = .ok (.aload_n 1, 1) := by decide +kernel
theorem dX1_becomeAs_1 : decode cX1_becomeAs 1 = .ok (.getfield 18, 3) := by decide +kernel
theorem dX1_becomeAs_4 : decode cX1_becomeAs 4 = .ok (.aload_n 0, 1) := by decide +kernel
theorem dX1_becomeAs_5 : decode cX1_becomeAs 5 = .ok (.getfield 18, 3) := by decide +kernel
theorem dX1_becomeAs_8 : decode cX1_becomeAs 8 = .ok (.invokestatic 38, 3) := by decide +kernel
theorem dX1_becomeAs_11 : decode cX1_becomeAs 11 = .ok (.aload_n 1, 1) := by decide +kernel
theorem dX1_becomeAs_12 : decode cX1_becomeAs 12 = .ok (.getfield 22, 3) := by decide +kernel
theorem dX1_becomeAs_15 : decode cX1_becomeAs 15 = .ok (.aload_n 0, 1) := by decide +kernel
theorem dX1_becomeAs_16 : decode cX1_becomeAs 16 = .ok (.getfield 22, 3) := by decide +kernel
theorem dX1_becomeAs_19 : decode cX1_becomeAs 19 = .ok (.invokestatic 38, 3) := by decide +kernel
theorem dX1_becomeAs_22 : decode cX1_becomeAs 22 = .ok (.aload_n 1, 1) := by decide +kernel
theorem dX1_becomeAs_23 : decode cX1_becomeAs 23 = .ok (.getfield 25, 3) := by decide +kernel
theorem dX1_becomeAs_26 : decode cX1_becomeAs 26 = .ok (.aload_n 0, 1) := by decide +kernel
theorem dX1_becomeAs_27 : decode cX1_becomeAs 27 = .ok (.getfield 25, 3) := by decide +kernel
theorem dX1_becomeAs_30 : decode cX1_becomeAs 30 = .ok (.invokestatic 38, 3) := by decide +kernel
theorem dX1_becomeAs_33 : decode cX1_becomeAs 33 = .ok (.aload_n 1, 1) := by decide +kernel
theorem dX1_becomeAs_34 : decode cX1_becomeAs 34 = .ok (.getfield 28, 3) := by decide +kernel
theorem dX1_becomeAs_37 : decode cX1_becomeAs 37 = .ok (.aload_n 0, 1) := by decide +kernel
theorem dX1_becomeAs_38 : decode cX1_becomeAs 38 = .ok (.getfield 28, 3) := by decide +kernel
theorem dX1_becomeAs_41 : decode cX1_becomeAs 41 = .ok (.invokestatic 38, 3) := by decide +kernel
theorem dX1_becomeAs_44 : decode cX1_becomeAs 44 = .ok (.aload_n 0, 1) := by decide +kernel
theorem dX1_becomeAs_45 : decode cX1_becomeAs 45 = .ok (.aload_n 1, 1) := by decide +kernel
theorem dX1_becomeAs_46 : decode cX1_becomeAs 46 = .ok (.getfield 42, 3) := by decide +kernel
theorem dX1_becomeAs_49 : decode cX1_becomeAs 49 = .ok (.putfield 42, 3) := by decide +kernel
theorem dX1_becomeAs_52 : decode cX1_becomeAs 52 = .ok (.aload_n 0, 1) := by decide +kernel
theorem dX1_becomeAs_53 : decode cX1_becomeAs 53 = .ok (.aload_n 1, 1) := by decide +kernel
theorem dX1_becomeAs_54 : decode cX1_becomeAs 54 = .ok (.getfield 46, 3) := by decide +kernel
theorem dX1_becomeAs_57 : decode cX1_becomeAs 57 = .ok (.putfield 46, 3) := by decide +kernel
theorem dX1_becomeAs_60 : decode cX1_becomeAs 60 = .ok (.aload_n 0, 1) := by decide +kernel
theorem dX1_becomeAs_61 : decode cX1_becomeAs 61 = .ok (.aload_n 1, 1) := by decide +kernel
theorem dX1_becomeAs_62 : decode cX1_becomeAs 62 = .ok (.getfield 49, 3) := by decide +kernel
theorem dX1_becomeAs_65 : decode cX1_becomeAs 65 = .ok (.putfield 49, 3) := by decide +kernel
theorem dX1_becomeAs_68 : decode cX1_becomeAs 68 = .ok (.aload_n 0, 1) := by decide +kernel
theorem dX1_becomeAs_69 : decode cX1_becomeAs 69 = .ok (.aload_n 1, 1) := by decide +kernel
theorem dX1_becomeAs_70 : decode cX1_becomeAs 70 = .ok (.getfield 52, 3) := by decide +kernel
theorem dX1_becomeAs_73 : decode cX1_becomeAs 73 = .ok (.putfield 52, 3) := by decide +kernel
theorem dX1_becomeAs_76 : decode cX1_becomeAs 76 = .ok (.aload_n 0, 1) := by decide +kernel
theorem dX1_becomeAs_77 : decode cX1_becomeAs 77 = .ok (.aload_n 1, 1) := by decide +kernel
theorem dX1_becomeAs_78 : decode cX1_becomeAs 78 = .ok (.getfield 55, 3) := by decide +kernel
theorem dX1_becomeAs_81 : decode cX1_becomeAs 81 = .ok (.putfield 55, 3) := by decide +kernel
theorem dX1_becomeAs_84 : decode cX1_becomeAs 84 = .ok (.aload_n 0, 1) := by decide +kernel
theorem dX1_becomeAs_85 : decode cX1_becomeAs 85 = .ok (.aload_n 1, 1) := by decide +kernel
theorem dX1_becomeAs_86 : decode cX1_becomeAs 86 = .ok (.getfield 58, 3) := by decide +kernel
theorem dX1_becomeAs_89 : decode cX1_becomeAs 89 = .ok (.putfield 58, 3) := by decide +kernel
theorem dX1_becomeAs_92 : decode cX1_becomeAs 92 = .ok (.aload_n 0, 1) := by decide +kernel
theorem dX1_becomeAs_93 : decode cX1_becomeAs 93 = .ok (.aload_n 1, 1) := by decide +kernel
theorem dX1_becomeAs_94 : decode cX1_becomeAs 94 = .ok (.getfield 64, 3) := by decide +kernel
theorem dX1_becomeAs_97 : decode cX1_becomeAs 97 = .ok (.putfield 64, 3) := by decide +kernel
theorem dX1_becomeAs_100 : decode cX1_becomeAs 100 = .ok (.aload_n 0, 1) := by decide +kernel
theorem dX1_becomeAs_101 : decode cX1_becomeAs 101 = .ok (.aload_n 1, 1) := by decide +kernel
theorem dX1_becomeAs_102 : decode cX1_becomeAs 102 = .ok (.getfield 67, 3) := by decide +kernel
theorem dX1_becomeAs_105 : decode cX1_becomeAs 105 = .ok (.putfield 67, 3) := by decide +kernel
theorem dX1_becomeAs_108 : decode cX1_becomeAs 108 = .ok (.return_, 1) := by decide +kernel
set_option maxRecDepth 20000 in
theorem ggX1_absorb_X0_byteAt : GoodIn wsX1_absorb wsX0_byteAt := goodIn_r _ [5, 6, 7, 91, 92] (by decide +kernel) (by decide +kernel)
set_option maxRecDepth 20000 in
theorem gX1_absorb_X0_byteAt : GoodIn wsX1_absorb (wsV RX1 70 RX0 yX0_byteAt wsX0_byteAt) := goodIn_app (goodIn_of _ (by decide +kernel)) ggX1_absorb_X0_byteAt
set_option maxRecDepth 20000 in
theorem ggX1_absorb_X1_absorbByte : GoodIn wsX1_absorb wsX1_absorbByte := goodIn_r _ [12, 13, 14, 15, 16, 17, 18, 19, 11, 20, 21, 22, 23, 24, 25, 26, 27, 28, 29, 30, 31, 32, 33, 34, 35, 36, 37, 38, 39, 40, 41, 42, 43, 44, 45, 46, 47, 48, 49, 50, 51, 52, 53, 54, 55, 56, 57, 58, 59, 60, 61, 62, 63, 64, 65, 66, 67, 68, 69, 70, 71, 72, 73, 74, 75, 76, 77, 78, 79, 80, 81, 82, 83, 84, 85, 86, 87, 88, 89, 90, 93, 94, 95, 96, 97, 98, 99, 100, 101, 102, 103, 104, 105, 106, 107, 108, 109, 110, 111, 112, 113] (by decide +kernel) (by decide +kernel)
set_option maxRecDepth 20000 in
theorem gX1_absorb_X1_absorbByte : GoodIn wsX1_absorb (wsV RX1 76 RX1 yX1_absorbByte wsX1_absorbByte) := goodIn_app (goodIn_of _ (by decide +kernel)) ggX1_absorb_X1_absorbByte
theorem dX1_absorb_0 : decode cX1_absorb 0 = .ok (.iconst 0, 1) := by decide +kernel
theorem dX1_absorb_1 : decode cX1_absorb 1 = .ok (.istore 4, 2) := by decide +kernel
theorem dX1_absorb_3 : decode cX1_absorb 3 = .ok (.iload 4, 2) := by decide +kernel
theorem dX1_absorb_5 : decode cX1_absorb 5 = .ok (.iload_n 3, 1) := by decide +kernel
theorem dX1_absorb_6 : decode cX1_absorb 6 = .ok (.if_icmp .ge 21, 3) := by decide +kernel
theorem dX1_absorb_9 : decode cX1_absorb 9 = .ok (.aload_n 0, 1) := by decide +kernel
theorem dX1_absorb_10 : decode cX1_absorb 10 = .ok (.aload_n 1, 1) := by decide +kernel
theorem dX1_absorb_11 : decode cX1_absorb 11 = .ok (.iload_n 2, 1) := by decide +kernel
theorem dX1_absorb_12 : decode cX1_absorb 12 = .ok (.iload 4, 2) := by decide +kernel
theorem dX1_absorb_14 : decode cX1_absorb 14 = .ok (.iadd, 1) := by decide +kernel
theorem dX1_absorb_15 : decode cX1_absorb 15 = .ok (.invokevirtual 70, 3) := by decide +kernel
theorem dX1_absorb_18 : decode cX1_absorb 18 = .ok (.invokevirtual 76, 3) := by decide +kernel
theorem dX1_absorb_21 : decode cX1_absorb 21 = .ok (.iinc 4 1, 3) := by decide +kernel
theorem dX1_absorb_24 : decode cX1_absorb 24 = .ok (.goto (-21), 3) := by decide +kernel
theorem dX1_absorb_27 : decode cX1_absorb 27 = .ok (.return_, 1) := by decide +kernel
set_option maxRecDepth 20000 in
theorem ggX1_absorbByte_X1_closeChunk : GoodIn wsX1_absorbByte wsX1_closeChunk := goodIn_r _ [9, 10, 11, 12, 13, 14, 15, 16, 17, 18, 8, 19, 2, 20, 3, 21, 1, 22, 23, 24, 25, 26, 27, 28, 29, 30, 31, 32, 33, 34, 35, 36, 37, 38, 39, 40, 41, 42, 43, 44, 45, 46, 47, 48, 49, 50, 51, 52, 53, 54, 55, 56, 57, 58, 59, 60, 61, 62, 63, 64, 65, 66, 67, 68, 69, 70, 71, 72, 73, 74, 75, 80, 81, 82, 83, 84, 85, 86, 87, 88, 89, 90, 91, 92, 93, 94, 95, 96, 97, 98, 99, 100] (by decide +kernel) (by decide +kernel)
set_option maxRecDepth 20000 in
theorem gX1_absorbByte_X1_closeChunk : GoodIn wsX1_absorbByte (wsV RX1 80 RX1 yX1_closeChunk wsX1_closeChunk) := goodIn_app (goodIn_of _ (by decide +kernel)) ggX1_absorbByte_X1_closeChunk
set_option maxRecDepth 20000 in
theorem ggX1_absorbByte_X1_closeBlock : GoodIn wsX1_absorbByte wsX1_closeBlock := goodIn_r _ [79, 10, 20, 2, 16, 17, 18, 8, 19, 3, 21, 11, 1, 15, 22, 23, 24, 25, 26, 27, 28, 29, 30, 31, 32, 33, 34, 35, 36, 37, 38, 39, 40, 41, 42, 43, 44, 45, 46, 47, 48, 49, 50, 51, 52, 61, 62, 63, 64, 72, 73, 74, 75, 80, 81, 82, 83, 84, 85, 86, 87, 88, 89, 90, 91, 92, 93, 94, 95, 96, 97, 98, 99, 100] (by decide +kernel) (by decide +kernel)
set_option maxRecDepth 20000 in
theorem gX1_absorbByte_X1_closeBlock : GoodIn wsX1_absorbByte (wsV RX1 83 RX1 yX1_closeBlock wsX1_closeBlock) := goodIn_app (goodIn_of _ (by decide +kernel)) ggX1_absorbByte_X1_closeBlock
theorem dX1_absorbByte_0 : decode cX1_absorbByte 0 = .ok (.aload_n 0, 1) := by decide +kernel
theorem dX1_absorbByte_1 : decode cX1_absorbByte 1 = .ok (.getfield 67, 3) := by decide +kernel
theorem dX1_absorbByte_4 : decode cX1_absorbByte 4 = .ok (.bipush 64, 2) := by decide +kernel
theorem dX1_absorbByte_6 : decode cX1_absorbByte 6 = .ok (.if_icmp .lt 23, 3) := by decide +kernel
theorem dX1_absorbByte_9 : decode cX1_absorbByte 9 = .ok (.aload_n 0, 1) := by decide +kernel
theorem dX1_absorbByte_10 : decode cX1_absorbByte 10 = .ok (.getfield 64, 3) := by decide +kernel
theorem dX1_absorbByte_13 : decode cX1_absorbByte 13 = .ok (.bipush 15, 2) := by decide +kernel
theorem dX1_absorbByte_15 : decode cX1_absorbByte 15 = .ok (.if_icmp .ne 10, 3) := by decide +kernel
theorem dX1_absorbByte_18 : decode cX1_absorbByte 18 = .ok (.aload_n 0, 1) := by decide +kernel
theorem dX1_absorbByte_19 : decode cX1_absorbByte 19 = .ok (.invokevirtual 80, 3) := by decide +kernel
theorem dX1_absorbByte_22 : decode cX1_absorbByte 22 = .ok (.goto 7, 3) := by decide +kernel
theorem dX1_absorbByte_25 : decode cX1_absorbByte 25 = .ok (.aload_n 0, 1) := by decide +kernel
theorem dX1_absorbByte_26 : decode cX1_absorbByte 26 = .ok (.invokevirtual 83, 3) := by decide +kernel
theorem dX1_absorbByte_29 : decode cX1_absorbByte 29 = .ok (.aload_n 0, 1) := by decide +kernel
theorem dX1_absorbByte_30 : decode cX1_absorbByte 30 = .ok (.getfield 28, 3) := by decide +kernel
theorem dX1_absorbByte_33 : decode cX1_absorbByte 33 = .ok (.aload_n 0, 1) := by decide +kernel
theorem dX1_absorbByte_34 : decode cX1_absorbByte 34 = .ok (.getfield 67, 3) := by decide +kernel
theorem dX1_absorbByte_37 : decode cX1_absorbByte 37 = .ok (.iconst 2, 1) := by decide +kernel
theorem dX1_absorbByte_38 : decode cX1_absorbByte 38 = .ok (.ishr, 1) := by decide +kernel
theorem dX1_absorbByte_39 : decode cX1_absorbByte 39 = .ok (.dup2, 1) := by decide +kernel
theorem dX1_absorbByte_40 : decode cX1_absorbByte 40 = .ok (.iaload, 1) := by decide +kernel
theorem dX1_absorbByte_41 : decode cX1_absorbByte 41 = .ok (.iload_n 1, 1) := by decide +kernel
theorem dX1_absorbByte_42 : decode cX1_absorbByte 42 = .ok (.sipush 255, 3) := by decide +kernel
theorem dX1_absorbByte_45 : decode cX1_absorbByte 45 = .ok (.iand, 1) := by decide +kernel
theorem dX1_absorbByte_46 : decode cX1_absorbByte 46 = .ok (.bipush 8, 2) := by decide +kernel
theorem dX1_absorbByte_48 : decode cX1_absorbByte 48 = .ok (.aload_n 0, 1) := by decide +kernel
theorem dX1_absorbByte_49 : decode cX1_absorbByte 49 = .ok (.getfield 67, 3) := by decide +kernel
theorem dX1_absorbByte_52 : decode cX1_absorbByte 52 = .ok (.iconst 3, 1) := by decide +kernel
theorem dX1_absorbByte_53 : decode cX1_absorbByte 53 = .ok (.iand, 1) := by decide +kernel
theorem dX1_absorbByte_54 : decode cX1_absorbByte 54 = .ok (.imul, 1) := by decide +kernel
theorem dX1_absorbByte_55 : decode cX1_absorbByte 55 = .ok (.ishl, 1) := by decide +kernel
theorem dX1_absorbByte_56 : decode cX1_absorbByte 56 = .ok (.ior, 1) := by decide +kernel
theorem dX1_absorbByte_57 : decode cX1_absorbByte 57 = .ok (.iastore, 1) := by decide +kernel
theorem dX1_absorbByte_58 : decode cX1_absorbByte 58 = .ok (.aload_n 0, 1) := by decide +kernel
theorem dX1_absorbByte_59 : decode cX1_absorbByte 59 = .ok (.dup, 1) := by decide +kernel
theorem dX1_absorbByte_60 : decode cX1_absorbByte 60 = .ok (.getfield 67, 3) := by decide +kernel
theorem dX1_absorbByte_63 : decode cX1_absorbByte 63 = .ok (.iconst 1, 1) := by decide +kernel
theorem dX1_absorbByte_64 : decode cX1_absorbByte 64 = .ok (.iadd, 1) := by decide +kernel
theorem dX1_absorbByte_65 : decode cX1_absorbByte 65 = .ok (.putfield 67, 3) := by decide +kernel
theorem dX1_absorbByte_68 : decode cX1_absorbByte 68 = .ok (.aload_n 0, 1) := by decide +kernel
theorem dX1_absorbByte_69 : decode cX1_absorbByte 69 = .ok (.dup, 1) := by decide +kernel
theorem dX1_absorbByte_70 : decode cX1_absorbByte 70 = .ok (.getfield 52, 3) := by decide +kernel
theorem dX1_absorbByte_73 : decode cX1_absorbByte 73 = .ok (.iconst 1, 1) := by decide +kernel
theorem dX1_absorbByte_74 : decode cX1_absorbByte 74 = .ok (.iadd, 1) := by decide +kernel
theorem dX1_absorbByte_75 : decode cX1_absorbByte 75 = .ok (.putfield 52, 3) := by decide +kernel
theorem dX1_absorbByte_78 : decode cX1_absorbByte 78 = .ok (.return_, 1) := by decide +kernel
theorem dX1_inChunk_0 : decode cX1_inChunk 0 = .ok (.aload_n 0, 1) := by decide +kernel
theorem dX1_inChunk_1 : decode cX1_inChunk 1 = .ok (.getfield 64, 3) := by decide +kernel
theorem dX1_inChunk_4 : decode cX1_inChunk 4 = .ok (.bipush 64, 2) := by decide +kernel
theorem dX1_inChunk_6 : decode cX1_inChunk 6 = .ok (.imul, 1) := by decide +kernel
theorem dX1_inChunk_7 : decode cX1_inChunk 7 = .ok (.aload_n 0, 1) := by decide +kernel
theorem dX1_inChunk_8 : decode cX1_inChunk 8 = .ok (.getfield 67, 3) := by decide +kernel
theorem dX1_inChunk_11 : decode cX1_inChunk 11 = .ok (.iadd, 1) := by decide +kernel
theorem dX1_inChunk_12 : decode cX1_inChunk 12 = .ok (.ireturn, 1) := by decide +kernel
theorem dX1_stackWord_0 : decode cX1_stackWord 0 = .ok (.iload_n 1, 1) := by decide +kernel
theorem dX1_stackWord_1 : decode cX1_stackWord 1 = .ok (.ifCond .lt 21, 3) := by decide +kernel
theorem dX1_stackWord_4 : decode cX1_stackWord 4 = .ok (.iload_n 1, 1) := by decide +kernel
theorem dX1_stackWord_5 : decode cX1_stackWord 5 = .ok (.aload_n 0, 1) := by decide +kernel
theorem dX1_stackWord_6 : decode cX1_stackWord 6 = .ok (.getfield 58, 3) := by decide +kernel
theorem dX1_stackWord_9 : decode cX1_stackWord 9 = .ok (.if_icmp .ge 13, 3) := by decide +kernel
theorem dX1_stackWord_12 : decode cX1_stackWord 12 = .ok (.iload_n 2, 1) := by decide +kernel
theorem dX1_stackWord_13 : decode cX1_stackWord 13 = .ok (.ifCond .lt 9, 3) := by decide +kernel
theorem dX1_stackWord_16 : decode cX1_stackWord 16 = .ok (.iload_n 2, 1) := by decide +kernel
theorem dX1_stackWord_17 : decode cX1_stackWord 17 = .ok (.bipush 8, 2) := by decide +kernel
theorem dX1_stackWord_19 : decode cX1_stackWord 19 = .ok (.if_icmp .lt 5, 3) := by decide +kernel
theorem dX1_stackWord_22 : decode cX1_stackWord 22 = .ok (.iconst 0, 1) := by decide +kernel
theorem dX1_stackWord_23 : decode cX1_stackWord 23 = .ok (.ireturn, 1) := by decide +kernel
theorem dX1_stackWord_24 : decode cX1_stackWord 24 = .ok (.aload_n 0, 1) := by decide +kernel
theorem dX1_stackWord_25 : decode cX1_stackWord 25 = .ok (.getfield 22, 3) := by decide +kernel
theorem dX1_stackWord_28 : decode cX1_stackWord 28 = .ok (.iload_n 1, 1) := by decide +kernel
theorem dX1_stackWord_29 : decode cX1_stackWord 29 = .ok (.bipush 8, 2) := by decide +kernel
theorem dX1_stackWord_31 : decode cX1_stackWord 31 = .ok (.imul, 1) := by decide +kernel
theorem dX1_stackWord_32 : decode cX1_stackWord 32 = .ok (.iload_n 2, 1) := by decide +kernel
theorem dX1_stackWord_33 : decode cX1_stackWord 33 = .ok (.iadd, 1) := by decide +kernel
theorem dX1_stackWord_34 : decode cX1_stackWord 34 = .ok (.iaload, 1) := by decide +kernel
theorem dX1_stackWord_35 : decode cX1_stackWord 35 = .ok (.ireturn, 1) := by decide +kernel
set_option maxRecDepth 20000 in
theorem ggX1_prepareLast_X1_prepareBlock : GoodIn wsX1_prepareLast wsX1_prepareBlock := goodIn_r _ [10, 11, 2, 12, 13, 14, 15, 16, 5, 17, 18, 19, 20, 21, 22, 23, 24, 25, 26, 56, 57, 58, 59, 60, 61, 62, 63, 64, 65, 66, 67, 68, 69, 70, 71, 72, 73, 74, 75, 76] (by decide +kernel) (by decide +kernel)
set_option maxRecDepth 20000 in
theorem gX1_prepareLast_X1_prepareBlock : GoodIn wsX1_prepareLast (wsV RX1 86 RX1 yX1_prepareBlock wsX1_prepareBlock) := goodIn_app (goodIn_of _ (by decide +kernel)) ggX1_prepareLast_X1_prepareBlock
set_option maxRecDepth 20000 in
theorem ggX1_prepareLast_X2_run : GoodIn wsX1_prepareLast wsX2_run := goodIn_r _ [30, 31, 32, 22, 33, 34, 35, 20, 36, 37, 24, 25, 26, 23, 38, 39, 40, 41, 42, 43, 44, 45, 46, 47, 69, 70, 71, 72, 73, 74, 75, 76] (by decide +kernel) (by decide +kernel)
set_option maxRecDepth 20000 in
theorem gX1_prepareLast_X2_run : GoodIn wsX1_prepareLast (wsV RX1 89 RX2 yX2_run wsX2_run) := goodIn_app (goodIn_of _ (by decide +kernel)) ggX1_prepareLast_X2_run
set_option maxRecDepth 20000 in
theorem ggX1_prepareLast_X2_joinBehind : GoodIn wsX1_prepareLast wsX2_joinBehind := goodIn_r _ [51, 23, 32, 52, 53, 20, 54, 55, 18, 19, 21, 22, 24, 25, 26, 69, 70, 71, 72, 73, 74, 75, 76] (by decide +kernel) (by decide +kernel)
set_option maxRecDepth 20000 in
theorem gX1_prepareLast_X2_joinBehind : GoodIn wsX1_prepareLast (wsV RX1 92 RX2 yX2_joinBehind wsX2_joinBehind) := goodIn_app (goodIn_of _ (by decide +kernel)) ggX1_prepareLast_X2_joinBehind
theorem dX1_prepareLast_0 : decode cX1_prepareLast 0 = .ok (.aload_n 0, 1) := by decide +kernel
theorem dX1_prepareLast_1 : decode cX1_prepareLast 1 = .ok (.iconst 2, 1) := by decide +kernel
theorem dX1_prepareLast_2 : decode cX1_prepareLast 2 = .ok (.invokevirtual 86, 3) := by decide +kernel
theorem dX1_prepareLast_5 : decode cX1_prepareLast 5 = .ok (.aload_n 0, 1) := by decide +kernel
theorem dX1_prepareLast_6 : decode cX1_prepareLast 6 = .ok (.getfield 58, 3) := by decide +kernel
theorem dX1_prepareLast_9 : decode cX1_prepareLast 9 = .ok (.iconst 1, 1) := by decide +kernel
theorem dX1_prepareLast_10 : decode cX1_prepareLast 10 = .ok (.isub, 1) := by decide +kernel
theorem dX1_prepareLast_11 : decode cX1_prepareLast 11 = .ok (.istore_n 1, 1) := by decide +kernel
theorem dX1_prepareLast_12 : decode cX1_prepareLast 12 = .ok (.iload_n 1, 1) := by decide +kernel
theorem dX1_prepareLast_13 : decode cX1_prepareLast 13 = .ok (.ifCond .lt 39, 3) := by decide +kernel
theorem dX1_prepareLast_16 : decode cX1_prepareLast 16 = .ok (.aload_n 0, 1) := by decide +kernel
theorem dX1_prepareLast_17 : decode cX1_prepareLast 17 = .ok (.getfield 14, 3) := by decide +kernel
theorem dX1_prepareLast_20 : decode cX1_prepareLast 20 = .ok (.invokevirtual 89, 3) := by decide +kernel
theorem dX1_prepareLast_23 : decode cX1_prepareLast 23 = .ok (.aload_n 0, 1) := by decide +kernel
theorem dX1_prepareLast_24 : decode cX1_prepareLast 24 = .ok (.getfield 14, 3) := by decide +kernel
theorem dX1_prepareLast_27 : decode cX1_prepareLast 27 = .ok (.aload_n 0, 1) := by decide +kernel
theorem dX1_prepareLast_28 : decode cX1_prepareLast 28 = .ok (.getfield 22, 3) := by decide +kernel
theorem dX1_prepareLast_31 : decode cX1_prepareLast 31 = .ok (.iload_n 1, 1) := by decide +kernel
theorem dX1_prepareLast_32 : decode cX1_prepareLast 32 = .ok (.bipush 8, 2) := by decide +kernel
theorem dX1_prepareLast_34 : decode cX1_prepareLast 34 = .ok (.imul, 1) := by decide +kernel
theorem dX1_prepareLast_35 : decode cX1_prepareLast 35 = .ok (.aload_n 0, 1) := by decide +kernel
theorem dX1_prepareLast_36 : decode cX1_prepareLast 36 = .ok (.getfield 18, 3) := by decide +kernel
theorem dX1_prepareLast_39 : decode cX1_prepareLast 39 = .ok (.aload_n 0, 1) := by decide +kernel
theorem dX1_prepareLast_40 : decode cX1_prepareLast 40 = .ok (.getfield 46, 3) := by decide +kernel
theorem dX1_prepareLast_43 : decode cX1_prepareLast 43 = .ok (.invokevirtual 92, 3) := by decide +kernel
theorem dX1_prepareLast_46 : decode cX1_prepareLast 46 = .ok (.iinc 1 (-1), 3) := by decide +kernel
theorem dX1_prepareLast_49 : decode cX1_prepareLast 49 = .ok (.goto (-37), 3) := by decide +kernel
theorem dX1_prepareLast_52 : decode cX1_prepareLast 52 = .ok (.return_, 1) := by decide +kernel
set_option maxRecDepth 20000 in
theorem ggX1_prepareBlock_X2_prepare : GoodIn wsX1_prepareBlock wsX2_prepare := goodIn_r _ [13, 14, 15, 16, 17, 18, 32, 33, 34, 35, 36, 37, 38, 39] (by decide +kernel) (by decide +kernel)
set_option maxRecDepth 20000 in
theorem gX1_prepareBlock_X2_prepare : GoodIn wsX1_prepareBlock (wsV RX1 96 RX2 yX2_prepare wsX2_prepare) := goodIn_app (goodIn_of _ (by decide +kernel)) ggX1_prepareBlock_X2_prepare
theorem dX1_prepareBlock_0 : decode cX1_prepareBlock 0 = .ok (.aload_n 0, 1) := by decide +kernel
theorem dX1_prepareBlock_1 : decode cX1_prepareBlock 1 = .ok (.getfield 64, 3) := by decide +kernel
theorem dX1_prepareBlock_4 : decode cX1_prepareBlock 4 = .ok (.ifCond .ne 7, 3) := by decide +kernel
theorem dX1_prepareBlock_7 : decode cX1_prepareBlock 7 = .ok (.iconst 1, 1) := by decide +kernel
theorem dX1_prepareBlock_8 : decode cX1_prepareBlock 8 = .ok (.goto 4, 3) := by decide +kernel
theorem dX1_prepareBlock_11 : decode cX1_prepareBlock 11 = .ok (.iconst 0, 1) := by decide +kernel
theorem dX1_prepareBlock_12 : decode cX1_prepareBlock 12 = .ok (.istore_n 2, 1) := by decide +kernel
theorem dX1_prepareBlock_13 : decode cX1_prepareBlock 13 = .ok (.aload_n 0, 1) := by decide +kernel
theorem dX1_prepareBlock_14 : decode cX1_prepareBlock 14 = .ok (.getfield 14, 3) := by decide +kernel
theorem dX1_prepareBlock_17 : decode cX1_prepareBlock 17 = .ok (.aload_n 0, 1) := by decide +kernel
theorem dX1_prepareBlock_18 : decode cX1_prepareBlock 18 = .ok (.getfield 25, 3) := by decide +kernel
theorem dX1_prepareBlock_21 : decode cX1_prepareBlock 21 = .ok (.aload_n 0, 1) := by decide +kernel
theorem dX1_prepareBlock_22 : decode cX1_prepareBlock 22 = .ok (.getfield 28, 3) := by decide +kernel
theorem dX1_prepareBlock_25 : decode cX1_prepareBlock 25 = .ok (.aload_n 0, 1) := by decide +kernel
theorem dX1_prepareBlock_26 : decode cX1_prepareBlock 26 = .ok (.getfield 49, 3) := by decide +kernel
theorem dX1_prepareBlock_29 : decode cX1_prepareBlock 29 = .ok (.aload_n 0, 1) := by decide +kernel
theorem dX1_prepareBlock_30 : decode cX1_prepareBlock 30 = .ok (.getfield 55, 3) := by decide +kernel
theorem dX1_prepareBlock_33 : decode cX1_prepareBlock 33 = .ok (.iadd, 1) := by decide +kernel
theorem dX1_prepareBlock_34 : decode cX1_prepareBlock 34 = .ok (.i2l, 1) := by decide +kernel
theorem dX1_prepareBlock_35 : decode cX1_prepareBlock 35 = .ok (.aload_n 0, 1) := by decide +kernel
theorem dX1_prepareBlock_36 : decode cX1_prepareBlock 36 = .ok (.getfield 67, 3) := by decide +kernel
theorem dX1_prepareBlock_39 : decode cX1_prepareBlock 39 = .ok (.aload_n 0, 1) := by decide +kernel
theorem dX1_prepareBlock_40 : decode cX1_prepareBlock 40 = .ok (.getfield 46, 3) := by decide +kernel
theorem dX1_prepareBlock_43 : decode cX1_prepareBlock 43 = .ok (.iload_n 2, 1) := by decide +kernel
theorem dX1_prepareBlock_44 : decode cX1_prepareBlock 44 = .ok (.iadd, 1) := by decide +kernel
theorem dX1_prepareBlock_45 : decode cX1_prepareBlock 45 = .ok (.iload_n 1, 1) := by decide +kernel
theorem dX1_prepareBlock_46 : decode cX1_prepareBlock 46 = .ok (.iadd, 1) := by decide +kernel
theorem dX1_prepareBlock_47 : decode cX1_prepareBlock 47 = .ok (.invokevirtual 96, 3) := by decide +kernel
theorem dX1_prepareBlock_50 : decode cX1_prepareBlock 50 = .ok (.return_, 1) := by decide +kernel
set_option maxRecDepth 20000 in
theorem ggX1_closeBlock_X1_prepareBlock : GoodIn wsX1_closeBlock wsX1_prepareBlock := goodIn_r _ [8, 3, 1, 2, 9, 10, 11, 12, 13, 14, 15, 16, 17, 18, 19, 20, 21, 22, 23, 53, 54, 55, 56, 57, 58, 59, 60, 61, 62, 63, 64, 65, 66, 67, 68, 69, 70, 71, 72, 73] (by decide +kernel) (by decide +kernel)
set_option maxRecDepth 20000 in
theorem gX1_closeBlock_X1_prepareBlock : GoodIn wsX1_closeBlock (wsV RX1 86 RX1 yX1_prepareBlock wsX1_prepareBlock) := goodIn_app (goodIn_of _ (by decide +kernel)) ggX1_closeBlock_X1_prepareBlock
set_option maxRecDepth 20000 in
theorem ggX1_closeBlock_X2_run : GoodIn wsX1_closeBlock wsX2_run := goodIn_r _ [27, 28, 29, 19, 30, 31, 32, 17, 33, 34, 21, 22, 23, 20, 35, 36, 37, 38, 39, 40, 41, 42, 43, 44, 66, 67, 68, 69, 70, 71, 72, 73] (by decide +kernel) (by decide +kernel)
set_option maxRecDepth 20000 in
theorem gX1_closeBlock_X2_run : GoodIn wsX1_closeBlock (wsV RX1 89 RX2 yX2_run wsX2_run) := goodIn_app (goodIn_of _ (by decide +kernel)) ggX1_closeBlock_X2_run
set_option maxRecDepth 20000 in
theorem ggX1_closeBlock_X2_writeChain : GoodIn wsX1_closeBlock wsX2_writeChain := goodIn_r _ [48, 29, 66, 67, 68, 69, 70, 71, 72, 73] (by decide +kernel) (by decide +kernel)
set_option maxRecDepth 20000 in
theorem gX1_closeBlock_X2_writeChain : GoodIn wsX1_closeBlock (wsV RX1 100 RX2 yX2_writeChain wsX2_writeChain) := goodIn_app (goodIn_of _ (by decide +kernel)) ggX1_closeBlock_X2_writeChain
set_option maxRecDepth 20000 in
theorem ggX1_closeBlock_X1_startBlock : GoodIn wsX1_closeBlock wsX1_startBlock := goodIn_r _ [52, 9, 12, 53, 54, 55, 56, 57, 58, 59, 60, 61, 62, 63, 64, 65] (by decide +kernel) (by decide +kernel)
set_option maxRecDepth 20000 in
theorem gX1_closeBlock_X1_startBlock : GoodIn wsX1_closeBlock (wsV RX1 104 RX1 yX1_startBlock wsX1_startBlock) := goodIn_app (goodIn_of _ (by decide +kernel)) ggX1_closeBlock_X1_startBlock
theorem dX1_closeBlock_0 : decode cX1_closeBlock 0 = .ok (.aload_n 0, 1) := by decide +kernel
theorem dX1_closeBlock_1 : decode cX1_closeBlock 1 = .ok (.iconst 0, 1) := by decide +kernel
theorem dX1_closeBlock_2 : decode cX1_closeBlock 2 = .ok (.invokevirtual 86, 3) := by decide +kernel
theorem dX1_closeBlock_5 : decode cX1_closeBlock 5 = .ok (.aload_n 0, 1) := by decide +kernel
theorem dX1_closeBlock_6 : decode cX1_closeBlock 6 = .ok (.getfield 14, 3) := by decide +kernel
theorem dX1_closeBlock_9 : decode cX1_closeBlock 9 = .ok (.invokevirtual 89, 3) := by decide +kernel
theorem dX1_closeBlock_12 : decode cX1_closeBlock 12 = .ok (.aload_n 0, 1) := by decide +kernel
theorem dX1_closeBlock_13 : decode cX1_closeBlock 13 = .ok (.getfield 14, 3) := by decide +kernel
theorem dX1_closeBlock_16 : decode cX1_closeBlock 16 = .ok (.aload_n 0, 1) := by decide +kernel
theorem dX1_closeBlock_17 : decode cX1_closeBlock 17 = .ok (.getfield 25, 3) := by decide +kernel
theorem dX1_closeBlock_20 : decode cX1_closeBlock 20 = .ok (.iconst 0, 1) := by decide +kernel
theorem dX1_closeBlock_21 : decode cX1_closeBlock 21 = .ok (.invokevirtual 100, 3) := by decide +kernel
theorem dX1_closeBlock_24 : decode cX1_closeBlock 24 = .ok (.aload_n 0, 1) := by decide +kernel
theorem dX1_closeBlock_25 : decode cX1_closeBlock 25 = .ok (.dup, 1) := by decide +kernel
theorem dX1_closeBlock_26 : decode cX1_closeBlock 26 = .ok (.getfield 64, 3) := by decide +kernel
theorem dX1_closeBlock_29 : decode cX1_closeBlock 29 = .ok (.iconst 1, 1) := by decide +kernel
theorem dX1_closeBlock_30 : decode cX1_closeBlock 30 = .ok (.iadd, 1) := by decide +kernel
theorem dX1_closeBlock_31 : decode cX1_closeBlock 31 = .ok (.putfield 64, 3) := by decide +kernel
theorem dX1_closeBlock_34 : decode cX1_closeBlock 34 = .ok (.aload_n 0, 1) := by decide +kernel
theorem dX1_closeBlock_35 : decode cX1_closeBlock 35 = .ok (.invokevirtual 104, 3) := by decide +kernel
theorem dX1_closeBlock_38 : decode cX1_closeBlock 38 = .ok (.return_, 1) := by decide +kernel
set_option maxRecDepth 20000 in
theorem ggX1_closeChunk_X1_prepareBlock : GoodIn wsX1_closeChunk wsX1_prepareBlock := goodIn_r _ [11, 12, 1, 13, 14, 15, 2, 16, 6, 17, 18, 19, 20, 21, 22, 23, 24, 25, 26, 71, 72, 73, 74, 75, 76, 77, 78, 79, 80, 81, 82, 83, 84, 85, 86, 87, 88, 89, 90, 91] (by decide +kernel) (by decide +kernel)
set_option maxRecDepth 20000 in
theorem gX1_closeChunk_X1_prepareBlock : GoodIn wsX1_closeChunk (wsV RX1 86 RX1 yX1_prepareBlock wsX1_prepareBlock) := goodIn_app (goodIn_of _ (by decide +kernel)) ggX1_closeChunk_X1_prepareBlock
set_option maxRecDepth 20000 in
theorem ggX1_closeChunk_X2_run : GoodIn wsX1_closeChunk wsX2_run := goodIn_r _ [30, 31, 32, 22, 33, 34, 35, 20, 36, 37, 24, 25, 26, 23, 38, 39, 40, 41, 42, 43, 44, 45, 46, 47, 84, 85, 86, 87, 88, 89, 90, 91] (by decide +kernel) (by decide +kernel)
set_option maxRecDepth 20000 in
theorem gX1_closeChunk_X2_run : GoodIn wsX1_closeChunk (wsV RX1 89 RX2 yX2_run wsX2_run) := goodIn_app (goodIn_of _ (by decide +kernel)) ggX1_closeChunk_X2_run
set_option maxRecDepth 20000 in
theorem ggX1_closeChunk_X2_joinBehind : GoodIn wsX1_closeChunk wsX2_joinBehind := goodIn_r _ [51, 23, 32, 52, 53, 20, 54, 55, 18, 19, 21, 22, 24, 25, 26, 84, 85, 86, 87, 88, 89, 90, 91] (by decide +kernel) (by decide +kernel)
set_option maxRecDepth 20000 in
theorem gX1_closeChunk_X2_joinBehind : GoodIn wsX1_closeChunk (wsV RX1 92 RX2 yX2_joinBehind wsX2_joinBehind) := goodIn_app (goodIn_of _ (by decide +kernel)) ggX1_closeChunk_X2_joinBehind
set_option maxRecDepth 20000 in
theorem ggX1_closeChunk_X2_writeChain : GoodIn wsX1_closeChunk wsX2_writeChain := goodIn_r _ [59, 32, 84, 85, 86, 87, 88, 89, 90, 91] (by decide +kernel) (by decide +kernel)
set_option maxRecDepth 20000 in
theorem gX1_closeChunk_X2_writeChain : GoodIn wsX1_closeChunk (wsV RX1 100 RX2 yX2_writeChain wsX2_writeChain) := goodIn_app (goodIn_of _ (by decide +kernel)) ggX1_closeChunk_X2_writeChain
set_option maxRecDepth 20000 in
theorem ggX1_closeChunk_X1_startChunk : GoodIn wsX1_closeChunk wsX1_startChunk := goodIn_r _ [63, 5, 13, 12, 64, 65, 10, 66, 67, 68, 69, 70, 14, 16, 71, 72, 73, 74, 75, 76, 77, 78, 79, 80, 81, 82, 83] (by decide +kernel) (by decide +kernel)
set_option maxRecDepth 20000 in
theorem gX1_closeChunk_X1_startChunk : GoodIn wsX1_closeChunk (wsV RX1 61 RX1 yX1_startChunk wsX1_startChunk) := goodIn_app (goodIn_of _ (by decide +kernel)) ggX1_closeChunk_X1_startChunk
theorem dX1_closeChunk_0 : decode cX1_closeChunk 0 = .ok (.aload_n 0, 1) := by decide +kernel
theorem dX1_closeChunk_1 : decode cX1_closeChunk 1 = .ok (.iconst 2, 1) := by decide +kernel
theorem dX1_closeChunk_2 : decode cX1_closeChunk 2 = .ok (.invokevirtual 86, 3) := by decide +kernel
theorem dX1_closeChunk_5 : decode cX1_closeChunk 5 = .ok (.aload_n 0, 1) := by decide +kernel
theorem dX1_closeChunk_6 : decode cX1_closeChunk 6 = .ok (.getfield 14, 3) := by decide +kernel
theorem dX1_closeChunk_9 : decode cX1_closeChunk 9 = .ok (.invokevirtual 89, 3) := by decide +kernel
theorem dX1_closeChunk_12 : decode cX1_closeChunk 12 = .ok (.aload_n 0, 1) := by decide +kernel
theorem dX1_closeChunk_13 : decode cX1_closeChunk 13 = .ok (.dup, 1) := by decide +kernel
theorem dX1_closeChunk_14 : decode cX1_closeChunk 14 = .ok (.getfield 55, 3) := by decide +kernel
theorem dX1_closeChunk_17 : decode cX1_closeChunk 17 = .ok (.iconst 1, 1) := by decide +kernel
theorem dX1_closeChunk_18 : decode cX1_closeChunk 18 = .ok (.iadd, 1) := by decide +kernel
theorem dX1_closeChunk_19 : decode cX1_closeChunk 19 = .ok (.putfield 55, 3) := by decide +kernel
theorem dX1_closeChunk_22 : decode cX1_closeChunk 22 = .ok (.aload_n 0, 1) := by decide +kernel
theorem dX1_closeChunk_23 : decode cX1_closeChunk 23 = .ok (.getfield 55, 3) := by decide +kernel
theorem dX1_closeChunk_26 : decode cX1_closeChunk 26 = .ok (.istore_n 1, 1) := by decide +kernel
theorem dX1_closeChunk_27 : decode cX1_closeChunk 27 = .ok (.aload_n 0, 1) := by decide +kernel
theorem dX1_closeChunk_28 : decode cX1_closeChunk 28 = .ok (.getfield 58, 3) := by decide +kernel
theorem dX1_closeChunk_31 : decode cX1_closeChunk 31 = .ok (.ifCond .le 59, 3) := by decide +kernel
theorem dX1_closeChunk_34 : decode cX1_closeChunk 34 = .ok (.iload_n 1, 1) := by decide +kernel
theorem dX1_closeChunk_35 : decode cX1_closeChunk 35 = .ok (.iconst 1, 1) := by decide +kernel
theorem dX1_closeChunk_36 : decode cX1_closeChunk 36 = .ok (.iand, 1) := by decide +kernel
theorem dX1_closeChunk_37 : decode cX1_closeChunk 37 = .ok (.ifCond .ne 53, 3) := by decide +kernel
theorem dX1_closeChunk_40 : decode cX1_closeChunk 40 = .ok (.aload_n 0, 1) := by decide +kernel
theorem dX1_closeChunk_41 : decode cX1_closeChunk 41 = .ok (.dup, 1) := by decide +kernel
theorem dX1_closeChunk_42 : decode cX1_closeChunk 42 = .ok (.getfield 58, 3) := by decide +kernel
theorem dX1_closeChunk_45 : decode cX1_closeChunk 45 = .ok (.iconst 1, 1) := by decide +kernel
theorem dX1_closeChunk_46 : decode cX1_closeChunk 46 = .ok (.isub, 1) := by decide +kernel
theorem dX1_closeChunk_47 : decode cX1_closeChunk 47 = .ok (.putfield 58, 3) := by decide +kernel
theorem dX1_closeChunk_50 : decode cX1_closeChunk 50 = .ok (.aload_n 0, 1) := by decide +kernel
theorem dX1_closeChunk_51 : decode cX1_closeChunk 51 = .ok (.getfield 14, 3) := by decide +kernel
theorem dX1_closeChunk_54 : decode cX1_closeChunk 54 = .ok (.aload_n 0, 1) := by decide +kernel
theorem dX1_closeChunk_55 : decode cX1_closeChunk 55 = .ok (.getfield 22, 3) := by decide +kernel
theorem dX1_closeChunk_58 : decode cX1_closeChunk 58 = .ok (.aload_n 0, 1) := by decide +kernel
theorem dX1_closeChunk_59 : decode cX1_closeChunk 59 = .ok (.getfield 58, 3) := by decide +kernel
theorem dX1_closeChunk_62 : decode cX1_closeChunk 62 = .ok (.bipush 8, 2) := by decide +kernel
theorem dX1_closeChunk_64 : decode cX1_closeChunk 64 = .ok (.imul, 1) := by decide +kernel
theorem dX1_closeChunk_65 : decode cX1_closeChunk 65 = .ok (.aload_n 0, 1) := by decide +kernel
theorem dX1_closeChunk_66 : decode cX1_closeChunk 66 = .ok (.getfield 18, 3) := by decide +kernel
theorem dX1_closeChunk_69 : decode cX1_closeChunk 69 = .ok (.aload_n 0, 1) := by decide +kernel
theorem dX1_closeChunk_70 : decode cX1_closeChunk 70 = .ok (.getfield 46, 3) := by decide +kernel
theorem dX1_closeChunk_73 : decode cX1_closeChunk 73 = .ok (.invokevirtual 92, 3) := by decide +kernel
theorem dX1_closeChunk_76 : decode cX1_closeChunk 76 = .ok (.aload_n 0, 1) := by decide +kernel
theorem dX1_closeChunk_77 : decode cX1_closeChunk 77 = .ok (.getfield 14, 3) := by decide +kernel
theorem dX1_closeChunk_80 : decode cX1_closeChunk 80 = .ok (.invokevirtual 89, 3) := by decide +kernel
theorem dX1_closeChunk_83 : decode cX1_closeChunk 83 = .ok (.iload_n 1, 1) := by decide +kernel
theorem dX1_closeChunk_84 : decode cX1_closeChunk 84 = .ok (.iconst 1, 1) := by decide +kernel
theorem dX1_closeChunk_85 : decode cX1_closeChunk 85 = .ok (.ishr, 1) := by decide +kernel
theorem dX1_closeChunk_86 : decode cX1_closeChunk 86 = .ok (.istore_n 1, 1) := by decide +kernel
theorem dX1_closeChunk_87 : decode cX1_closeChunk 87 = .ok (.goto (-60), 3) := by decide +kernel
theorem dX1_closeChunk_90 : decode cX1_closeChunk 90 = .ok (.aload_n 0, 1) := by decide +kernel
theorem dX1_closeChunk_91 : decode cX1_closeChunk 91 = .ok (.getfield 58, 3) := by decide +kernel
theorem dX1_closeChunk_94 : decode cX1_closeChunk 94 = .ok (.iconst 5, 1) := by decide +kernel
theorem dX1_closeChunk_95 : decode cX1_closeChunk 95 = .ok (.if_icmp .ge 31, 3) := by decide +kernel
theorem dX1_closeChunk_98 : decode cX1_closeChunk 98 = .ok (.aload_n 0, 1) := by decide +kernel
theorem dX1_closeChunk_99 : decode cX1_closeChunk 99 = .ok (.getfield 14, 3) := by decide +kernel
theorem dX1_closeChunk_102 : decode cX1_closeChunk 102 = .ok (.aload_n 0, 1) := by decide +kernel
theorem dX1_closeChunk_103 : decode cX1_closeChunk 103 = .ok (.getfield 22, 3) := by decide +kernel
theorem dX1_closeChunk_106 : decode cX1_closeChunk 106 = .ok (.aload_n 0, 1) := by decide +kernel
theorem dX1_closeChunk_107 : decode cX1_closeChunk 107 = .ok (.getfield 58, 3) := by decide +kernel
theorem dX1_closeChunk_110 : decode cX1_closeChunk 110 = .ok (.bipush 8, 2) := by decide +kernel
theorem dX1_closeChunk_112 : decode cX1_closeChunk 112 = .ok (.imul, 1) := by decide +kernel
theorem dX1_closeChunk_113 : decode cX1_closeChunk 113 = .ok (.invokevirtual 100, 3) := by decide +kernel
theorem dX1_closeChunk_116 : decode cX1_closeChunk 116 = .ok (.aload_n 0, 1) := by decide +kernel
theorem dX1_closeChunk_117 : decode cX1_closeChunk 117 = .ok (.dup, 1) := by decide +kernel
theorem dX1_closeChunk_118 : decode cX1_closeChunk 118 = .ok (.getfield 58, 3) := by decide +kernel
theorem dX1_closeChunk_121 : decode cX1_closeChunk 121 = .ok (.iconst 1, 1) := by decide +kernel
theorem dX1_closeChunk_122 : decode cX1_closeChunk 122 = .ok (.iadd, 1) := by decide +kernel
theorem dX1_closeChunk_123 : decode cX1_closeChunk 123 = .ok (.putfield 58, 3) := by decide +kernel
theorem dX1_closeChunk_126 : decode cX1_closeChunk 126 = .ok (.aload_n 0, 1) := by decide +kernel
theorem dX1_closeChunk_127 : decode cX1_closeChunk 127 = .ok (.invokevirtual 61, 3) := by decide +kernel
theorem dX1_closeChunk_130 : decode cX1_closeChunk 130 = .ok (.return_, 1) := by decide +kernel
set_option maxRecDepth 20000 in
theorem ggX1_startChunk_X1_copyWords : GoodIn wsX1_startChunk wsX1_copyWords := goodIn_r _ [7] (by decide +kernel) (by decide +kernel)
set_option maxRecDepth 20000 in
theorem gX1_startChunk_X1_copyWords : GoodIn wsX1_startChunk (va_wsS RX1 38 yX1_copyWords wsX1_copyWords) := goodIn_app (goodIn_of _ (by decide +kernel)) ggX1_startChunk_X1_copyWords
set_option maxRecDepth 20000 in
theorem ggX1_startChunk_X1_startBlock : GoodIn wsX1_startChunk wsX1_startBlock := goodIn_r _ [11, 12, 13, 14, 15, 16, 17, 18, 19, 20, 21, 22, 23, 24, 25, 26] (by decide +kernel) (by decide +kernel)
set_option maxRecDepth 20000 in
theorem gX1_startChunk_X1_startBlock : GoodIn wsX1_startChunk (wsV RX1 104 RX1 yX1_startBlock wsX1_startBlock) := goodIn_app (goodIn_of _ (by decide +kernel)) ggX1_startChunk_X1_startBlock
theorem dX1_startChunk_0 : decode cX1_startChunk 0 = .ok (.aload_n 0, 1) := by decide +kernel
theorem dX1_startChunk_1 : decode cX1_startChunk 1 = .ok (.getfield 18, 3) := by decide +kernel
theorem dX1_startChunk_4 : decode cX1_startChunk 4 = .ok (.aload_n 0, 1) := by decide +kernel
theorem dX1_startChunk_5 : decode cX1_startChunk 5 = .ok (.getfield 25, 3) := by decide +kernel
theorem dX1_startChunk_8 : decode cX1_startChunk 8 = .ok (.invokestatic 38, 3) := by decide +kernel
theorem dX1_startChunk_11 : decode cX1_startChunk 11 = .ok (.aload_n 0, 1) := by decide +kernel
theorem dX1_startChunk_12 : decode cX1_startChunk 12 = .ok (.iconst 0, 1) := by decide +kernel
theorem dX1_startChunk_13 : decode cX1_startChunk 13 = .ok (.putfield 64, 3) := by decide +kernel
theorem dX1_startChunk_16 : decode cX1_startChunk 16 = .ok (.aload_n 0, 1) := by decide +kernel
theorem dX1_startChunk_17 : decode cX1_startChunk 17 = .ok (.invokevirtual 104, 3) := by decide +kernel
theorem dX1_startChunk_20 : decode cX1_startChunk 20 = .ok (.return_, 1) := by decide +kernel
theorem dX1_startBlock_0 : decode cX1_startBlock 0 = .ok (.iconst 0, 1) := by decide +kernel
theorem dX1_startBlock_1 : decode cX1_startBlock 1 = .ok (.istore_n 1, 1) := by decide +kernel
theorem dX1_startBlock_2 : decode cX1_startBlock 2 = .ok (.iload_n 1, 1) := by decide +kernel
theorem dX1_startBlock_3 : decode cX1_startBlock 3 = .ok (.aload_n 0, 1) := by decide +kernel
theorem dX1_startBlock_4 : decode cX1_startBlock 4 = .ok (.getfield 28, 3) := by decide +kernel
theorem dX1_startBlock_7 : decode cX1_startBlock 7 = .ok (.arraylength, 1) := by decide +kernel
theorem dX1_startBlock_8 : decode cX1_startBlock 8 = .ok (.if_icmp .ge 16, 3) := by decide +kernel
theorem dX1_startBlock_11 : decode cX1_startBlock 11 = .ok (.aload_n 0, 1) := by decide +kernel
theorem dX1_startBlock_12 : decode cX1_startBlock 12 = .ok (.getfield 28, 3) := by decide +kernel
theorem dX1_startBlock_15 : decode cX1_startBlock 15 = .ok (.iload_n 1, 1) := by decide +kernel
theorem dX1_startBlock_16 : decode cX1_startBlock 16 = .ok (.iconst 0, 1) := by decide +kernel
theorem dX1_startBlock_17 : decode cX1_startBlock 17 = .ok (.iastore, 1) := by decide +kernel
theorem dX1_startBlock_18 : decode cX1_startBlock 18 = .ok (.iinc 1 1, 3) := by decide +kernel
theorem dX1_startBlock_21 : decode cX1_startBlock 21 = .ok (.goto (-19), 3) := by decide +kernel
theorem dX1_startBlock_24 : decode cX1_startBlock 24 = .ok (.aload_n 0, 1) := by decide +kernel
theorem dX1_startBlock_25 : decode cX1_startBlock 25 = .ok (.iconst 0, 1) := by decide +kernel
theorem dX1_startBlock_26 : decode cX1_startBlock 26 = .ok (.putfield 67, 3) := by decide +kernel
theorem dX1_startBlock_29 : decode cX1_startBlock 29 = .ok (.return_, 1) := by decide +kernel
theorem dX1_copyWords_0 : decode cX1_copyWords 0 = .ok (.iconst 0, 1) := by decide +kernel
theorem dX1_copyWords_1 : decode cX1_copyWords 1 = .ok (.istore_n 2, 1) := by decide +kernel
theorem dX1_copyWords_2 : decode cX1_copyWords 2 = .ok (.iload_n 2, 1) := by decide +kernel
theorem dX1_copyWords_3 : decode cX1_copyWords 3 = .ok (.aload_n 1, 1) := by decide +kernel
theorem dX1_copyWords_4 : decode cX1_copyWords 4 = .ok (.arraylength, 1) := by decide +kernel
theorem dX1_copyWords_5 : decode cX1_copyWords 5 = .ok (.if_icmp .ge 21, 3) := by decide +kernel
theorem dX1_copyWords_8 : decode cX1_copyWords 8 = .ok (.iload_n 2, 1) := by decide +kernel
theorem dX1_copyWords_9 : decode cX1_copyWords 9 = .ok (.aload_n 0, 1) := by decide +kernel
theorem dX1_copyWords_10 : decode cX1_copyWords 10 = .ok (.arraylength, 1) := by decide +kernel
theorem dX1_copyWords_11 : decode cX1_copyWords 11 = .ok (.if_icmp .ge 15, 3) := by decide +kernel
theorem dX1_copyWords_14 : decode cX1_copyWords 14 = .ok (.aload_n 1, 1) := by decide +kernel
theorem dX1_copyWords_15 : decode cX1_copyWords 15 = .ok (.iload_n 2, 1) := by decide +kernel
theorem dX1_copyWords_16 : decode cX1_copyWords 16 = .ok (.aload_n 0, 1) := by decide +kernel
theorem dX1_copyWords_17 : decode cX1_copyWords 17 = .ok (.iload_n 2, 1) := by decide +kernel
theorem dX1_copyWords_18 : decode cX1_copyWords 18 = .ok (.iaload, 1) := by decide +kernel
theorem dX1_copyWords_19 : decode cX1_copyWords 19 = .ok (.iastore, 1) := by decide +kernel
theorem dX1_copyWords_20 : decode cX1_copyWords 20 = .ok (.iinc 2 1, 3) := by decide +kernel
theorem dX1_copyWords_23 : decode cX1_copyWords 23 = .ok (.goto (-21), 3) := by decide +kernel
theorem dX1_copyWords_26 : decode cX1_copyWords 26 = .ok (.return_, 1) := by decide +kernel
