theorem dX0_init_0 : decode cX0_init 0 = .ok (.aload_n 0, 1) := by decide +kernel
theorem dX0_init_1 : decode cX0_init 1 = .ok (.invokespecial 1, 3) := by decide +kernel
theorem dX0_init_4 : decode cX0_init 4 = .ok (.aload_n 0, 1) := by decide +kernel
theorem dX0_init_5 : decode cX0_init 5 = .ok (.iload_n 1, 1) := by decide +kernel
theorem dX0_init_6 : decode cX0_init 6 = .ok (.putfield 7, 3) := by decide +kernel
theorem dX0_init_9 : decode cX0_init 9 = .ok (.aload_n 0, 1) := by decide +kernel
theorem dX0_init_10 : decode cX0_init 10 = .ok (.iload_n 2, 1) := by decide +kernel
theorem dX0_init_11 : decode cX0_init 11 = .ok (.putfield 13, 3) := by decide +kernel
theorem dX0_init_14 : decode cX0_init 14 = .ok (.aload_n 0, 1) := by decide +kernel
theorem dX0_init_15 : decode cX0_init 15 = .ok (.iload_n 3, 1) := by decide +kernel
theorem dX0_init_16 : decode cX0_init 16 = .ok (.putfield 16, 3) := by decide +kernel
theorem dX0_init_19 : decode cX0_init 19 = .ok (.aload_n 0, 1) := by decide +kernel
theorem dX0_init_20 : decode cX0_init 20 = .ok (.iload 4, 2) := by decide +kernel
theorem dX0_init_22 : decode cX0_init 22 = .ok (.putfield 19, 3) := by decide +kernel
theorem dX0_init_25 : decode cX0_init 25 = .ok (.aload_n 0, 1) := by decide +kernel
theorem dX0_init_26 : decode cX0_init 26 = .ok (.iload 5, 2) := by decide +kernel
theorem dX0_init_28 : decode cX0_init 28 = .ok (.putfield 22, 3) := by decide +kernel
theorem dX0_init_31 : decode cX0_init 31 = .ok (.aload_n 0, 1) := by decide +kernel
theorem dX0_init_32 : decode cX0_init 32 = .ok (.iload 6, 2) := by decide +kernel
theorem dX0_init_34 : decode cX0_init 34 = .ok (.putfield 25, 3) := by decide +kernel
theorem dX0_init_37 : decode cX0_init 37 = .ok (.return_, 1) := by decide +kernel
theorem dX1_init_0 : decode cX1_init 0 = .ok (.aload_n 0, 1) := by decide +kernel
theorem dX1_init_1 : decode cX1_init 1 = .ok (.invokespecial 3, 3) := by decide +kernel
theorem dX1_init_4 : decode cX1_init 4 = .ok (.aload_n 0, 1) := by decide +kernel
theorem dX1_init_5 : decode cX1_init 5 = .ok (.bipush 8, 2) := by decide +kernel
theorem dX1_init_7 : decode cX1_init 7 = .ok (.newarray .int, 2) := by decide +kernel
theorem dX1_init_9 : decode cX1_init 9 = .ok (.putfield 9, 3) := by decide +kernel
theorem dX1_init_12 : decode cX1_init 12 = .ok (.aload_n 0, 1) := by decide +kernel
theorem dX1_init_13 : decode cX1_init 13 = .ok (.bipush 8, 2) := by decide +kernel
theorem dX1_init_15 : decode cX1_init 15 = .ok (.newarray .int, 2) := by decide +kernel
theorem dX1_init_17 : decode cX1_init 17 = .ok (.putfield 15, 3) := by decide +kernel
theorem dX1_init_20 : decode cX1_init 20 = .ok (.aload_n 0, 1) := by decide +kernel
theorem dX1_init_21 : decode cX1_init 21 = .ok (.iconst 0, 1) := by decide +kernel
theorem dX1_init_22 : decode cX1_init 22 = .ok (.putfield 18, 3) := by decide +kernel
theorem dX1_init_25 : decode cX1_init 25 = .ok (.aload_n 0, 1) := by decide +kernel
theorem dX1_init_26 : decode cX1_init 26 = .ok (.iload_n 1, 1) := by decide +kernel
theorem dX1_init_27 : decode cX1_init 27 = .ok (.putfield 22, 3) := by decide +kernel
theorem dX1_init_30 : decode cX1_init 30 = .ok (.return_, 1) := by decide +kernel
set_option maxRecDepth 20000 in
theorem ggX1_put_X1_spanAt : GoodIn wsX1_put wsX1_spanAt := goodIn_r _ [8, 3, 1, 9, 10, 11, 12] rfl (by decide +kernel)
set_option maxRecDepth 20000 in
theorem gX1_put_X1_spanAt : GoodIn wsX1_put (wsV RX1 25 RX1 yX1_spanAt wsX1_spanAt) := goodIn_app (by first | exact goodIn_r _ [4, 5, 6, 7] rfl (by decide +kernel) | exact goodIn_of _ (by decide +kernel)) ggX1_put_X1_spanAt
theorem dX1_put_0 : decode cX1_put 0 = .ok (.aload_n 0, 1) := by decide +kernel
theorem dX1_put_1 : decode cX1_put 1 = .ok (.iload_n 1, 1) := by decide +kernel
theorem dX1_put_2 : decode cX1_put 2 = .ok (.invokevirtual 25, 3) := by decide +kernel
theorem dX1_put_5 : decode cX1_put 5 = .ok (.istore_n 3, 1) := by decide +kernel
theorem dX1_put_6 : decode cX1_put 6 = .ok (.iload_n 3, 1) := by decide +kernel
theorem dX1_put_7 : decode cX1_put 7 = .ok (.ifCond .le 26, 3) := by decide +kernel
theorem dX1_put_10 : decode cX1_put 10 = .ok (.aload_n 0, 1) := by decide +kernel
theorem dX1_put_11 : decode cX1_put 11 = .ok (.getfield 9, 3) := by decide +kernel
theorem dX1_put_14 : decode cX1_put 14 = .ok (.iload_n 3, 1) := by decide +kernel
theorem dX1_put_15 : decode cX1_put 15 = .ok (.iconst 1, 1) := by decide +kernel
theorem dX1_put_16 : decode cX1_put 16 = .ok (.isub, 1) := by decide +kernel
theorem dX1_put_17 : decode cX1_put 17 = .ok (.iaload, 1) := by decide +kernel
theorem dX1_put_18 : decode cX1_put 18 = .ok (.iload_n 1, 1) := by decide +kernel
theorem dX1_put_19 : decode cX1_put 19 = .ok (.if_icmp .ne 14, 3) := by decide +kernel
theorem dX1_put_22 : decode cX1_put 22 = .ok (.aload_n 0, 1) := by decide +kernel
theorem dX1_put_23 : decode cX1_put 23 = .ok (.getfield 15, 3) := by decide +kernel
theorem dX1_put_26 : decode cX1_put 26 = .ok (.iload_n 3, 1) := by decide +kernel
theorem dX1_put_27 : decode cX1_put 27 = .ok (.iconst 1, 1) := by decide +kernel
theorem dX1_put_28 : decode cX1_put 28 = .ok (.isub, 1) := by decide +kernel
theorem dX1_put_29 : decode cX1_put 29 = .ok (.iload_n 2, 1) := by decide +kernel
theorem dX1_put_30 : decode cX1_put 30 = .ok (.iastore, 1) := by decide +kernel
theorem dX1_put_31 : decode cX1_put 31 = .ok (.iconst 1, 1) := by decide +kernel
theorem dX1_put_32 : decode cX1_put 32 = .ok (.ireturn, 1) := by decide +kernel
theorem dX1_put_33 : decode cX1_put 33 = .ok (.aload_n 0, 1) := by decide +kernel
theorem dX1_put_34 : decode cX1_put 34 = .ok (.getfield 18, 3) := by decide +kernel
theorem dX1_put_37 : decode cX1_put 37 = .ok (.bipush 8, 2) := by decide +kernel
theorem dX1_put_39 : decode cX1_put 39 = .ok (.if_icmp .lt 5, 3) := by decide +kernel
theorem dX1_put_42 : decode cX1_put 42 = .ok (.iconst 0, 1) := by decide +kernel
theorem dX1_put_43 : decode cX1_put 43 = .ok (.ireturn, 1) := by decide +kernel
theorem dX1_put_44 : decode cX1_put 44 = .ok (.aload_n 0, 1) := by decide +kernel
theorem dX1_put_45 : decode cX1_put 45 = .ok (.getfield 18, 3) := by decide +kernel
theorem dX1_put_48 : decode cX1_put 48 = .ok (.istore 4, 2) := by decide +kernel
theorem dX1_put_50 : decode cX1_put 50 = .ok (.iload 4, 2) := by decide +kernel
theorem dX1_put_52 : decode cX1_put 52 = .ok (.iload_n 3, 1) := by decide +kernel
theorem dX1_put_53 : decode cX1_put 53 = .ok (.if_icmp .le 41, 3) := by decide +kernel
theorem dX1_put_56 : decode cX1_put 56 = .ok (.aload_n 0, 1) := by decide +kernel
theorem dX1_put_57 : decode cX1_put 57 = .ok (.getfield 9, 3) := by decide +kernel
theorem dX1_put_60 : decode cX1_put 60 = .ok (.iload 4, 2) := by decide +kernel
theorem dX1_put_62 : decode cX1_put 62 = .ok (.aload_n 0, 1) := by decide +kernel
theorem dX1_put_63 : decode cX1_put 63 = .ok (.getfield 9, 3) := by decide +kernel
theorem dX1_put_66 : decode cX1_put 66 = .ok (.iload 4, 2) := by decide +kernel
theorem dX1_put_68 : decode cX1_put 68 = .ok (.iconst 1, 1) := by decide +kernel
theorem dX1_put_69 : decode cX1_put 69 = .ok (.isub, 1) := by decide +kernel
theorem dX1_put_70 : decode cX1_put 70 = .ok (.iaload, 1) := by decide +kernel
theorem dX1_put_71 : decode cX1_put 71 = .ok (.iastore, 1) := by decide +kernel
theorem dX1_put_72 : decode cX1_put 72 = .ok (.aload_n 0, 1) := by decide +kernel
theorem dX1_put_73 : decode cX1_put 73 = .ok (.getfield 15, 3) := by decide +kernel
theorem dX1_put_76 : decode cX1_put 76 = .ok (.iload 4, 2) := by decide +kernel
theorem dX1_put_78 : decode cX1_put 78 = .ok (.aload_n 0, 1) := by decide +kernel
theorem dX1_put_79 : decode cX1_put 79 = .ok (.getfield 15, 3) := by decide +kernel
theorem dX1_put_82 : decode cX1_put 82 = .ok (.iload 4, 2) := by decide +kernel
theorem dX1_put_84 : decode cX1_put 84 = .ok (.iconst 1, 1) := by decide +kernel
theorem dX1_put_85 : decode cX1_put 85 = .ok (.isub, 1) := by decide +kernel
theorem dX1_put_86 : decode cX1_put 86 = .ok (.iaload, 1) := by decide +kernel
theorem dX1_put_87 : decode cX1_put 87 = .ok (.iastore, 1) := by decide +kernel
theorem dX1_put_88 : decode cX1_put 88 = .ok (.iinc 4 (-1), 3) := by decide +kernel
theorem dX1_put_91 : decode cX1_put 91 = .ok (.goto (-41), 3) := by decide +kernel
theorem dX1_put_94 : decode cX1_put 94 = .ok (.aload_n 0, 1) := by decide +kernel
theorem dX1_put_95 : decode cX1_put 95 = .ok (.getfield 9, 3) := by decide +kernel
theorem dX1_put_98 : decode cX1_put 98 = .ok (.iload_n 3, 1) := by decide +kernel
theorem dX1_put_99 : decode cX1_put 99 = .ok (.iload_n 1, 1) := by decide +kernel
theorem dX1_put_100 : decode cX1_put 100 = .ok (.iastore, 1) := by decide +kernel
theorem dX1_put_101 : decode cX1_put 101 = .ok (.aload_n 0, 1) := by decide +kernel
theorem dX1_put_102 : decode cX1_put 102 = .ok (.getfield 15, 3) := by decide +kernel
theorem dX1_put_105 : decode cX1_put 105 = .ok (.iload_n 3, 1) := by decide +kernel
theorem dX1_put_106 : decode cX1_put 106 = .ok (.iload_n 2, 1) := by decide +kernel
theorem dX1_put_107 : decode cX1_put 107 = .ok (.iastore, 1) := by decide +kernel
theorem dX1_put_108 : decode cX1_put 108 = .ok (.aload_n 0, 1) := by decide +kernel
theorem dX1_put_109 : decode cX1_put 109 = .ok (.dup, 1) := by decide +kernel
theorem dX1_put_110 : decode cX1_put 110 = .ok (.getfield 18, 3) := by decide +kernel
theorem dX1_put_113 : decode cX1_put 113 = .ok (.iconst 1, 1) := by decide +kernel
theorem dX1_put_114 : decode cX1_put 114 = .ok (.iadd, 1) := by decide +kernel
theorem dX1_put_115 : decode cX1_put 115 = .ok (.putfield 18, 3) := by decide +kernel
theorem dX1_put_118 : decode cX1_put 118 = .ok (.iconst 1, 1) := by decide +kernel
theorem dX1_put_119 : decode cX1_put 119 = .ok (.ireturn, 1) := by decide +kernel
set_option maxRecDepth 20000 in
theorem ggX1_valueAt_X1_spanAt : GoodIn wsX1_valueAt wsX1_spanAt := goodIn_r _ [5, 6, 7, 14, 15, 16, 17] rfl (by decide +kernel)
set_option maxRecDepth 20000 in
theorem gX1_valueAt_X1_spanAt : GoodIn wsX1_valueAt (wsV RX1 25 RX1 yX1_spanAt wsX1_spanAt) := goodIn_app (by first | exact goodIn_r _ [1, 2, 3, 4] rfl (by decide +kernel) | exact goodIn_of _ (by decide +kernel)) ggX1_valueAt_X1_spanAt
set_option maxRecDepth 20000 in
theorem ggX1_valueAt_X1_valueOfSpan : GoodIn wsX1_valueAt wsX1_valueOfSpan := goodIn_r _ [11, 6, 12, 13, 14, 15, 16, 17] rfl (by decide +kernel)
set_option maxRecDepth 20000 in
theorem gX1_valueAt_X1_valueOfSpan : GoodIn wsX1_valueAt (wsV RX1 29 RX1 yX1_valueOfSpan wsX1_valueOfSpan) := goodIn_app (by first | exact goodIn_r _ [8, 9, 10, 4] rfl (by decide +kernel) | exact goodIn_of _ (by decide +kernel)) ggX1_valueAt_X1_valueOfSpan
theorem dX1_valueAt_0 : decode cX1_valueAt 0 = .ok (.aload_n 0, 1) := by decide +kernel
theorem dX1_valueAt_1 : decode cX1_valueAt 1 = .ok (.aload_n 0, 1) := by decide +kernel
theorem dX1_valueAt_2 : decode cX1_valueAt 2 = .ok (.iload_n 1, 1) := by decide +kernel
theorem dX1_valueAt_3 : decode cX1_valueAt 3 = .ok (.invokevirtual 25, 3) := by decide +kernel
theorem dX1_valueAt_6 : decode cX1_valueAt 6 = .ok (.invokevirtual 29, 3) := by decide +kernel
theorem dX1_valueAt_9 : decode cX1_valueAt 9 = .ok (.ireturn, 1) := by decide +kernel
theorem dX1_spanAt_0 : decode cX1_spanAt 0 = .ok (.iconst 0, 1) := by decide +kernel
theorem dX1_spanAt_1 : decode cX1_spanAt 1 = .ok (.istore_n 2, 1) := by decide +kernel
theorem dX1_spanAt_2 : decode cX1_spanAt 2 = .ok (.iload_n 2, 1) := by decide +kernel
theorem dX1_spanAt_3 : decode cX1_spanAt 3 = .ok (.aload_n 0, 1) := by decide +kernel
theorem dX1_spanAt_4 : decode cX1_spanAt 4 = .ok (.getfield 18, 3) := by decide +kernel
theorem dX1_spanAt_7 : decode cX1_spanAt 7 = .ok (.if_icmp .ge 19, 3) := by decide +kernel
theorem dX1_spanAt_10 : decode cX1_spanAt 10 = .ok (.aload_n 0, 1) := by decide +kernel
theorem dX1_spanAt_11 : decode cX1_spanAt 11 = .ok (.getfield 9, 3) := by decide +kernel
theorem dX1_spanAt_14 : decode cX1_spanAt 14 = .ok (.iload_n 2, 1) := by decide +kernel
theorem dX1_spanAt_15 : decode cX1_spanAt 15 = .ok (.iaload, 1) := by decide +kernel
theorem dX1_spanAt_16 : decode cX1_spanAt 16 = .ok (.iload_n 1, 1) := by decide +kernel
theorem dX1_spanAt_17 : decode cX1_spanAt 17 = .ok (.if_icmp .gt 9, 3) := by decide +kernel
theorem dX1_spanAt_20 : decode cX1_spanAt 20 = .ok (.iinc 2 1, 3) := by decide +kernel
theorem dX1_spanAt_23 : decode cX1_spanAt 23 = .ok (.goto (-21), 3) := by decide +kernel
theorem dX1_spanAt_26 : decode cX1_spanAt 26 = .ok (.iload_n 2, 1) := by decide +kernel
theorem dX1_spanAt_27 : decode cX1_spanAt 27 = .ok (.ireturn, 1) := by decide +kernel
theorem dX1_beginOfSpan_0 : decode cX1_beginOfSpan 0 = .ok (.iload_n 1, 1) := by decide +kernel
theorem dX1_beginOfSpan_1 : decode cX1_beginOfSpan 1 = .ok (.ifCond .ne 7, 3) := by decide +kernel
theorem dX1_beginOfSpan_4 : decode cX1_beginOfSpan 4 = .ok (.iconst 0, 1) := by decide +kernel
theorem dX1_beginOfSpan_5 : decode cX1_beginOfSpan 5 = .ok (.goto 11, 3) := by decide +kernel
theorem dX1_beginOfSpan_8 : decode cX1_beginOfSpan 8 = .ok (.aload_n 0, 1) := by decide +kernel
theorem dX1_beginOfSpan_9 : decode cX1_beginOfSpan 9 = .ok (.getfield 9, 3) := by decide +kernel
theorem dX1_beginOfSpan_12 : decode cX1_beginOfSpan 12 = .ok (.iload_n 1, 1) := by decide +kernel
theorem dX1_beginOfSpan_13 : decode cX1_beginOfSpan 13 = .ok (.iconst 1, 1) := by decide +kernel
theorem dX1_beginOfSpan_14 : decode cX1_beginOfSpan 14 = .ok (.isub, 1) := by decide +kernel
theorem dX1_beginOfSpan_15 : decode cX1_beginOfSpan 15 = .ok (.iaload, 1) := by decide +kernel
theorem dX1_beginOfSpan_16 : decode cX1_beginOfSpan 16 = .ok (.ireturn, 1) := by decide +kernel
theorem dX1_endOfSpan_0 : decode cX1_endOfSpan 0 = .ok (.iload_n 1, 1) := by decide +kernel
theorem dX1_endOfSpan_1 : decode cX1_endOfSpan 1 = .ok (.aload_n 0, 1) := by decide +kernel
theorem dX1_endOfSpan_2 : decode cX1_endOfSpan 2 = .ok (.getfield 18, 3) := by decide +kernel
theorem dX1_endOfSpan_5 : decode cX1_endOfSpan 5 = .ok (.if_icmp .ne 9, 3) := by decide +kernel
theorem dX1_endOfSpan_8 : decode cX1_endOfSpan 8 = .ok (.sipush 1440, 3) := by decide +kernel
theorem dX1_endOfSpan_11 : decode cX1_endOfSpan 11 = .ok (.goto 9, 3) := by decide +kernel
theorem dX1_endOfSpan_14 : decode cX1_endOfSpan 14 = .ok (.aload_n 0, 1) := by decide +kernel
theorem dX1_endOfSpan_15 : decode cX1_endOfSpan 15 = .ok (.getfield 9, 3) := by decide +kernel
theorem dX1_endOfSpan_18 : decode cX1_endOfSpan 18 = .ok (.iload_n 1, 1) := by decide +kernel
theorem dX1_endOfSpan_19 : decode cX1_endOfSpan 19 = .ok (.iaload, 1) := by decide +kernel
theorem dX1_endOfSpan_20 : decode cX1_endOfSpan 20 = .ok (.ireturn, 1) := by decide +kernel
theorem dX1_valueOfSpan_0 : decode cX1_valueOfSpan 0 = .ok (.aload_n 0, 1) := by decide +kernel
theorem dX1_valueOfSpan_1 : decode cX1_valueOfSpan 1 = .ok (.getfield 18, 3) := by decide +kernel
theorem dX1_valueOfSpan_4 : decode cX1_valueOfSpan 4 = .ok (.ifCond .ne 8, 3) := by decide +kernel
theorem dX1_valueOfSpan_7 : decode cX1_valueOfSpan 7 = .ok (.aload_n 0, 1) := by decide +kernel
theorem dX1_valueOfSpan_8 : decode cX1_valueOfSpan 8 = .ok (.getfield 22, 3) := by decide +kernel
theorem dX1_valueOfSpan_11 : decode cX1_valueOfSpan 11 = .ok (.ireturn, 1) := by decide +kernel
theorem dX1_valueOfSpan_12 : decode cX1_valueOfSpan 12 = .ok (.iload_n 1, 1) := by decide +kernel
theorem dX1_valueOfSpan_13 : decode cX1_valueOfSpan 13 = .ok (.ifCond .ne 17, 3) := by decide +kernel
theorem dX1_valueOfSpan_16 : decode cX1_valueOfSpan 16 = .ok (.aload_n 0, 1) := by decide +kernel
theorem dX1_valueOfSpan_17 : decode cX1_valueOfSpan 17 = .ok (.getfield 15, 3) := by decide +kernel
theorem dX1_valueOfSpan_20 : decode cX1_valueOfSpan 20 = .ok (.aload_n 0, 1) := by decide +kernel
theorem dX1_valueOfSpan_21 : decode cX1_valueOfSpan 21 = .ok (.getfield 18, 3) := by decide +kernel
theorem dX1_valueOfSpan_24 : decode cX1_valueOfSpan 24 = .ok (.iconst 1, 1) := by decide +kernel
theorem dX1_valueOfSpan_25 : decode cX1_valueOfSpan 25 = .ok (.isub, 1) := by decide +kernel
theorem dX1_valueOfSpan_26 : decode cX1_valueOfSpan 26 = .ok (.iaload, 1) := by decide +kernel
theorem dX1_valueOfSpan_27 : decode cX1_valueOfSpan 27 = .ok (.goto 11, 3) := by decide +kernel
theorem dX1_valueOfSpan_30 : decode cX1_valueOfSpan 30 = .ok (.aload_n 0, 1) := by decide +kernel
theorem dX1_valueOfSpan_31 : decode cX1_valueOfSpan 31 = .ok (.getfield 15, 3) := by decide +kernel
theorem dX1_valueOfSpan_34 : decode cX1_valueOfSpan 34 = .ok (.iload_n 1, 1) := by decide +kernel
theorem dX1_valueOfSpan_35 : decode cX1_valueOfSpan 35 = .ok (.iconst 1, 1) := by decide +kernel
theorem dX1_valueOfSpan_36 : decode cX1_valueOfSpan 36 = .ok (.isub, 1) := by decide +kernel
theorem dX1_valueOfSpan_37 : decode cX1_valueOfSpan 37 = .ok (.iaload, 1) := by decide +kernel
theorem dX1_valueOfSpan_38 : decode cX1_valueOfSpan 38 = .ok (.ireturn, 1) := by decide +kernel
set_option maxRecDepth 20000 in
theorem ggX2_init_X1_init : GoodIn wsX2_init wsX1_init := goodIn_r _ [32, 33, 2, 3, 6, 34, 35, 36, 37, 54, 55, 56, 57] rfl (by decide +kernel)
set_option maxRecDepth 20000 in
theorem gX2_init_X1_init_n70 : GoodIn wsX2_init (wsX1_init) := ggX2_init_X1_init
theorem dX2_init_0 : decode cX2_init 0 = .ok (.aload_n 0, 1) := by decide +kernel
theorem dX2_init_1 : decode cX2_init 1 = .ok (.invokespecial 1, 3) := by decide +kernel
theorem dX2_init_4 : decode cX2_init 4 = .ok (.aload_n 0, 1) := by decide +kernel
theorem dX2_init_5 : decode cX2_init 5 = .ok (.iconst 5, 1) := by decide +kernel
theorem dX2_init_6 : decode cX2_init 6 = .ok (.anewarray 9, 3) := by decide +kernel
theorem dX2_init_9 : decode cX2_init 9 = .ok (.putfield 11, 3) := by decide +kernel
theorem dX2_init_12 : decode cX2_init 12 = .ok (.aload_n 0, 1) := by decide +kernel
theorem dX2_init_13 : decode cX2_init 13 = .ok (.bipush 33, 2) := by decide +kernel
theorem dX2_init_15 : decode cX2_init 15 = .ok (.newarray .int, 2) := by decide +kernel
theorem dX2_init_17 : decode cX2_init 17 = .ok (.putfield 15, 3) := by decide +kernel
theorem dX2_init_20 : decode cX2_init 20 = .ok (.aload_n 0, 1) := by decide +kernel
theorem dX2_init_21 : decode cX2_init 21 = .ok (.sipush 200, 3) := by decide +kernel
theorem dX2_init_24 : decode cX2_init 24 = .ok (.anewarray 19, 3) := by decide +kernel
theorem dX2_init_27 : decode cX2_init 27 = .ok (.putfield 21, 3) := by decide +kernel
theorem dX2_init_30 : decode cX2_init 30 = .ok (.aload_n 0, 1) := by decide +kernel
theorem dX2_init_31 : decode cX2_init 31 = .ok (.bipush 70, 2) := by decide +kernel
theorem dX2_init_33 : decode cX2_init 33 = .ok (.newarray .int, 2) := by decide +kernel
theorem dX2_init_35 : decode cX2_init 35 = .ok (.putfield 25, 3) := by decide +kernel
theorem dX2_init_38 : decode cX2_init 38 = .ok (.aload_n 0, 1) := by decide +kernel
theorem dX2_init_39 : decode cX2_init 39 = .ok (.bipush 70, 2) := by decide +kernel
theorem dX2_init_41 : decode cX2_init 41 = .ok (.newarray .int, 2) := by decide +kernel
theorem dX2_init_43 : decode cX2_init 43 = .ok (.putfield 28, 3) := by decide +kernel
theorem dX2_init_46 : decode cX2_init 46 = .ok (.aload_n 0, 1) := by decide +kernel
theorem dX2_init_47 : decode cX2_init 47 = .ok (.iconst 0, 1) := by decide +kernel
theorem dX2_init_48 : decode cX2_init 48 = .ok (.putfield 31, 3) := by decide +kernel
theorem dX2_init_51 : decode cX2_init 51 = .ok (.aload_n 0, 1) := by decide +kernel
theorem dX2_init_52 : decode cX2_init 52 = .ok (.iconst 0, 1) := by decide +kernel
theorem dX2_init_53 : decode cX2_init 53 = .ok (.putfield 35, 3) := by decide +kernel
theorem dX2_init_56 : decode cX2_init 56 = .ok (.aload_n 0, 1) := by decide +kernel
theorem dX2_init_57 : decode cX2_init 57 = .ok (.iconst 0, 1) := by decide +kernel
theorem dX2_init_58 : decode cX2_init 58 = .ok (.putfield 38, 3) := by decide +kernel
theorem dX2_init_61 : decode cX2_init 61 = .ok (.aload_n 0, 1) := by decide +kernel
theorem dX2_init_62 : decode cX2_init 62 = .ok (.sipush 10000, 3) := by decide +kernel
theorem dX2_init_65 : decode cX2_init 65 = .ok (.putfield 41, 3) := by decide +kernel
theorem dX2_init_68 : decode cX2_init 68 = .ok (.aload_n 0, 1) := by decide +kernel
theorem dX2_init_69 : decode cX2_init 69 = .ok (.ldc 44, 2) := by decide +kernel
theorem dX2_init_71 : decode cX2_init 71 = .ok (.putfield 45, 3) := by decide +kernel
theorem dX2_init_74 : decode cX2_init 74 = .ok (.aload_n 0, 1) := by decide +kernel
theorem dX2_init_75 : decode cX2_init 75 = .ok (.bipush 70, 2) := by decide +kernel
theorem dX2_init_77 : decode cX2_init 77 = .ok (.putfield 48, 3) := by decide +kernel
theorem dX2_init_80 : decode cX2_init 80 = .ok (.aload_n 0, 1) := by decide +kernel
theorem dX2_init_81 : decode cX2_init 81 = .ok (.iconst 2, 1) := by decide +kernel
theorem dX2_init_82 : decode cX2_init 82 = .ok (.putfield 51, 3) := by decide +kernel
theorem dX2_init_85 : decode cX2_init 85 = .ok (.aload_n 0, 1) := by decide +kernel
theorem dX2_init_86 : decode cX2_init 86 = .ok (.iconst 0, 1) := by decide +kernel
theorem dX2_init_87 : decode cX2_init 87 = .ok (.putfield 54, 3) := by decide +kernel
theorem dX2_init_90 : decode cX2_init 90 = .ok (.aload_n 0, 1) := by decide +kernel
theorem dX2_init_91 : decode cX2_init 91 = .ok (.iconst 0, 1) := by decide +kernel
theorem dX2_init_92 : decode cX2_init 92 = .ok (.putfield 58, 3) := by decide +kernel
theorem dX2_init_95 : decode cX2_init 95 = .ok (.aload_n 0, 1) := by decide +kernel
theorem dX2_init_96 : decode cX2_init 96 = .ok (.iconst (-1), 1) := by decide +kernel
theorem dX2_init_97 : decode cX2_init 97 = .ok (.putfield 61, 3) := by decide +kernel
theorem dX2_init_100 : decode cX2_init 100 = .ok (.aload_n 0, 1) := by decide +kernel
theorem dX2_init_101 : decode cX2_init 101 = .ok (.iconst (-1), 1) := by decide +kernel
theorem dX2_init_102 : decode cX2_init 102 = .ok (.putfield 64, 3) := by decide +kernel
theorem dX2_init_105 : decode cX2_init 105 = .ok (.iconst 0, 1) := by decide +kernel
theorem dX2_init_106 : decode cX2_init 106 = .ok (.istore_n 1, 1) := by decide +kernel
theorem dX2_init_107 : decode cX2_init 107 = .ok (.iload_n 1, 1) := by decide +kernel
theorem dX2_init_108 : decode cX2_init 108 = .ok (.iconst 5, 1) := by decide +kernel
theorem dX2_init_109 : decode cX2_init 109 = .ok (.if_icmp .ge 27, 3) := by decide +kernel
theorem dX2_init_112 : decode cX2_init 112 = .ok (.aload_n 0, 1) := by decide +kernel
theorem dX2_init_113 : decode cX2_init 113 = .ok (.getfield 11, 3) := by decide +kernel
theorem dX2_init_116 : decode cX2_init 116 = .ok (.iload_n 1, 1) := by decide +kernel
theorem dX2_init_117 : decode cX2_init 117 = .ok (.new 9, 3) := by decide +kernel
theorem dX2_init_120 : decode cX2_init 120 = .ok (.dup, 1) := by decide +kernel
theorem dX2_init_121 : decode cX2_init 121 = .ok (.getstatic 67, 3) := by decide +kernel
theorem dX2_init_124 : decode cX2_init 124 = .ok (.iload_n 1, 1) := by decide +kernel
theorem dX2_init_125 : decode cX2_init 125 = .ok (.iaload, 1) := by decide +kernel
theorem dX2_init_126 : decode cX2_init 126 = .ok (.invokespecial 70, 3) := by decide +kernel
theorem dX2_init_129 : decode cX2_init 129 = .ok (.aastore, 1) := by decide +kernel
theorem dX2_init_130 : decode cX2_init 130 = .ok (.iinc 1 1, 3) := by decide +kernel
theorem dX2_init_133 : decode cX2_init 133 = .ok (.goto (-26), 3) := by decide +kernel
theorem dX2_init_136 : decode cX2_init 136 = .ok (.iconst 0, 1) := by decide +kernel
theorem dX2_init_137 : decode cX2_init 137 = .ok (.istore_n 1, 1) := by decide +kernel
theorem dX2_init_138 : decode cX2_init 138 = .ok (.iload_n 1, 1) := by decide +kernel
theorem dX2_init_139 : decode cX2_init 139 = .ok (.bipush 32, 2) := by decide +kernel
theorem dX2_init_141 : decode cX2_init 141 = .ok (.if_icmp .gt 27, 3) := by decide +kernel
theorem dX2_init_144 : decode cX2_init 144 = .ok (.aload_n 0, 1) := by decide +kernel
theorem dX2_init_145 : decode cX2_init 145 = .ok (.getfield 15, 3) := by decide +kernel
theorem dX2_init_148 : decode cX2_init 148 = .ok (.iload_n 1, 1) := by decide +kernel
theorem dX2_init_149 : decode cX2_init 149 = .ok (.iconst 0, 1) := by decide +kernel
theorem dX2_init_150 : decode cX2_init 150 = .ok (.sipush 1000, 3) := by decide +kernel
theorem dX2_init_153 : decode cX2_init 153 = .ok (.bipush 40, 2) := by decide +kernel
theorem dX2_init_155 : decode cX2_init 155 = .ok (.iload_n 1, 1) := by decide +kernel
theorem dX2_init_156 : decode cX2_init 156 = .ok (.imul, 1) := by decide +kernel
theorem dX2_init_157 : decode cX2_init 157 = .ok (.isub, 1) := by decide +kernel
theorem dX2_init_158 : decode cX2_init 158 = .ok (.invokestatic 73, 3) := by decide +kernel
theorem dX2_init_161 : decode cX2_init 161 = .ok (.iastore, 1) := by decide +kernel
theorem dX2_init_162 : decode cX2_init 162 = .ok (.iinc 1 1, 3) := by decide +kernel
theorem dX2_init_165 : decode cX2_init 165 = .ok (.goto (-27), 3) := by decide +kernel
theorem dX2_init_168 : decode cX2_init 168 = .ok (.return_, 1) := by decide +kernel
set_option maxRecDepth 20000 in
theorem ggX2_slot_X2_isKind : GoodIn wsX2_slot wsX2_isKind := goodIn_r _ [5, 6, 7, 4, 8] rfl (by decide +kernel)
set_option maxRecDepth 20000 in
theorem gX2_slot_X2_isKind : GoodIn wsX2_slot (va_wsS RX2 79 yX2_isKind wsX2_isKind) := goodIn_app (by first | exact goodIn_r _ [2, 3, 4] rfl (by decide +kernel) | exact goodIn_of _ (by decide +kernel)) ggX2_slot_X2_isKind
set_option maxRecDepth 20000 in
theorem ggX2_slot_X2_isMinuteOfDay : GoodIn wsX2_slot wsX2_isMinuteOfDay := goodIn_r _ [11, 6, 7, 4, 8] rfl (by decide +kernel)
set_option maxRecDepth 20000 in
theorem gX2_slot_X2_isMinuteOfDay : GoodIn wsX2_slot (va_wsS RX2 83 yX2_isMinuteOfDay wsX2_isMinuteOfDay) := goodIn_app (by first | exact goodIn_r _ [9, 10, 4] rfl (by decide +kernel) | exact goodIn_of _ (by decide +kernel)) ggX2_slot_X2_isMinuteOfDay
set_option maxRecDepth 20000 in
theorem ggX2_slot_X2_isWithin : GoodIn wsX2_slot wsX2_isWithin := goodIn_r _ [8] rfl (by decide +kernel)
set_option maxRecDepth 20000 in
theorem gX2_slot_X2_isWithin : GoodIn wsX2_slot (va_wsS RX2 86 yX2_isWithin wsX2_isWithin) := goodIn_app (by first | exact goodIn_r _ [6, 7, 4] rfl (by decide +kernel) | exact goodIn_of _ (by decide +kernel)) ggX2_slot_X2_isWithin
set_option maxRecDepth 20000 in
theorem ggX2_slot_X1_put : GoodIn wsX2_slot wsX1_put := goodIn_r _ [15, 16, 17, 18, 19, 20, 21, 13, 22, 39, 40, 41, 42] rfl (by decide +kernel)
set_option maxRecDepth 20000 in
theorem gX2_slot_X1_put_n90 : GoodIn wsX2_slot (wsX1_put) := ggX2_slot_X1_put
theorem dX2_slot_0 : decode cX2_slot 0 = .ok (.iload_n 1, 1) := by decide +kernel
theorem dX2_slot_1 : decode cX2_slot 1 = .ok (.invokestatic 79, 3) := by decide +kernel
theorem dX2_slot_4 : decode cX2_slot 4 = .ok (.ifCond .eq 10, 3) := by decide +kernel
theorem dX2_slot_7 : decode cX2_slot 7 = .ok (.iload_n 2, 1) := by decide +kernel
theorem dX2_slot_8 : decode cX2_slot 8 = .ok (.invokestatic 83, 3) := by decide +kernel
theorem dX2_slot_11 : decode cX2_slot 11 = .ok (.ifCond .ne 5, 3) := by decide +kernel
theorem dX2_slot_14 : decode cX2_slot 14 = .ok (.iconst 0, 1) := by decide +kernel
theorem dX2_slot_15 : decode cX2_slot 15 = .ok (.ireturn, 1) := by decide +kernel
theorem dX2_slot_16 : decode cX2_slot 16 = .ok (.iload_n 1, 1) := by decide +kernel
theorem dX2_slot_17 : decode cX2_slot 17 = .ok (.iconst 4, 1) := by decide +kernel
theorem dX2_slot_18 : decode cX2_slot 18 = .ok (.if_icmp .ne 14, 3) := by decide +kernel
theorem dX2_slot_21 : decode cX2_slot 21 = .ok (.iload_n 3, 1) := by decide +kernel
theorem dX2_slot_22 : decode cX2_slot 22 = .ok (.iconst 0, 1) := by decide +kernel
theorem dX2_slot_23 : decode cX2_slot 23 = .ok (.sipush 20000, 3) := by decide +kernel
theorem dX2_slot_26 : decode cX2_slot 26 = .ok (.invokestatic 86, 3) := by decide +kernel
theorem dX2_slot_29 : decode cX2_slot 29 = .ok (.goto 11, 3) := by decide +kernel
theorem dX2_slot_32 : decode cX2_slot 32 = .ok (.iload_n 3, 1) := by decide +kernel
theorem dX2_slot_33 : decode cX2_slot 33 = .ok (.iconst 1, 1) := by decide +kernel
theorem dX2_slot_34 : decode cX2_slot 34 = .ok (.sipush 1000, 3) := by decide +kernel
theorem dX2_slot_37 : decode cX2_slot 37 = .ok (.invokestatic 86, 3) := by decide +kernel
theorem dX2_slot_40 : decode cX2_slot 40 = .ok (.istore 4, 2) := by decide +kernel
theorem dX2_slot_42 : decode cX2_slot 42 = .ok (.iload 4, 2) := by decide +kernel
theorem dX2_slot_44 : decode cX2_slot 44 = .ok (.ifCond .eq 21, 3) := by decide +kernel
theorem dX2_slot_47 : decode cX2_slot 47 = .ok (.aload_n 0, 1) := by decide +kernel
theorem dX2_slot_48 : decode cX2_slot 48 = .ok (.getfield 11, 3) := by decide +kernel
theorem dX2_slot_51 : decode cX2_slot 51 = .ok (.iload_n 1, 1) := by decide +kernel
theorem dX2_slot_52 : decode cX2_slot 52 = .ok (.aaload, 1) := by decide +kernel
theorem dX2_slot_53 : decode cX2_slot 53 = .ok (.iload_n 2, 1) := by decide +kernel
theorem dX2_slot_54 : decode cX2_slot 54 = .ok (.iload_n 3, 1) := by decide +kernel
theorem dX2_slot_55 : decode cX2_slot 55 = .ok (.invokevirtual 90, 3) := by decide +kernel
theorem dX2_slot_58 : decode cX2_slot 58 = .ok (.ifCond .eq 7, 3) := by decide +kernel
theorem dX2_slot_61 : decode cX2_slot 61 = .ok (.iconst 1, 1) := by decide +kernel
theorem dX2_slot_62 : decode cX2_slot 62 = .ok (.goto 4, 3) := by decide +kernel
theorem dX2_slot_65 : decode cX2_slot 65 = .ok (.iconst 0, 1) := by decide +kernel
theorem dX2_slot_66 : decode cX2_slot 66 = .ok (.ireturn, 1) := by decide +kernel
set_option maxRecDepth 20000 in
theorem ggX2_value_X2_isKind : GoodIn wsX2_value wsX2_isKind := goodIn_r _ [5, 6, 7, 4, 8] rfl (by decide +kernel)
set_option maxRecDepth 20000 in
theorem gX2_value_X2_isKind : GoodIn wsX2_value (va_wsS RX2 79 yX2_isKind wsX2_isKind) := goodIn_app (by first | exact goodIn_r _ [2, 3, 4] rfl (by decide +kernel) | exact goodIn_of _ (by decide +kernel)) ggX2_value_X2_isKind
set_option maxRecDepth 20000 in
theorem ggX2_value_X2_isMinuteOfDay : GoodIn wsX2_value wsX2_isMinuteOfDay := goodIn_r _ [11, 6, 7, 4, 8] rfl (by decide +kernel)
set_option maxRecDepth 20000 in
theorem gX2_value_X2_isMinuteOfDay : GoodIn wsX2_value (va_wsS RX2 83 yX2_isMinuteOfDay wsX2_isMinuteOfDay) := goodIn_app (by first | exact goodIn_r _ [9, 10, 4] rfl (by decide +kernel) | exact goodIn_of _ (by decide +kernel)) ggX2_value_X2_isMinuteOfDay
set_option maxRecDepth 20000 in
theorem ggX2_value_X1_valueAt : GoodIn wsX2_value wsX1_valueAt := goodIn_r _ [15, 16, 17, 18, 13, 19, 20, 21, 22, 23, 24, 25, 26, 27, 44, 45, 46, 47] rfl (by decide +kernel)
set_option maxRecDepth 20000 in
theorem gX2_value_X1_valueAt_n94 : GoodIn wsX2_value (wsX1_valueAt) := ggX2_value_X1_valueAt
theorem dX2_value_0 : decode cX2_value 0 = .ok (.iload_n 1, 1) := by decide +kernel
theorem dX2_value_1 : decode cX2_value 1 = .ok (.invokestatic 79, 3) := by decide +kernel
theorem dX2_value_4 : decode cX2_value 4 = .ok (.ifCond .eq 10, 3) := by decide +kernel
theorem dX2_value_7 : decode cX2_value 7 = .ok (.iload_n 2, 1) := by decide +kernel
theorem dX2_value_8 : decode cX2_value 8 = .ok (.invokestatic 83, 3) := by decide +kernel
theorem dX2_value_11 : decode cX2_value 11 = .ok (.ifCond .ne 5, 3) := by decide +kernel
theorem dX2_value_14 : decode cX2_value 14 = .ok (.iconst (-1), 1) := by decide +kernel
theorem dX2_value_15 : decode cX2_value 15 = .ok (.ireturn, 1) := by decide +kernel
theorem dX2_value_16 : decode cX2_value 16 = .ok (.aload_n 0, 1) := by decide +kernel
theorem dX2_value_17 : decode cX2_value 17 = .ok (.getfield 11, 3) := by decide +kernel
theorem dX2_value_20 : decode cX2_value 20 = .ok (.iload_n 1, 1) := by decide +kernel
theorem dX2_value_21 : decode cX2_value 21 = .ok (.aaload, 1) := by decide +kernel
theorem dX2_value_22 : decode cX2_value 22 = .ok (.iload_n 2, 1) := by decide +kernel
theorem dX2_value_23 : decode cX2_value 23 = .ok (.invokevirtual 94, 3) := by decide +kernel
theorem dX2_value_26 : decode cX2_value 26 = .ok (.ireturn, 1) := by decide +kernel
set_option maxRecDepth 20000 in
theorem ggX2_decay_X2_isWithin : GoodIn wsX2_decay wsX2_isWithin := goodIn_r _ [5] rfl (by decide +kernel)
set_option maxRecDepth 20000 in
theorem gX2_decay_X2_isWithin : GoodIn wsX2_decay (va_wsS RX2 86 yX2_isWithin wsX2_isWithin) := goodIn_app (by first | exact goodIn_r _ [2, 3, 4] rfl (by decide +kernel) | exact goodIn_of _ (by decide +kernel)) ggX2_decay_X2_isWithin
theorem dX2_decay_0 : decode cX2_decay 0 = .ok (.iload_n 1, 1) := by decide +kernel
theorem dX2_decay_1 : decode cX2_decay 1 = .ok (.iconst 0, 1) := by decide +kernel
theorem dX2_decay_2 : decode cX2_decay 2 = .ok (.bipush 32, 2) := by decide +kernel
theorem dX2_decay_4 : decode cX2_decay 4 = .ok (.invokestatic 86, 3) := by decide +kernel
theorem dX2_decay_7 : decode cX2_decay 7 = .ok (.ifCond .ne 5, 3) := by decide +kernel
theorem dX2_decay_10 : decode cX2_decay 10 = .ok (.iconst 0, 1) := by decide +kernel
theorem dX2_decay_11 : decode cX2_decay 11 = .ok (.ireturn, 1) := by decide +kernel
theorem dX2_decay_12 : decode cX2_decay 12 = .ok (.iload_n 1, 1) := by decide +kernel
theorem dX2_decay_13 : decode cX2_decay 13 = .ok (.ifCond .ne 9, 3) := by decide +kernel
theorem dX2_decay_16 : decode cX2_decay 16 = .ok (.sipush 1000, 3) := by decide +kernel
theorem dX2_decay_19 : decode cX2_decay 19 = .ok (.goto 11, 3) := by decide +kernel
theorem dX2_decay_22 : decode cX2_decay 22 = .ok (.aload_n 0, 1) := by decide +kernel
theorem dX2_decay_23 : decode cX2_decay 23 = .ok (.getfield 15, 3) := by decide +kernel
theorem dX2_decay_26 : decode cX2_decay 26 = .ok (.iload_n 1, 1) := by decide +kernel
theorem dX2_decay_27 : decode cX2_decay 27 = .ok (.iconst 1, 1) := by decide +kernel
theorem dX2_decay_28 : decode cX2_decay 28 = .ok (.isub, 1) := by decide +kernel
theorem dX2_decay_29 : decode cX2_decay 29 = .ok (.iaload, 1) := by decide +kernel
theorem dX2_decay_30 : decode cX2_decay 30 = .ok (.istore_n 3, 1) := by decide +kernel
theorem dX2_decay_31 : decode cX2_decay 31 = .ok (.iload_n 1, 1) := by decide +kernel
theorem dX2_decay_32 : decode cX2_decay 32 = .ok (.bipush 32, 2) := by decide +kernel
theorem dX2_decay_34 : decode cX2_decay 34 = .ok (.if_icmp .ne 7, 3) := by decide +kernel
theorem dX2_decay_37 : decode cX2_decay 37 = .ok (.iconst 0, 1) := by decide +kernel
theorem dX2_decay_38 : decode cX2_decay 38 = .ok (.goto 11, 3) := by decide +kernel
theorem dX2_decay_41 : decode cX2_decay 41 = .ok (.aload_n 0, 1) := by decide +kernel
theorem dX2_decay_42 : decode cX2_decay 42 = .ok (.getfield 15, 3) := by decide +kernel
theorem dX2_decay_45 : decode cX2_decay 45 = .ok (.iload_n 1, 1) := by decide +kernel
theorem dX2_decay_46 : decode cX2_decay 46 = .ok (.iconst 1, 1) := by decide +kernel
theorem dX2_decay_47 : decode cX2_decay 47 = .ok (.iadd, 1) := by decide +kernel
theorem dX2_decay_48 : decode cX2_decay 48 = .ok (.iaload, 1) := by decide +kernel
theorem dX2_decay_49 : decode cX2_decay 49 = .ok (.istore 4, 2) := by decide +kernel
theorem dX2_decay_51 : decode cX2_decay 51 = .ok (.iload_n 2, 1) := by decide +kernel
theorem dX2_decay_52 : decode cX2_decay 52 = .ok (.iload 4, 2) := by decide +kernel
theorem dX2_decay_54 : decode cX2_decay 54 = .ok (.iload_n 3, 1) := by decide +kernel
theorem dX2_decay_55 : decode cX2_decay 55 = .ok (.invokestatic 86, 3) := by decide +kernel
theorem dX2_decay_58 : decode cX2_decay 58 = .ok (.ifCond .ne 5, 3) := by decide +kernel
theorem dX2_decay_61 : decode cX2_decay 61 = .ok (.iconst 0, 1) := by decide +kernel
theorem dX2_decay_62 : decode cX2_decay 62 = .ok (.ireturn, 1) := by decide +kernel
theorem dX2_decay_63 : decode cX2_decay 63 = .ok (.aload_n 0, 1) := by decide +kernel
theorem dX2_decay_64 : decode cX2_decay 64 = .ok (.getfield 15, 3) := by decide +kernel
theorem dX2_decay_67 : decode cX2_decay 67 = .ok (.iload_n 1, 1) := by decide +kernel
theorem dX2_decay_68 : decode cX2_decay 68 = .ok (.iload_n 2, 1) := by decide +kernel
theorem dX2_decay_69 : decode cX2_decay 69 = .ok (.iastore, 1) := by decide +kernel
theorem dX2_decay_70 : decode cX2_decay 70 = .ok (.iconst 1, 1) := by decide +kernel
theorem dX2_decay_71 : decode cX2_decay 71 = .ok (.ireturn, 1) := by decide +kernel
set_option maxRecDepth 20000 in
theorem ggX2_limits_X2_isWithin : GoodIn wsX2_limits wsX2_isWithin := goodIn_r _ [10] rfl (by decide +kernel)
set_option maxRecDepth 20000 in
theorem gX2_limits_X2_isWithin : GoodIn wsX2_limits (va_wsS RX2 86 yX2_isWithin wsX2_isWithin) := goodIn_app (by first | exact goodIn_r _ [7, 8, 9] rfl (by decide +kernel) | exact goodIn_of _ (by decide +kernel)) ggX2_limits_X2_isWithin
theorem dX2_limits_0 : decode cX2_limits 0 = .ok (.iload_n 1, 1) := by decide +kernel
theorem dX2_limits_1 : decode cX2_limits 1 = .ok (.iconst 0, 1) := by decide +kernel
theorem dX2_limits_2 : decode cX2_limits 2 = .ok (.ldc 98, 2) := by decide +kernel
theorem dX2_limits_4 : decode cX2_limits 4 = .ok (.invokestatic 86, 3) := by decide +kernel
theorem dX2_limits_7 : decode cX2_limits 7 = .ok (.ifCond .eq 35, 3) := by decide +kernel
theorem dX2_limits_10 : decode cX2_limits 10 = .ok (.iload_n 2, 1) := by decide +kernel
theorem dX2_limits_11 : decode cX2_limits 11 = .ok (.iconst 0, 1) := by decide +kernel
theorem dX2_limits_12 : decode cX2_limits 12 = .ok (.ldc 99, 2) := by decide +kernel
theorem dX2_limits_14 : decode cX2_limits 14 = .ok (.invokestatic 86, 3) := by decide +kernel
theorem dX2_limits_17 : decode cX2_limits 17 = .ok (.ifCond .eq 25, 3) := by decide +kernel
theorem dX2_limits_20 : decode cX2_limits 20 = .ok (.iload_n 3, 1) := by decide +kernel
theorem dX2_limits_21 : decode cX2_limits 21 = .ok (.iconst 1, 1) := by decide +kernel
theorem dX2_limits_22 : decode cX2_limits 22 = .ok (.sipush 400, 3) := by decide +kernel
theorem dX2_limits_25 : decode cX2_limits 25 = .ok (.invokestatic 86, 3) := by decide +kernel
theorem dX2_limits_28 : decode cX2_limits 28 = .ok (.ifCond .eq 14, 3) := by decide +kernel
theorem dX2_limits_31 : decode cX2_limits 31 = .ok (.iload 4, 2) := by decide +kernel
theorem dX2_limits_33 : decode cX2_limits 33 = .ok (.iconst 1, 1) := by decide +kernel
theorem dX2_limits_34 : decode cX2_limits 34 = .ok (.bipush 20, 2) := by decide +kernel
theorem dX2_limits_36 : decode cX2_limits 36 = .ok (.invokestatic 86, 3) := by decide +kernel
theorem dX2_limits_39 : decode cX2_limits 39 = .ok (.ifCond .ne 5, 3) := by decide +kernel
theorem dX2_limits_42 : decode cX2_limits 42 = .ok (.iconst 0, 1) := by decide +kernel
theorem dX2_limits_43 : decode cX2_limits 43 = .ok (.ireturn, 1) := by decide +kernel
theorem dX2_limits_44 : decode cX2_limits 44 = .ok (.aload_n 0, 1) := by decide +kernel
theorem dX2_limits_45 : decode cX2_limits 45 = .ok (.iload_n 1, 1) := by decide +kernel
theorem dX2_limits_46 : decode cX2_limits 46 = .ok (.putfield 41, 3) := by decide +kernel
theorem dX2_limits_49 : decode cX2_limits 49 = .ok (.aload_n 0, 1) := by decide +kernel
theorem dX2_limits_50 : decode cX2_limits 50 = .ok (.iload_n 2, 1) := by decide +kernel
theorem dX2_limits_51 : decode cX2_limits 51 = .ok (.putfield 45, 3) := by decide +kernel
theorem dX2_limits_54 : decode cX2_limits 54 = .ok (.aload_n 0, 1) := by decide +kernel
theorem dX2_limits_55 : decode cX2_limits 55 = .ok (.iload_n 3, 1) := by decide +kernel
theorem dX2_limits_56 : decode cX2_limits 56 = .ok (.putfield 48, 3) := by decide +kernel
theorem dX2_limits_59 : decode cX2_limits 59 = .ok (.aload_n 0, 1) := by decide +kernel
theorem dX2_limits_60 : decode cX2_limits 60 = .ok (.iload 4, 2) := by decide +kernel
theorem dX2_limits_62 : decode cX2_limits 62 = .ok (.putfield 51, 3) := by decide +kernel
theorem dX2_limits_65 : decode cX2_limits 65 = .ok (.iconst 1, 1) := by decide +kernel
theorem dX2_limits_66 : decode cX2_limits 66 = .ok (.ireturn, 1) := by decide +kernel
set_option maxRecDepth 20000 in
theorem ggX2_reading_X2_canGoOnTo : GoodIn wsX2_reading wsX2_canGoOnTo := goodIn_r _ [9, 10, 11, 12, 13, 14, 15, 16, 17, 8, 18, 65, 66, 67, 68, 69, 70, 71, 72, 73, 74, 75, 76, 77, 78, 79, 80] rfl (by decide +kernel)
set_option maxRecDepth 20000 in
theorem gX2_reading_X2_canGoOnTo : GoodIn wsX2_reading (wsV RX2 100 RX2 yX2_canGoOnTo wsX2_canGoOnTo) := goodIn_app (by first | exact goodIn_r _ [5, 6, 7, 8] rfl (by decide +kernel) | exact goodIn_of _ (by decide +kernel)) ggX2_reading_X2_canGoOnTo
set_option maxRecDepth 20000 in
theorem ggX2_reading_X2_isWithin : GoodIn wsX2_reading wsX2_isWithin := goodIn_r _ [18] rfl (by decide +kernel)
set_option maxRecDepth 20000 in
theorem gX2_reading_X2_isWithin : GoodIn wsX2_reading (va_wsS RX2 86 yX2_isWithin wsX2_isWithin) := goodIn_app (by first | exact goodIn_r _ [16, 17, 8] rfl (by decide +kernel) | exact goodIn_of _ (by decide +kernel)) ggX2_reading_X2_isWithin
set_option maxRecDepth 20000 in
theorem ggX2_reading_X2_goOnTo : GoodIn wsX2_reading wsX2_goOnTo := goodIn_r _ [22, 4, 10, 23, 24, 25, 8, 26, 27, 28, 14, 29, 12, 13, 15, 30, 31, 32, 33, 34, 35, 36, 37, 38, 39, 40, 41, 42, 43, 44, 45, 46, 47, 48, 49, 50, 51, 52, 53, 54, 65, 66, 67, 68, 69, 70, 71, 72, 73, 74, 75, 76, 77, 78, 79, 80, 81, 82, 83, 84] rfl (by decide +kernel)
set_option maxRecDepth 20000 in
theorem gX2_reading_X2_goOnTo : GoodIn wsX2_reading (wsV RX2 103 RX2 yX2_goOnTo wsX2_goOnTo) := goodIn_app (by first | exact goodIn_r _ [19, 20, 21, 8] rfl (by decide +kernel) | exact goodIn_of _ (by decide +kernel)) ggX2_reading_X2_goOnTo
set_option maxRecDepth 20000 in
theorem ggX2_reading_X2_hold : GoodIn wsX2_reading wsX2_hold := goodIn_r _ [58, 4, 59, 65, 66, 67, 68, 69, 70, 71, 72, 73, 74, 75, 76, 77, 78, 79, 80] rfl (by decide +kernel)
set_option maxRecDepth 20000 in
theorem gX2_reading_X2_hold : GoodIn wsX2_reading (wsV RX2 106 RX2 yX2_hold wsX2_hold) := goodIn_app (by first | exact goodIn_r _ [55, 56, 57, 8] rfl (by decide +kernel) | exact goodIn_of _ (by decide +kernel)) ggX2_reading_X2_hold
set_option maxRecDepth 20000 in
theorem ggX2_reading_X2_countTick : GoodIn wsX2_reading wsX2_countTick := goodIn_r _ [63, 59, 64, 4, 65, 66, 67, 68, 69, 70, 71, 72, 73, 74, 75, 76, 77, 78, 79, 80] rfl (by decide +kernel)
set_option maxRecDepth 20000 in
theorem gX2_reading_X2_countTick : GoodIn wsX2_reading (wsV RX2 109 RX2 yX2_countTick wsX2_countTick) := goodIn_app (by first | exact goodIn_r _ [60, 61, 62, 8] rfl (by decide +kernel) | exact goodIn_of _ (by decide +kernel)) ggX2_reading_X2_countTick
theorem dX2_reading_0 : decode cX2_reading 0 = .ok (.aload_n 0, 1) := by decide +kernel
theorem dX2_reading_1 : decode cX2_reading 1 = .ok (.iload_n 1, 1) := by decide +kernel
theorem dX2_reading_2 : decode cX2_reading 2 = .ok (.invokevirtual 100, 3) := by decide +kernel
theorem dX2_reading_5 : decode cX2_reading 5 = .ok (.ifCond .eq 14, 3) := by decide +kernel
theorem dX2_reading_8 : decode cX2_reading 8 = .ok (.iload_n 2, 1) := by decide +kernel
theorem dX2_reading_9 : decode cX2_reading 9 = .ok (.iconst 1, 1) := by decide +kernel
theorem dX2_reading_10 : decode cX2_reading 10 = .ok (.sipush 1000, 3) := by decide +kernel
theorem dX2_reading_13 : decode cX2_reading 13 = .ok (.invokestatic 86, 3) := by decide +kernel
theorem dX2_reading_16 : decode cX2_reading 16 = .ok (.ifCond .ne 5, 3) := by decide +kernel
theorem dX2_reading_19 : decode cX2_reading 19 = .ok (.iconst (-1), 1) := by decide +kernel
theorem dX2_reading_20 : decode cX2_reading 20 = .ok (.ireturn, 1) := by decide +kernel
theorem dX2_reading_21 : decode cX2_reading 21 = .ok (.aload_n 0, 1) := by decide +kernel
theorem dX2_reading_22 : decode cX2_reading 22 = .ok (.iload_n 1, 1) := by decide +kernel
theorem dX2_reading_23 : decode cX2_reading 23 = .ok (.invokevirtual 103, 3) := by decide +kernel
theorem dX2_reading_26 : decode cX2_reading 26 = .ok (.aload_n 0, 1) := by decide +kernel
theorem dX2_reading_27 : decode cX2_reading 27 = .ok (.iload_n 2, 1) := by decide +kernel
theorem dX2_reading_28 : decode cX2_reading 28 = .ok (.putfield 61, 3) := by decide +kernel
theorem dX2_reading_31 : decode cX2_reading 31 = .ok (.aload_n 0, 1) := by decide +kernel
theorem dX2_reading_32 : decode cX2_reading 32 = .ok (.iload_n 1, 1) := by decide +kernel
theorem dX2_reading_33 : decode cX2_reading 33 = .ok (.putfield 64, 3) := by decide +kernel
theorem dX2_reading_36 : decode cX2_reading 36 = .ok (.iload_n 2, 1) := by decide +kernel
theorem dX2_reading_37 : decode cX2_reading 37 = .ok (.aload_n 0, 1) := by decide +kernel
theorem dX2_reading_38 : decode cX2_reading 38 = .ok (.getfield 48, 3) := by decide +kernel
theorem dX2_reading_41 : decode cX2_reading 41 = .ok (.if_icmp .gt 10, 3) := by decide +kernel
theorem dX2_reading_44 : decode cX2_reading 44 = .ok (.aload_n 0, 1) := by decide +kernel
theorem dX2_reading_45 : decode cX2_reading 45 = .ok (.invokevirtual 106, 3) := by decide +kernel
theorem dX2_reading_48 : decode cX2_reading 48 = .ok (.goto 14, 3) := by decide +kernel
theorem dX2_reading_51 : decode cX2_reading 51 = .ok (.aload_n 0, 1) := by decide +kernel
theorem dX2_reading_52 : decode cX2_reading 52 = .ok (.getfield 54, 3) := by decide +kernel
theorem dX2_reading_55 : decode cX2_reading 55 = .ok (.ifCond .eq 7, 3) := by decide +kernel
theorem dX2_reading_58 : decode cX2_reading 58 = .ok (.aload_n 0, 1) := by decide +kernel
theorem dX2_reading_59 : decode cX2_reading 59 = .ok (.invokevirtual 109, 3) := by decide +kernel
theorem dX2_reading_62 : decode cX2_reading 62 = .ok (.aload_n 0, 1) := by decide +kernel
theorem dX2_reading_63 : decode cX2_reading 63 = .ok (.getfield 54, 3) := by decide +kernel
theorem dX2_reading_66 : decode cX2_reading 66 = .ok (.ifCond .eq 7, 3) := by decide +kernel
theorem dX2_reading_69 : decode cX2_reading 69 = .ok (.iconst 1, 1) := by decide +kernel
theorem dX2_reading_70 : decode cX2_reading 70 = .ok (.goto 4, 3) := by decide +kernel
theorem dX2_reading_73 : decode cX2_reading 73 = .ok (.iconst 0, 1) := by decide +kernel
theorem dX2_reading_74 : decode cX2_reading 74 = .ok (.ireturn, 1) := by decide +kernel
set_option maxRecDepth 20000 in
theorem ggX2_ask_X2_canGoOnTo : GoodIn wsX2_ask wsX2_canGoOnTo := goodIn_r _ [5, 6, 7, 8, 9, 10, 11, 12, 13, 4, 14, 134, 135, 136, 137, 138, 139, 140, 141, 142, 143, 144, 145, 146, 147, 148, 149] rfl (by decide +kernel)
set_option maxRecDepth 20000 in
theorem gX2_ask_X2_canGoOnTo : GoodIn wsX2_ask (wsV RX2 100 RX2 yX2_canGoOnTo wsX2_canGoOnTo) := goodIn_app (by first | exact goodIn_r _ [1, 2, 3, 4] rfl (by decide +kernel) | exact goodIn_of _ (by decide +kernel)) ggX2_ask_X2_canGoOnTo
set_option maxRecDepth 20000 in
theorem ggX2_ask_X2_isWithin : GoodIn wsX2_ask wsX2_isWithin := goodIn_r _ [14] rfl (by decide +kernel)
set_option maxRecDepth 20000 in
theorem gX2_ask_X2_isWithin : GoodIn wsX2_ask (va_wsS RX2 86 yX2_isWithin wsX2_isWithin) := goodIn_app (by first | exact goodIn_r _ [12, 13, 4] rfl (by decide +kernel) | exact goodIn_of _ (by decide +kernel)) ggX2_ask_X2_isWithin
set_option maxRecDepth 20000 in
theorem ggX2_ask_X2_goOnTo : GoodIn wsX2_ask wsX2_goOnTo := goodIn_r _ [18, 19, 6, 20, 21, 22, 4, 23, 24, 25, 10, 26, 8, 9, 11, 27, 28, 29, 30, 31, 32, 33, 34, 35, 36, 37, 38, 39, 40, 41, 42, 43, 44, 45, 46, 47, 48, 49, 50, 51, 134, 135, 136, 137, 138, 139, 140, 141, 142, 143, 144, 145, 146, 147, 148, 149, 150, 151, 152, 153] rfl (by decide +kernel)
set_option maxRecDepth 20000 in
theorem gX2_ask_X2_goOnTo : GoodIn wsX2_ask (wsV RX2 103 RX2 yX2_goOnTo wsX2_goOnTo) := goodIn_app (by first | exact goodIn_r _ [15, 16, 17, 4] rfl (by decide +kernel) | exact goodIn_of _ (by decide +kernel)) ggX2_ask_X2_goOnTo
set_option maxRecDepth 20000 in
theorem ggX2_ask_X2_wantedNow : GoodIn wsX2_ask wsX2_wantedNow := goodIn_r _ [55, 24, 25, 10, 26, 56, 8, 9, 11, 19, 57, 58, 59, 6, 60, 61, 62, 4, 63, 31, 64, 33, 65, 66, 67, 68, 69, 70, 40, 36, 71, 41, 42, 43, 44, 45, 72, 73, 74, 75, 76, 77, 78, 79, 80, 81, 82, 83, 84, 85, 86, 87, 88, 12, 13, 14, 89, 90, 91, 92, 93, 94, 95, 96, 97, 98, 99, 100, 101, 102, 103, 104, 105, 106, 107, 51, 108, 109, 110, 111, 112, 113, 114, 115, 116, 117, 118, 119, 120, 121, 122, 123, 124, 125, 126, 127, 134, 135, 136, 137, 138, 139, 140, 141, 142, 143, 144, 145, 146, 147, 148, 149, 128, 129, 130, 131, 132, 133, 150, 151, 152, 153] rfl (by decide +kernel)
set_option maxRecDepth 20000 in
theorem gX2_ask_X2_wantedNow : GoodIn wsX2_ask (wsV RX2 112 RX2 yX2_wantedNow wsX2_wantedNow) := goodIn_app (by first | exact goodIn_r _ [52, 53, 54, 4] rfl (by decide +kernel) | exact goodIn_of _ (by decide +kernel)) ggX2_ask_X2_wantedNow
theorem dX2_ask_0 : decode cX2_ask 0 = .ok (.aload_n 0, 1) := by decide +kernel
theorem dX2_ask_1 : decode cX2_ask 1 = .ok (.iload_n 1, 1) := by decide +kernel
theorem dX2_ask_2 : decode cX2_ask 2 = .ok (.invokevirtual 100, 3) := by decide +kernel
theorem dX2_ask_5 : decode cX2_ask 5 = .ok (.ifCond .eq 14, 3) := by decide +kernel
theorem dX2_ask_8 : decode cX2_ask 8 = .ok (.iload_n 2, 1) := by decide +kernel
theorem dX2_ask_9 : decode cX2_ask 9 = .ok (.iconst 0, 1) := by decide +kernel
theorem dX2_ask_10 : decode cX2_ask 10 = .ok (.sipush 1000, 3) := by decide +kernel
theorem dX2_ask_13 : decode cX2_ask 13 = .ok (.invokestatic 86, 3) := by decide +kernel
theorem dX2_ask_16 : decode cX2_ask 16 = .ok (.ifCond .ne 5, 3) := by decide +kernel
theorem dX2_ask_19 : decode cX2_ask 19 = .ok (.iconst (-1), 1) := by decide +kernel
theorem dX2_ask_20 : decode cX2_ask 20 = .ok (.ireturn, 1) := by decide +kernel
theorem dX2_ask_21 : decode cX2_ask 21 = .ok (.aload_n 0, 1) := by decide +kernel
theorem dX2_ask_22 : decode cX2_ask 22 = .ok (.iload_n 1, 1) := by decide +kernel
theorem dX2_ask_23 : decode cX2_ask 23 = .ok (.invokevirtual 103, 3) := by decide +kernel
theorem dX2_ask_26 : decode cX2_ask 26 = .ok (.aload_n 0, 1) := by decide +kernel
theorem dX2_ask_27 : decode cX2_ask 27 = .ok (.iload_n 2, 1) := by decide +kernel
theorem dX2_ask_28 : decode cX2_ask 28 = .ok (.invokevirtual 112, 3) := by decide +kernel
theorem dX2_ask_31 : decode cX2_ask 31 = .ok (.getfield 116, 3) := by decide +kernel
theorem dX2_ask_34 : decode cX2_ask 34 = .ok (.ireturn, 1) := by decide +kernel
set_option maxRecDepth 20000 in
theorem ggX2_give_X2_canGoOnTo : GoodIn wsX2_give wsX2_canGoOnTo := goodIn_r _ [9, 4, 10, 11, 12, 13, 14, 15, 16, 8, 17, 129, 130, 131, 132, 133, 134, 135, 136, 137, 138, 139, 140, 141, 142, 143, 144] rfl (by decide +kernel)
set_option maxRecDepth 20000 in
theorem gX2_give_X2_canGoOnTo : GoodIn wsX2_give (wsV RX2 100 RX2 yX2_canGoOnTo wsX2_canGoOnTo) := goodIn_app (by first | exact goodIn_r _ [5, 6, 7, 8] rfl (by decide +kernel) | exact goodIn_of _ (by decide +kernel)) ggX2_give_X2_canGoOnTo
set_option maxRecDepth 20000 in
theorem ggX2_give_X2_isWithin : GoodIn wsX2_give wsX2_isWithin := goodIn_r _ [17] rfl (by decide +kernel)
set_option maxRecDepth 20000 in
theorem gX2_give_X2_isWithin : GoodIn wsX2_give (va_wsS RX2 86 yX2_isWithin wsX2_isWithin) := goodIn_app (by first | exact goodIn_r _ [15, 16, 8] rfl (by decide +kernel) | exact goodIn_of _ (by decide +kernel)) ggX2_give_X2_isWithin
set_option maxRecDepth 20000 in
theorem ggX2_give_X2_goOnTo : GoodIn wsX2_give wsX2_goOnTo := goodIn_r _ [21, 22, 4, 23, 24, 25, 8, 26, 27, 28, 13, 29, 11, 12, 14, 30, 31, 32, 33, 34, 35, 36, 37, 38, 39, 40, 41, 42, 43, 44, 45, 46, 47, 48, 49, 50, 51, 52, 53, 54, 129, 130, 131, 132, 133, 134, 135, 136, 137, 138, 139, 140, 141, 142, 143, 144, 151, 152, 153, 154] rfl (by decide +kernel)
set_option maxRecDepth 20000 in
theorem gX2_give_X2_goOnTo : GoodIn wsX2_give (wsV RX2 103 RX2 yX2_goOnTo wsX2_goOnTo) := goodIn_app (by first | exact goodIn_r _ [18, 19, 20, 8] rfl (by decide +kernel) | exact goodIn_of _ (by decide +kernel)) ggX2_give_X2_goOnTo
set_option maxRecDepth 20000 in
theorem ggX2_give_X2_wantedNow : GoodIn wsX2_give wsX2_wantedNow := goodIn_r _ [58, 27, 28, 13, 29, 59, 11, 12, 14, 22, 60, 61, 62, 4, 63, 64, 65, 8, 66, 34, 67, 36, 68, 69, 70, 71, 72, 73, 43, 39, 74, 44, 45, 46, 47, 48, 75, 76, 77, 78, 79, 80, 81, 82, 83, 84, 85, 2, 86, 87, 88, 89, 90, 15, 16, 17, 91, 92, 93, 94, 95, 96, 97, 98, 99, 100, 101, 102, 103, 104, 105, 106, 107, 108, 109, 54, 3, 110, 111, 112, 113, 114, 115, 116, 117, 118, 119, 120, 121, 122, 123, 124, 125, 126, 127, 128, 129, 130, 131, 132, 133, 134, 135, 136, 137, 138, 139, 140, 141, 142, 143, 144, 145, 146, 147, 148, 149, 150, 151, 152, 153, 154] rfl (by decide +kernel)
set_option maxRecDepth 20000 in
theorem gX2_give_X2_wantedNow : GoodIn wsX2_give (wsV RX2 112 RX2 yX2_wantedNow wsX2_wantedNow) := goodIn_app (by first | exact goodIn_r _ [55, 56, 57, 8] rfl (by decide +kernel) | exact goodIn_of _ (by decide +kernel)) ggX2_give_X2_wantedNow
theorem dX2_give_0 : decode cX2_give 0 = .ok (.aload_n 0, 1) := by decide +kernel
theorem dX2_give_1 : decode cX2_give 1 = .ok (.iload_n 1, 1) := by decide +kernel
theorem dX2_give_2 : decode cX2_give 2 = .ok (.invokevirtual 100, 3) := by decide +kernel
theorem dX2_give_5 : decode cX2_give 5 = .ok (.ifCond .eq 24, 3) := by decide +kernel
theorem dX2_give_8 : decode cX2_give 8 = .ok (.iload_n 2, 1) := by decide +kernel
theorem dX2_give_9 : decode cX2_give 9 = .ok (.iconst 0, 1) := by decide +kernel
theorem dX2_give_10 : decode cX2_give 10 = .ok (.sipush 1000, 3) := by decide +kernel
theorem dX2_give_13 : decode cX2_give 13 = .ok (.invokestatic 86, 3) := by decide +kernel
theorem dX2_give_16 : decode cX2_give 16 = .ok (.ifCond .eq 13, 3) := by decide +kernel
theorem dX2_give_19 : decode cX2_give 19 = .ok (.aload_n 0, 1) := by decide +kernel
theorem dX2_give_20 : decode cX2_give 20 = .ok (.getfield 31, 3) := by decide +kernel
theorem dX2_give_23 : decode cX2_give 23 = .ok (.sipush 200, 3) := by decide +kernel
theorem dX2_give_26 : decode cX2_give 26 = .ok (.if_icmp .lt 5, 3) := by decide +kernel
theorem dX2_give_29 : decode cX2_give 29 = .ok (.iconst (-1), 1) := by decide +kernel
theorem dX2_give_30 : decode cX2_give 30 = .ok (.ireturn, 1) := by decide +kernel
theorem dX2_give_31 : decode cX2_give 31 = .ok (.aload_n 0, 1) := by decide +kernel
theorem dX2_give_32 : decode cX2_give 32 = .ok (.iload_n 1, 1) := by decide +kernel
theorem dX2_give_33 : decode cX2_give 33 = .ok (.invokevirtual 103, 3) := by decide +kernel
theorem dX2_give_36 : decode cX2_give 36 = .ok (.aload_n 0, 1) := by decide +kernel
theorem dX2_give_37 : decode cX2_give 37 = .ok (.iload_n 2, 1) := by decide +kernel
theorem dX2_give_38 : decode cX2_give 38 = .ok (.invokevirtual 112, 3) := by decide +kernel
theorem dX2_give_41 : decode cX2_give 41 = .ok (.astore_n 3, 1) := by decide +kernel
theorem dX2_give_42 : decode cX2_give 42 = .ok (.aload_n 0, 1) := by decide +kernel
theorem dX2_give_43 : decode cX2_give 43 = .ok (.getfield 21, 3) := by decide +kernel
theorem dX2_give_46 : decode cX2_give 46 = .ok (.aload_n 0, 1) := by decide +kernel
theorem dX2_give_47 : decode cX2_give 47 = .ok (.getfield 31, 3) := by decide +kernel
theorem dX2_give_50 : decode cX2_give 50 = .ok (.aload_n 3, 1) := by decide +kernel
theorem dX2_give_51 : decode cX2_give 51 = .ok (.aastore, 1) := by decide +kernel
theorem dX2_give_52 : decode cX2_give 52 = .ok (.aload_n 0, 1) := by decide +kernel
theorem dX2_give_53 : decode cX2_give 53 = .ok (.dup, 1) := by decide +kernel
theorem dX2_give_54 : decode cX2_give 54 = .ok (.getfield 31, 3) := by decide +kernel
theorem dX2_give_57 : decode cX2_give 57 = .ok (.iconst 1, 1) := by decide +kernel
theorem dX2_give_58 : decode cX2_give 58 = .ok (.iadd, 1) := by decide +kernel
theorem dX2_give_59 : decode cX2_give 59 = .ok (.putfield 31, 3) := by decide +kernel
theorem dX2_give_62 : decode cX2_give 62 = .ok (.aload_n 0, 1) := by decide +kernel
theorem dX2_give_63 : decode cX2_give 63 = .ok (.getfield 28, 3) := by decide +kernel
theorem dX2_give_66 : decode cX2_give 66 = .ok (.aload_n 0, 1) := by decide +kernel
theorem dX2_give_67 : decode cX2_give 67 = .ok (.getfield 35, 3) := by decide +kernel
theorem dX2_give_70 : decode cX2_give 70 = .ok (.sipush 1440, 3) := by decide +kernel
theorem dX2_give_73 : decode cX2_give 73 = .ok (.idiv, 1) := by decide +kernel
theorem dX2_give_74 : decode cX2_give 74 = .ok (.dup2, 1) := by decide +kernel
theorem dX2_give_75 : decode cX2_give 75 = .ok (.iaload, 1) := by decide +kernel
theorem dX2_give_76 : decode cX2_give 76 = .ok (.aload_n 3, 1) := by decide +kernel
theorem dX2_give_77 : decode cX2_give 77 = .ok (.getfield 116, 3) := by decide +kernel
theorem dX2_give_80 : decode cX2_give 80 = .ok (.iadd, 1) := by decide +kernel
theorem dX2_give_81 : decode cX2_give 81 = .ok (.iastore, 1) := by decide +kernel
theorem dX2_give_82 : decode cX2_give 82 = .ok (.aload_n 3, 1) := by decide +kernel
theorem dX2_give_83 : decode cX2_give 83 = .ok (.getfield 116, 3) := by decide +kernel
theorem dX2_give_86 : decode cX2_give 86 = .ok (.ireturn, 1) := by decide +kernel
theorem dX2_now_0 : decode cX2_now 0 = .ok (.aload_n 0, 1) := by decide +kernel
theorem dX2_now_1 : decode cX2_now 1 = .ok (.getfield 35, 3) := by decide +kernel
theorem dX2_now_4 : decode cX2_now 4 = .ok (.ireturn, 1) := by decide +kernel
set_option maxRecDepth 20000 in
theorem ggX2_work_X2_atWorkNow : GoodIn wsX2_work wsX2_atWorkNow := goodIn_r _ [5, 6, 7, 8, 9, 4, 10, 11, 12, 13, 14, 15, 16, 17, 18, 19, 20, 21, 22, 23, 24, 25, 26, 27, 28, 29, 30, 31, 32, 33, 34, 35, 36, 37] rfl (by decide +kernel)
set_option maxRecDepth 20000 in
theorem gX2_work_X2_atWorkNow : GoodIn wsX2_work (wsV RX2 119 RX2 yX2_atWorkNow wsX2_atWorkNow) := goodIn_app (by first | exact goodIn_r _ [1, 2, 3, 4] rfl (by decide +kernel) | exact goodIn_of _ (by decide +kernel)) ggX2_work_X2_atWorkNow
theorem dX2_work_0 : decode cX2_work 0 = .ok (.aload_n 0, 1) := by decide +kernel
theorem dX2_work_1 : decode cX2_work 1 = .ok (.invokevirtual 119, 3) := by decide +kernel
theorem dX2_work_4 : decode cX2_work 4 = .ok (.i2l, 1) := by decide +kernel
theorem dX2_work_5 : decode cX2_work 5 = .ok (.lreturn, 1) := by decide +kernel
set_option maxRecDepth 20000 in
theorem ggX2_spent_X2_isWithin : GoodIn wsX2_spent wsX2_isWithin := goodIn_r _ [6] rfl (by decide +kernel)
set_option maxRecDepth 20000 in
theorem gX2_spent_X2_isWithin : GoodIn wsX2_spent (va_wsS RX2 86 yX2_isWithin wsX2_isWithin) := goodIn_app (by first | exact goodIn_r _ [3, 4, 5] rfl (by decide +kernel) | exact goodIn_of _ (by decide +kernel)) ggX2_spent_X2_isWithin
set_option maxRecDepth 20000 in
theorem ggX2_spent_X2_bothOfDay : GoodIn wsX2_spent wsX2_bothOfDay := goodIn_r _ [10, 1, 2, 11, 12, 13, 14, 15, 16, 17, 18, 19, 20, 21, 22, 23, 24, 25, 26] rfl (by decide +kernel)
set_option maxRecDepth 20000 in
theorem gX2_spent_X2_bothOfDay : GoodIn wsX2_spent (wsV RX2 123 RX2 yX2_bothOfDay wsX2_bothOfDay) := goodIn_app (by first | exact goodIn_r _ [7, 8, 9, 5] rfl (by decide +kernel) | exact goodIn_of _ (by decide +kernel)) ggX2_spent_X2_bothOfDay
theorem dX2_spent_0 : decode cX2_spent 0 = .ok (.iload_n 1, 1) := by decide +kernel
theorem dX2_spent_1 : decode cX2_spent 1 = .ok (.iconst 0, 1) := by decide +kernel
theorem dX2_spent_2 : decode cX2_spent 2 = .ok (.bipush 69, 2) := by decide +kernel
theorem dX2_spent_4 : decode cX2_spent 4 = .ok (.invokestatic 86, 3) := by decide +kernel
theorem dX2_spent_7 : decode cX2_spent 7 = .ok (.ifCond .ne 5, 3) := by decide +kernel
theorem dX2_spent_10 : decode cX2_spent 10 = .ok (.iconst (-1), 1) := by decide +kernel
theorem dX2_spent_11 : decode cX2_spent 11 = .ok (.ireturn, 1) := by decide +kernel
theorem dX2_spent_12 : decode cX2_spent 12 = .ok (.iload_n 2, 1) := by decide +kernel
theorem dX2_spent_13 : decode cX2_spent 13 = .ok (.tableswitch 47 0 2 #[27, 34, 41], 27) := by decide +kernel
theorem dX2_spent_40 : decode cX2_spent 40 = .ok (.aload_n 0, 1) := by decide +kernel
theorem dX2_spent_41 : decode cX2_spent 41 = .ok (.getfield 25, 3) := by decide +kernel
theorem dX2_spent_44 : decode cX2_spent 44 = .ok (.iload_n 1, 1) := by decide +kernel
theorem dX2_spent_45 : decode cX2_spent 45 = .ok (.iaload, 1) := by decide +kernel
theorem dX2_spent_46 : decode cX2_spent 46 = .ok (.ireturn, 1) := by decide +kernel
theorem dX2_spent_47 : decode cX2_spent 47 = .ok (.aload_n 0, 1) := by decide +kernel
theorem dX2_spent_48 : decode cX2_spent 48 = .ok (.getfield 28, 3) := by decide +kernel
theorem dX2_spent_51 : decode cX2_spent 51 = .ok (.iload_n 1, 1) := by decide +kernel
theorem dX2_spent_52 : decode cX2_spent 52 = .ok (.iaload, 1) := by decide +kernel
theorem dX2_spent_53 : decode cX2_spent 53 = .ok (.ireturn, 1) := by decide +kernel
theorem dX2_spent_54 : decode cX2_spent 54 = .ok (.aload_n 0, 1) := by decide +kernel
theorem dX2_spent_55 : decode cX2_spent 55 = .ok (.iload_n 1, 1) := by decide +kernel
theorem dX2_spent_56 : decode cX2_spent 56 = .ok (.invokevirtual 123, 3) := by decide +kernel
theorem dX2_spent_59 : decode cX2_spent 59 = .ok (.ireturn, 1) := by decide +kernel
theorem dX2_spent_60 : decode cX2_spent 60 = .ok (.iconst (-1), 1) := by decide +kernel
theorem dX2_spent_61 : decode cX2_spent 61 = .ok (.ireturn, 1) := by decide +kernel
theorem dX2_held_0 : decode cX2_held 0 = .ok (.aload_n 0, 1) := by decide +kernel
theorem dX2_held_1 : decode cX2_held 1 = .ok (.getfield 54, 3) := by decide +kernel
theorem dX2_held_4 : decode cX2_held 4 = .ok (.ireturn, 1) := by decide +kernel
theorem dX2_ticks_0 : decode cX2_ticks 0 = .ok (.aload_n 0, 1) := by decide +kernel
theorem dX2_ticks_1 : decode cX2_ticks 1 = .ok (.getfield 58, 3) := by decide +kernel
theorem dX2_ticks_4 : decode cX2_ticks 4 = .ok (.ireturn, 1) := by decide +kernel
set_option maxRecDepth 20000 in
theorem ggX2_dose_X2_isWithin : GoodIn wsX2_dose wsX2_isWithin := goodIn_r _ [5] rfl (by decide +kernel)
set_option maxRecDepth 20000 in
theorem gX2_dose_X2_isWithin : GoodIn wsX2_dose (va_wsS RX2 86 yX2_isWithin wsX2_isWithin) := goodIn_app (by first | exact goodIn_r _ [2, 3, 4] rfl (by decide +kernel) | exact goodIn_of _ (by decide +kernel)) ggX2_dose_X2_isWithin
theorem dX2_dose_0 : decode cX2_dose 0 = .ok (.iload_n 1, 1) := by decide +kernel
theorem dX2_dose_1 : decode cX2_dose 1 = .ok (.iconst 0, 1) := by decide +kernel
theorem dX2_dose_2 : decode cX2_dose 2 = .ok (.sipush 199, 3) := by decide +kernel
theorem dX2_dose_5 : decode cX2_dose 5 = .ok (.invokestatic 86, 3) := by decide +kernel
theorem dX2_dose_8 : decode cX2_dose 8 = .ok (.ifCond .eq 12, 3) := by decide +kernel
theorem dX2_dose_11 : decode cX2_dose 11 = .ok (.aload_n 0, 1) := by decide +kernel
theorem dX2_dose_12 : decode cX2_dose 12 = .ok (.getfield 21, 3) := by decide +kernel
theorem dX2_dose_15 : decode cX2_dose 15 = .ok (.iload_n 1, 1) := by decide +kernel
theorem dX2_dose_16 : decode cX2_dose 16 = .ok (.aaload, 1) := by decide +kernel
theorem dX2_dose_17 : decode cX2_dose 17 = .ok (.goto 4, 3) := by decide +kernel
theorem dX2_dose_20 : decode cX2_dose 20 = .ok (.aconst_null, 1) := by decide +kernel
theorem dX2_dose_21 : decode cX2_dose 21 = .ok (.astore_n 3, 1) := by decide +kernel
theorem dX2_dose_22 : decode cX2_dose 22 = .ok (.aload_n 3, 1) := by decide +kernel
theorem dX2_dose_23 : decode cX2_dose 23 = .ok (.ifnonnull 5, 3) := by decide +kernel
theorem dX2_dose_26 : decode cX2_dose 26 = .ok (.iconst (-1), 1) := by decide +kernel
theorem dX2_dose_27 : decode cX2_dose 27 = .ok (.ireturn, 1) := by decide +kernel
theorem dX2_dose_28 : decode cX2_dose 28 = .ok (.iload_n 2, 1) := by decide +kernel
theorem dX2_dose_29 : decode cX2_dose 29 = .ok (.tableswitch 69 0 5 #[39, 44, 49, 54, 59, 64], 39) := by decide +kernel
theorem dX2_dose_68 : decode cX2_dose 68 = .ok (.aload_n 3, 1) := by decide +kernel
theorem dX2_dose_69 : decode cX2_dose 69 = .ok (.getfield 126, 3) := by decide +kernel
theorem dX2_dose_72 : decode cX2_dose 72 = .ok (.ireturn, 1) := by decide +kernel
theorem dX2_dose_73 : decode cX2_dose 73 = .ok (.aload_n 3, 1) := by decide +kernel
theorem dX2_dose_74 : decode cX2_dose 74 = .ok (.getfield 116, 3) := by decide +kernel
theorem dX2_dose_77 : decode cX2_dose 77 = .ok (.ireturn, 1) := by decide +kernel
theorem dX2_dose_78 : decode cX2_dose 78 = .ok (.aload_n 3, 1) := by decide +kernel
theorem dX2_dose_79 : decode cX2_dose 79 = .ok (.getfield 129, 3) := by decide +kernel
theorem dX2_dose_82 : decode cX2_dose 82 = .ok (.ireturn, 1) := by decide +kernel
theorem dX2_dose_83 : decode cX2_dose 83 = .ok (.aload_n 3, 1) := by decide +kernel
theorem dX2_dose_84 : decode cX2_dose 84 = .ok (.getfield 132, 3) := by decide +kernel
theorem dX2_dose_87 : decode cX2_dose 87 = .ok (.ireturn, 1) := by decide +kernel
theorem dX2_dose_88 : decode cX2_dose 88 = .ok (.aload_n 3, 1) := by decide +kernel
theorem dX2_dose_89 : decode cX2_dose 89 = .ok (.getfield 135, 3) := by decide +kernel
theorem dX2_dose_92 : decode cX2_dose 92 = .ok (.ireturn, 1) := by decide +kernel
theorem dX2_dose_93 : decode cX2_dose 93 = .ok (.aload_n 3, 1) := by decide +kernel
theorem dX2_dose_94 : decode cX2_dose 94 = .ok (.getfield 138, 3) := by decide +kernel
theorem dX2_dose_97 : decode cX2_dose 97 = .ok (.ireturn, 1) := by decide +kernel
theorem dX2_dose_98 : decode cX2_dose 98 = .ok (.iconst (-1), 1) := by decide +kernel
theorem dX2_dose_99 : decode cX2_dose 99 = .ok (.ireturn, 1) := by decide +kernel
theorem dX2_doses_0 : decode cX2_doses 0 = .ok (.aload_n 0, 1) := by decide +kernel
theorem dX2_doses_1 : decode cX2_doses 1 = .ok (.getfield 31, 3) := by decide +kernel
theorem dX2_doses_4 : decode cX2_doses 4 = .ok (.ireturn, 1) := by decide +kernel
theorem dX2_last_0 : decode cX2_last 0 = .ok (.iload_n 1, 1) := by decide +kernel
theorem dX2_last_1 : decode cX2_last 1 = .ok (.lookupswitch 37 #[(0, 27), (1, 32)], 27) := by decide +kernel
theorem dX2_last_28 : decode cX2_last 28 = .ok (.aload_n 0, 1) := by decide +kernel
theorem dX2_last_29 : decode cX2_last 29 = .ok (.getfield 61, 3) := by decide +kernel
theorem dX2_last_32 : decode cX2_last 32 = .ok (.ireturn, 1) := by decide +kernel
theorem dX2_last_33 : decode cX2_last 33 = .ok (.aload_n 0, 1) := by decide +kernel
theorem dX2_last_34 : decode cX2_last 34 = .ok (.getfield 64, 3) := by decide +kernel
theorem dX2_last_37 : decode cX2_last 37 = .ok (.ireturn, 1) := by decide +kernel
theorem dX2_last_38 : decode cX2_last 38 = .ok (.iconst (-1), 1) := by decide +kernel
theorem dX2_last_39 : decode cX2_last 39 = .ok (.ireturn, 1) := by decide +kernel
theorem dX2_isWithin_0 : decode cX2_isWithin 0 = .ok (.iload_n 0, 1) := by decide +kernel
theorem dX2_isWithin_1 : decode cX2_isWithin 1 = .ok (.iload_n 1, 1) := by decide +kernel
theorem dX2_isWithin_2 : decode cX2_isWithin 2 = .ok (.if_icmp .lt 12, 3) := by decide +kernel
theorem dX2_isWithin_5 : decode cX2_isWithin 5 = .ok (.iload_n 0, 1) := by decide +kernel
theorem dX2_isWithin_6 : decode cX2_isWithin 6 = .ok (.iload_n 2, 1) := by decide +kernel
theorem dX2_isWithin_7 : decode cX2_isWithin 7 = .ok (.if_icmp .gt 7, 3) := by decide +kernel
theorem dX2_isWithin_10 : decode cX2_isWithin 10 = .ok (.iconst 1, 1) := by decide +kernel
theorem dX2_isWithin_11 : decode cX2_isWithin 11 = .ok (.goto 4, 3) := by decide +kernel
theorem dX2_isWithin_14 : decode cX2_isWithin 14 = .ok (.iconst 0, 1) := by decide +kernel
theorem dX2_isWithin_15 : decode cX2_isWithin 15 = .ok (.ireturn, 1) := by decide +kernel
set_option maxRecDepth 20000 in
theorem ggX2_isKind_X2_isWithin : GoodIn wsX2_isKind wsX2_isWithin := goodIn_r _ [4] rfl (by decide +kernel)
set_option maxRecDepth 20000 in
theorem gX2_isKind_X2_isWithin : GoodIn wsX2_isKind (va_wsS RX2 86 yX2_isWithin wsX2_isWithin) := goodIn_app (by first | exact goodIn_r _ [1, 2, 3] rfl (by decide +kernel) | exact goodIn_of _ (by decide +kernel)) ggX2_isKind_X2_isWithin
theorem dX2_isKind_0 : decode cX2_isKind 0 = .ok (.iload_n 0, 1) := by decide +kernel
theorem dX2_isKind_1 : decode cX2_isKind 1 = .ok (.iconst 0, 1) := by decide +kernel
theorem dX2_isKind_2 : decode cX2_isKind 2 = .ok (.iconst 4, 1) := by decide +kernel
theorem dX2_isKind_3 : decode cX2_isKind 3 = .ok (.invokestatic 86, 3) := by decide +kernel
theorem dX2_isKind_6 : decode cX2_isKind 6 = .ok (.ireturn, 1) := by decide +kernel
set_option maxRecDepth 20000 in
theorem ggX2_isMinuteOfDay_X2_isWithin : GoodIn wsX2_isMinuteOfDay wsX2_isWithin := goodIn_r _ [4] rfl (by decide +kernel)
set_option maxRecDepth 20000 in
theorem gX2_isMinuteOfDay_X2_isWithin : GoodIn wsX2_isMinuteOfDay (va_wsS RX2 86 yX2_isWithin wsX2_isWithin) := goodIn_app (by first | exact goodIn_r _ [1, 2, 3] rfl (by decide +kernel) | exact goodIn_of _ (by decide +kernel)) ggX2_isMinuteOfDay_X2_isWithin
theorem dX2_isMinuteOfDay_0 : decode cX2_isMinuteOfDay 0 = .ok (.iload_n 0, 1) := by decide +kernel
theorem dX2_isMinuteOfDay_1 : decode cX2_isMinuteOfDay 1 = .ok (.iconst 0, 1) := by decide +kernel
theorem dX2_isMinuteOfDay_2 : decode cX2_isMinuteOfDay 2 = .ok (.sipush 1439, 3) := by decide +kernel
theorem dX2_isMinuteOfDay_5 : decode cX2_isMinuteOfDay 5 = .ok (.invokestatic 86, 3) := by decide +kernel
theorem dX2_isMinuteOfDay_8 : decode cX2_isMinuteOfDay 8 = .ok (.ireturn, 1) := by decide +kernel
set_option maxRecDepth 20000 in
theorem ggX2_partsFor_J9_floorDiv_7cf53 : GoodIn wsX2_partsFor wsJ9_floorDiv_7cf53 := goodIn_r _ [4] rfl (by decide +kernel)
set_option maxRecDepth 20000 in
theorem gX2_partsFor_J9_floorDiv_7cf53 : GoodIn wsX2_partsFor (va_wsS RX2 141 yJ9_floorDiv_7cf53 wsJ9_floorDiv_7cf53) := goodIn_app (by first | exact goodIn_r _ [1, 2, 3] rfl (by decide +kernel) | exact goodIn_of _ (by decide +kernel)) ggX2_partsFor_J9_floorDiv_7cf53
theorem dX2_partsFor_0 : decode cX2_partsFor 0 = .ok (.iload_n 1, 1) := by decide +kernel
theorem dX2_partsFor_1 : decode cX2_partsFor 1 = .ok (.iconst 1, 1) := by decide +kernel
theorem dX2_partsFor_2 : decode cX2_partsFor 2 = .ok (.if_icmp .ge 7, 3) := by decide +kernel
theorem dX2_partsFor_5 : decode cX2_partsFor 5 = .ok (.iconst 0, 1) := by decide +kernel
theorem dX2_partsFor_6 : decode cX2_partsFor 6 = .ok (.goto 12, 3) := by decide +kernel
theorem dX2_partsFor_9 : decode cX2_partsFor 9 = .ok (.iload_n 0, 1) := by decide +kernel
theorem dX2_partsFor_10 : decode cX2_partsFor 10 = .ok (.sipush 1000, 3) := by decide +kernel
theorem dX2_partsFor_13 : decode cX2_partsFor 13 = .ok (.imul, 1) := by decide +kernel
theorem dX2_partsFor_14 : decode cX2_partsFor 14 = .ok (.iload_n 1, 1) := by decide +kernel
theorem dX2_partsFor_15 : decode cX2_partsFor 15 = .ok (.invokestatic 141, 3) := by decide +kernel
theorem dX2_partsFor_18 : decode cX2_partsFor 18 = .ok (.ireturn, 1) := by decide +kernel
set_option maxRecDepth 20000 in
theorem ggX2_canGoOnTo_X2_isWithin : GoodIn wsX2_canGoOnTo wsX2_isWithin := goodIn_r _ [10] rfl (by decide +kernel)
set_option maxRecDepth 20000 in
theorem gX2_canGoOnTo_X2_isWithin : GoodIn wsX2_canGoOnTo (va_wsS RX2 86 yX2_isWithin wsX2_isWithin) := goodIn_app (by first | exact goodIn_r _ [7, 8, 9] rfl (by decide +kernel) | exact goodIn_of _ (by decide +kernel)) ggX2_canGoOnTo_X2_isWithin
theorem dX2_canGoOnTo_0 : decode cX2_canGoOnTo 0 = .ok (.iload_n 1, 1) := by decide +kernel
theorem dX2_canGoOnTo_1 : decode cX2_canGoOnTo 1 = .ok (.aload_n 0, 1) := by decide +kernel
theorem dX2_canGoOnTo_2 : decode cX2_canGoOnTo 2 = .ok (.getfield 35, 3) := by decide +kernel
theorem dX2_canGoOnTo_5 : decode cX2_canGoOnTo 5 = .ok (.ldc 98, 2) := by decide +kernel
theorem dX2_canGoOnTo_7 : decode cX2_canGoOnTo 7 = .ok (.aload_n 0, 1) := by decide +kernel
theorem dX2_canGoOnTo_8 : decode cX2_canGoOnTo 8 = .ok (.getfield 35, 3) := by decide +kernel
theorem dX2_canGoOnTo_11 : decode cX2_canGoOnTo 11 = .ok (.sipush 2880, 3) := by decide +kernel
theorem dX2_canGoOnTo_14 : decode cX2_canGoOnTo 14 = .ok (.iadd, 1) := by decide +kernel
theorem dX2_canGoOnTo_15 : decode cX2_canGoOnTo 15 = .ok (.invokestatic 144, 3) := by decide +kernel
theorem dX2_canGoOnTo_18 : decode cX2_canGoOnTo 18 = .ok (.invokestatic 86, 3) := by decide +kernel
theorem dX2_canGoOnTo_21 : decode cX2_canGoOnTo 21 = .ok (.ireturn, 1) := by decide +kernel
set_option maxRecDepth 20000 in
theorem ggX2_goOnTo_X2_flowUpTo : GoodIn wsX2_goOnTo wsX2_flowUpTo := goodIn_r _ [7, 2, 8, 9, 10, 11, 12, 13, 14, 15, 16, 17, 6, 18, 19, 20, 21, 22, 23, 24, 25, 26, 27, 28, 29, 30, 31, 32, 33, 34, 35, 36, 37, 38, 39, 40, 41, 42, 43, 44, 45, 46, 47, 48, 49, 50, 51, 52, 53, 54, 55, 56, 57, 58, 59] rfl (by decide +kernel)
set_option maxRecDepth 20000 in
theorem gX2_goOnTo_X2_flowUpTo : GoodIn wsX2_goOnTo (wsV RX2 147 RX2 yX2_flowUpTo wsX2_flowUpTo) := goodIn_app (by first | exact goodIn_r _ [3, 4, 5, 6] rfl (by decide +kernel) | exact goodIn_of _ (by decide +kernel)) ggX2_goOnTo_X2_flowUpTo
theorem dX2_goOnTo_0 : decode cX2_goOnTo 0 = .ok (.aload_n 0, 1) := by decide +kernel
theorem dX2_goOnTo_1 : decode cX2_goOnTo 1 = .ok (.getfield 54, 3) := by decide +kernel
theorem dX2_goOnTo_4 : decode cX2_goOnTo 4 = .ok (.ifCond .ne 8, 3) := by decide +kernel
theorem dX2_goOnTo_7 : decode cX2_goOnTo 7 = .ok (.aload_n 0, 1) := by decide +kernel
theorem dX2_goOnTo_8 : decode cX2_goOnTo 8 = .ok (.iload_n 1, 1) := by decide +kernel
theorem dX2_goOnTo_9 : decode cX2_goOnTo 9 = .ok (.invokevirtual 147, 3) := by decide +kernel
theorem dX2_goOnTo_12 : decode cX2_goOnTo 12 = .ok (.aload_n 0, 1) := by decide +kernel
theorem dX2_goOnTo_13 : decode cX2_goOnTo 13 = .ok (.iload_n 1, 1) := by decide +kernel
theorem dX2_goOnTo_14 : decode cX2_goOnTo 14 = .ok (.putfield 35, 3) := by decide +kernel
theorem dX2_goOnTo_17 : decode cX2_goOnTo 17 = .ok (.return_, 1) := by decide +kernel
set_option maxRecDepth 20000 in
theorem ggX2_flowUpTo_X2_flowWithin : GoodIn wsX2_flowUpTo wsX2_flowWithin := goodIn_r _ [13, 14, 2, 3, 4, 5, 6, 7, 8, 15, 16, 17, 18, 19, 20, 21, 22, 23, 24, 25, 26, 27, 28, 29, 30, 31, 12, 32, 33, 34, 35, 36, 37, 38, 39, 40, 41, 42, 43, 44, 45, 46, 47, 48, 49, 50, 51, 52, 53, 54] rfl (by decide +kernel)
set_option maxRecDepth 20000 in
theorem gX2_flowUpTo_X2_flowWithin : GoodIn wsX2_flowUpTo (wsV RX2 150 RX2 yX2_flowWithin wsX2_flowWithin) := goodIn_app (by first | exact goodIn_r _ [9, 10, 11, 12] rfl (by decide +kernel) | exact goodIn_of _ (by decide +kernel)) ggX2_flowUpTo_X2_flowWithin
theorem dX2_flowUpTo_0 : decode cX2_flowUpTo 0 = .ok (.aload_n 0, 1) := by decide +kernel
theorem dX2_flowUpTo_1 : decode cX2_flowUpTo 1 = .ok (.getfield 35, 3) := by decide +kernel
theorem dX2_flowUpTo_4 : decode cX2_flowUpTo 4 = .ok (.sipush 1440, 3) := by decide +kernel
theorem dX2_flowUpTo_7 : decode cX2_flowUpTo 7 = .ok (.idiv, 1) := by decide +kernel
theorem dX2_flowUpTo_8 : decode cX2_flowUpTo 8 = .ok (.istore_n 2, 1) := by decide +kernel
theorem dX2_flowUpTo_9 : decode cX2_flowUpTo 9 = .ok (.iload_n 2, 1) := by decide +kernel
theorem dX2_flowUpTo_10 : decode cX2_flowUpTo 10 = .ok (.iload_n 1, 1) := by decide +kernel
theorem dX2_flowUpTo_11 : decode cX2_flowUpTo 11 = .ok (.sipush 1440, 3) := by decide +kernel
theorem dX2_flowUpTo_14 : decode cX2_flowUpTo 14 = .ok (.idiv, 1) := by decide +kernel
theorem dX2_flowUpTo_15 : decode cX2_flowUpTo 15 = .ok (.if_icmp .gt 47, 3) := by decide +kernel
theorem dX2_flowUpTo_18 : decode cX2_flowUpTo 18 = .ok (.iload_n 2, 1) := by decide +kernel
theorem dX2_flowUpTo_19 : decode cX2_flowUpTo 19 = .ok (.sipush 1440, 3) := by decide +kernel
theorem dX2_flowUpTo_22 : decode cX2_flowUpTo 22 = .ok (.imul, 1) := by decide +kernel
theorem dX2_flowUpTo_23 : decode cX2_flowUpTo 23 = .ok (.istore_n 3, 1) := by decide +kernel
theorem dX2_flowUpTo_24 : decode cX2_flowUpTo 24 = .ok (.iconst 0, 1) := by decide +kernel
theorem dX2_flowUpTo_25 : decode cX2_flowUpTo 25 = .ok (.aload_n 0, 1) := by decide +kernel
theorem dX2_flowUpTo_26 : decode cX2_flowUpTo 26 = .ok (.getfield 35, 3) := by decide +kernel
theorem dX2_flowUpTo_29 : decode cX2_flowUpTo 29 = .ok (.iload_n 3, 1) := by decide +kernel
theorem dX2_flowUpTo_30 : decode cX2_flowUpTo 30 = .ok (.isub, 1) := by decide +kernel
theorem dX2_flowUpTo_31 : decode cX2_flowUpTo 31 = .ok (.invokestatic 73, 3) := by decide +kernel
theorem dX2_flowUpTo_34 : decode cX2_flowUpTo 34 = .ok (.istore 4, 2) := by decide +kernel
theorem dX2_flowUpTo_36 : decode cX2_flowUpTo 36 = .ok (.sipush 1440, 3) := by decide +kernel
theorem dX2_flowUpTo_39 : decode cX2_flowUpTo 39 = .ok (.iload_n 1, 1) := by decide +kernel
theorem dX2_flowUpTo_40 : decode cX2_flowUpTo 40 = .ok (.iload_n 3, 1) := by decide +kernel
theorem dX2_flowUpTo_41 : decode cX2_flowUpTo 41 = .ok (.isub, 1) := by decide +kernel
theorem dX2_flowUpTo_42 : decode cX2_flowUpTo 42 = .ok (.invokestatic 144, 3) := by decide +kernel
theorem dX2_flowUpTo_45 : decode cX2_flowUpTo 45 = .ok (.istore 5, 2) := by decide +kernel
theorem dX2_flowUpTo_47 : decode cX2_flowUpTo 47 = .ok (.aload_n 0, 1) := by decide +kernel
theorem dX2_flowUpTo_48 : decode cX2_flowUpTo 48 = .ok (.iload_n 2, 1) := by decide +kernel
theorem dX2_flowUpTo_49 : decode cX2_flowUpTo 49 = .ok (.iload 4, 2) := by decide +kernel
theorem dX2_flowUpTo_51 : decode cX2_flowUpTo 51 = .ok (.iload 5, 2) := by decide +kernel
theorem dX2_flowUpTo_53 : decode cX2_flowUpTo 53 = .ok (.invokevirtual 150, 3) := by decide +kernel
theorem dX2_flowUpTo_56 : decode cX2_flowUpTo 56 = .ok (.iinc 2 1, 3) := by decide +kernel
theorem dX2_flowUpTo_59 : decode cX2_flowUpTo 59 = .ok (.goto (-50), 3) := by decide +kernel
theorem dX2_flowUpTo_62 : decode cX2_flowUpTo 62 = .ok (.return_, 1) := by decide +kernel
set_option maxRecDepth 20000 in
theorem ggX2_flowWithin_X1_beginOfSpan : GoodIn wsX2_flowWithin wsX1_beginOfSpan := goodIn_r _ [12, 13, 46, 47, 48, 49] rfl (by decide +kernel)
set_option maxRecDepth 20000 in
theorem gX2_flowWithin_X1_beginOfSpan_n157 : GoodIn wsX2_flowWithin (wsX1_beginOfSpan) := ggX2_flowWithin_X1_beginOfSpan
set_option maxRecDepth 20000 in
theorem ggX2_flowWithin_X1_endOfSpan : GoodIn wsX2_flowWithin wsX1_endOfSpan := goodIn_r _ [16, 17, 13, 46, 47, 48, 49] rfl (by decide +kernel)
set_option maxRecDepth 20000 in
theorem gX2_flowWithin_X1_endOfSpan_n160 : GoodIn wsX2_flowWithin (wsX1_endOfSpan) := ggX2_flowWithin_X1_endOfSpan
set_option maxRecDepth 20000 in
theorem ggX2_flowWithin_X1_valueOfSpan : GoodIn wsX2_flowWithin wsX1_valueOfSpan := goodIn_r _ [20, 17, 21, 22, 46, 47, 48, 49] rfl (by decide +kernel)
set_option maxRecDepth 20000 in
theorem gX2_flowWithin_X1_valueOfSpan_n163 : GoodIn wsX2_flowWithin (wsX1_valueOfSpan) := ggX2_flowWithin_X1_valueOfSpan
set_option maxRecDepth 20000 in
theorem ggX2_flowWithin_X2_flowFor : GoodIn wsX2_flowWithin wsX2_flowFor := goodIn_r _ [27, 28, 29, 30, 31, 32, 33, 34, 35, 36, 37, 38, 39, 40, 41, 42, 43, 44, 45] rfl (by decide +kernel)
set_option maxRecDepth 20000 in
theorem gX2_flowWithin_X2_flowFor : GoodIn wsX2_flowWithin (wsV RX2 166 RX2 yX2_flowFor wsX2_flowFor) := goodIn_app (by first | exact goodIn_r _ [23, 24, 25, 26] rfl (by decide +kernel) | exact goodIn_of _ (by decide +kernel)) ggX2_flowWithin_X2_flowFor
theorem dX2_flowWithin_0 : decode cX2_flowWithin 0 = .ok (.aload_n 0, 1) := by decide +kernel
theorem dX2_flowWithin_1 : decode cX2_flowWithin 1 = .ok (.getfield 11, 3) := by decide +kernel
theorem dX2_flowWithin_4 : decode cX2_flowWithin 4 = .ok (.iconst 4, 1) := by decide +kernel
theorem dX2_flowWithin_5 : decode cX2_flowWithin 5 = .ok (.aaload, 1) := by decide +kernel
theorem dX2_flowWithin_6 : decode cX2_flowWithin 6 = .ok (.astore 4, 2) := by decide +kernel
theorem dX2_flowWithin_8 : decode cX2_flowWithin 8 = .ok (.iconst 0, 1) := by decide +kernel
theorem dX2_flowWithin_9 : decode cX2_flowWithin 9 = .ok (.istore 5, 2) := by decide +kernel
theorem dX2_flowWithin_11 : decode cX2_flowWithin 11 = .ok (.iload 5, 2) := by decide +kernel
theorem dX2_flowWithin_13 : decode cX2_flowWithin 13 = .ok (.aload 4, 2) := by decide +kernel
theorem dX2_flowWithin_15 : decode cX2_flowWithin 15 = .ok (.getfield 154, 3) := by decide +kernel
theorem dX2_flowWithin_18 : decode cX2_flowWithin 18 = .ok (.if_icmp .gt 59, 3) := by decide +kernel
theorem dX2_flowWithin_21 : decode cX2_flowWithin 21 = .ok (.iload_n 2, 1) := by decide +kernel
theorem dX2_flowWithin_22 : decode cX2_flowWithin 22 = .ok (.aload 4, 2) := by decide +kernel
theorem dX2_flowWithin_24 : decode cX2_flowWithin 24 = .ok (.iload 5, 2) := by decide +kernel
theorem dX2_flowWithin_26 : decode cX2_flowWithin 26 = .ok (.invokevirtual 157, 3) := by decide +kernel
theorem dX2_flowWithin_29 : decode cX2_flowWithin 29 = .ok (.invokestatic 73, 3) := by decide +kernel
theorem dX2_flowWithin_32 : decode cX2_flowWithin 32 = .ok (.istore 6, 2) := by decide +kernel
theorem dX2_flowWithin_34 : decode cX2_flowWithin 34 = .ok (.iload_n 3, 1) := by decide +kernel
theorem dX2_flowWithin_35 : decode cX2_flowWithin 35 = .ok (.aload 4, 2) := by decide +kernel
theorem dX2_flowWithin_37 : decode cX2_flowWithin 37 = .ok (.iload 5, 2) := by decide +kernel
theorem dX2_flowWithin_39 : decode cX2_flowWithin 39 = .ok (.invokevirtual 160, 3) := by decide +kernel
theorem dX2_flowWithin_42 : decode cX2_flowWithin 42 = .ok (.invokestatic 144, 3) := by decide +kernel
theorem dX2_flowWithin_45 : decode cX2_flowWithin 45 = .ok (.istore 7, 2) := by decide +kernel
theorem dX2_flowWithin_47 : decode cX2_flowWithin 47 = .ok (.iload 6, 2) := by decide +kernel
theorem dX2_flowWithin_49 : decode cX2_flowWithin 49 = .ok (.iload 7, 2) := by decide +kernel
theorem dX2_flowWithin_51 : decode cX2_flowWithin 51 = .ok (.if_icmp .ge 20, 3) := by decide +kernel
theorem dX2_flowWithin_54 : decode cX2_flowWithin 54 = .ok (.aload_n 0, 1) := by decide +kernel
theorem dX2_flowWithin_55 : decode cX2_flowWithin 55 = .ok (.iload 7, 2) := by decide +kernel
theorem dX2_flowWithin_57 : decode cX2_flowWithin 57 = .ok (.iload 6, 2) := by decide +kernel
theorem dX2_flowWithin_59 : decode cX2_flowWithin 59 = .ok (.isub, 1) := by decide +kernel
theorem dX2_flowWithin_60 : decode cX2_flowWithin 60 = .ok (.aload 4, 2) := by decide +kernel
theorem dX2_flowWithin_62 : decode cX2_flowWithin 62 = .ok (.iload 5, 2) := by decide +kernel
theorem dX2_flowWithin_64 : decode cX2_flowWithin 64 = .ok (.invokevirtual 163, 3) := by decide +kernel
theorem dX2_flowWithin_67 : decode cX2_flowWithin 67 = .ok (.iload_n 1, 1) := by decide +kernel
theorem dX2_flowWithin_68 : decode cX2_flowWithin 68 = .ok (.invokevirtual 166, 3) := by decide +kernel
theorem dX2_flowWithin_71 : decode cX2_flowWithin 71 = .ok (.iinc 5 1, 3) := by decide +kernel
theorem dX2_flowWithin_74 : decode cX2_flowWithin 74 = .ok (.goto (-63), 3) := by decide +kernel
theorem dX2_flowWithin_77 : decode cX2_flowWithin 77 = .ok (.return_, 1) := by decide +kernel
theorem dX2_flowFor_0 : decode cX2_flowFor 0 = .ok (.aload_n 0, 1) := by decide +kernel
theorem dX2_flowFor_1 : decode cX2_flowFor 1 = .ok (.getfield 38, 3) := by decide +kernel
theorem dX2_flowFor_4 : decode cX2_flowFor 4 = .ok (.iload_n 1, 1) := by decide +kernel
theorem dX2_flowFor_5 : decode cX2_flowFor 5 = .ok (.iload_n 2, 1) := by decide +kernel
theorem dX2_flowFor_6 : decode cX2_flowFor 6 = .ok (.imul, 1) := by decide +kernel
theorem dX2_flowFor_7 : decode cX2_flowFor 7 = .ok (.iadd, 1) := by decide +kernel
theorem dX2_flowFor_8 : decode cX2_flowFor 8 = .ok (.istore 4, 2) := by decide +kernel
theorem dX2_flowFor_10 : decode cX2_flowFor 10 = .ok (.aload_n 0, 1) := by decide +kernel
theorem dX2_flowFor_11 : decode cX2_flowFor 11 = .ok (.getfield 25, 3) := by decide +kernel
theorem dX2_flowFor_14 : decode cX2_flowFor 14 = .ok (.iload_n 3, 1) := by decide +kernel
theorem dX2_flowFor_15 : decode cX2_flowFor 15 = .ok (.dup2, 1) := by decide +kernel
theorem dX2_flowFor_16 : decode cX2_flowFor 16 = .ok (.iaload, 1) := by decide +kernel
theorem dX2_flowFor_17 : decode cX2_flowFor 17 = .ok (.iload 4, 2) := by decide +kernel
theorem dX2_flowFor_19 : decode cX2_flowFor 19 = .ok (.bipush 60, 2) := by decide +kernel
theorem dX2_flowFor_21 : decode cX2_flowFor 21 = .ok (.idiv, 1) := by decide +kernel
theorem dX2_flowFor_22 : decode cX2_flowFor 22 = .ok (.iadd, 1) := by decide +kernel
theorem dX2_flowFor_23 : decode cX2_flowFor 23 = .ok (.iastore, 1) := by decide +kernel
theorem dX2_flowFor_24 : decode cX2_flowFor 24 = .ok (.aload_n 0, 1) := by decide +kernel
theorem dX2_flowFor_25 : decode cX2_flowFor 25 = .ok (.iload 4, 2) := by decide +kernel
theorem dX2_flowFor_27 : decode cX2_flowFor 27 = .ok (.bipush 60, 2) := by decide +kernel
theorem dX2_flowFor_29 : decode cX2_flowFor 29 = .ok (.irem, 1) := by decide +kernel
theorem dX2_flowFor_30 : decode cX2_flowFor 30 = .ok (.putfield 38, 3) := by decide +kernel
theorem dX2_flowFor_33 : decode cX2_flowFor 33 = .ok (.return_, 1) := by decide +kernel
theorem dX2_hold_0 : decode cX2_hold 0 = .ok (.aload_n 0, 1) := by decide +kernel
theorem dX2_hold_1 : decode cX2_hold 1 = .ok (.iconst 1, 1) := by decide +kernel
theorem dX2_hold_2 : decode cX2_hold 2 = .ok (.putfield 54, 3) := by decide +kernel
theorem dX2_hold_5 : decode cX2_hold 5 = .ok (.aload_n 0, 1) := by decide +kernel
theorem dX2_hold_6 : decode cX2_hold 6 = .ok (.iconst 0, 1) := by decide +kernel
theorem dX2_hold_7 : decode cX2_hold 7 = .ok (.putfield 58, 3) := by decide +kernel
theorem dX2_hold_10 : decode cX2_hold 10 = .ok (.return_, 1) := by decide +kernel
theorem dX2_countTick_0 : decode cX2_countTick 0 = .ok (.aload_n 0, 1) := by decide +kernel
theorem dX2_countTick_1 : decode cX2_countTick 1 = .ok (.dup, 1) := by decide +kernel
theorem dX2_countTick_2 : decode cX2_countTick 2 = .ok (.getfield 58, 3) := by decide +kernel
theorem dX2_countTick_5 : decode cX2_countTick 5 = .ok (.iconst 1, 1) := by decide +kernel
theorem dX2_countTick_6 : decode cX2_countTick 6 = .ok (.iadd, 1) := by decide +kernel
theorem dX2_countTick_7 : decode cX2_countTick 7 = .ok (.putfield 58, 3) := by decide +kernel
theorem dX2_countTick_10 : decode cX2_countTick 10 = .ok (.aload_n 0, 1) := by decide +kernel
theorem dX2_countTick_11 : decode cX2_countTick 11 = .ok (.getfield 58, 3) := by decide +kernel
theorem dX2_countTick_14 : decode cX2_countTick 14 = .ok (.aload_n 0, 1) := by decide +kernel
theorem dX2_countTick_15 : decode cX2_countTick 15 = .ok (.getfield 51, 3) := by decide +kernel
theorem dX2_countTick_18 : decode cX2_countTick 18 = .ok (.if_icmp .lt 13, 3) := by decide +kernel
theorem dX2_countTick_21 : decode cX2_countTick 21 = .ok (.aload_n 0, 1) := by decide +kernel
theorem dX2_countTick_22 : decode cX2_countTick 22 = .ok (.iconst 0, 1) := by decide +kernel
theorem dX2_countTick_23 : decode cX2_countTick 23 = .ok (.putfield 54, 3) := by decide +kernel
theorem dX2_countTick_26 : decode cX2_countTick 26 = .ok (.aload_n 0, 1) := by decide +kernel
theorem dX2_countTick_27 : decode cX2_countTick 27 = .ok (.iconst 0, 1) := by decide +kernel
theorem dX2_countTick_28 : decode cX2_countTick 28 = .ok (.putfield 58, 3) := by decide +kernel
theorem dX2_countTick_31 : decode cX2_countTick 31 = .ok (.return_, 1) := by decide +kernel
set_option maxRecDepth 20000 in
theorem ggX2_valueNow_X1_valueAt : GoodIn wsX2_valueNow wsX1_valueAt := goodIn_r _ [6, 7, 8, 9, 4, 10, 11, 12, 13, 14, 15, 16, 17, 18, 35, 36, 37, 38] rfl (by decide +kernel)
set_option maxRecDepth 20000 in
theorem gX2_valueNow_X1_valueAt_n94 : GoodIn wsX2_valueNow (wsX1_valueAt) := ggX2_valueNow_X1_valueAt
theorem dX2_valueNow_0 : decode cX2_valueNow 0 = .ok (.aload_n 0, 1) := by decide +kernel
theorem dX2_valueNow_1 : decode cX2_valueNow 1 = .ok (.getfield 11, 3) := by decide +kernel
theorem dX2_valueNow_4 : decode cX2_valueNow 4 = .ok (.iload_n 1, 1) := by decide +kernel
theorem dX2_valueNow_5 : decode cX2_valueNow 5 = .ok (.aaload, 1) := by decide +kernel
theorem dX2_valueNow_6 : decode cX2_valueNow 6 = .ok (.aload_n 0, 1) := by decide +kernel
theorem dX2_valueNow_7 : decode cX2_valueNow 7 = .ok (.getfield 35, 3) := by decide +kernel
theorem dX2_valueNow_10 : decode cX2_valueNow 10 = .ok (.sipush 1440, 3) := by decide +kernel
theorem dX2_valueNow_13 : decode cX2_valueNow 13 = .ok (.irem, 1) := by decide +kernel
theorem dX2_valueNow_14 : decode cX2_valueNow 14 = .ok (.invokevirtual 94, 3) := by decide +kernel
theorem dX2_valueNow_17 : decode cX2_valueNow 17 = .ok (.ireturn, 1) := by decide +kernel
theorem dX2_bothOfDay_0 : decode cX2_bothOfDay 0 = .ok (.aload_n 0, 1) := by decide +kernel
theorem dX2_bothOfDay_1 : decode cX2_bothOfDay 1 = .ok (.getfield 25, 3) := by decide +kernel
theorem dX2_bothOfDay_4 : decode cX2_bothOfDay 4 = .ok (.iload_n 1, 1) := by decide +kernel
theorem dX2_bothOfDay_5 : decode cX2_bothOfDay 5 = .ok (.iaload, 1) := by decide +kernel
theorem dX2_bothOfDay_6 : decode cX2_bothOfDay 6 = .ok (.aload_n 0, 1) := by decide +kernel
theorem dX2_bothOfDay_7 : decode cX2_bothOfDay 7 = .ok (.getfield 28, 3) := by decide +kernel
theorem dX2_bothOfDay_10 : decode cX2_bothOfDay 10 = .ok (.iload_n 1, 1) := by decide +kernel
theorem dX2_bothOfDay_11 : decode cX2_bothOfDay 11 = .ok (.iaload, 1) := by decide +kernel
theorem dX2_bothOfDay_12 : decode cX2_bothOfDay 12 = .ok (.iadd, 1) := by decide +kernel
theorem dX2_bothOfDay_13 : decode cX2_bothOfDay 13 = .ok (.ireturn, 1) := by decide +kernel
set_option maxRecDepth 20000 in
theorem ggX2_atWorkNow_X2_atWorkNowOf : GoodIn wsX2_atWorkNow wsX2_atWorkNowOf := goodIn_r _ [6, 7, 8, 9, 10, 5, 11, 12, 13, 14, 15, 16, 17, 18, 19, 20, 21, 22, 23, 24, 25, 26, 27, 28, 29, 30, 31, 32, 33] rfl (by decide +kernel)
set_option maxRecDepth 20000 in
theorem gX2_atWorkNow_X2_atWorkNowOf : GoodIn wsX2_atWorkNow (wsV RX2 169 RX2 yX2_atWorkNowOf wsX2_atWorkNowOf) := goodIn_app (by first | exact goodIn_r _ [2, 3, 4, 5] rfl (by decide +kernel) | exact goodIn_of _ (by decide +kernel)) ggX2_atWorkNow_X2_atWorkNowOf
theorem dX2_atWorkNow_0 : decode cX2_atWorkNow 0 = .ok (.iconst 0, 1) := by decide +kernel
theorem dX2_atWorkNow_1 : decode cX2_atWorkNow 1 = .ok (.istore_n 1, 1) := by decide +kernel
theorem dX2_atWorkNow_2 : decode cX2_atWorkNow 2 = .ok (.iconst 0, 1) := by decide +kernel
theorem dX2_atWorkNow_3 : decode cX2_atWorkNow 3 = .ok (.istore_n 2, 1) := by decide +kernel
theorem dX2_atWorkNow_4 : decode cX2_atWorkNow 4 = .ok (.iload_n 2, 1) := by decide +kernel
theorem dX2_atWorkNow_5 : decode cX2_atWorkNow 5 = .ok (.sipush 200, 3) := by decide +kernel
theorem dX2_atWorkNow_8 : decode cX2_atWorkNow 8 = .ok (.if_icmp .ge 31, 3) := by decide +kernel
theorem dX2_atWorkNow_11 : decode cX2_atWorkNow 11 = .ok (.aload_n 0, 1) := by decide +kernel
theorem dX2_atWorkNow_12 : decode cX2_atWorkNow 12 = .ok (.getfield 21, 3) := by decide +kernel
theorem dX2_atWorkNow_15 : decode cX2_atWorkNow 15 = .ok (.iload_n 2, 1) := by decide +kernel
theorem dX2_atWorkNow_16 : decode cX2_atWorkNow 16 = .ok (.aaload, 1) := by decide +kernel
theorem dX2_atWorkNow_17 : decode cX2_atWorkNow 17 = .ok (.ifnull 22, 3) := by decide +kernel
theorem dX2_atWorkNow_20 : decode cX2_atWorkNow 20 = .ok (.iload_n 1, 1) := by decide +kernel
theorem dX2_atWorkNow_21 : decode cX2_atWorkNow 21 = .ok (.aload_n 0, 1) := by decide +kernel
theorem dX2_atWorkNow_22 : decode cX2_atWorkNow 22 = .ok (.aload_n 0, 1) := by decide +kernel
theorem dX2_atWorkNow_23 : decode cX2_atWorkNow 23 = .ok (.getfield 21, 3) := by decide +kernel
theorem dX2_atWorkNow_26 : decode cX2_atWorkNow 26 = .ok (.iload_n 2, 1) := by decide +kernel
theorem dX2_atWorkNow_27 : decode cX2_atWorkNow 27 = .ok (.aaload, 1) := by decide +kernel
theorem dX2_atWorkNow_28 : decode cX2_atWorkNow 28 = .ok (.invokevirtual 169, 3) := by decide +kernel
theorem dX2_atWorkNow_31 : decode cX2_atWorkNow 31 = .ok (.iadd, 1) := by decide +kernel
theorem dX2_atWorkNow_32 : decode cX2_atWorkNow 32 = .ok (.istore_n 1, 1) := by decide +kernel
theorem dX2_atWorkNow_33 : decode cX2_atWorkNow 33 = .ok (.iinc 2 1, 3) := by decide +kernel
theorem dX2_atWorkNow_36 : decode cX2_atWorkNow 36 = .ok (.goto (-32), 3) := by decide +kernel
theorem dX2_atWorkNow_39 : decode cX2_atWorkNow 39 = .ok (.iload_n 1, 1) := by decide +kernel
theorem dX2_atWorkNow_40 : decode cX2_atWorkNow 40 = .ok (.ireturn, 1) := by decide +kernel
set_option maxRecDepth 20000 in
theorem ggX2_atWorkNowOf_X2_isWithin : GoodIn wsX2_atWorkNowOf wsX2_isWithin := goodIn_r _ [6] rfl (by decide +kernel)
set_option maxRecDepth 20000 in
theorem gX2_atWorkNowOf_X2_isWithin : GoodIn wsX2_atWorkNowOf (va_wsS RX2 86 yX2_isWithin wsX2_isWithin) := goodIn_app (by first | exact goodIn_r _ [3, 4, 5] rfl (by decide +kernel) | exact goodIn_of _ (by decide +kernel)) ggX2_atWorkNowOf_X2_isWithin
theorem dX2_atWorkNowOf_0 : decode cX2_atWorkNowOf 0 = .ok (.aload_n 0, 1) := by decide +kernel
theorem dX2_atWorkNowOf_1 : decode cX2_atWorkNowOf 1 = .ok (.getfield 35, 3) := by decide +kernel
theorem dX2_atWorkNowOf_4 : decode cX2_atWorkNowOf 4 = .ok (.aload_n 1, 1) := by decide +kernel
theorem dX2_atWorkNowOf_5 : decode cX2_atWorkNowOf 5 = .ok (.getfield 126, 3) := by decide +kernel
theorem dX2_atWorkNowOf_8 : decode cX2_atWorkNowOf 8 = .ok (.isub, 1) := by decide +kernel
theorem dX2_atWorkNowOf_9 : decode cX2_atWorkNowOf 9 = .ok (.bipush 15, 2) := by decide +kernel
theorem dX2_atWorkNowOf_11 : decode cX2_atWorkNowOf 11 = .ok (.idiv, 1) := by decide +kernel
theorem dX2_atWorkNowOf_12 : decode cX2_atWorkNowOf 12 = .ok (.istore_n 2, 1) := by decide +kernel
theorem dX2_atWorkNowOf_13 : decode cX2_atWorkNowOf 13 = .ok (.iload_n 2, 1) := by decide +kernel
theorem dX2_atWorkNowOf_14 : decode cX2_atWorkNowOf 14 = .ok (.iconst 0, 1) := by decide +kernel
theorem dX2_atWorkNowOf_15 : decode cX2_atWorkNowOf 15 = .ok (.bipush 32, 2) := by decide +kernel
theorem dX2_atWorkNowOf_17 : decode cX2_atWorkNowOf 17 = .ok (.invokestatic 86, 3) := by decide +kernel
theorem dX2_atWorkNowOf_20 : decode cX2_atWorkNowOf 20 = .ok (.ifCond .eq 21, 3) := by decide +kernel
theorem dX2_atWorkNowOf_23 : decode cX2_atWorkNowOf 23 = .ok (.aload_n 1, 1) := by decide +kernel
theorem dX2_atWorkNowOf_24 : decode cX2_atWorkNowOf 24 = .ok (.getfield 116, 3) := by decide +kernel
theorem dX2_atWorkNowOf_27 : decode cX2_atWorkNowOf 27 = .ok (.aload_n 0, 1) := by decide +kernel
theorem dX2_atWorkNowOf_28 : decode cX2_atWorkNowOf 28 = .ok (.getfield 15, 3) := by decide +kernel
theorem dX2_atWorkNowOf_31 : decode cX2_atWorkNowOf 31 = .ok (.iload_n 2, 1) := by decide +kernel
theorem dX2_atWorkNowOf_32 : decode cX2_atWorkNowOf 32 = .ok (.iaload, 1) := by decide +kernel
theorem dX2_atWorkNowOf_33 : decode cX2_atWorkNowOf 33 = .ok (.imul, 1) := by decide +kernel
theorem dX2_atWorkNowOf_34 : decode cX2_atWorkNowOf 34 = .ok (.sipush 1000, 3) := by decide +kernel
theorem dX2_atWorkNowOf_37 : decode cX2_atWorkNowOf 37 = .ok (.idiv, 1) := by decide +kernel
theorem dX2_atWorkNowOf_38 : decode cX2_atWorkNowOf 38 = .ok (.goto 4, 3) := by decide +kernel
theorem dX2_atWorkNowOf_41 : decode cX2_atWorkNowOf 41 = .ok (.iconst 0, 1) := by decide +kernel
theorem dX2_atWorkNowOf_42 : decode cX2_atWorkNowOf 42 = .ok (.ireturn, 1) := by decide +kernel
set_option maxRecDepth 20000 in
theorem ggX2_wantedNow_X2_valueNow : GoodIn wsX2_wantedNow wsX2_valueNow := goodIn_r _ [18, 19, 13, 20, 21, 22, 23, 24, 25, 26, 27, 28, 29, 30, 31, 32, 33, 34, 35, 96, 97, 98, 99, 100, 101, 102, 103, 104, 105, 106, 107, 108, 109, 110, 111, 118, 119, 120, 121] rfl (by decide +kernel)
set_option maxRecDepth 20000 in
theorem gX2_wantedNow_X2_valueNow : GoodIn wsX2_wantedNow (wsV RX2 173 RX2 yX2_valueNow wsX2_valueNow) := goodIn_app (by first | exact goodIn_r _ [14, 15, 16, 17] rfl (by decide +kernel) | exact goodIn_of _ (by decide +kernel)) ggX2_wantedNow_X2_valueNow
set_option maxRecDepth 20000 in
theorem ggX2_wantedNow_X2_partsFor : GoodIn wsX2_wantedNow wsX2_partsFor := goodIn_r _ [38, 39, 40, 41, 42] rfl (by decide +kernel)
set_option maxRecDepth 20000 in
theorem gX2_wantedNow_X2_partsFor : GoodIn wsX2_wantedNow (va_wsS RX2 176 yX2_partsFor wsX2_partsFor) := goodIn_app (by first | exact goodIn_r _ [36, 37, 17] rfl (by decide +kernel) | exact goodIn_of _ (by decide +kernel)) ggX2_wantedNow_X2_partsFor
set_option maxRecDepth 20000 in
theorem ggX2_wantedNow_X2_atWorkNow : GoodIn wsX2_wantedNow wsX2_atWorkNow := goodIn_r _ [46, 47, 48, 49, 50, 17, 51, 13, 52, 53, 54, 55, 96, 97, 98, 99, 100, 101, 102, 103, 104, 105, 106, 107, 108, 109, 110, 111, 112, 113, 114, 115, 116, 117] rfl (by decide +kernel)
set_option maxRecDepth 20000 in
theorem gX2_wantedNow_X2_atWorkNow : GoodIn wsX2_wantedNow (wsV RX2 119 RX2 yX2_atWorkNow wsX2_atWorkNow) := goodIn_app (by first | exact goodIn_r _ [43, 44, 45, 17] rfl (by decide +kernel) | exact goodIn_of _ (by decide +kernel)) ggX2_wantedNow_X2_atWorkNow
set_option maxRecDepth 20000 in
theorem ggX2_wantedNow_X2_correctionNow : GoodIn wsX2_wantedNow wsX2_correctionNow := goodIn_r _ [59, 60, 1, 2, 3, 4, 61, 62, 63, 17, 64, 13, 65, 14, 15, 16, 18, 19, 20, 21, 22, 23, 24, 25, 26, 27, 28, 29, 30, 31, 32, 33, 34, 35, 36, 37, 38, 39, 40, 41, 42, 96, 97, 98, 99, 100, 101, 102, 103, 104, 105, 106, 107, 108, 109, 110, 111, 118, 119, 120, 121] rfl (by decide +kernel)
set_option maxRecDepth 20000 in
theorem gX2_wantedNow_X2_correctionNow : GoodIn wsX2_wantedNow (wsV RX2 179 RX2 yX2_correctionNow wsX2_correctionNow) := goodIn_app (by first | exact goodIn_r _ [56, 57, 58, 17] rfl (by decide +kernel) | exact goodIn_of _ (by decide +kernel)) ggX2_wantedNow_X2_correctionNow
set_option maxRecDepth 20000 in
theorem ggX2_wantedNow_X2_leftOfToday : GoodIn wsX2_wantedNow wsX2_leftOfToday := goodIn_r _ [69, 70, 13, 1, 2, 3, 4, 71, 72, 73, 17, 74, 75, 76, 96, 97, 98, 99, 100, 101, 102, 103, 104, 105, 106, 107, 108, 109, 110, 111] rfl (by decide +kernel)
set_option maxRecDepth 20000 in
theorem gX2_wantedNow_X2_leftOfToday : GoodIn wsX2_wantedNow (wsV RX2 182 RX2 yX2_leftOfToday wsX2_leftOfToday) := goodIn_app (by first | exact goodIn_r _ [66, 67, 68, 17] rfl (by decide +kernel) | exact goodIn_of _ (by decide +kernel)) ggX2_wantedNow_X2_leftOfToday
set_option maxRecDepth 20000 in
theorem ggX2_wantedNow_X2_whyLess : GoodIn wsX2_wantedNow wsX2_whyLess := goodIn_r _ [80, 9, 96, 97, 98, 99, 100, 101, 102, 103, 104, 105, 106, 107, 108, 109, 110, 111] rfl (by decide +kernel)
set_option maxRecDepth 20000 in
theorem gX2_wantedNow_X2_whyLess : GoodIn wsX2_wantedNow (wsV RX2 185 RX2 yX2_whyLess wsX2_whyLess) := goodIn_app (by first | exact goodIn_r _ [77, 78, 79, 17] rfl (by decide +kernel) | exact goodIn_of _ (by decide +kernel)) ggX2_wantedNow_X2_whyLess
set_option maxRecDepth 20000 in
theorem ggX2_wantedNow_X0_init : GoodIn wsX2_wantedNow wsX0_init := goodIn_r _ [82, 83, 84, 85, 86, 87, 88, 89, 90, 91, 92, 93, 94, 95, 112, 113, 114, 115, 116, 117] rfl (by decide +kernel)
set_option maxRecDepth 20000 in
theorem gX2_wantedNow_X0_init_n189 : GoodIn wsX2_wantedNow (wsX0_init) := ggX2_wantedNow_X0_init
theorem dX2_wantedNow_0 : decode cX2_wantedNow 0 = .ok (.iload_n 1, 1) := by decide +kernel
theorem dX2_wantedNow_1 : decode cX2_wantedNow 1 = .ok (.aload_n 0, 1) := by decide +kernel
theorem dX2_wantedNow_2 : decode cX2_wantedNow 2 = .ok (.iconst 0, 1) := by decide +kernel
theorem dX2_wantedNow_3 : decode cX2_wantedNow 3 = .ok (.invokevirtual 173, 3) := by decide +kernel
theorem dX2_wantedNow_6 : decode cX2_wantedNow 6 = .ok (.invokestatic 176, 3) := by decide +kernel
theorem dX2_wantedNow_9 : decode cX2_wantedNow 9 = .ok (.istore_n 2, 1) := by decide +kernel
theorem dX2_wantedNow_10 : decode cX2_wantedNow 10 = .ok (.aload_n 0, 1) := by decide +kernel
theorem dX2_wantedNow_11 : decode cX2_wantedNow 11 = .ok (.invokevirtual 119, 3) := by decide +kernel
theorem dX2_wantedNow_14 : decode cX2_wantedNow 14 = .ok (.istore_n 3, 1) := by decide +kernel
theorem dX2_wantedNow_15 : decode cX2_wantedNow 15 = .ok (.aload_n 0, 1) := by decide +kernel
theorem dX2_wantedNow_16 : decode cX2_wantedNow 16 = .ok (.iload_n 3, 1) := by decide +kernel
theorem dX2_wantedNow_17 : decode cX2_wantedNow 17 = .ok (.invokevirtual 179, 3) := by decide +kernel
theorem dX2_wantedNow_20 : decode cX2_wantedNow 20 = .ok (.istore 4, 2) := by decide +kernel
theorem dX2_wantedNow_22 : decode cX2_wantedNow 22 = .ok (.iconst 0, 1) := by decide +kernel
theorem dX2_wantedNow_23 : decode cX2_wantedNow 23 = .ok (.iload_n 2, 1) := by decide +kernel
theorem dX2_wantedNow_24 : decode cX2_wantedNow 24 = .ok (.iload 4, 2) := by decide +kernel
theorem dX2_wantedNow_26 : decode cX2_wantedNow 26 = .ok (.iadd, 1) := by decide +kernel
theorem dX2_wantedNow_27 : decode cX2_wantedNow 27 = .ok (.invokestatic 73, 3) := by decide +kernel
theorem dX2_wantedNow_30 : decode cX2_wantedNow 30 = .ok (.istore 5, 2) := by decide +kernel
theorem dX2_wantedNow_32 : decode cX2_wantedNow 32 = .ok (.iload 5, 2) := by decide +kernel
theorem dX2_wantedNow_34 : decode cX2_wantedNow 34 = .ok (.aload_n 0, 1) := by decide +kernel
theorem dX2_wantedNow_35 : decode cX2_wantedNow 35 = .ok (.getfield 41, 3) := by decide +kernel
theorem dX2_wantedNow_38 : decode cX2_wantedNow 38 = .ok (.invokestatic 144, 3) := by decide +kernel
theorem dX2_wantedNow_41 : decode cX2_wantedNow 41 = .ok (.istore 6, 2) := by decide +kernel
theorem dX2_wantedNow_43 : decode cX2_wantedNow 43 = .ok (.iload 6, 2) := by decide +kernel
theorem dX2_wantedNow_45 : decode cX2_wantedNow 45 = .ok (.aload_n 0, 1) := by decide +kernel
theorem dX2_wantedNow_46 : decode cX2_wantedNow 46 = .ok (.invokevirtual 182, 3) := by decide +kernel
theorem dX2_wantedNow_49 : decode cX2_wantedNow 49 = .ok (.invokestatic 144, 3) := by decide +kernel
theorem dX2_wantedNow_52 : decode cX2_wantedNow 52 = .ok (.istore 7, 2) := by decide +kernel
theorem dX2_wantedNow_54 : decode cX2_wantedNow 54 = .ok (.aload_n 0, 1) := by decide +kernel
theorem dX2_wantedNow_55 : decode cX2_wantedNow 55 = .ok (.getfield 54, 3) := by decide +kernel
theorem dX2_wantedNow_58 : decode cX2_wantedNow 58 = .ok (.ifCond .eq 7, 3) := by decide +kernel
theorem dX2_wantedNow_61 : decode cX2_wantedNow 61 = .ok (.iconst 0, 1) := by decide +kernel
theorem dX2_wantedNow_62 : decode cX2_wantedNow 62 = .ok (.goto 11, 3) := by decide +kernel
theorem dX2_wantedNow_65 : decode cX2_wantedNow 65 = .ok (.iload 7, 2) := by decide +kernel
theorem dX2_wantedNow_67 : decode cX2_wantedNow 67 = .ok (.iload 7, 2) := by decide +kernel
theorem dX2_wantedNow_69 : decode cX2_wantedNow 69 = .ok (.bipush 50, 2) := by decide +kernel
theorem dX2_wantedNow_71 : decode cX2_wantedNow 71 = .ok (.irem, 1) := by decide +kernel
theorem dX2_wantedNow_72 : decode cX2_wantedNow 72 = .ok (.isub, 1) := by decide +kernel
theorem dX2_wantedNow_73 : decode cX2_wantedNow 73 = .ok (.istore 8, 2) := by decide +kernel
theorem dX2_wantedNow_75 : decode cX2_wantedNow 75 = .ok (.aload_n 0, 1) := by decide +kernel
theorem dX2_wantedNow_76 : decode cX2_wantedNow 76 = .ok (.iload 5, 2) := by decide +kernel
theorem dX2_wantedNow_78 : decode cX2_wantedNow 78 = .ok (.iload 6, 2) := by decide +kernel
theorem dX2_wantedNow_80 : decode cX2_wantedNow 80 = .ok (.iload 7, 2) := by decide +kernel
theorem dX2_wantedNow_82 : decode cX2_wantedNow 82 = .ok (.invokevirtual 185, 3) := by decide +kernel
theorem dX2_wantedNow_85 : decode cX2_wantedNow 85 = .ok (.istore 9, 2) := by decide +kernel
theorem dX2_wantedNow_87 : decode cX2_wantedNow 87 = .ok (.new 19, 3) := by decide +kernel
theorem dX2_wantedNow_90 : decode cX2_wantedNow 90 = .ok (.dup, 1) := by decide +kernel
theorem dX2_wantedNow_91 : decode cX2_wantedNow 91 = .ok (.aload_n 0, 1) := by decide +kernel
theorem dX2_wantedNow_92 : decode cX2_wantedNow 92 = .ok (.getfield 35, 3) := by decide +kernel
theorem dX2_wantedNow_95 : decode cX2_wantedNow 95 = .ok (.iload 8, 2) := by decide +kernel
theorem dX2_wantedNow_97 : decode cX2_wantedNow 97 = .ok (.iload_n 2, 1) := by decide +kernel
theorem dX2_wantedNow_98 : decode cX2_wantedNow 98 = .ok (.iload 4, 2) := by decide +kernel
theorem dX2_wantedNow_100 : decode cX2_wantedNow 100 = .ok (.iload_n 3, 1) := by decide +kernel
theorem dX2_wantedNow_101 : decode cX2_wantedNow 101 = .ok (.iload 9, 2) := by decide +kernel
theorem dX2_wantedNow_103 : decode cX2_wantedNow 103 = .ok (.invokespecial 189, 3) := by decide +kernel
theorem dX2_wantedNow_106 : decode cX2_wantedNow 106 = .ok (.areturn, 1) := by decide +kernel
set_option maxRecDepth 20000 in
theorem ggX2_correctionNow_X2_hasFreshReading : GoodIn wsX2_correctionNow wsX2_hasFreshReading := goodIn_r _ [10, 1, 11, 12, 41, 42, 43, 44, 45, 46, 47, 48, 49, 50, 51, 52, 53, 54, 55, 56] rfl (by decide +kernel)
set_option maxRecDepth 20000 in
theorem gX2_correctionNow_X2_hasFreshReading : GoodIn wsX2_correctionNow (wsV RX2 192 RX2 yX2_hasFreshReading wsX2_hasFreshReading) := goodIn_app (by first | exact goodIn_r _ [6, 7, 8, 9] rfl (by decide +kernel) | exact goodIn_of _ (by decide +kernel)) ggX2_correctionNow_X2_hasFreshReading
set_option maxRecDepth 20000 in
theorem ggX2_correctionNow_X2_valueNow : GoodIn wsX2_correctionNow wsX2_valueNow := goodIn_r _ [16, 17, 11, 18, 19, 20, 21, 22, 23, 24, 25, 26, 27, 28, 29, 30, 31, 32, 33, 41, 42, 43, 44, 45, 46, 47, 48, 49, 50, 51, 52, 53, 54, 55, 56, 57, 58, 59, 60] rfl (by decide +kernel)
set_option maxRecDepth 20000 in
theorem gX2_correctionNow_X2_valueNow : GoodIn wsX2_correctionNow (wsV RX2 173 RX2 yX2_valueNow wsX2_valueNow) := goodIn_app (by first | exact goodIn_r _ [13, 14, 15, 9] rfl (by decide +kernel) | exact goodIn_of _ (by decide +kernel)) ggX2_correctionNow_X2_valueNow
set_option maxRecDepth 20000 in
theorem ggX2_correctionNow_X2_partsFor : GoodIn wsX2_correctionNow wsX2_partsFor := goodIn_r _ [36, 37, 38, 39, 40] rfl (by decide +kernel)
set_option maxRecDepth 20000 in
theorem gX2_correctionNow_X2_partsFor : GoodIn wsX2_correctionNow (va_wsS RX2 176 yX2_partsFor wsX2_partsFor) := goodIn_app (by first | exact goodIn_r _ [34, 35, 9] rfl (by decide +kernel) | exact goodIn_of _ (by decide +kernel)) ggX2_correctionNow_X2_partsFor
theorem dX2_correctionNow_0 : decode cX2_correctionNow 0 = .ok (.aload_n 0, 1) := by decide +kernel
theorem dX2_correctionNow_1 : decode cX2_correctionNow 1 = .ok (.invokevirtual 192, 3) := by decide +kernel
theorem dX2_correctionNow_4 : decode cX2_correctionNow 4 = .ok (.ifCond .ne 5, 3) := by decide +kernel
theorem dX2_correctionNow_7 : decode cX2_correctionNow 7 = .ok (.iconst 0, 1) := by decide +kernel
theorem dX2_correctionNow_8 : decode cX2_correctionNow 8 = .ok (.ireturn, 1) := by decide +kernel
theorem dX2_correctionNow_9 : decode cX2_correctionNow 9 = .ok (.aload_n 0, 1) := by decide +kernel
theorem dX2_correctionNow_10 : decode cX2_correctionNow 10 = .ok (.getfield 61, 3) := by decide +kernel
theorem dX2_correctionNow_13 : decode cX2_correctionNow 13 = .ok (.aload_n 0, 1) := by decide +kernel
theorem dX2_correctionNow_14 : decode cX2_correctionNow 14 = .ok (.iconst 3, 1) := by decide +kernel
theorem dX2_correctionNow_15 : decode cX2_correctionNow 15 = .ok (.invokevirtual 173, 3) := by decide +kernel
theorem dX2_correctionNow_18 : decode cX2_correctionNow 18 = .ok (.isub, 1) := by decide +kernel
theorem dX2_correctionNow_19 : decode cX2_correctionNow 19 = .ok (.istore_n 2, 1) := by decide +kernel
theorem dX2_correctionNow_20 : decode cX2_correctionNow 20 = .ok (.aload_n 0, 1) := by decide +kernel
theorem dX2_correctionNow_21 : decode cX2_correctionNow 21 = .ok (.iconst 2, 1) := by decide +kernel
theorem dX2_correctionNow_22 : decode cX2_correctionNow 22 = .ok (.invokevirtual 173, 3) := by decide +kernel
theorem dX2_correctionNow_25 : decode cX2_correctionNow 25 = .ok (.aload_n 0, 1) := by decide +kernel
theorem dX2_correctionNow_26 : decode cX2_correctionNow 26 = .ok (.getfield 61, 3) := by decide +kernel
theorem dX2_correctionNow_29 : decode cX2_correctionNow 29 = .ok (.isub, 1) := by decide +kernel
theorem dX2_correctionNow_30 : decode cX2_correctionNow 30 = .ok (.istore_n 3, 1) := by decide +kernel
theorem dX2_correctionNow_31 : decode cX2_correctionNow 31 = .ok (.aload_n 0, 1) := by decide +kernel
theorem dX2_correctionNow_32 : decode cX2_correctionNow 32 = .ok (.iconst 1, 1) := by decide +kernel
theorem dX2_correctionNow_33 : decode cX2_correctionNow 33 = .ok (.invokevirtual 173, 3) := by decide +kernel
theorem dX2_correctionNow_36 : decode cX2_correctionNow 36 = .ok (.istore 4, 2) := by decide +kernel
theorem dX2_correctionNow_38 : decode cX2_correctionNow 38 = .ok (.iload_n 2, 1) := by decide +kernel
theorem dX2_correctionNow_39 : decode cX2_correctionNow 39 = .ok (.ifCond .le 16, 3) := by decide +kernel
theorem dX2_correctionNow_42 : decode cX2_correctionNow 42 = .ok (.iconst 0, 1) := by decide +kernel
theorem dX2_correctionNow_43 : decode cX2_correctionNow 43 = .ok (.iload_n 2, 1) := by decide +kernel
theorem dX2_correctionNow_44 : decode cX2_correctionNow 44 = .ok (.iload 4, 2) := by decide +kernel
theorem dX2_correctionNow_46 : decode cX2_correctionNow 46 = .ok (.invokestatic 176, 3) := by decide +kernel
theorem dX2_correctionNow_49 : decode cX2_correctionNow 49 = .ok (.iload_n 1, 1) := by decide +kernel
theorem dX2_correctionNow_50 : decode cX2_correctionNow 50 = .ok (.isub, 1) := by decide +kernel
theorem dX2_correctionNow_51 : decode cX2_correctionNow 51 = .ok (.invokestatic 73, 3) := by decide +kernel
theorem dX2_correctionNow_54 : decode cX2_correctionNow 54 = .ok (.ireturn, 1) := by decide +kernel
theorem dX2_correctionNow_55 : decode cX2_correctionNow 55 = .ok (.iload_n 3, 1) := by decide +kernel
theorem dX2_correctionNow_56 : decode cX2_correctionNow 56 = .ok (.ifCond .le 13, 3) := by decide +kernel
theorem dX2_correctionNow_59 : decode cX2_correctionNow 59 = .ok (.iload_n 3, 1) := by decide +kernel
theorem dX2_correctionNow_60 : decode cX2_correctionNow 60 = .ok (.ineg, 1) := by decide +kernel
theorem dX2_correctionNow_61 : decode cX2_correctionNow 61 = .ok (.iload 4, 2) := by decide +kernel
theorem dX2_correctionNow_63 : decode cX2_correctionNow 63 = .ok (.invokestatic 176, 3) := by decide +kernel
theorem dX2_correctionNow_66 : decode cX2_correctionNow 66 = .ok (.goto 4, 3) := by decide +kernel
theorem dX2_correctionNow_69 : decode cX2_correctionNow 69 = .ok (.iconst 0, 1) := by decide +kernel
theorem dX2_correctionNow_70 : decode cX2_correctionNow 70 = .ok (.ireturn, 1) := by decide +kernel
theorem dX2_hasFreshReading_0 : decode cX2_hasFreshReading 0 = .ok (.aload_n 0, 1) := by decide +kernel
theorem dX2_hasFreshReading_1 : decode cX2_hasFreshReading 1 = .ok (.getfield 61, 3) := by decide +kernel
theorem dX2_hasFreshReading_4 : decode cX2_hasFreshReading 4 = .ok (.iconst (-1), 1) := by decide +kernel
theorem dX2_hasFreshReading_5 : decode cX2_hasFreshReading 5 = .ok (.if_icmp .eq 21, 3) := by decide +kernel
theorem dX2_hasFreshReading_8 : decode cX2_hasFreshReading 8 = .ok (.aload_n 0, 1) := by decide +kernel
theorem dX2_hasFreshReading_9 : decode cX2_hasFreshReading 9 = .ok (.getfield 35, 3) := by decide +kernel
theorem dX2_hasFreshReading_12 : decode cX2_hasFreshReading 12 = .ok (.aload_n 0, 1) := by decide +kernel
theorem dX2_hasFreshReading_13 : decode cX2_hasFreshReading 13 = .ok (.getfield 64, 3) := by decide +kernel
theorem dX2_hasFreshReading_16 : decode cX2_hasFreshReading 16 = .ok (.isub, 1) := by decide +kernel
theorem dX2_hasFreshReading_17 : decode cX2_hasFreshReading 17 = .ok (.bipush 15, 2) := by decide +kernel
theorem dX2_hasFreshReading_19 : decode cX2_hasFreshReading 19 = .ok (.if_icmp .gt 7, 3) := by decide +kernel
theorem dX2_hasFreshReading_22 : decode cX2_hasFreshReading 22 = .ok (.iconst 1, 1) := by decide +kernel
theorem dX2_hasFreshReading_23 : decode cX2_hasFreshReading 23 = .ok (.goto 4, 3) := by decide +kernel
theorem dX2_hasFreshReading_26 : decode cX2_hasFreshReading 26 = .ok (.iconst 0, 1) := by decide +kernel
theorem dX2_hasFreshReading_27 : decode cX2_hasFreshReading 27 = .ok (.ireturn, 1) := by decide +kernel
set_option maxRecDepth 20000 in
theorem ggX2_leftOfToday_X2_bothOfDay : GoodIn wsX2_leftOfToday wsX2_bothOfDay := goodIn_r _ [11, 12, 13, 14, 15, 16, 17, 18, 19, 20, 21, 22, 23, 24, 25, 26, 27, 28, 29] rfl (by decide +kernel)
set_option maxRecDepth 20000 in
theorem gX2_leftOfToday_X2_bothOfDay : GoodIn wsX2_leftOfToday (wsV RX2 123 RX2 yX2_bothOfDay wsX2_bothOfDay) := goodIn_app (by first | exact goodIn_r _ [7, 8, 9, 10] rfl (by decide +kernel) | exact goodIn_of _ (by decide +kernel)) ggX2_leftOfToday_X2_bothOfDay
theorem dX2_leftOfToday_0 : decode cX2_leftOfToday 0 = .ok (.iconst 0, 1) := by decide +kernel
theorem dX2_leftOfToday_1 : decode cX2_leftOfToday 1 = .ok (.aload_n 0, 1) := by decide +kernel
theorem dX2_leftOfToday_2 : decode cX2_leftOfToday 2 = .ok (.getfield 45, 3) := by decide +kernel
theorem dX2_leftOfToday_5 : decode cX2_leftOfToday 5 = .ok (.aload_n 0, 1) := by decide +kernel
theorem dX2_leftOfToday_6 : decode cX2_leftOfToday 6 = .ok (.aload_n 0, 1) := by decide +kernel
theorem dX2_leftOfToday_7 : decode cX2_leftOfToday 7 = .ok (.getfield 35, 3) := by decide +kernel
theorem dX2_leftOfToday_10 : decode cX2_leftOfToday 10 = .ok (.sipush 1440, 3) := by decide +kernel
theorem dX2_leftOfToday_13 : decode cX2_leftOfToday 13 = .ok (.idiv, 1) := by decide +kernel
theorem dX2_leftOfToday_14 : decode cX2_leftOfToday 14 = .ok (.invokevirtual 123, 3) := by decide +kernel
theorem dX2_leftOfToday_17 : decode cX2_leftOfToday 17 = .ok (.isub, 1) := by decide +kernel
theorem dX2_leftOfToday_18 : decode cX2_leftOfToday 18 = .ok (.invokestatic 73, 3) := by decide +kernel
theorem dX2_leftOfToday_21 : decode cX2_leftOfToday 21 = .ok (.ireturn, 1) := by decide +kernel
theorem dX2_whyLess_0 : decode cX2_whyLess 0 = .ok (.aload_n 0, 1) := by decide +kernel
theorem dX2_whyLess_1 : decode cX2_whyLess 1 = .ok (.getfield 54, 3) := by decide +kernel
theorem dX2_whyLess_4 : decode cX2_whyLess 4 = .ok (.ifCond .eq 9, 3) := by decide +kernel
theorem dX2_whyLess_7 : decode cX2_whyLess 7 = .ok (.iload_n 1, 1) := by decide +kernel
theorem dX2_whyLess_8 : decode cX2_whyLess 8 = .ok (.ifCond .le 5, 3) := by decide +kernel
theorem dX2_whyLess_11 : decode cX2_whyLess 11 = .ok (.iconst 3, 1) := by decide +kernel
theorem dX2_whyLess_12 : decode cX2_whyLess 12 = .ok (.ireturn, 1) := by decide +kernel
theorem dX2_whyLess_13 : decode cX2_whyLess 13 = .ok (.iload_n 3, 1) := by decide +kernel
theorem dX2_whyLess_14 : decode cX2_whyLess 14 = .ok (.iload_n 2, 1) := by decide +kernel
theorem dX2_whyLess_15 : decode cX2_whyLess 15 = .ok (.if_icmp .ge 5, 3) := by decide +kernel
theorem dX2_whyLess_18 : decode cX2_whyLess 18 = .ok (.iconst 2, 1) := by decide +kernel
theorem dX2_whyLess_19 : decode cX2_whyLess 19 = .ok (.ireturn, 1) := by decide +kernel
theorem dX2_whyLess_20 : decode cX2_whyLess 20 = .ok (.iload_n 2, 1) := by decide +kernel
theorem dX2_whyLess_21 : decode cX2_whyLess 21 = .ok (.iload_n 1, 1) := by decide +kernel
theorem dX2_whyLess_22 : decode cX2_whyLess 22 = .ok (.if_icmp .ge 7, 3) := by decide +kernel
theorem dX2_whyLess_25 : decode cX2_whyLess 25 = .ok (.iconst 1, 1) := by decide +kernel
theorem dX2_whyLess_26 : decode cX2_whyLess 26 = .ok (.goto 4, 3) := by decide +kernel
theorem dX2_whyLess_29 : decode cX2_whyLess 29 = .ok (.iconst 0, 1) := by decide +kernel
theorem dX2_whyLess_30 : decode cX2_whyLess 30 = .ok (.ireturn, 1) := by decide +kernel
set_option maxRecDepth 20000 in
theorem ggX3_value_X3_first : GoodIn wsX3_value wsX3_first := goodIn_r _ [7] rfl (by decide +kernel)
set_option maxRecDepth 20000 in
theorem gX3_value_X3_first : GoodIn wsX3_value (va_wsS RX3 60 yX3_first wsX3_first) := goodIn_app (by first | exact goodIn_r _ [4, 5, 6] rfl (by decide +kernel) | exact goodIn_of _ (by decide +kernel)) ggX3_value_X3_first
set_option maxRecDepth 20000 in
theorem ggX3_goOn_X3_value : GoodIn wsX3_goOn wsX3_value := goodIn_r _ [9, 10, 11, 12, 13, 14, 8, 15, 16, 17, 18, 19, 20, 21, 22, 23, 24, 25, 26, 27, 28, 29, 30, 31, 32, 33, 34, 35, 36, 37, 38, 39, 40, 41, 42] rfl (by decide +kernel)
set_option maxRecDepth 20000 in
theorem gX3_goOn_X3_value : GoodIn wsX3_goOn (wsV RX3 76 RX3 yX3_value wsX3_value) := goodIn_app (by first | exact goodIn_r _ [5, 6, 7, 8] rfl (by decide +kernel) | exact goodIn_of _ (by decide +kernel)) ggX3_goOn_X3_value
set_option maxRecDepth 20000 in
theorem ggX3_reading_X3_isMinute : GoodIn wsX3_reading wsX3_isMinute := goodIn_r _ [12, 13, 14, 31, 32, 33, 34, 35, 36, 37, 38, 39, 40, 41, 42, 43, 44, 45, 46, 47, 48, 49, 50, 51, 52, 53, 54, 55, 56, 57] rfl (by decide +kernel)
set_option maxRecDepth 20000 in
theorem gX3_reading_X3_isMinute : GoodIn wsX3_reading (wsV RX3 85 RX3 yX3_isMinute wsX3_isMinute) := goodIn_app (by first | exact goodIn_r _ [8, 9, 10, 11] rfl (by decide +kernel) | exact goodIn_of _ (by decide +kernel)) ggX3_reading_X3_isMinute
set_option maxRecDepth 20000 in
theorem ggX3_reading_X3_goOn : GoodIn wsX3_reading wsX3_goOn := goodIn_r _ [18, 13, 5, 19, 20, 21, 22, 23, 11, 24, 25, 26, 27, 28, 29, 30, 31, 32, 33, 34, 35, 36, 37, 38, 39, 40, 41, 42, 43, 44, 45, 46, 47, 48, 49, 50, 51, 52, 53, 54, 55, 56, 57] rfl (by decide +kernel)
set_option maxRecDepth 20000 in
theorem gX3_reading_X3_goOn : GoodIn wsX3_reading (wsV RX3 89 RX3 yX3_goOn wsX3_goOn) := goodIn_app (by first | exact goodIn_r _ [15, 16, 17, 11] rfl (by decide +kernel) | exact goodIn_of _ (by decide +kernel)) ggX3_reading_X3_goOn
set_option maxRecDepth 20000 in
theorem ggX3_wanted_X3_value : GoodIn wsX3_wanted wsX3_value := goodIn_r _ [15, 16, 17, 18, 19, 20, 14, 21, 37, 38, 39, 40, 41, 42, 43, 44, 45, 46, 47, 48, 49, 50, 51, 52, 53, 54, 55, 56, 57, 58, 59, 60, 61, 62, 63] rfl (by decide +kernel)
set_option maxRecDepth 20000 in
theorem gX3_wanted_X3_value : GoodIn wsX3_wanted (wsV RX3 76 RX3 yX3_value wsX3_value) := goodIn_app (by first | exact goodIn_r _ [11, 12, 13, 14] rfl (by decide +kernel) | exact goodIn_of _ (by decide +kernel)) ggX3_wanted_X3_value
set_option maxRecDepth 20000 in
theorem ggX3_wanted_X3_work : GoodIn wsX3_wanted wsX3_work := goodIn_r _ [25, 26, 1, 27, 28, 29, 30, 37, 38, 39, 40, 41, 42, 43, 44, 45, 46, 47, 48, 49, 50, 51, 52, 53, 54, 55, 56, 57, 58, 59, 60, 61, 62, 63] rfl (by decide +kernel)
set_option maxRecDepth 20000 in
theorem gX3_wanted_X3_work : GoodIn wsX3_wanted (wsV RX3 114 RX3 yX3_work wsX3_work) := goodIn_app (by first | exact goodIn_r _ [22, 23, 24, 14] rfl (by decide +kernel) | exact goodIn_of _ (by decide +kernel)) ggX3_wanted_X3_work
set_option maxRecDepth 20000 in
theorem ggX3_wanted_X3_spent : GoodIn wsX3_wanted wsX3_spent := goodIn_r _ [34, 35, 36, 37, 38, 39, 40, 41, 42, 43, 44, 45, 46, 47, 48, 49, 50, 51, 52, 53, 54, 55, 56, 57, 58, 59, 60, 61, 62, 63] rfl (by decide +kernel)
set_option maxRecDepth 20000 in
theorem gX3_wanted_X3_spent : GoodIn wsX3_wanted (wsV RX3 118 RX3 yX3_spent wsX3_spent) := goodIn_app (by first | exact goodIn_r _ [31, 32, 33, 14] rfl (by decide +kernel) | exact goodIn_of _ (by decide +kernel)) ggX3_wanted_X3_spent
set_option maxRecDepth 20000 in
theorem ggX3_ask_X3_isMinute : GoodIn wsX3_ask wsX3_isMinute := goodIn_r _ [5, 6, 7, 51, 52, 53, 54, 55, 56, 57, 58, 59, 60, 61, 62, 63, 64, 65, 66, 67, 68, 69, 70, 71, 72, 73, 74, 75, 76, 77] rfl (by decide +kernel)
set_option maxRecDepth 20000 in
theorem gX3_ask_X3_isMinute : GoodIn wsX3_ask (wsV RX3 85 RX3 yX3_isMinute wsX3_isMinute) := goodIn_app (by first | exact goodIn_r _ [1, 2, 3, 4] rfl (by decide +kernel) | exact goodIn_of _ (by decide +kernel)) ggX3_ask_X3_isMinute
set_option maxRecDepth 20000 in
theorem ggX3_ask_X3_goOn : GoodIn wsX3_ask wsX3_goOn := goodIn_r _ [11, 6, 12, 13, 14, 15, 16, 17, 4, 18, 19, 20, 21, 22, 23, 24, 51, 52, 53, 54, 55, 56, 57, 58, 59, 60, 61, 62, 63, 64, 65, 66, 67, 68, 69, 70, 71, 72, 73, 74, 75, 76, 77] rfl (by decide +kernel)
set_option maxRecDepth 20000 in
theorem gX3_ask_X3_goOn : GoodIn wsX3_ask (wsV RX3 89 RX3 yX3_goOn wsX3_goOn) := goodIn_app (by first | exact goodIn_r _ [8, 9, 10, 4] rfl (by decide +kernel) | exact goodIn_of _ (by decide +kernel)) ggX3_ask_X3_goOn
set_option maxRecDepth 20000 in
theorem ggX3_ask_X3_wanted : GoodIn wsX3_ask wsX3_wanted := goodIn_r _ [28, 6, 29, 30, 31, 32, 33, 34, 35, 36, 12, 15, 16, 17, 4, 18, 19, 20, 21, 22, 23, 24, 37, 38, 39, 40, 41, 42, 43, 44, 45, 46, 47, 48, 49, 14, 50, 51, 52, 53, 54, 55, 56, 57, 58, 59, 60, 61, 62, 63, 64, 65, 66, 67, 68, 69, 70, 71, 72, 73, 74, 75, 76, 77] rfl (by decide +kernel)
set_option maxRecDepth 20000 in
theorem gX3_ask_X3_wanted : GoodIn wsX3_ask (wsV RX3 121 RX3 yX3_wanted wsX3_wanted) := goodIn_app (by first | exact goodIn_r _ [25, 26, 27, 4] rfl (by decide +kernel) | exact goodIn_of _ (by decide +kernel)) ggX3_ask_X3_wanted
set_option maxRecDepth 20000 in
theorem ggX3_give_X3_isMinute : GoodIn wsX3_give wsX3_isMinute := goodIn_r _ [17, 3, 18, 55, 56, 57, 58, 59, 60, 61, 62, 63, 64, 65, 66, 67, 68, 69, 70, 71, 72, 73, 74, 75, 76, 77, 78, 79, 80, 81] rfl (by decide +kernel)
set_option maxRecDepth 20000 in
theorem gX3_give_X3_isMinute : GoodIn wsX3_give (wsV RX3 85 RX3 yX3_isMinute wsX3_isMinute) := goodIn_app (by first | exact goodIn_r _ [13, 14, 15, 16] rfl (by decide +kernel) | exact goodIn_of _ (by decide +kernel)) ggX3_give_X3_isMinute
set_option maxRecDepth 20000 in
theorem ggX3_give_X3_goOn : GoodIn wsX3_give wsX3_goOn := goodIn_r _ [22, 3, 23, 24, 25, 26, 27, 28, 16, 29, 30, 31, 32, 33, 34, 35, 55, 56, 57, 58, 59, 60, 61, 62, 63, 64, 65, 66, 67, 68, 69, 70, 71, 72, 73, 74, 75, 76, 77, 78, 79, 80, 81] rfl (by decide +kernel)
set_option maxRecDepth 20000 in
theorem gX3_give_X3_goOn : GoodIn wsX3_give (wsV RX3 89 RX3 yX3_goOn wsX3_goOn) := goodIn_app (by first | exact goodIn_r _ [19, 20, 21, 16] rfl (by decide +kernel) | exact goodIn_of _ (by decide +kernel)) ggX3_give_X3_goOn
set_option maxRecDepth 20000 in
theorem ggX3_give_X3_wanted : GoodIn wsX3_give wsX3_wanted := goodIn_r _ [39, 3, 6, 8, 11, 40, 41, 42, 43, 44, 23, 26, 27, 28, 16, 29, 30, 31, 32, 33, 34, 35, 45, 46, 47, 48, 1, 2, 4, 49, 50, 51, 52, 53, 54, 25, 12, 55, 56, 57, 58, 59, 60, 61, 62, 63, 64, 65, 66, 67, 68, 69, 70, 71, 72, 73, 74, 75, 76, 77, 78, 79, 80, 81] rfl (by decide +kernel)
set_option maxRecDepth 20000 in
theorem gX3_give_X3_wanted : GoodIn wsX3_give (wsV RX3 121 RX3 yX3_wanted wsX3_wanted) := goodIn_app (by first | exact goodIn_r _ [36, 37, 38, 16] rfl (by decide +kernel) | exact goodIn_of _ (by decide +kernel)) ggX3_give_X3_wanted
set_option maxRecDepth 20000 in
theorem ggX3_give_X3_work : GoodIn wsX3_give wsX3_work := goodIn_r _ [48, 1, 3, 2, 4, 49, 50, 55, 56, 57, 58, 59, 60, 61, 62, 63, 64, 65, 66, 67, 68, 69, 70, 71, 72, 73, 74, 75, 76, 77, 78, 79, 80, 81] rfl (by decide +kernel)
set_option maxRecDepth 20000 in
theorem gX3_give_X3_work : GoodIn wsX3_give (wsV RX3 114 RX3 yX3_work wsX3_work) := goodIn_app (by first | exact goodIn_r _ [45, 46, 47, 16] rfl (by decide +kernel) | exact goodIn_of _ (by decide +kernel)) ggX3_give_X3_work
theorem dJ9_floorDiv_7cf53_0 : decode cJ9_floorDiv_7cf53 0 = .ok (.iload_n 0, 1) := by decide +kernel
theorem dJ9_floorDiv_7cf53_1 : decode cJ9_floorDiv_7cf53 1 = .ok (.iload_n 1, 1) := by decide +kernel
theorem dJ9_floorDiv_7cf53_2 : decode cJ9_floorDiv_7cf53 2 = .ok (.idiv, 1) := by decide +kernel
theorem dJ9_floorDiv_7cf53_3 : decode cJ9_floorDiv_7cf53 3 = .ok (.istore_n 2, 1) := by decide +kernel
theorem dJ9_floorDiv_7cf53_4 : decode cJ9_floorDiv_7cf53 4 = .ok (.iload_n 0, 1) := by decide +kernel
theorem dJ9_floorDiv_7cf53_5 : decode cJ9_floorDiv_7cf53 5 = .ok (.iload_n 1, 1) := by decide +kernel
theorem dJ9_floorDiv_7cf53_6 : decode cJ9_floorDiv_7cf53 6 = .ok (.ixor, 1) := by decide +kernel
theorem dJ9_floorDiv_7cf53_7 : decode cJ9_floorDiv_7cf53 7 = .ok (.ifCond .ge 14, 3) := by decide +kernel
theorem dJ9_floorDiv_7cf53_10 : decode cJ9_floorDiv_7cf53 10 = .ok (.iload_n 2, 1) := by decide +kernel
theorem dJ9_floorDiv_7cf53_11 : decode cJ9_floorDiv_7cf53 11 = .ok (.iload_n 1, 1) := by decide +kernel
theorem dJ9_floorDiv_7cf53_12 : decode cJ9_floorDiv_7cf53 12 = .ok (.imul, 1) := by decide +kernel
theorem dJ9_floorDiv_7cf53_13 : decode cJ9_floorDiv_7cf53 13 = .ok (.iload_n 0, 1) := by decide +kernel
theorem dJ9_floorDiv_7cf53_14 : decode cJ9_floorDiv_7cf53 14 = .ok (.if_icmp .eq 7, 3) := by decide +kernel
theorem dJ9_floorDiv_7cf53_17 : decode cJ9_floorDiv_7cf53 17 = .ok (.iload_n 2, 1) := by decide +kernel
theorem dJ9_floorDiv_7cf53_18 : decode cJ9_floorDiv_7cf53 18 = .ok (.iconst 1, 1) := by decide +kernel
theorem dJ9_floorDiv_7cf53_19 : decode cJ9_floorDiv_7cf53 19 = .ok (.isub, 1) := by decide +kernel
theorem dJ9_floorDiv_7cf53_20 : decode cJ9_floorDiv_7cf53 20 = .ok (.ireturn, 1) := by decide +kernel
theorem dJ9_floorDiv_7cf53_21 : decode cJ9_floorDiv_7cf53 21 = .ok (.iload_n 2, 1) := by decide +kernel
theorem dJ9_floorDiv_7cf53_22 : decode cJ9_floorDiv_7cf53 22 = .ok (.ireturn, 1) := by decide +kernel
theorem dJ9_max_7cf53_0 : decode cJ9_max_7cf53 0 = .ok (.iload_n 0, 1) := by decide +kernel
theorem dJ9_max_7cf53_1 : decode cJ9_max_7cf53 1 = .ok (.iload_n 1, 1) := by decide +kernel
theorem dJ9_max_7cf53_2 : decode cJ9_max_7cf53 2 = .ok (.if_icmp .lt 7, 3) := by decide +kernel
theorem dJ9_max_7cf53_5 : decode cJ9_max_7cf53 5 = .ok (.iload_n 0, 1) := by decide +kernel
theorem dJ9_max_7cf53_6 : decode cJ9_max_7cf53 6 = .ok (.goto 4, 3) := by decide +kernel
theorem dJ9_max_7cf53_9 : decode cJ9_max_7cf53 9 = .ok (.iload_n 1, 1) := by decide +kernel
theorem dJ9_max_7cf53_10 : decode cJ9_max_7cf53 10 = .ok (.ireturn, 1) := by decide +kernel
theorem dJ9_min_7cf53_0 : decode cJ9_min_7cf53 0 = .ok (.iload_n 0, 1) := by decide +kernel
theorem dJ9_min_7cf53_1 : decode cJ9_min_7cf53 1 = .ok (.iload_n 1, 1) := by decide +kernel
theorem dJ9_min_7cf53_2 : decode cJ9_min_7cf53 2 = .ok (.if_icmp .gt 7, 3) := by decide +kernel
theorem dJ9_min_7cf53_5 : decode cJ9_min_7cf53 5 = .ok (.iload_n 0, 1) := by decide +kernel
theorem dJ9_min_7cf53_6 : decode cJ9_min_7cf53 6 = .ok (.goto 4, 3) := by decide +kernel
theorem dJ9_min_7cf53_9 : decode cJ9_min_7cf53 9 = .ok (.iload_n 1, 1) := by decide +kernel
theorem dJ9_min_7cf53_10 : decode cJ9_min_7cf53 10 = .ok (.ireturn, 1) := by decide +kernel
theorem dJxe7f93_init_da8c8_0 : decode cJxe7f93_init_da8c8 0 = .ok (.aload_n 0, 1) := by decide +kernel
theorem dJxe7f93_init_da8c8_1 : decode cJxe7f93_init_da8c8 1 = .ok (.invokespecial 1, 3) := by decide +kernel
theorem dJxe7f93_init_da8c8_4 : decode cJxe7f93_init_da8c8 4 = .ok (.return_, 1) := by decide +kernel
set_option maxRecDepth 20000 in
theorem ggL_law_X2_init : GoodIn wsL_law wsX2_init := goodIn_r _ [8, 9, 10, 11, 12, 13, 14, 15, 16, 17, 18, 19, 20, 21, 22, 23, 24, 25, 26, 27, 28, 29, 30, 31, 32, 33, 34, 35, 36, 37, 38, 39, 40, 41, 42, 43, 44, 45, 339, 340, 341, 342, 343, 344, 345, 346, 347, 348, 349, 350, 351, 352, 353, 354, 382, 383, 384, 385] rfl (by decide +kernel)
set_option maxRecDepth 20000 in
theorem gL_law_X2_init : GoodIn wsL_law (wsX2_init) := ggL_law_X2_init
set_option maxRecDepth 20000 in
theorem ggL_law_X3_init : GoodIn wsL_law wsX3_init := goodIn_r _ [48, 49, 10, 11, 14, 50, 51, 52, 53, 54, 55, 56, 57, 58, 59, 60, 61, 62, 63, 64, 65, 66, 355, 356, 357, 358, 359, 360, 361, 362, 363, 364, 365, 366, 367, 368, 369, 370, 371, 372, 373, 374, 375, 376, 377, 378, 379, 380, 381] rfl (by decide +kernel)
set_option maxRecDepth 20000 in
theorem gL_law_X3_init : GoodIn wsL_law (wsX3_init) := ggL_law_X3_init
set_option maxRecDepth 20000 in
theorem ggL_law_X2_slot : GoodIn wsL_law wsX2_slot := goodIn_r _ [70, 13, 71, 72, 2, 73, 74, 75, 76, 77, 78, 79, 80, 33, 81, 82, 42, 43, 44, 83, 84, 85, 86, 339, 340, 341, 342, 343, 344, 345, 346, 347, 348, 349, 350, 351, 352, 353, 354, 382, 383, 384, 385] rfl (by decide +kernel)
set_option maxRecDepth 20000 in
theorem gL_law_X2_slot : GoodIn wsL_law (wsV RL 13 RX2 yX2_slot wsX2_slot) := goodIn_app (by first | exact goodIn_r _ [67, 68, 69, 2] rfl (by decide +kernel) | exact goodIn_of _ (by decide +kernel)) ggL_law_X2_slot
set_option maxRecDepth 20000 in
theorem ggL_law_X3_slot : GoodIn wsL_law wsX3_slot := goodIn_r _ [90, 50, 51, 52, 355, 356, 357, 358, 359, 360, 361, 362, 363, 364, 365, 366, 367, 368, 369, 370, 371, 372, 373, 374, 375, 376, 377, 378, 379, 380, 381] rfl (by decide +kernel)
set_option maxRecDepth 20000 in
theorem gL_law_X3_slot : GoodIn wsL_law (wsV RL 17 RX3 yX3_slot wsX3_slot) := goodIn_app (by first | exact goodIn_r _ [87, 88, 89, 5] rfl (by decide +kernel) | exact goodIn_of _ (by decide +kernel)) ggL_law_X3_slot
set_option maxRecDepth 20000 in
theorem ggL_law_X2_value : GoodIn wsL_law wsX2_value := goodIn_r _ [94, 13, 71, 72, 2, 73, 74, 75, 76, 77, 78, 79, 95, 33, 96, 97, 83, 84, 85, 86, 44, 42, 98, 99, 100, 101, 45, 43, 339, 340, 341, 342, 343, 344, 345, 346, 347, 348, 349, 350, 351, 352, 353, 354, 382, 383, 384, 385] rfl (by decide +kernel)
set_option maxRecDepth 20000 in
theorem gL_law_X2_value : GoodIn wsL_law (wsV RL 18 RX2 yX2_value wsX2_value) := goodIn_app (by first | exact goodIn_r _ [91, 92, 93, 2] rfl (by decide +kernel) | exact goodIn_of _ (by decide +kernel)) ggL_law_X2_value
set_option maxRecDepth 20000 in
theorem ggL_law_X3_value : GoodIn wsL_law wsX3_value := goodIn_r _ [105, 50, 51, 52, 106, 107, 5, 108, 355, 356, 357, 358, 359, 360, 361, 362, 363, 364, 365, 366, 367, 368, 369, 370, 371, 372, 373, 374, 375, 376, 377, 378, 379, 380, 381] rfl (by decide +kernel)
set_option maxRecDepth 20000 in
theorem gL_law_X3_value : GoodIn wsL_law (wsV RL 22 RX3 yX3_value wsX3_value) := goodIn_app (by first | exact goodIn_r _ [102, 103, 104, 5] rfl (by decide +kernel) | exact goodIn_of _ (by decide +kernel)) ggL_law_X3_value
set_option maxRecDepth 20000 in
theorem ggL_law_X2_decay : GoodIn wsL_law wsX2_decay := goodIn_r _ [112, 15, 74, 75, 2, 76, 339, 340, 341, 342, 343, 344, 345, 346, 347, 348, 349, 350, 351, 352, 353, 354] rfl (by decide +kernel)
set_option maxRecDepth 20000 in
theorem gL_law_X2_decay : GoodIn wsL_law (wsV RL 23 RX2 yX2_decay wsX2_decay) := goodIn_app (by first | exact goodIn_r _ [109, 110, 111, 2] rfl (by decide +kernel) | exact goodIn_of _ (by decide +kernel)) ggL_law_X2_decay
set_option maxRecDepth 20000 in
theorem ggL_law_X3_decay : GoodIn wsL_law wsX3_decay := goodIn_r _ [116, 53, 355, 356, 357, 358, 359, 360, 361, 362, 363, 364, 365, 366, 367, 368, 369, 370, 371, 372, 373, 374, 375, 376, 377, 378, 379, 380, 381] rfl (by decide +kernel)
set_option maxRecDepth 20000 in
theorem gL_law_X3_decay : GoodIn wsL_law (wsV RL 27 RX3 yX3_decay wsX3_decay) := goodIn_app (by first | exact goodIn_r _ [113, 114, 115, 5] rfl (by decide +kernel) | exact goodIn_of _ (by decide +kernel)) ggL_law_X3_decay
set_option maxRecDepth 20000 in
theorem ggL_law_X2_limits : GoodIn wsL_law wsX2_limits := goodIn_r _ [120, 121, 122, 23, 25, 26, 27, 74, 75, 2, 76, 339, 340, 341, 342, 343, 344, 345, 346, 347, 348, 349, 350, 351, 352, 353, 354] rfl (by decide +kernel)
set_option maxRecDepth 20000 in
theorem gL_law_X2_limits : GoodIn wsL_law (wsV RL 28 RX2 yX2_limits wsX2_limits) := goodIn_app (by first | exact goodIn_r _ [117, 118, 119, 2] rfl (by decide +kernel) | exact goodIn_of _ (by decide +kernel)) ggL_law_X2_limits
set_option maxRecDepth 20000 in
theorem ggL_law_X3_limits : GoodIn wsL_law wsX3_limits := goodIn_r _ [126, 127, 128, 54, 56, 57, 58, 355, 356, 357, 358, 359, 360, 361, 362, 363, 364, 365, 366, 367, 368, 369, 370, 371, 372, 373, 374, 375, 376, 377, 378, 379, 380, 381] rfl (by decide +kernel)
set_option maxRecDepth 20000 in
theorem gL_law_X3_limits : GoodIn wsL_law (wsV RL 32 RX3 yX3_limits wsX3_limits) := goodIn_app (by first | exact goodIn_r _ [123, 124, 125, 5] rfl (by decide +kernel) | exact goodIn_of _ (by decide +kernel)) ggL_law_X3_limits
set_option maxRecDepth 20000 in
theorem ggL_law_X2_reading : GoodIn wsL_law wsX2_reading := goodIn_r _ [132, 30, 31, 26, 28, 133, 134, 135, 2, 136, 21, 121, 137, 138, 37, 139, 74, 75, 76, 140, 141, 142, 143, 144, 145, 146, 147, 35, 36, 38, 148, 149, 150, 151, 13, 152, 33, 153, 154, 42, 155, 156, 157, 44, 99, 100, 101, 45, 43, 158, 159, 160, 161, 22, 18, 162, 163, 164, 165, 29, 166, 167, 168, 169, 27, 339, 340, 341, 342, 343, 344, 345, 346, 347, 348, 349, 350, 351, 352, 353, 354, 382, 383, 384, 385] rfl (by decide +kernel)
set_option maxRecDepth 20000 in
theorem gL_law_X2_reading : GoodIn wsL_law (wsV RL 33 RX2 yX2_reading wsX2_reading) := goodIn_app (by first | exact goodIn_r _ [129, 130, 131, 2] rfl (by decide +kernel) | exact goodIn_of _ (by decide +kernel)) ggL_law_X2_reading
set_option maxRecDepth 20000 in
theorem ggL_law_X3_reading : GoodIn wsL_law wsX3_reading := goodIn_r _ [173, 174, 175, 176, 57, 177, 178, 58, 179, 180, 181, 5, 182, 183, 127, 184, 185, 186, 187, 188, 59, 189, 103, 104, 105, 50, 51, 52, 106, 107, 108, 355, 356, 357, 358, 359, 360, 361, 362, 363, 364, 365, 366, 367, 368, 369, 370, 371, 372, 373, 374, 375, 376, 377, 378, 379, 380, 381] rfl (by decide +kernel)
set_option maxRecDepth 20000 in
theorem gL_law_X3_reading : GoodIn wsL_law (wsV RL 36 RX3 yX3_reading wsX3_reading) := goodIn_app (by first | exact goodIn_r _ [170, 171, 172, 5] rfl (by decide +kernel) | exact goodIn_of _ (by decide +kernel)) ggL_law_X3_reading
set_option maxRecDepth 20000 in
theorem ggL_law_X2_ask : GoodIn wsL_law wsX2_ask := goodIn_r _ [193, 133, 134, 135, 2, 136, 21, 121, 137, 138, 37, 139, 74, 75, 76, 140, 141, 142, 143, 28, 144, 145, 146, 147, 35, 36, 38, 148, 149, 150, 151, 13, 152, 33, 153, 154, 42, 155, 156, 157, 44, 99, 100, 101, 45, 43, 158, 159, 160, 161, 22, 18, 194, 195, 196, 197, 23, 16, 198, 199, 200, 201, 202, 203, 95, 96, 97, 83, 84, 85, 86, 98, 204, 205, 206, 207, 208, 209, 210, 211, 212, 213, 214, 17, 215, 216, 217, 218, 15, 219, 220, 221, 222, 30, 223, 224, 225, 226, 31, 227, 228, 229, 230, 25, 231, 232, 233, 234, 19, 235, 236, 237, 238, 239, 240, 241, 242, 243, 244, 245, 246, 247, 248, 249, 250, 251, 10, 11, 386, 387, 388, 389, 390, 391, 339, 340, 341, 342, 343, 344, 345, 346, 347, 348, 349, 350, 351, 352, 353, 354, 382, 383, 384, 385] rfl (by decide +kernel)
set_option maxRecDepth 20000 in
theorem gL_law_X2_ask : GoodIn wsL_law (wsV RL 37 RX2 yX2_ask wsX2_ask) := goodIn_app (by first | exact goodIn_r _ [190, 191, 192, 2] rfl (by decide +kernel) | exact goodIn_of _ (by decide +kernel)) ggL_law_X2_ask
set_option maxRecDepth 20000 in
theorem ggL_law_X3_ask : GoodIn wsL_law wsX3_ask := goodIn_r _ [255, 179, 180, 181, 5, 182, 183, 127, 184, 185, 186, 187, 177, 188, 59, 189, 103, 104, 105, 50, 51, 52, 106, 107, 108, 256, 257, 258, 259, 260, 261, 262, 174, 176, 175, 54, 56, 263, 264, 265, 266, 267, 61, 62, 53, 268, 269, 270, 271, 272, 60, 355, 356, 357, 358, 359, 360, 361, 362, 363, 364, 365, 366, 367, 368, 369, 370, 371, 372, 373, 374, 375, 376, 377, 378, 379, 380, 381] rfl (by decide +kernel)
set_option maxRecDepth 20000 in
theorem gL_law_X3_ask : GoodIn wsL_law (wsV RL 40 RX3 yX3_ask wsX3_ask) := goodIn_app (by first | exact goodIn_r _ [252, 253, 254, 5] rfl (by decide +kernel) | exact goodIn_of _ (by decide +kernel)) ggL_law_X3_ask
set_option maxRecDepth 20000 in
theorem ggL_law_X2_give : GoodIn wsL_law wsX2_give := goodIn_r _ [276, 20, 17, 19, 21, 133, 134, 135, 2, 136, 121, 137, 138, 37, 139, 74, 75, 76, 140, 141, 142, 143, 28, 144, 145, 146, 147, 35, 36, 38, 148, 149, 150, 151, 13, 152, 33, 153, 154, 42, 155, 156, 157, 44, 99, 100, 101, 45, 43, 158, 159, 160, 161, 22, 18, 194, 195, 196, 197, 23, 16, 198, 199, 200, 201, 202, 203, 95, 96, 97, 83, 84, 85, 86, 98, 204, 205, 206, 207, 208, 209, 210, 211, 212, 213, 214, 215, 216, 217, 218, 15, 219, 220, 221, 222, 30, 223, 224, 225, 226, 31, 227, 228, 229, 230, 25, 231, 232, 233, 234, 235, 236, 237, 238, 239, 240, 241, 242, 243, 244, 245, 246, 247, 248, 249, 250, 251, 10, 11, 339, 340, 341, 342, 343, 344, 345, 346, 347, 348, 349, 350, 351, 352, 353, 354, 386, 387, 388, 389, 390, 391, 382, 383, 384, 385] rfl (by decide +kernel)
set_option maxRecDepth 20000 in
theorem gL_law_X2_give : GoodIn wsL_law (wsV RL 41 RX2 yX2_give wsX2_give) := goodIn_app (by first | exact goodIn_r _ [273, 274, 275, 2] rfl (by decide +kernel) | exact goodIn_of _ (by decide +kernel)) ggL_law_X2_give
set_option maxRecDepth 20000 in
theorem ggL_law_X3_give : GoodIn wsL_law wsX3_give := goodIn_r _ [280, 267, 61, 183, 62, 63, 260, 64, 261, 65, 66, 262, 60, 179, 180, 181, 5, 182, 127, 184, 185, 186, 187, 177, 188, 59, 189, 103, 104, 105, 50, 51, 52, 106, 107, 108, 256, 257, 258, 259, 174, 176, 175, 54, 56, 263, 264, 265, 266, 53, 268, 269, 270, 271, 272, 355, 356, 357, 358, 359, 360, 361, 362, 363, 364, 365, 366, 367, 368, 369, 370, 371, 372, 373, 374, 375, 376, 377, 378, 379, 380, 381] rfl (by decide +kernel)
set_option maxRecDepth 20000 in
theorem gL_law_X3_give : GoodIn wsL_law (wsV RL 44 RX3 yX3_give wsX3_give) := goodIn_app (by first | exact goodIn_r _ [277, 278, 279, 5] rfl (by decide +kernel) | exact goodIn_of _ (by decide +kernel)) ggL_law_X3_give
set_option maxRecDepth 20000 in
theorem ggL_law_X2_now : GoodIn wsL_law wsX2_now := goodIn_r _ [284, 21, 339, 340, 341, 342, 343, 344, 345, 346, 347, 348, 349, 350, 351, 352, 353, 354] rfl (by decide +kernel)
set_option maxRecDepth 20000 in
theorem gL_law_X2_now : GoodIn wsL_law (wsV RL 45 RX2 yX2_now wsX2_now) := goodIn_app (by first | exact goodIn_r _ [281, 282, 283, 2] rfl (by decide +kernel) | exact goodIn_of _ (by decide +kernel)) ggL_law_X2_now
set_option maxRecDepth 20000 in
theorem ggL_law_X3_now : GoodIn wsL_law wsX3_now := goodIn_r _ [288, 183, 355, 356, 357, 358, 359, 360, 361, 362, 363, 364, 365, 366, 367, 368, 369, 370, 371, 372, 373, 374, 375, 376, 377, 378, 379, 380, 381] rfl (by decide +kernel)
set_option maxRecDepth 20000 in
theorem gL_law_X3_now : GoodIn wsL_law (wsV RL 49 RX3 yX3_now wsX3_now) := goodIn_app (by first | exact goodIn_r _ [285, 286, 287, 5] rfl (by decide +kernel) | exact goodIn_of _ (by decide +kernel)) ggL_law_X3_now
set_option maxRecDepth 20000 in
theorem ggL_law_X2_work : GoodIn wsL_law wsX2_work := goodIn_r _ [292, 211, 212, 213, 2, 214, 17, 215, 216, 217, 218, 21, 15, 74, 75, 76, 339, 340, 341, 342, 343, 344, 345, 346, 347, 348, 349, 350, 351, 352, 353, 354, 386, 387, 388, 389, 390, 391] rfl (by decide +kernel)
set_option maxRecDepth 20000 in
theorem gL_law_X2_work : GoodIn wsL_law (wsV RL 50 RX2 yX2_work wsX2_work) := goodIn_app (by first | exact goodIn_r _ [289, 290, 291, 2] rfl (by decide +kernel) | exact goodIn_of _ (by decide +kernel)) ggL_law_X2_work
set_option maxRecDepth 20000 in
theorem ggL_law_X3_work : GoodIn wsL_law wsX3_work := goodIn_r _ [266, 267, 183, 61, 62, 53, 268, 355, 356, 357, 358, 359, 360, 361, 362, 363, 364, 365, 366, 367, 368, 369, 370, 371, 372, 373, 374, 375, 376, 377, 378, 379, 380, 381] rfl (by decide +kernel)
set_option maxRecDepth 20000 in
theorem gL_law_X3_work : GoodIn wsL_law (wsV RL 54 RX3 yX3_work wsX3_work) := goodIn_app (by first | exact goodIn_r _ [293, 264, 265, 5] rfl (by decide +kernel) | exact goodIn_of _ (by decide +kernel)) ggL_law_X3_work
set_option maxRecDepth 20000 in
theorem ggL_law_X2_spent : GoodIn wsL_law wsX2_spent := goodIn_r _ [297, 18, 19, 74, 75, 2, 76, 231, 232, 233, 234, 339, 340, 341, 342, 343, 344, 345, 346, 347, 348, 349, 350, 351, 352, 353, 354] rfl (by decide +kernel)
set_option maxRecDepth 20000 in
theorem gL_law_X2_spent : GoodIn wsL_law (wsV RL 55 RX2 yX2_spent wsX2_spent) := goodIn_app (by first | exact goodIn_r _ [294, 295, 296, 2] rfl (by decide +kernel) | exact goodIn_of _ (by decide +kernel)) ggL_law_X2_spent
set_option maxRecDepth 20000 in
theorem ggL_law_X3_spent : GoodIn wsL_law wsX3_spent := goodIn_r _ [272, 59, 60, 355, 356, 357, 358, 359, 360, 361, 362, 363, 364, 365, 366, 367, 368, 369, 370, 371, 372, 373, 374, 375, 376, 377, 378, 379, 380, 381] rfl (by decide +kernel)
set_option maxRecDepth 20000 in
theorem gL_law_X3_spent : GoodIn wsL_law (wsV RL 58 RX3 yX3_spent wsX3_spent) := goodIn_app (by first | exact goodIn_r _ [298, 270, 271, 5] rfl (by decide +kernel) | exact goodIn_of _ (by decide +kernel)) ggL_law_X3_spent
set_option maxRecDepth 20000 in
theorem ggL_law_X2_held : GoodIn wsL_law wsX2_held := goodIn_r _ [302, 28, 339, 340, 341, 342, 343, 344, 345, 346, 347, 348, 349, 350, 351, 352, 353, 354] rfl (by decide +kernel)
set_option maxRecDepth 20000 in
theorem gL_law_X2_held : GoodIn wsL_law (wsV RL 59 RX2 yX2_held wsX2_held) := goodIn_app (by first | exact goodIn_r _ [299, 300, 301, 2] rfl (by decide +kernel) | exact goodIn_of _ (by decide +kernel)) ggL_law_X2_held
set_option maxRecDepth 20000 in
theorem ggL_law_X3_held : GoodIn wsL_law wsX3_held := goodIn_r _ [306, 177, 355, 356, 357, 358, 359, 360, 361, 362, 363, 364, 365, 366, 367, 368, 369, 370, 371, 372, 373, 374, 375, 376, 377, 378, 379, 380, 381] rfl (by decide +kernel)
set_option maxRecDepth 20000 in
theorem gL_law_X3_held : GoodIn wsL_law (wsV RL 63 RX3 yX3_held wsX3_held) := goodIn_app (by first | exact goodIn_r _ [303, 304, 305, 5] rfl (by decide +kernel) | exact goodIn_of _ (by decide +kernel)) ggL_law_X3_held
set_option maxRecDepth 20000 in
theorem ggL_law_X2_ticks : GoodIn wsL_law wsX2_ticks := goodIn_r _ [310, 29, 339, 340, 341, 342, 343, 344, 345, 346, 347, 348, 349, 350, 351, 352, 353, 354] rfl (by decide +kernel)
set_option maxRecDepth 20000 in
theorem gL_law_X2_ticks : GoodIn wsL_law (wsV RL 64 RX2 yX2_ticks wsX2_ticks) := goodIn_app (by first | exact goodIn_r _ [307, 308, 309, 2] rfl (by decide +kernel) | exact goodIn_of _ (by decide +kernel)) ggL_law_X2_ticks
set_option maxRecDepth 20000 in
theorem ggL_law_X3_ticks : GoodIn wsL_law wsX3_ticks := goodIn_r _ [314, 178, 355, 356, 357, 358, 359, 360, 361, 362, 363, 364, 365, 366, 367, 368, 369, 370, 371, 372, 373, 374, 375, 376, 377, 378, 379, 380, 381] rfl (by decide +kernel)
set_option maxRecDepth 20000 in
theorem gL_law_X3_ticks : GoodIn wsL_law (wsV RL 67 RX3 yX3_ticks wsX3_ticks) := goodIn_app (by first | exact goodIn_r _ [311, 312, 313, 5] rfl (by decide +kernel) | exact goodIn_of _ (by decide +kernel)) ggL_law_X3_ticks
set_option maxRecDepth 20000 in
theorem ggL_law_X2_dose : GoodIn wsL_law wsX2_dose := goodIn_r _ [318, 17, 74, 75, 2, 76, 339, 340, 341, 342, 343, 344, 345, 346, 347, 348, 349, 350, 351, 352, 353, 354, 386, 387, 388, 389, 390, 391] rfl (by decide +kernel)
set_option maxRecDepth 20000 in
theorem gL_law_X2_dose : GoodIn wsL_law (wsV RL 68 RX2 yX2_dose wsX2_dose) := goodIn_app (by first | exact goodIn_r _ [315, 316, 317, 2] rfl (by decide +kernel) | exact goodIn_of _ (by decide +kernel)) ggL_law_X2_dose
set_option maxRecDepth 20000 in
theorem ggL_law_X3_dose : GoodIn wsL_law wsX3_dose := goodIn_r _ [322, 267, 61, 62, 63, 64, 65, 66, 355, 356, 357, 358, 359, 360, 361, 362, 363, 364, 365, 366, 367, 368, 369, 370, 371, 372, 373, 374, 375, 376, 377, 378, 379, 380, 381] rfl (by decide +kernel)
set_option maxRecDepth 20000 in
theorem gL_law_X3_dose : GoodIn wsL_law (wsV RL 71 RX3 yX3_dose wsX3_dose) := goodIn_app (by first | exact goodIn_r _ [319, 320, 321, 5] rfl (by decide +kernel) | exact goodIn_of _ (by decide +kernel)) ggL_law_X3_dose
set_option maxRecDepth 20000 in
theorem ggL_law_X2_doses : GoodIn wsL_law wsX2_doses := goodIn_r _ [326, 20, 339, 340, 341, 342, 343, 344, 345, 346, 347, 348, 349, 350, 351, 352, 353, 354] rfl (by decide +kernel)
set_option maxRecDepth 20000 in
theorem gL_law_X2_doses : GoodIn wsL_law (wsV RL 72 RX2 yX2_doses wsX2_doses) := goodIn_app (by first | exact goodIn_r _ [323, 324, 325, 2] rfl (by decide +kernel) | exact goodIn_of _ (by decide +kernel)) ggL_law_X2_doses
set_option maxRecDepth 20000 in
theorem ggL_law_X3_doses : GoodIn wsL_law wsX3_doses := goodIn_r _ [330, 267, 355, 356, 357, 358, 359, 360, 361, 362, 363, 364, 365, 366, 367, 368, 369, 370, 371, 372, 373, 374, 375, 376, 377, 378, 379, 380, 381] rfl (by decide +kernel)
set_option maxRecDepth 20000 in
theorem gL_law_X3_doses : GoodIn wsL_law (wsV RL 75 RX3 yX3_doses wsX3_doses) := goodIn_app (by first | exact goodIn_r _ [327, 328, 329, 5] rfl (by decide +kernel) | exact goodIn_of _ (by decide +kernel)) ggL_law_X3_doses
set_option maxRecDepth 20000 in
theorem ggL_law_X2_last : GoodIn wsL_law wsX2_last := goodIn_r _ [334, 30, 31, 339, 340, 341, 342, 343, 344, 345, 346, 347, 348, 349, 350, 351, 352, 353, 354] rfl (by decide +kernel)
set_option maxRecDepth 20000 in
theorem gL_law_X2_last : GoodIn wsL_law (wsV RL 76 RX2 yX2_last wsX2_last) := goodIn_app (by first | exact goodIn_r _ [331, 332, 333, 2] rfl (by decide +kernel) | exact goodIn_of _ (by decide +kernel)) ggL_law_X2_last
set_option maxRecDepth 20000 in
theorem ggL_law_X3_last : GoodIn wsL_law wsX3_last := goodIn_r _ [338, 174, 175, 176, 355, 356, 357, 358, 359, 360, 361, 362, 363, 364, 365, 366, 367, 368, 369, 370, 371, 372, 373, 374, 375, 376, 377, 378, 379, 380, 381] rfl (by decide +kernel)
set_option maxRecDepth 20000 in
theorem gL_law_X3_last : GoodIn wsL_law (wsV RL 80 RX3 yX3_last wsX3_last) := goodIn_app (by first | exact goodIn_r _ [335, 336, 337, 5] rfl (by decide +kernel) | exact goodIn_of _ (by decide +kernel)) ggL_law_X3_last

