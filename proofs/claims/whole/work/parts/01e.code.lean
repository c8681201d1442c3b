theorem dX1_groupOf_11 : decode cX1_groupOf 11 = .ok (.aload_n 0, 1) := by decide +kernel
theorem dX1_groupOf_12 : decode cX1_groupOf 12 = .ok (.getfield 15, 3) := by decide +kernel
theorem dX1_groupOf_15 : decode cX1_groupOf 15 = .ok (.iload_n 2, 1) := by decide +kernel
theorem dX1_groupOf_16 : decode cX1_groupOf 16 = .ok (.iaload, 1) := by decide +kernel
theorem dX1_groupOf_17 : decode cX1_groupOf 17 = .ok (.iload_n 1, 1) := by decide +kernel
theorem dX1_groupOf_18 : decode cX1_groupOf 18 = .ok (.if_icmp .le 9, 3) := by decide +kernel
theorem dX1_groupOf_21 : decode cX1_groupOf 21 = .ok (.iinc 2 (-1), 3) := by decide +kernel
theorem dX1_groupOf_24 : decode cX1_groupOf 24 = .ok (.goto (-17), 3) := by decide +kernel
theorem dX1_groupOf_27 : decode cX1_groupOf 27 = .ok (.iload_n 2, 1) := by decide +kernel
theorem dX1_groupOf_28 : decode cX1_groupOf 28 = .ok (.ireturn, 1) := by decide +kernel
theorem dX1_putSorted_0 : decode cX1_putSorted 0 = .ok (.iload_n 1, 1) := by decide +kernel
theorem dX1_putSorted_1 : decode cX1_putSorted 1 = .ok (.istore_n 2, 1) := by decide +kernel
theorem dX1_putSorted_2 : decode cX1_putSorted 2 = .ok (.iload_n 2, 1) := by decide +kernel
theorem dX1_putSorted_3 : decode cX1_putSorted 3 = .ok (.ifCond .le 46, 3) := by decide +kernel
theorem dX1_putSorted_6 : decode cX1_putSorted 6 = .ok (.aload_n 0, 1) := by decide +kernel
theorem dX1_putSorted_7 : decode cX1_putSorted 7 = .ok (.getfield 9, 3) := by decide +kernel
theorem dX1_putSorted_10 : decode cX1_putSorted 10 = .ok (.aload_n 0, 1) := by decide +kernel
theorem dX1_putSorted_11 : decode cX1_putSorted 11 = .ok (.getfield 22, 3) := by decide +kernel
theorem dX1_putSorted_14 : decode cX1_putSorted 14 = .ok (.iload_n 2, 1) := by decide +kernel
theorem dX1_putSorted_15 : decode cX1_putSorted 15 = .ok (.iconst 1, 1) := by decide +kernel
theorem dX1_putSorted_16 : decode cX1_putSorted 16 = .ok (.isub, 1) := by decide +kernel
theorem dX1_putSorted_17 : decode cX1_putSorted 17 = .ok (.iaload, 1) := by decide +kernel
theorem dX1_putSorted_18 : decode cX1_putSorted 18 = .ok (.laload, 1) := by decide +kernel
theorem dX1_putSorted_19 : decode cX1_putSorted 19 = .ok (.aload_n 0, 1) := by decide +kernel
theorem dX1_putSorted_20 : decode cX1_putSorted 20 = .ok (.getfield 9, 3) := by decide +kernel
theorem dX1_putSorted_23 : decode cX1_putSorted 23 = .ok (.iload_n 1, 1) := by decide +kernel
theorem dX1_putSorted_24 : decode cX1_putSorted 24 = .ok (.laload, 1) := by decide +kernel
theorem dX1_putSorted_25 : decode cX1_putSorted 25 = .ok (.lcmp, 1) := by decide +kernel
theorem dX1_putSorted_26 : decode cX1_putSorted 26 = .ok (.ifCond .le 23, 3) := by decide +kernel
theorem dX1_putSorted_29 : decode cX1_putSorted 29 = .ok (.aload_n 0, 1) := by decide +kernel
theorem dX1_putSorted_30 : decode cX1_putSorted 30 = .ok (.getfield 22, 3) := by decide +kernel
theorem dX1_putSorted_33 : decode cX1_putSorted 33 = .ok (.iload_n 2, 1) := by decide +kernel
theorem dX1_putSorted_34 : decode cX1_putSorted 34 = .ok (.aload_n 0, 1) := by decide +kernel
theorem dX1_putSorted_35 : decode cX1_putSorted 35 = .ok (.getfield 22, 3) := by decide +kernel
theorem dX1_putSorted_38 : decode cX1_putSorted 38 = .ok (.iload_n 2, 1) := by decide +kernel
theorem dX1_putSorted_39 : decode cX1_putSorted 39 = .ok (.iconst 1, 1) := by decide +kernel
theorem dX1_putSorted_40 : decode cX1_putSorted 40 = .ok (.isub, 1) := by decide +kernel
theorem dX1_putSorted_41 : decode cX1_putSorted 41 = .ok (.iaload, 1) := by decide +kernel
theorem dX1_putSorted_42 : decode cX1_putSorted 42 = .ok (.iastore, 1) := by decide +kernel
theorem dX1_putSorted_43 : decode cX1_putSorted 43 = .ok (.iinc 2 (-1), 3) := by decide +kernel
theorem dX1_putSorted_46 : decode cX1_putSorted 46 = .ok (.goto (-44), 3) := by decide +kernel
theorem dX1_putSorted_49 : decode cX1_putSorted 49 = .ok (.aload_n 0, 1) := by decide +kernel
theorem dX1_putSorted_50 : decode cX1_putSorted 50 = .ok (.getfield 22, 3) := by decide +kernel
theorem dX1_putSorted_53 : decode cX1_putSorted 53 = .ok (.iload_n 2, 1) := by decide +kernel
theorem dX1_putSorted_54 : decode cX1_putSorted 54 = .ok (.iload_n 1, 1) := by decide +kernel
theorem dX1_putSorted_55 : decode cX1_putSorted 55 = .ok (.iastore, 1) := by decide +kernel
theorem dX1_putSorted_56 : decode cX1_putSorted 56 = .ok (.return_, 1) := by decide +kernel
theorem dX2_init_0 : decode cX2_init 0 = .ok (.aload_n 0, 1) := by decide +kernel
theorem dX2_init_1 : decode cX2_init 1 = .ok (.invokespecial 3, 3) := by decide +kernel
theorem dX2_init_4 : decode cX2_init 4 = .ok (.aload_n 0, 1) := by decide +kernel
theorem dX2_init_5 : decode cX2_init 5 = .ok (.bipush 62, 2) := by decide +kernel
theorem dX2_init_7 : decode cX2_init 7 = .ok (.newarray .int, 2) := by decide +kernel
theorem dX2_init_9 : decode cX2_init 9 = .ok (.putfield 9, 3) := by decide +kernel
theorem dX2_init_12 : decode cX2_init 12 = .ok (.aload_n 0, 1) := by decide +kernel
theorem dX2_init_13 : decode cX2_init 13 = .ok (.bipush 63, 2) := by decide +kernel
theorem dX2_init_15 : decode cX2_init 15 = .ok (.newarray .long, 2) := by decide +kernel
theorem dX2_init_17 : decode cX2_init 17 = .ok (.putfield 15, 3) := by decide +kernel
theorem dX2_init_20 : decode cX2_init 20 = .ok (.aload_n 0, 1) := by decide +kernel
theorem dX2_init_21 : decode cX2_init 21 = .ok (.iload_n 1, 1) := by decide +kernel
theorem dX2_init_22 : decode cX2_init 22 = .ok (.putfield 19, 3) := by decide +kernel
theorem dX2_init_25 : decode cX2_init 25 = .ok (.return_, 1) := by decide +kernel
theorem dX2_isLaid_0 : decode cX2_isLaid 0 = .ok (.aload_n 0, 1) := by decide +kernel
theorem dX2_isLaid_1 : decode cX2_isLaid 1 = .ok (.getfield 23, 3) := by decide +kernel
theorem dX2_isLaid_4 : decode cX2_isLaid 4 = .ok (.lconst 0, 1) := by decide +kernel
theorem dX2_isLaid_5 : decode cX2_isLaid 5 = .ok (.lcmp, 1) := by decide +kernel
theorem dX2_isLaid_6 : decode cX2_isLaid 6 = .ok (.ifCond .le 7, 3) := by decide +kernel
theorem dX2_isLaid_9 : decode cX2_isLaid 9 = .ok (.iconst 1, 1) := by decide +kernel
theorem dX2_isLaid_10 : decode cX2_isLaid 10 = .ok (.goto 4, 3) := by decide +kernel
theorem dX2_isLaid_13 : decode cX2_isLaid 13 = .ok (.iconst 0, 1) := by decide +kernel
theorem dX2_isLaid_14 : decode cX2_isLaid 14 = .ok (.ireturn, 1) := by decide +kernel
theorem dX2_hasPoint_0 : decode cX2_hasPoint 0 = .ok (.lload_n 1, 1) := by decide +kernel
theorem dX2_hasPoint_1 : decode cX2_hasPoint 1 = .ok (.lconst 0, 1) := by decide +kernel
theorem dX2_hasPoint_2 : decode cX2_hasPoint 2 = .ok (.lcmp, 1) := by decide +kernel
theorem dX2_hasPoint_3 : decode cX2_hasPoint 3 = .ok (.ifCond .lt 16, 3) := by decide +kernel
theorem dX2_hasPoint_6 : decode cX2_hasPoint 6 = .ok (.lload_n 1, 1) := by decide +kernel
theorem dX2_hasPoint_7 : decode cX2_hasPoint 7 = .ok (.aload_n 0, 1) := by decide +kernel
theorem dX2_hasPoint_8 : decode cX2_hasPoint 8 = .ok (.getfield 23, 3) := by decide +kernel
theorem dX2_hasPoint_11 : decode cX2_hasPoint 11 = .ok (.lcmp, 1) := by decide +kernel
theorem dX2_hasPoint_12 : decode cX2_hasPoint 12 = .ok (.ifCond .ge 7, 3) := by decide +kernel
theorem dX2_hasPoint_15 : decode cX2_hasPoint 15 = .ok (.iconst 1, 1) := by decide +kernel
theorem dX2_hasPoint_16 : decode cX2_hasPoint 16 = .ok (.goto 4, 3) := by decide +kernel
theorem dX2_hasPoint_19 : decode cX2_hasPoint 19 = .ok (.iconst 0, 1) := by decide +kernel
theorem dX2_hasPoint_20 : decode cX2_hasPoint 20 = .ok (.ireturn, 1) := by decide +kernel
theorem dX2_hasPass_0 : decode cX2_hasPass 0 = .ok (.iload_n 1, 1) := by decide +kernel
theorem dX2_hasPass_1 : decode cX2_hasPass 1 = .ok (.ifCond .lt 15, 3) := by decide +kernel
theorem dX2_hasPass_4 : decode cX2_hasPass 4 = .ok (.iload_n 1, 1) := by decide +kernel
theorem dX2_hasPass_5 : decode cX2_hasPass 5 = .ok (.aload_n 0, 1) := by decide +kernel
theorem dX2_hasPass_6 : decode cX2_hasPass 6 = .ok (.getfield 27, 3) := by decide +kernel
theorem dX2_hasPass_9 : decode cX2_hasPass 9 = .ok (.if_icmp .ge 7, 3) := by decide +kernel
theorem dX2_hasPass_12 : decode cX2_hasPass 12 = .ok (.iconst 1, 1) := by decide +kernel
theorem dX2_hasPass_13 : decode cX2_hasPass 13 = .ok (.goto 4, 3) := by decide +kernel
theorem dX2_hasPass_16 : decode cX2_hasPass 16 = .ok (.iconst 0, 1) := by decide +kernel
theorem dX2_hasPass_17 : decode cX2_hasPass 17 = .ok (.ireturn, 1) := by decide +kernel
theorem dX2_passCount_0 : decode cX2_passCount 0 = .ok (.aload_n 0, 1) := by decide +kernel
theorem dX2_passCount_1 : decode cX2_passCount 1 = .ok (.getfield 27, 3) := by decide +kernel
theorem dX2_passCount_4 : decode cX2_passCount 4 = .ok (.ireturn, 1) := by decide +kernel
set_option maxRecDepth 20000 in
theorem ggX2_sizeOf_X2_hasPass : GoodIn wsX2_sizeOf wsX2_hasPass := goodIn_r _ [6, 7, 8, 9, 10, 11, 12] (by decide +kernel) (by decide +kernel)
set_option maxRecDepth 20000 in
theorem gX2_sizeOf_X2_hasPass : GoodIn wsX2_sizeOf (wsV RX2 30 RX2 yX2_hasPass wsX2_hasPass) := goodIn_app (goodIn_of _ (by decide +kernel)) ggX2_sizeOf_X2_hasPass
theorem dX2_sizeOf_0 : decode cX2_sizeOf 0 = .ok (.aload_n 0, 1) := by decide +kernel
theorem dX2_sizeOf_1 : decode cX2_sizeOf 1 = .ok (.iload_n 1, 1) := by decide +kernel
theorem dX2_sizeOf_2 : decode cX2_sizeOf 2 = .ok (.invokevirtual 30, 3) := by decide +kernel
theorem dX2_sizeOf_5 : decode cX2_sizeOf 5 = .ok (.ifCond .eq 12, 3) := by decide +kernel
theorem dX2_sizeOf_8 : decode cX2_sizeOf 8 = .ok (.aload_n 0, 1) := by decide +kernel
theorem dX2_sizeOf_9 : decode cX2_sizeOf 9 = .ok (.getfield 9, 3) := by decide +kernel
theorem dX2_sizeOf_12 : decode cX2_sizeOf 12 = .ok (.iload_n 1, 1) := by decide +kernel
theorem dX2_sizeOf_13 : decode cX2_sizeOf 13 = .ok (.iaload, 1) := by decide +kernel
theorem dX2_sizeOf_14 : decode cX2_sizeOf 14 = .ok (.goto 4, 3) := by decide +kernel
theorem dX2_sizeOf_17 : decode cX2_sizeOf 17 = .ok (.iconst 0, 1) := by decide +kernel
theorem dX2_sizeOf_18 : decode cX2_sizeOf 18 = .ok (.ireturn, 1) := by decide +kernel
set_option maxRecDepth 20000 in
theorem ggX2_spanBehind_X2_hasPass : GoodIn wsX2_spanBehind wsX2_hasPass := goodIn_r _ [6, 7, 8, 9, 10, 11, 12] (by decide +kernel) (by decide +kernel)
set_option maxRecDepth 20000 in
theorem gX2_spanBehind_X2_hasPass : GoodIn wsX2_spanBehind (wsV RX2 30 RX2 yX2_hasPass wsX2_hasPass) := goodIn_app (goodIn_of _ (by decide +kernel)) ggX2_spanBehind_X2_hasPass
theorem dX2_spanBehind_0 : decode cX2_spanBehind 0 = .ok (.aload_n 0, 1) := by decide +kernel
theorem dX2_spanBehind_1 : decode cX2_spanBehind 1 = .ok (.iload_n 1, 1) := by decide +kernel
theorem dX2_spanBehind_2 : decode cX2_spanBehind 2 = .ok (.invokevirtual 30, 3) := by decide +kernel
theorem dX2_spanBehind_5 : decode cX2_spanBehind 5 = .ok (.ifCond .eq 14, 3) := by decide +kernel
theorem dX2_spanBehind_8 : decode cX2_spanBehind 8 = .ok (.aload_n 0, 1) := by decide +kernel
theorem dX2_spanBehind_9 : decode cX2_spanBehind 9 = .ok (.getfield 15, 3) := by decide +kernel
theorem dX2_spanBehind_12 : decode cX2_spanBehind 12 = .ok (.iload_n 1, 1) := by decide +kernel
theorem dX2_spanBehind_13 : decode cX2_spanBehind 13 = .ok (.iconst 1, 1) := by decide +kernel
theorem dX2_spanBehind_14 : decode cX2_spanBehind 14 = .ok (.iadd, 1) := by decide +kernel
theorem dX2_spanBehind_15 : decode cX2_spanBehind 15 = .ok (.laload, 1) := by decide +kernel
theorem dX2_spanBehind_16 : decode cX2_spanBehind 16 = .ok (.goto 4, 3) := by decide +kernel
theorem dX2_spanBehind_19 : decode cX2_spanBehind 19 = .ok (.lconst 1, 1) := by decide +kernel
theorem dX2_spanBehind_20 : decode cX2_spanBehind 20 = .ok (.lreturn, 1) := by decide +kernel
set_option maxRecDepth 20000 in
theorem ggX2_binOf_X2_hasPass : GoodIn wsX2_binOf wsX2_hasPass := goodIn_r _ [7, 8, 16, 17, 18, 19, 20] (by decide +kernel) (by decide +kernel)
set_option maxRecDepth 20000 in
theorem gX2_binOf_X2_hasPass : GoodIn wsX2_binOf (wsV RX2 30 RX2 yX2_hasPass wsX2_hasPass) := goodIn_app (goodIn_of _ (by decide +kernel)) ggX2_binOf_X2_hasPass
set_option maxRecDepth 20000 in
theorem ggX2_binOf_X3_quotient : GoodIn wsX2_binOf wsX3_quotient := goodIn_r _ [12] (by decide +kernel) (by decide +kernel)
set_option maxRecDepth 20000 in
theorem gX2_binOf_X3_quotient : GoodIn wsX2_binOf (va_wsS RX2 34 yX3_quotient wsX3_quotient) := goodIn_app (goodIn_of _ (by decide +kernel)) ggX2_binOf_X3_quotient
set_option maxRecDepth 20000 in
theorem ggX2_binOf_X3_remainder : GoodIn wsX2_binOf wsX3_remainder := goodIn_r _ [15] (by decide +kernel) (by decide +kernel)
set_option maxRecDepth 20000 in
theorem gX2_binOf_X3_remainder : GoodIn wsX2_binOf (va_wsS RX2 40 yX3_remainder wsX3_remainder) := goodIn_app (goodIn_of _ (by decide +kernel)) ggX2_binOf_X3_remainder
theorem dX2_binOf_0 : decode cX2_binOf 0 = .ok (.aload_n 0, 1) := by decide +kernel
theorem dX2_binOf_1 : decode cX2_binOf 1 = .ok (.iload_n 3, 1) := by decide +kernel
theorem dX2_binOf_2 : decode cX2_binOf 2 = .ok (.invokevirtual 30, 3) := by decide +kernel
theorem dX2_binOf_5 : decode cX2_binOf 5 = .ok (.ifCond .eq 27, 3) := by decide +kernel
theorem dX2_binOf_8 : decode cX2_binOf 8 = .ok (.lload_n 1, 1) := by decide +kernel
theorem dX2_binOf_9 : decode cX2_binOf 9 = .ok (.aload_n 0, 1) := by decide +kernel
theorem dX2_binOf_10 : decode cX2_binOf 10 = .ok (.getfield 15, 3) := by decide +kernel
theorem dX2_binOf_13 : decode cX2_binOf 13 = .ok (.iload_n 3, 1) := by decide +kernel
theorem dX2_binOf_14 : decode cX2_binOf 14 = .ok (.laload, 1) := by decide +kernel
theorem dX2_binOf_15 : decode cX2_binOf 15 = .ok (.invokestatic 34, 3) := by decide +kernel
theorem dX2_binOf_18 : decode cX2_binOf 18 = .ok (.aload_n 0, 1) := by decide +kernel
theorem dX2_binOf_19 : decode cX2_binOf 19 = .ok (.getfield 9, 3) := by decide +kernel
theorem dX2_binOf_22 : decode cX2_binOf 22 = .ok (.iload_n 3, 1) := by decide +kernel
theorem dX2_binOf_23 : decode cX2_binOf 23 = .ok (.iaload, 1) := by decide +kernel
theorem dX2_binOf_24 : decode cX2_binOf 24 = .ok (.i2l, 1) := by decide +kernel
theorem dX2_binOf_25 : decode cX2_binOf 25 = .ok (.invokestatic 40, 3) := by decide +kernel
theorem dX2_binOf_28 : decode cX2_binOf 28 = .ok (.l2i, 1) := by decide +kernel
theorem dX2_binOf_29 : decode cX2_binOf 29 = .ok (.goto 4, 3) := by decide +kernel
theorem dX2_binOf_32 : decode cX2_binOf 32 = .ok (.iconst 0, 1) := by decide +kernel
theorem dX2_binOf_33 : decode cX2_binOf 33 = .ok (.ireturn, 1) := by decide +kernel
set_option maxRecDepth 20000 in
theorem ggX2_lay_X3_leastExponent : GoodIn wsX2_lay wsX3_leastExponent := goodIn_r _ [9, 10, 11, 8, 12, 13, 14, 15, 16] (by decide +kernel) (by decide +kernel)
set_option maxRecDepth 20000 in
theorem gX2_lay_X3_leastExponent : GoodIn wsX2_lay (va_wsS RX2 43 yX3_leastExponent wsX3_leastExponent) := goodIn_app (goodIn_of _ (by decide +kernel)) ggX2_lay_X3_leastExponent
set_option maxRecDepth 20000 in
theorem ggX2_lay_X2_leastSum : GoodIn wsX2_lay wsX2_leastSum := goodIn_r _ [21, 1, 3, 2, 22, 23, 24, 25, 26, 27, 8, 28, 29, 30, 31, 32, 10, 11, 12, 13, 14, 15, 16, 33, 34, 35, 36, 37, 38, 49, 50, 51, 52, 53] (by decide +kernel) (by decide +kernel)
set_option maxRecDepth 20000 in
theorem gX2_lay_X2_leastSum : GoodIn wsX2_lay (wsV RX2 47 RX2 yX2_leastSum wsX2_leastSum) := goodIn_app (goodIn_of _ (by decide +kernel)) ggX2_lay_X2_leastSum
set_option maxRecDepth 20000 in
theorem ggX2_lay_X2_leastSize : GoodIn wsX2_lay wsX2_leastSize := goodIn_r _ [42, 3, 43, 15, 8, 16, 44, 45, 46, 20, 47, 2, 4, 1, 33, 34, 35, 14, 36, 37, 38, 30, 31, 32, 10, 11, 12, 13, 48, 49, 50, 51, 52, 53] (by decide +kernel) (by decide +kernel)
set_option maxRecDepth 20000 in
theorem gX2_lay_X2_leastSize : GoodIn wsX2_lay (wsV RX2 51 RX2 yX2_leastSize wsX2_leastSize) := goodIn_app (goodIn_of _ (by decide +kernel)) ggX2_lay_X2_leastSize
theorem dX2_lay_0 : decode cX2_lay 0 = .ok (.aload_n 0, 1) := by decide +kernel
theorem dX2_lay_1 : decode cX2_lay 1 = .ok (.lload_n 1, 1) := by decide +kernel
theorem dX2_lay_2 : decode cX2_lay 2 = .ok (.putfield 23, 3) := by decide +kernel
theorem dX2_lay_5 : decode cX2_lay 5 = .ok (.aload_n 0, 1) := by decide +kernel
theorem dX2_lay_6 : decode cX2_lay 6 = .ok (.aload_n 0, 1) := by decide +kernel
theorem dX2_lay_7 : decode cX2_lay 7 = .ok (.getfield 19, 3) := by decide +kernel
theorem dX2_lay_10 : decode cX2_lay 10 = .ok (.i2l, 1) := by decide +kernel
theorem dX2_lay_11 : decode cX2_lay 11 = .ok (.lload_n 1, 1) := by decide +kernel
theorem dX2_lay_12 : decode cX2_lay 12 = .ok (.invokestatic 43, 3) := by decide +kernel
theorem dX2_lay_15 : decode cX2_lay 15 = .ok (.putfield 27, 3) := by decide +kernel
theorem dX2_lay_18 : decode cX2_lay 18 = .ok (.aload_n 0, 1) := by decide +kernel
theorem dX2_lay_19 : decode cX2_lay 19 = .ok (.getfield 15, 3) := by decide +kernel
theorem dX2_lay_22 : decode cX2_lay 22 = .ok (.iconst 0, 1) := by decide +kernel
theorem dX2_lay_23 : decode cX2_lay 23 = .ok (.lconst 1, 1) := by decide +kernel
theorem dX2_lay_24 : decode cX2_lay 24 = .ok (.lastore, 1) := by decide +kernel
theorem dX2_lay_25 : decode cX2_lay 25 = .ok (.aload_n 0, 1) := by decide +kernel
theorem dX2_lay_26 : decode cX2_lay 26 = .ok (.invokevirtual 47, 3) := by decide +kernel
theorem dX2_lay_29 : decode cX2_lay 29 = .ok (.istore_n 3, 1) := by decide +kernel
theorem dX2_lay_30 : decode cX2_lay 30 = .ok (.iconst 0, 1) := by decide +kernel
theorem dX2_lay_31 : decode cX2_lay 31 = .ok (.istore 4, 2) := by decide +kernel
theorem dX2_lay_33 : decode cX2_lay 33 = .ok (.iload 4, 2) := by decide +kernel
theorem dX2_lay_35 : decode cX2_lay 35 = .ok (.aload_n 0, 1) := by decide +kernel
theorem dX2_lay_36 : decode cX2_lay 36 = .ok (.getfield 27, 3) := by decide +kernel
theorem dX2_lay_39 : decode cX2_lay 39 = .ok (.if_icmp .ge 58, 3) := by decide +kernel
theorem dX2_lay_42 : decode cX2_lay 42 = .ok (.aload_n 0, 1) := by decide +kernel
theorem dX2_lay_43 : decode cX2_lay 43 = .ok (.getfield 9, 3) := by decide +kernel
theorem dX2_lay_46 : decode cX2_lay 46 = .ok (.iload 4, 2) := by decide +kernel
theorem dX2_lay_48 : decode cX2_lay 48 = .ok (.aload_n 0, 1) := by decide +kernel
theorem dX2_lay_49 : decode cX2_lay 49 = .ok (.iload 4, 2) := by decide +kernel
theorem dX2_lay_51 : decode cX2_lay 51 = .ok (.iload_n 3, 1) := by decide +kernel
theorem dX2_lay_52 : decode cX2_lay 52 = .ok (.invokevirtual 51, 3) := by decide +kernel
theorem dX2_lay_55 : decode cX2_lay 55 = .ok (.iastore, 1) := by decide +kernel
theorem dX2_lay_56 : decode cX2_lay 56 = .ok (.aload_n 0, 1) := by decide +kernel
theorem dX2_lay_57 : decode cX2_lay 57 = .ok (.getfield 15, 3) := by decide +kernel
theorem dX2_lay_60 : decode cX2_lay 60 = .ok (.iload 4, 2) := by decide +kernel
theorem dX2_lay_62 : decode cX2_lay 62 = .ok (.iconst 1, 1) := by decide +kernel
theorem dX2_lay_63 : decode cX2_lay 63 = .ok (.iadd, 1) := by decide +kernel
theorem dX2_lay_64 : decode cX2_lay 64 = .ok (.aload_n 0, 1) := by decide +kernel
theorem dX2_lay_65 : decode cX2_lay 65 = .ok (.getfield 15, 3) := by decide +kernel
theorem dX2_lay_68 : decode cX2_lay 68 = .ok (.iload 4, 2) := by decide +kernel
theorem dX2_lay_70 : decode cX2_lay 70 = .ok (.laload, 1) := by decide +kernel
theorem dX2_lay_71 : decode cX2_lay 71 = .ok (.aload_n 0, 1) := by decide +kernel
theorem dX2_lay_72 : decode cX2_lay 72 = .ok (.getfield 9, 3) := by decide +kernel
theorem dX2_lay_75 : decode cX2_lay 75 = .ok (.iload 4, 2) := by decide +kernel
theorem dX2_lay_77 : decode cX2_lay 77 = .ok (.iaload, 1) := by decide +kernel
theorem dX2_lay_78 : decode cX2_lay 78 = .ok (.i2l, 1) := by decide +kernel
theorem dX2_lay_79 : decode cX2_lay 79 = .ok (.lmul, 1) := by decide +kernel
theorem dX2_lay_80 : decode cX2_lay 80 = .ok (.lastore, 1) := by decide +kernel
theorem dX2_lay_81 : decode cX2_lay 81 = .ok (.iload_n 3, 1) := by decide +kernel
theorem dX2_lay_82 : decode cX2_lay 82 = .ok (.aload_n 0, 1) := by decide +kernel
theorem dX2_lay_83 : decode cX2_lay 83 = .ok (.getfield 9, 3) := by decide +kernel
theorem dX2_lay_86 : decode cX2_lay 86 = .ok (.iload 4, 2) := by decide +kernel
theorem dX2_lay_88 : decode cX2_lay 88 = .ok (.iaload, 1) := by decide +kernel
theorem dX2_lay_89 : decode cX2_lay 89 = .ok (.isub, 1) := by decide +kernel
theorem dX2_lay_90 : decode cX2_lay 90 = .ok (.istore_n 3, 1) := by decide +kernel
theorem dX2_lay_91 : decode cX2_lay 91 = .ok (.iinc 4 1, 3) := by decide +kernel
theorem dX2_lay_94 : decode cX2_lay 94 = .ok (.goto (-61), 3) := by decide +kernel
theorem dX2_lay_97 : decode cX2_lay 97 = .ok (.return_, 1) := by decide +kernel
set_option maxRecDepth 20000 in
theorem ggX2_leastSum_X3_leastBase : GoodIn wsX2_leastSum wsX3_leastBase := goodIn_r _ [11, 12, 13, 14, 10, 15, 16, 17, 18, 19, 20, 21, 22] (by decide +kernel) (by decide +kernel)
set_option maxRecDepth 20000 in
theorem gX2_leastSum_X3_leastBase : GoodIn wsX2_leastSum (va_wsS RX2 55 yX3_leastBase wsX3_leastBase) := goodIn_app (goodIn_of _ (by decide +kernel)) ggX2_leastSum_X3_leastBase
set_option maxRecDepth 20000 in
theorem ggX2_leastSum_X3_widestProduct : GoodIn wsX2_leastSum wsX3_widestProduct := goodIn_r _ [25, 20, 21, 10, 22, 26, 27, 28, 13, 14, 15, 16, 17, 18, 19] (by decide +kernel) (by decide +kernel)
set_option maxRecDepth 20000 in
theorem gX2_leastSum_X3_widestProduct : GoodIn wsX2_leastSum (va_wsS RX2 64 yX3_widestProduct wsX3_widestProduct) := goodIn_app (goodIn_of _ (by decide +kernel)) ggX2_leastSum_X3_widestProduct
theorem dX2_leastSum_0 : decode cX2_leastSum 0 = .ok (.aload_n 0, 1) := by decide +kernel
theorem dX2_leastSum_1 : decode cX2_leastSum 1 = .ok (.getfield 23, 3) := by decide +kernel
theorem dX2_leastSum_4 : decode cX2_leastSum 4 = .ok (.aload_n 0, 1) := by decide +kernel
theorem dX2_leastSum_5 : decode cX2_leastSum 5 = .ok (.getfield 27, 3) := by decide +kernel
theorem dX2_leastSum_8 : decode cX2_leastSum 8 = .ok (.aload_n 0, 1) := by decide +kernel
theorem dX2_leastSum_9 : decode cX2_leastSum 9 = .ok (.getfield 19, 3) := by decide +kernel
theorem dX2_leastSum_12 : decode cX2_leastSum 12 = .ok (.i2l, 1) := by decide +kernel
theorem dX2_leastSum_13 : decode cX2_leastSum 13 = .ok (.invokestatic 55, 3) := by decide +kernel
theorem dX2_leastSum_16 : decode cX2_leastSum 16 = .ok (.l2i, 1) := by decide +kernel
theorem dX2_leastSum_17 : decode cX2_leastSum 17 = .ok (.istore_n 1, 1) := by decide +kernel
theorem dX2_leastSum_18 : decode cX2_leastSum 18 = .ok (.iload_n 1, 1) := by decide +kernel
theorem dX2_leastSum_19 : decode cX2_leastSum 19 = .ok (.aload_n 0, 1) := by decide +kernel
theorem dX2_leastSum_20 : decode cX2_leastSum 20 = .ok (.getfield 27, 3) := by decide +kernel
theorem dX2_leastSum_23 : decode cX2_leastSum 23 = .ok (.imul, 1) := by decide +kernel
theorem dX2_leastSum_24 : decode cX2_leastSum 24 = .ok (.istore_n 2, 1) := by decide +kernel
theorem dX2_leastSum_25 : decode cX2_leastSum 25 = .ok (.iconst 2, 1) := by decide +kernel
theorem dX2_leastSum_26 : decode cX2_leastSum 26 = .ok (.aload_n 0, 1) := by decide +kernel
theorem dX2_leastSum_27 : decode cX2_leastSum 27 = .ok (.getfield 27, 3) := by decide +kernel
theorem dX2_leastSum_30 : decode cX2_leastSum 30 = .ok (.imul, 1) := by decide +kernel
theorem dX2_leastSum_31 : decode cX2_leastSum 31 = .ok (.iload_n 2, 1) := by decide +kernel
theorem dX2_leastSum_32 : decode cX2_leastSum 32 = .ok (.aload_n 0, 1) := by decide +kernel
theorem dX2_leastSum_33 : decode cX2_leastSum 33 = .ok (.getfield 27, 3) := by decide +kernel
theorem dX2_leastSum_36 : decode cX2_leastSum 36 = .ok (.isub, 1) := by decide +kernel
theorem dX2_leastSum_37 : decode cX2_leastSum 37 = .ok (.invokestatic 59, 3) := by decide +kernel
theorem dX2_leastSum_40 : decode cX2_leastSum 40 = .ok (.istore_n 3, 1) := by decide +kernel
theorem dX2_leastSum_41 : decode cX2_leastSum 41 = .ok (.iload_n 3, 1) := by decide +kernel
theorem dX2_leastSum_42 : decode cX2_leastSum 42 = .ok (.iload_n 2, 1) := by decide +kernel
theorem dX2_leastSum_43 : decode cX2_leastSum 43 = .ok (.if_icmp .ge 25, 3) := by decide +kernel
theorem dX2_leastSum_46 : decode cX2_leastSum 46 = .ok (.iload_n 3, 1) := by decide +kernel
theorem dX2_leastSum_47 : decode cX2_leastSum 47 = .ok (.aload_n 0, 1) := by decide +kernel
theorem dX2_leastSum_48 : decode cX2_leastSum 48 = .ok (.getfield 27, 3) := by decide +kernel
theorem dX2_leastSum_51 : decode cX2_leastSum 51 = .ok (.invokestatic 64, 3) := by decide +kernel
theorem dX2_leastSum_54 : decode cX2_leastSum 54 = .ok (.aload_n 0, 1) := by decide +kernel
theorem dX2_leastSum_55 : decode cX2_leastSum 55 = .ok (.getfield 23, 3) := by decide +kernel
theorem dX2_leastSum_58 : decode cX2_leastSum 58 = .ok (.lcmp, 1) := by decide +kernel
theorem dX2_leastSum_59 : decode cX2_leastSum 59 = .ok (.ifCond .ge 9, 3) := by decide +kernel
theorem dX2_leastSum_62 : decode cX2_leastSum 62 = .ok (.iinc 3 1, 3) := by decide +kernel
theorem dX2_leastSum_65 : decode cX2_leastSum 65 = .ok (.goto (-24), 3) := by decide +kernel
theorem dX2_leastSum_68 : decode cX2_leastSum 68 = .ok (.iload_n 3, 1) := by decide +kernel
theorem dX2_leastSum_69 : decode cX2_leastSum 69 = .ok (.ireturn, 1) := by decide +kernel
set_option maxRecDepth 20000 in
theorem ggX2_leastSize_X3_quotient : GoodIn wsX2_leastSize wsX3_quotient := goodIn_r _ [5] (by decide +kernel) (by decide +kernel)
set_option maxRecDepth 20000 in
theorem gX2_leastSize_X3_quotient : GoodIn wsX2_leastSize (va_wsS RX2 34 yX3_quotient wsX3_quotient) := goodIn_app (goodIn_of _ (by decide +kernel)) ggX2_leastSize_X3_quotient
set_option maxRecDepth 20000 in
theorem ggX2_leastSize_X2_isEnough : GoodIn wsX2_leastSize wsX2_isEnough := goodIn_r _ [10, 1, 11, 12, 13, 14, 15, 4, 16, 17, 3, 5, 18, 19, 20, 21, 22, 23, 24, 25, 26, 27, 28, 29, 30, 31, 32, 33] (by decide +kernel) (by decide +kernel)
set_option maxRecDepth 20000 in
theorem gX2_leastSize_X2_isEnough : GoodIn wsX2_leastSize (wsV RX2 68 RX2 yX2_isEnough wsX2_isEnough) := goodIn_app (goodIn_of _ (by decide +kernel)) ggX2_leastSize_X2_isEnough
theorem dX2_leastSize_0 : decode cX2_leastSize 0 = .ok (.iconst 2, 1) := by decide +kernel
theorem dX2_leastSize_1 : decode cX2_leastSize 1 = .ok (.istore_n 3, 1) := by decide +kernel
theorem dX2_leastSize_2 : decode cX2_leastSize 2 = .ok (.iload_n 2, 1) := by decide +kernel
theorem dX2_leastSize_3 : decode cX2_leastSize 3 = .ok (.i2l, 1) := by decide +kernel
theorem dX2_leastSize_4 : decode cX2_leastSize 4 = .ok (.aload_n 0, 1) := by decide +kernel
theorem dX2_leastSize_5 : decode cX2_leastSize 5 = .ok (.getfield 27, 3) := by decide +kernel
theorem dX2_leastSize_8 : decode cX2_leastSize 8 = .ok (.iload_n 1, 1) := by decide +kernel
theorem dX2_leastSize_9 : decode cX2_leastSize 9 = .ok (.isub, 1) := by decide +kernel
theorem dX2_leastSize_10 : decode cX2_leastSize 10 = .ok (.i2l, 1) := by decide +kernel
theorem dX2_leastSize_11 : decode cX2_leastSize 11 = .ok (.invokestatic 34, 3) := by decide +kernel
theorem dX2_leastSize_14 : decode cX2_leastSize 14 = .ok (.l2i, 1) := by decide +kernel
theorem dX2_leastSize_15 : decode cX2_leastSize 15 = .ok (.istore 4, 2) := by decide +kernel
theorem dX2_leastSize_17 : decode cX2_leastSize 17 = .ok (.iload_n 1, 1) := by decide +kernel
theorem dX2_leastSize_18 : decode cX2_leastSize 18 = .ok (.aload_n 0, 1) := by decide +kernel
theorem dX2_leastSize_19 : decode cX2_leastSize 19 = .ok (.getfield 27, 3) := by decide +kernel
theorem dX2_leastSize_22 : decode cX2_leastSize 22 = .ok (.iconst 1, 1) := by decide +kernel
theorem dX2_leastSize_23 : decode cX2_leastSize 23 = .ok (.isub, 1) := by decide +kernel
theorem dX2_leastSize_24 : decode cX2_leastSize 24 = .ok (.if_icmp .ne 6, 3) := by decide +kernel
theorem dX2_leastSize_27 : decode cX2_leastSize 27 = .ok (.iload 4, 2) := by decide +kernel
theorem dX2_leastSize_29 : decode cX2_leastSize 29 = .ok (.ireturn, 1) := by decide +kernel
theorem dX2_leastSize_30 : decode cX2_leastSize 30 = .ok (.iconst 0, 1) := by decide +kernel
theorem dX2_leastSize_31 : decode cX2_leastSize 31 = .ok (.istore 5, 2) := by decide +kernel
theorem dX2_leastSize_33 : decode cX2_leastSize 33 = .ok (.iload 5, 2) := by decide +kernel
theorem dX2_leastSize_35 : decode cX2_leastSize 35 = .ok (.bipush 32, 2) := by decide +kernel
theorem dX2_leastSize_37 : decode cX2_leastSize 37 = .ok (.if_icmp .ge 49, 3) := by decide +kernel
theorem dX2_leastSize_40 : decode cX2_leastSize 40 = .ok (.iload_n 3, 1) := by decide +kernel
theorem dX2_leastSize_41 : decode cX2_leastSize 41 = .ok (.iload 4, 2) := by decide +kernel
theorem dX2_leastSize_43 : decode cX2_leastSize 43 = .ok (.if_icmp .ge 43, 3) := by decide +kernel
theorem dX2_leastSize_46 : decode cX2_leastSize 46 = .ok (.iload_n 3, 1) := by decide +kernel
theorem dX2_leastSize_47 : decode cX2_leastSize 47 = .ok (.iload 4, 2) := by decide +kernel
theorem dX2_leastSize_49 : decode cX2_leastSize 49 = .ok (.iadd, 1) := by decide +kernel
theorem dX2_leastSize_50 : decode cX2_leastSize 50 = .ok (.iconst 2, 1) := by decide +kernel
theorem dX2_leastSize_51 : decode cX2_leastSize 51 = .ok (.idiv, 1) := by decide +kernel
theorem dX2_leastSize_52 : decode cX2_leastSize 52 = .ok (.istore 6, 2) := by decide +kernel
theorem dX2_leastSize_54 : decode cX2_leastSize 54 = .ok (.aload_n 0, 1) := by decide +kernel
theorem dX2_leastSize_55 : decode cX2_leastSize 55 = .ok (.iload_n 1, 1) := by decide +kernel
theorem dX2_leastSize_56 : decode cX2_leastSize 56 = .ok (.iload 6, 2) := by decide +kernel
theorem dX2_leastSize_58 : decode cX2_leastSize 58 = .ok (.iload_n 2, 1) := by decide +kernel
theorem dX2_leastSize_59 : decode cX2_leastSize 59 = .ok (.iload 6, 2) := by decide +kernel
theorem dX2_leastSize_61 : decode cX2_leastSize 61 = .ok (.isub, 1) := by decide +kernel
theorem dX2_leastSize_62 : decode cX2_leastSize 62 = .ok (.invokevirtual 68, 3) := by decide +kernel
theorem dX2_leastSize_65 : decode cX2_leastSize 65 = .ok (.ifCond .eq 10, 3) := by decide +kernel
theorem dX2_leastSize_68 : decode cX2_leastSize 68 = .ok (.iload 6, 2) := by decide +kernel
theorem dX2_leastSize_70 : decode cX2_leastSize 70 = .ok (.istore 4, 2) := by decide +kernel
theorem dX2_leastSize_72 : decode cX2_leastSize 72 = .ok (.goto 8, 3) := by decide +kernel
theorem dX2_leastSize_75 : decode cX2_leastSize 75 = .ok (.iload 6, 2) := by decide +kernel
theorem dX2_leastSize_77 : decode cX2_leastSize 77 = .ok (.iconst 1, 1) := by decide +kernel
theorem dX2_leastSize_78 : decode cX2_leastSize 78 = .ok (.iadd, 1) := by decide +kernel
theorem dX2_leastSize_79 : decode cX2_leastSize 79 = .ok (.istore_n 3, 1) := by decide +kernel
theorem dX2_leastSize_80 : decode cX2_leastSize 80 = .ok (.iinc 5 1, 3) := by decide +kernel
theorem dX2_leastSize_83 : decode cX2_leastSize 83 = .ok (.goto (-50), 3) := by decide +kernel
theorem dX2_leastSize_86 : decode cX2_leastSize 86 = .ok (.iload_n 3, 1) := by decide +kernel
theorem dX2_leastSize_87 : decode cX2_leastSize 87 = .ok (.ireturn, 1) := by decide +kernel
set_option maxRecDepth 20000 in
theorem ggX2_isEnough_X3_widestProduct : GoodIn wsX2_isEnough wsX3_widestProduct := goodIn_r _ [8, 9, 10, 7, 11, 12, 13, 14, 15, 16, 17, 18, 19, 20, 21] (by decide +kernel) (by decide +kernel)
set_option maxRecDepth 20000 in
theorem gX2_isEnough_X3_widestProduct : GoodIn wsX2_isEnough (va_wsS RX2 64 yX3_widestProduct wsX3_widestProduct) := goodIn_app (goodIn_of _ (by decide +kernel)) ggX2_isEnough_X3_widestProduct
set_option maxRecDepth 20000 in
theorem ggX2_isEnough_X3_product : GoodIn wsX2_isEnough wsX3_product := goodIn_r _ [20, 21, 9, 10, 7, 11] (by decide +kernel) (by decide +kernel)
set_option maxRecDepth 20000 in
theorem gX2_isEnough_X3_product : GoodIn wsX2_isEnough (va_wsS RX2 72 yX3_product wsX3_product) := goodIn_app (goodIn_of _ (by decide +kernel)) ggX2_isEnough_X3_product
theorem dX2_isEnough_0 : decode cX2_isEnough 0 = .ok (.aload_n 0, 1) := by decide +kernel
theorem dX2_isEnough_1 : decode cX2_isEnough 1 = .ok (.getfield 27, 3) := by decide +kernel
theorem dX2_isEnough_4 : decode cX2_isEnough 4 = .ok (.iload_n 1, 1) := by decide +kernel
theorem dX2_isEnough_5 : decode cX2_isEnough 5 = .ok (.isub, 1) := by decide +kernel
theorem dX2_isEnough_6 : decode cX2_isEnough 6 = .ok (.iconst 1, 1) := by decide +kernel
theorem dX2_isEnough_7 : decode cX2_isEnough 7 = .ok (.isub, 1) := by decide +kernel
theorem dX2_isEnough_8 : decode cX2_isEnough 8 = .ok (.istore 4, 2) := by decide +kernel
theorem dX2_isEnough_10 : decode cX2_isEnough 10 = .ok (.iload_n 3, 1) := by decide +kernel
theorem dX2_isEnough_11 : decode cX2_isEnough 11 = .ok (.iload 4, 2) := by decide +kernel
theorem dX2_isEnough_13 : decode cX2_isEnough 13 = .ok (.aload_n 0, 1) := by decide +kernel
theorem dX2_isEnough_14 : decode cX2_isEnough 14 = .ok (.getfield 19, 3) := by decide +kernel
theorem dX2_isEnough_17 : decode cX2_isEnough 17 = .ok (.imul, 1) := by decide +kernel
theorem dX2_isEnough_18 : decode cX2_isEnough 18 = .ok (.if_icmp .le 5, 3) := by decide +kernel
theorem dX2_isEnough_21 : decode cX2_isEnough 21 = .ok (.iconst 0, 1) := by decide +kernel
theorem dX2_isEnough_22 : decode cX2_isEnough 22 = .ok (.ireturn, 1) := by decide +kernel
theorem dX2_isEnough_23 : decode cX2_isEnough 23 = .ok (.iload_n 3, 1) := by decide +kernel
theorem dX2_isEnough_24 : decode cX2_isEnough 24 = .ok (.iload 4, 2) := by decide +kernel
theorem dX2_isEnough_26 : decode cX2_isEnough 26 = .ok (.invokestatic 64, 3) := by decide +kernel
theorem dX2_isEnough_29 : decode cX2_isEnough 29 = .ok (.lstore 5, 2) := by decide +kernel
theorem dX2_isEnough_31 : decode cX2_isEnough 31 = .ok (.aload_n 0, 1) := by decide +kernel
theorem dX2_isEnough_32 : decode cX2_isEnough 32 = .ok (.getfield 15, 3) := by decide +kernel
theorem dX2_isEnough_35 : decode cX2_isEnough 35 = .ok (.iload_n 1, 1) := by decide +kernel
theorem dX2_isEnough_36 : decode cX2_isEnough 36 = .ok (.laload, 1) := by decide +kernel
theorem dX2_isEnough_37 : decode cX2_isEnough 37 = .ok (.iload_n 2, 1) := by decide +kernel
theorem dX2_isEnough_38 : decode cX2_isEnough 38 = .ok (.i2l, 1) := by decide +kernel
theorem dX2_isEnough_39 : decode cX2_isEnough 39 = .ok (.invokestatic 72, 3) := by decide +kernel
theorem dX2_isEnough_42 : decode cX2_isEnough 42 = .ok (.lload 5, 2) := by decide +kernel
theorem dX2_isEnough_44 : decode cX2_isEnough 44 = .ok (.invokestatic 72, 3) := by decide +kernel
theorem dX2_isEnough_47 : decode cX2_isEnough 47 = .ok (.aload_n 0, 1) := by decide +kernel
theorem dX2_isEnough_48 : decode cX2_isEnough 48 = .ok (.getfield 23, 3) := by decide +kernel
theorem dX2_isEnough_51 : decode cX2_isEnough 51 = .ok (.lcmp, 1) := by decide +kernel
theorem dX2_isEnough_52 : decode cX2_isEnough 52 = .ok (.ifCond .lt 7, 3) := by decide +kernel
theorem dX2_isEnough_55 : decode cX2_isEnough 55 = .ok (.iconst 1, 1) := by decide +kernel
theorem dX2_isEnough_56 : decode cX2_isEnough 56 = .ok (.goto 4, 3) := by decide +kernel
theorem dX2_isEnough_59 : decode cX2_isEnough 59 = .ok (.iconst 0, 1) := by decide +kernel
theorem dX2_isEnough_60 : decode cX2_isEnough 60 = .ok (.ireturn, 1) := by decide +kernel
theorem dX3_quotient_0 : decode cX3_quotient 0 = .ok (.lload_n 2, 1) := by decide +kernel
theorem dX3_quotient_1 : decode cX3_quotient 1 = .ok (.lconst 1, 1) := by decide +kernel
theorem dX3_quotient_2 : decode cX3_quotient 2 = .ok (.lcmp, 1) := by decide +kernel
theorem dX3_quotient_3 : decode cX3_quotient 3 = .ok (.ifCond .ge 7, 3) := by decide +kernel
theorem dX3_quotient_6 : decode cX3_quotient 6 = .ok (.lconst 0, 1) := by decide +kernel
theorem dX3_quotient_7 : decode cX3_quotient 7 = .ok (.goto 6, 3) := by decide +kernel
theorem dX3_quotient_10 : decode cX3_quotient 10 = .ok (.lload_n 0, 1) := by decide +kernel
theorem dX3_quotient_11 : decode cX3_quotient 11 = .ok (.lload_n 2, 1) := by decide +kernel
theorem dX3_quotient_12 : decode cX3_quotient 12 = .ok (.ldiv, 1) := by decide +kernel
theorem dX3_quotient_13 : decode cX3_quotient 13 = .ok (.lreturn, 1) := by decide +kernel
theorem dX3_remainder_0 : decode cX3_remainder 0 = .ok (.lload_n 2, 1) := by decide +kernel
theorem dX3_remainder_1 : decode cX3_remainder 1 = .ok (.lconst 1, 1) := by decide +kernel
theorem dX3_remainder_2 : decode cX3_remainder 2 = .ok (.lcmp, 1) := by decide +kernel
theorem dX3_remainder_3 : decode cX3_remainder 3 = .ok (.ifCond .ge 7, 3) := by decide +kernel
theorem dX3_remainder_6 : decode cX3_remainder 6 = .ok (.lconst 0, 1) := by decide +kernel
theorem dX3_remainder_7 : decode cX3_remainder 7 = .ok (.goto 6, 3) := by decide +kernel
theorem dX3_remainder_10 : decode cX3_remainder 10 = .ok (.lload_n 0, 1) := by decide +kernel
theorem dX3_remainder_11 : decode cX3_remainder 11 = .ok (.lload_n 2, 1) := by decide +kernel
theorem dX3_remainder_12 : decode cX3_remainder 12 = .ok (.lrem, 1) := by decide +kernel
theorem dX3_remainder_13 : decode cX3_remainder 13 = .ok (.lreturn, 1) := by decide +kernel
theorem dX3_quotientUp_0 : decode cX3_quotientUp 0 = .ok (.iload_n 1, 1) := by decide +kernel
theorem dX3_quotientUp_1 : decode cX3_quotientUp 1 = .ok (.iconst 1, 1) := by decide +kernel
theorem dX3_quotientUp_2 : decode cX3_quotientUp 2 = .ok (.if_icmp .ge 7, 3) := by decide +kernel
theorem dX3_quotientUp_5 : decode cX3_quotientUp 5 = .ok (.iconst 0, 1) := by decide +kernel
theorem dX3_quotientUp_6 : decode cX3_quotientUp 6 = .ok (.goto 10, 3) := by decide +kernel
theorem dX3_quotientUp_9 : decode cX3_quotientUp 9 = .ok (.iload_n 0, 1) := by decide +kernel
theorem dX3_quotientUp_10 : decode cX3_quotientUp 10 = .ok (.iload_n 1, 1) := by decide +kernel
theorem dX3_quotientUp_11 : decode cX3_quotientUp 11 = .ok (.iadd, 1) := by decide +kernel
theorem dX3_quotientUp_12 : decode cX3_quotientUp 12 = .ok (.iconst 1, 1) := by decide +kernel
theorem dX3_quotientUp_13 : decode cX3_quotientUp 13 = .ok (.isub, 1) := by decide +kernel
theorem dX3_quotientUp_14 : decode cX3_quotientUp 14 = .ok (.iload_n 1, 1) := by decide +kernel
theorem dX3_quotientUp_15 : decode cX3_quotientUp 15 = .ok (.idiv, 1) := by decide +kernel
theorem dX3_quotientUp_16 : decode cX3_quotientUp 16 = .ok (.ireturn, 1) := by decide +kernel
set_option maxRecDepth 20000 in
theorem ggX3_product_X3_quotient : GoodIn wsX3_product wsX3_quotient := goodIn_r _ [5] (by decide +kernel) (by decide +kernel)
set_option maxRecDepth 20000 in
theorem gX3_product_X3_quotient : GoodIn wsX3_product (va_wsS RX3 11 yX3_quotient wsX3_quotient) := goodIn_app (goodIn_of _ (by decide +kernel)) ggX3_product_X3_quotient
theorem dX3_product_0 : decode cX3_product 0 = .ok (.lload_n 0, 1) := by decide +kernel
theorem dX3_product_1 : decode cX3_product 1 = .ok (.ldc2_w 9, 3) := by decide +kernel
theorem dX3_product_4 : decode cX3_product 4 = .ok (.lload_n 2, 1) := by decide +kernel
theorem dX3_product_5 : decode cX3_product 5 = .ok (.invokestatic 11, 3) := by decide +kernel
theorem dX3_product_8 : decode cX3_product 8 = .ok (.lcmp, 1) := by decide +kernel
theorem dX3_product_9 : decode cX3_product 9 = .ok (.ifCond .le 9, 3) := by decide +kernel
theorem dX3_product_12 : decode cX3_product 12 = .ok (.ldc2_w 9, 3) := by decide +kernel
theorem dX3_product_15 : decode cX3_product 15 = .ok (.goto 6, 3) := by decide +kernel
theorem dX3_product_18 : decode cX3_product 18 = .ok (.lload_n 0, 1) := by decide +kernel
theorem dX3_product_19 : decode cX3_product 19 = .ok (.lload_n 2, 1) := by decide +kernel
