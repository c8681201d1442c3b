set_option maxRecDepth 20000 in
theorem gX4_sort_X2_spanBehind : GoodIn wsX4_sort (wsV RX4 121 RX2 yX2_spanBehind wsX2_spanBehind) := goodIn_app (goodIn_of _ (by decide +kernel)) ggX4_sort_X2_spanBehind
set_option maxRecDepth 20000 in
theorem ggX4_sort_X1_placeOf : GoodIn wsX4_sort wsX1_placeOf := goodIn_r _ [38, 39, 40, 41, 42, 43, 44, 45, 17, 46, 47, 48, 49, 50, 51, 52, 53, 54, 65, 66, 67, 68, 69, 70] (by decide +kernel) (by decide +kernel)
set_option maxRecDepth 20000 in
theorem gX4_sort_X1_placeOf : GoodIn wsX4_sort (wsV RX4 125 RX1 yX1_placeOf wsX1_placeOf) := goodIn_app (goodIn_of _ (by decide +kernel)) ggX4_sort_X1_placeOf
theorem dX4_sort_0 : decode cX4_sort 0 = .ok (.aload_n 0, 1) := by decide +kernel
theorem dX4_sort_1 : decode cX4_sort 1 = .ok (.iload_n 1, 1) := by decide +kernel
theorem dX4_sort_2 : decode cX4_sort 2 = .ok (.invokevirtual 118, 3) := by decide +kernel
theorem dX4_sort_5 : decode cX4_sort 5 = .ok (.ifCond .ne 11, 3) := by decide +kernel
theorem dX4_sort_8 : decode cX4_sort 8 = .ok (.aload_n 0, 1) := by decide +kernel
theorem dX4_sort_9 : decode cX4_sort 9 = .ok (.iload_n 2, 1) := by decide +kernel
theorem dX4_sort_10 : decode cX4_sort 10 = .ok (.invokevirtual 74, 3) := by decide +kernel
theorem dX4_sort_13 : decode cX4_sort 13 = .ok (.ifCond .eq 5, 3) := by decide +kernel
theorem dX4_sort_16 : decode cX4_sort 16 = .ok (.iconst (-1), 1) := by decide +kernel
theorem dX4_sort_17 : decode cX4_sort 17 = .ok (.ireturn, 1) := by decide +kernel
theorem dX4_sort_18 : decode cX4_sort 18 = .ok (.aload_n 0, 1) := by decide +kernel
theorem dX4_sort_19 : decode cX4_sort 19 = .ok (.getfield 28, 3) := by decide +kernel
theorem dX4_sort_22 : decode cX4_sort 22 = .ok (.invokevirtual 78, 3) := by decide +kernel
theorem dX4_sort_25 : decode cX4_sort 25 = .ok (.ifCond .eq 22, 3) := by decide +kernel
theorem dX4_sort_28 : decode cX4_sort 28 = .ok (.aload_n 0, 1) := by decide +kernel
theorem dX4_sort_29 : decode cX4_sort 29 = .ok (.getfield 35, 3) := by decide +kernel
theorem dX4_sort_32 : decode cX4_sort 32 = .ok (.iload_n 1, 1) := by decide +kernel
theorem dX4_sort_33 : decode cX4_sort 33 = .ok (.aload_n 0, 1) := by decide +kernel
theorem dX4_sort_34 : decode cX4_sort 34 = .ok (.getfield 28, 3) := by decide +kernel
theorem dX4_sort_37 : decode cX4_sort 37 = .ok (.iload_n 2, 1) := by decide +kernel
theorem dX4_sort_38 : decode cX4_sort 38 = .ok (.invokevirtual 121, 3) := by decide +kernel
theorem dX4_sort_41 : decode cX4_sort 41 = .ok (.invokevirtual 125, 3) := by decide +kernel
theorem dX4_sort_44 : decode cX4_sort 44 = .ok (.goto 5, 3) := by decide +kernel
theorem dX4_sort_47 : decode cX4_sort 47 = .ok (.bipush (-3), 2) := by decide +kernel
theorem dX4_sort_49 : decode cX4_sort 49 = .ok (.ireturn, 1) := by decide +kernel
set_option maxRecDepth 20000 in
theorem ggX4_order_X4_isUnknownItem : GoodIn wsX4_order wsX4_isUnknownItem := goodIn_r _ [7, 1, 2, 8, 9, 10, 11, 12, 13, 14, 15, 16, 17, 18, 19, 28, 29, 30, 31, 32, 33, 34, 35, 36, 37, 38, 39, 40, 41, 42, 43] (by decide +kernel) (by decide +kernel)
set_option maxRecDepth 20000 in
theorem gX4_order_X4_isUnknownItem : GoodIn wsX4_order (wsV RX4 118 RX4 yX4_isUnknownItem wsX4_isUnknownItem) := goodIn_app (goodIn_of _ (by decide +kernel)) ggX4_order_X4_isUnknownItem
set_option maxRecDepth 20000 in
theorem ggX4_order_X2_isLaid : GoodIn wsX4_order wsX2_isLaid := goodIn_r _ [12, 13, 33, 34, 35, 36, 37] (by decide +kernel) (by decide +kernel)
set_option maxRecDepth 20000 in
theorem gX4_order_X2_isLaid : GoodIn wsX4_order (wsV RX4 78 RX2 yX2_isLaid wsX2_isLaid) := goodIn_app (goodIn_of _ (by decide +kernel)) ggX4_order_X2_isLaid
set_option maxRecDepth 20000 in
theorem ggX4_order_X1_itemAt : GoodIn wsX4_order wsX1_itemAt := goodIn_r _ [23, 24, 25, 26, 27, 38, 39, 40, 41, 42, 43] (by decide +kernel) (by decide +kernel)
set_option maxRecDepth 20000 in
theorem gX4_order_X1_itemAt : GoodIn wsX4_order (wsV RX4 129 RX1 yX1_itemAt wsX1_itemAt) := goodIn_app (goodIn_of _ (by decide +kernel)) ggX4_order_X1_itemAt
theorem dX4_order_0 : decode cX4_order 0 = .ok (.aload_n 0, 1) := by decide +kernel
theorem dX4_order_1 : decode cX4_order 1 = .ok (.iload_n 1, 1) := by decide +kernel
theorem dX4_order_2 : decode cX4_order 2 = .ok (.invokevirtual 118, 3) := by decide +kernel
theorem dX4_order_5 : decode cX4_order 5 = .ok (.ifCond .eq 5, 3) := by decide +kernel
theorem dX4_order_8 : decode cX4_order 8 = .ok (.iconst (-1), 1) := by decide +kernel
theorem dX4_order_9 : decode cX4_order 9 = .ok (.ireturn, 1) := by decide +kernel
theorem dX4_order_10 : decode cX4_order 10 = .ok (.aload_n 0, 1) := by decide +kernel
theorem dX4_order_11 : decode cX4_order 11 = .ok (.getfield 28, 3) := by decide +kernel
theorem dX4_order_14 : decode cX4_order 14 = .ok (.invokevirtual 78, 3) := by decide +kernel
theorem dX4_order_17 : decode cX4_order 17 = .ok (.ifCond .eq 14, 3) := by decide +kernel
theorem dX4_order_20 : decode cX4_order 20 = .ok (.aload_n 0, 1) := by decide +kernel
theorem dX4_order_21 : decode cX4_order 21 = .ok (.getfield 35, 3) := by decide +kernel
theorem dX4_order_24 : decode cX4_order 24 = .ok (.iload_n 1, 1) := by decide +kernel
theorem dX4_order_25 : decode cX4_order 25 = .ok (.invokevirtual 129, 3) := by decide +kernel
theorem dX4_order_28 : decode cX4_order 28 = .ok (.goto 5, 3) := by decide +kernel
theorem dX4_order_31 : decode cX4_order 31 = .ok (.bipush (-3), 2) := by decide +kernel
theorem dX4_order_33 : decode cX4_order 33 = .ok (.ireturn, 1) := by decide +kernel
set_option maxRecDepth 20000 in
theorem ggX4_digits_X2_hasPass : GoodIn wsX4_digits wsX2_hasPass := goodIn_r _ [9, 10, 28, 29, 30, 31, 32] (by decide +kernel) (by decide +kernel)
set_option maxRecDepth 20000 in
theorem gX4_digits_X2_hasPass : GoodIn wsX4_digits (wsV RX4 132 RX2 yX2_hasPass wsX2_hasPass) := goodIn_app (goodIn_of _ (by decide +kernel)) ggX4_digits_X2_hasPass
set_option maxRecDepth 20000 in
theorem ggX4_digits_X2_sizeOf : GoodIn wsX4_digits wsX2_sizeOf := goodIn_r _ [14, 15, 16, 6, 7, 8, 9, 10, 28, 29, 30, 31, 32] (by decide +kernel) (by decide +kernel)
set_option maxRecDepth 20000 in
theorem gX4_digits_X2_sizeOf : GoodIn wsX4_digits (wsV RX4 140 RX2 yX2_sizeOf wsX2_sizeOf) := goodIn_app (goodIn_of _ (by decide +kernel)) ggX4_digits_X2_sizeOf
theorem dX4_digits_0 : decode cX4_digits 0 = .ok (.aload_n 0, 1) := by decide +kernel
theorem dX4_digits_1 : decode cX4_digits 1 = .ok (.getfield 28, 3) := by decide +kernel
theorem dX4_digits_4 : decode cX4_digits 4 = .ok (.iload_n 1, 1) := by decide +kernel
theorem dX4_digits_5 : decode cX4_digits 5 = .ok (.invokevirtual 132, 3) := by decide +kernel
theorem dX4_digits_8 : decode cX4_digits 8 = .ok (.ifCond .ne 13, 3) := by decide +kernel
theorem dX4_digits_11 : decode cX4_digits 11 = .ok (.new 135, 3) := by decide +kernel
theorem dX4_digits_14 : decode cX4_digits 14 = .ok (.dup, 1) := by decide +kernel
theorem dX4_digits_15 : decode cX4_digits 15 = .ok (.ldc 137, 2) := by decide +kernel
theorem dX4_digits_17 : decode cX4_digits 17 = .ok (.invokespecial 139, 3) := by decide +kernel
theorem dX4_digits_20 : decode cX4_digits 20 = .ok (.athrow, 1) := by decide +kernel
theorem dX4_digits_21 : decode cX4_digits 21 = .ok (.aload_n 0, 1) := by decide +kernel
theorem dX4_digits_22 : decode cX4_digits 22 = .ok (.getfield 28, 3) := by decide +kernel
theorem dX4_digits_25 : decode cX4_digits 25 = .ok (.iload_n 1, 1) := by decide +kernel
theorem dX4_digits_26 : decode cX4_digits 26 = .ok (.invokevirtual 140, 3) := by decide +kernel
theorem dX4_digits_29 : decode cX4_digits 29 = .ok (.ireturn, 1) := by decide +kernel
set_option maxRecDepth 20000 in
theorem ggX4_least_X4_isRound : GoodIn wsX4_least wsX4_isRound := goodIn_r _ [5, 6] (by decide +kernel) (by decide +kernel)
set_option maxRecDepth 20000 in
theorem gX4_least_X4_isRound : GoodIn wsX4_least (va_wsS RX4 56 yX4_isRound wsX4_isRound) := goodIn_app (goodIn_of _ (by decide +kernel)) ggX4_least_X4_isRound
set_option maxRecDepth 20000 in
theorem ggX4_least_X3_leastExponent : GoodIn wsX4_least wsX3_leastExponent := goodIn_r _ [10, 11, 12, 9, 13, 14, 15, 16, 17] (by decide +kernel) (by decide +kernel)
set_option maxRecDepth 20000 in
theorem gX4_least_X3_leastExponent : GoodIn wsX4_least (va_wsS RX4 143 yX3_leastExponent wsX3_leastExponent) := goodIn_app (goodIn_of _ (by decide +kernel)) ggX4_least_X3_leastExponent
theorem dX4_least_0 : decode cX4_least 0 = .ok (.aload_n 0, 1) := by decide +kernel
theorem dX4_least_1 : decode cX4_least 1 = .ok (.getfield 19, 3) := by decide +kernel
theorem dX4_least_4 : decode cX4_least 4 = .ok (.iconst 2, 1) := by decide +kernel
theorem dX4_least_5 : decode cX4_least 5 = .ok (.if_icmp .lt 27, 3) := by decide +kernel
theorem dX4_least_8 : decode cX4_least 8 = .ok (.lload_n 1, 1) := by decide +kernel
theorem dX4_least_9 : decode cX4_least 9 = .ok (.invokestatic 56, 3) := by decide +kernel
theorem dX4_least_12 : decode cX4_least 12 = .ok (.ifCond .eq 20, 3) := by decide +kernel
theorem dX4_least_15 : decode cX4_least 15 = .ok (.iload_n 3, 1) := by decide +kernel
theorem dX4_least_16 : decode cX4_least 16 = .ok (.aload_n 0, 1) := by decide +kernel
theorem dX4_least_17 : decode cX4_least 17 = .ok (.getfield 19, 3) := by decide +kernel
theorem dX4_least_20 : decode cX4_least 20 = .ok (.i2l, 1) := by decide +kernel
theorem dX4_least_21 : decode cX4_least 21 = .ok (.lload_n 1, 1) := by decide +kernel
theorem dX4_least_22 : decode cX4_least 22 = .ok (.invokestatic 143, 3) := by decide +kernel
theorem dX4_least_25 : decode cX4_least 25 = .ok (.if_icmp .ne 7, 3) := by decide +kernel
theorem dX4_least_28 : decode cX4_least 28 = .ok (.iconst 1, 1) := by decide +kernel
theorem dX4_least_29 : decode cX4_least 29 = .ok (.goto 4, 3) := by decide +kernel
theorem dX4_least_32 : decode cX4_least 32 = .ok (.iconst 0, 1) := by decide +kernel
theorem dX4_least_33 : decode cX4_least 33 = .ok (.ireturn, 1) := by decide +kernel
theorem dX4_isRound_0 : decode cX4_isRound 0 = .ok (.lload_n 0, 1) := by decide +kernel
theorem dX4_isRound_1 : decode cX4_isRound 1 = .ok (.lconst 1, 1) := by decide +kernel
theorem dX4_isRound_2 : decode cX4_isRound 2 = .ok (.lcmp, 1) := by decide +kernel
theorem dX4_isRound_3 : decode cX4_isRound 3 = .ok (.ifCond .lt 15, 3) := by decide +kernel
theorem dX4_isRound_6 : decode cX4_isRound 6 = .ok (.lload_n 0, 1) := by decide +kernel
theorem dX4_isRound_7 : decode cX4_isRound 7 = .ok (.ldc2_w 147, 3) := by decide +kernel
theorem dX4_isRound_10 : decode cX4_isRound 10 = .ok (.lcmp, 1) := by decide +kernel
theorem dX4_isRound_11 : decode cX4_isRound 11 = .ok (.ifCond .gt 7, 3) := by decide +kernel
theorem dX4_isRound_14 : decode cX4_isRound 14 = .ok (.iconst 1, 1) := by decide +kernel
theorem dX4_isRound_15 : decode cX4_isRound 15 = .ok (.goto 4, 3) := by decide +kernel
theorem dX4_isRound_18 : decode cX4_isRound 18 = .ok (.iconst 0, 1) := by decide +kernel
theorem dX4_isRound_19 : decode cX4_isRound 19 = .ok (.ireturn, 1) := by decide +kernel
set_option maxRecDepth 20000 in
theorem ggX4_isUnknownPoint_X2_isLaid : GoodIn wsX4_isUnknownPoint wsX2_isLaid := goodIn_r _ [6, 7, 17, 18, 19, 20, 21] (by decide +kernel) (by decide +kernel)
set_option maxRecDepth 20000 in
theorem gX4_isUnknownPoint_X2_isLaid : GoodIn wsX4_isUnknownPoint (wsV RX4 78 RX2 yX2_isLaid wsX2_isLaid) := goodIn_app (goodIn_of _ (by decide +kernel)) ggX4_isUnknownPoint_X2_isLaid
set_option maxRecDepth 20000 in
theorem ggX4_isUnknownPoint_X2_hasPoint : GoodIn wsX4_isUnknownPoint wsX2_hasPoint := goodIn_r _ [11, 7, 17, 18, 19, 20, 21] (by decide +kernel) (by decide +kernel)
set_option maxRecDepth 20000 in
theorem gX4_isUnknownPoint_X2_hasPoint : GoodIn wsX4_isUnknownPoint (wsV RX4 149 RX2 yX2_hasPoint wsX2_hasPoint) := goodIn_app (goodIn_of _ (by decide +kernel)) ggX4_isUnknownPoint_X2_hasPoint
theorem dX4_isUnknownPoint_0 : decode cX4_isUnknownPoint 0 = .ok (.lload_n 1, 1) := by decide +kernel
theorem dX4_isUnknownPoint_1 : decode cX4_isUnknownPoint 1 = .ok (.lconst 0, 1) := by decide +kernel
theorem dX4_isUnknownPoint_2 : decode cX4_isUnknownPoint 2 = .ok (.lcmp, 1) := by decide +kernel
theorem dX4_isUnknownPoint_3 : decode cX4_isUnknownPoint 3 = .ok (.ifCond .lt 24, 3) := by decide +kernel
theorem dX4_isUnknownPoint_6 : decode cX4_isUnknownPoint 6 = .ok (.aload_n 0, 1) := by decide +kernel
theorem dX4_isUnknownPoint_7 : decode cX4_isUnknownPoint 7 = .ok (.getfield 28, 3) := by decide +kernel
theorem dX4_isUnknownPoint_10 : decode cX4_isUnknownPoint 10 = .ok (.invokevirtual 78, 3) := by decide +kernel
theorem dX4_isUnknownPoint_13 : decode cX4_isUnknownPoint 13 = .ok (.ifCond .eq 18, 3) := by decide +kernel
theorem dX4_isUnknownPoint_16 : decode cX4_isUnknownPoint 16 = .ok (.aload_n 0, 1) := by decide +kernel
theorem dX4_isUnknownPoint_17 : decode cX4_isUnknownPoint 17 = .ok (.getfield 28, 3) := by decide +kernel
theorem dX4_isUnknownPoint_20 : decode cX4_isUnknownPoint 20 = .ok (.lload_n 1, 1) := by decide +kernel
theorem dX4_isUnknownPoint_21 : decode cX4_isUnknownPoint 21 = .ok (.invokevirtual 149, 3) := by decide +kernel
theorem dX4_isUnknownPoint_24 : decode cX4_isUnknownPoint 24 = .ok (.ifCond .ne 7, 3) := by decide +kernel
theorem dX4_isUnknownPoint_27 : decode cX4_isUnknownPoint 27 = .ok (.iconst 1, 1) := by decide +kernel
theorem dX4_isUnknownPoint_28 : decode cX4_isUnknownPoint 28 = .ok (.goto 4, 3) := by decide +kernel
theorem dX4_isUnknownPoint_31 : decode cX4_isUnknownPoint 31 = .ok (.iconst 0, 1) := by decide +kernel
theorem dX4_isUnknownPoint_32 : decode cX4_isUnknownPoint 32 = .ok (.ireturn, 1) := by decide +kernel
set_option maxRecDepth 20000 in
theorem ggX4_isUnknownPass_X2_isLaid : GoodIn wsX4_isUnknownPass wsX2_isLaid := goodIn_r _ [6, 7, 18, 19, 20, 21, 22] (by decide +kernel) (by decide +kernel)
set_option maxRecDepth 20000 in
theorem gX4_isUnknownPass_X2_isLaid : GoodIn wsX4_isUnknownPass (wsV RX4 78 RX2 yX2_isLaid wsX2_isLaid) := goodIn_app (goodIn_of _ (by decide +kernel)) ggX4_isUnknownPass_X2_isLaid
set_option maxRecDepth 20000 in
theorem ggX4_isUnknownPass_X2_hasPass : GoodIn wsX4_isUnknownPass wsX2_hasPass := goodIn_r _ [11, 12, 18, 19, 20, 21, 22] (by decide +kernel) (by decide +kernel)
set_option maxRecDepth 20000 in
theorem gX4_isUnknownPass_X2_hasPass : GoodIn wsX4_isUnknownPass (wsV RX4 132 RX2 yX2_hasPass wsX2_hasPass) := goodIn_app (goodIn_of _ (by decide +kernel)) ggX4_isUnknownPass_X2_hasPass
theorem dX4_isUnknownPass_0 : decode cX4_isUnknownPass 0 = .ok (.iload_n 1, 1) := by decide +kernel
theorem dX4_isUnknownPass_1 : decode cX4_isUnknownPass 1 = .ok (.ifCond .lt 24, 3) := by decide +kernel
theorem dX4_isUnknownPass_4 : decode cX4_isUnknownPass 4 = .ok (.aload_n 0, 1) := by decide +kernel
theorem dX4_isUnknownPass_5 : decode cX4_isUnknownPass 5 = .ok (.getfield 28, 3) := by decide +kernel
theorem dX4_isUnknownPass_8 : decode cX4_isUnknownPass 8 = .ok (.invokevirtual 78, 3) := by decide +kernel
theorem dX4_isUnknownPass_11 : decode cX4_isUnknownPass 11 = .ok (.ifCond .eq 18, 3) := by decide +kernel
theorem dX4_isUnknownPass_14 : decode cX4_isUnknownPass 14 = .ok (.aload_n 0, 1) := by decide +kernel
theorem dX4_isUnknownPass_15 : decode cX4_isUnknownPass 15 = .ok (.getfield 28, 3) := by decide +kernel
theorem dX4_isUnknownPass_18 : decode cX4_isUnknownPass 18 = .ok (.iload_n 1, 1) := by decide +kernel
theorem dX4_isUnknownPass_19 : decode cX4_isUnknownPass 19 = .ok (.invokevirtual 132, 3) := by decide +kernel
theorem dX4_isUnknownPass_22 : decode cX4_isUnknownPass 22 = .ok (.ifCond .ne 7, 3) := by decide +kernel
theorem dX4_isUnknownPass_25 : decode cX4_isUnknownPass 25 = .ok (.iconst 1, 1) := by decide +kernel
theorem dX4_isUnknownPass_26 : decode cX4_isUnknownPass 26 = .ok (.goto 4, 3) := by decide +kernel
theorem dX4_isUnknownPass_29 : decode cX4_isUnknownPass 29 = .ok (.iconst 0, 1) := by decide +kernel
theorem dX4_isUnknownPass_30 : decode cX4_isUnknownPass 30 = .ok (.ireturn, 1) := by decide +kernel
set_option maxRecDepth 20000 in
theorem ggX4_isUnknownItem_X2_isLaid : GoodIn wsX4_isUnknownItem wsX2_isLaid := goodIn_r _ [7, 8, 20, 21, 22, 23, 24] (by decide +kernel) (by decide +kernel)
set_option maxRecDepth 20000 in
theorem gX4_isUnknownItem_X2_isLaid : GoodIn wsX4_isUnknownItem (wsV RX4 78 RX2 yX2_isLaid wsX2_isLaid) := goodIn_app (goodIn_of _ (by decide +kernel)) ggX4_isUnknownItem_X2_isLaid
set_option maxRecDepth 20000 in
theorem ggX4_isUnknownItem_X1_total : GoodIn wsX4_isUnknownItem wsX1_total := goodIn_r _ [13, 14, 25, 26, 27, 28, 29, 30] (by decide +kernel) (by decide +kernel)
set_option maxRecDepth 20000 in
theorem gX4_isUnknownItem_X1_total : GoodIn wsX4_isUnknownItem (wsV RX4 103 RX1 yX1_total wsX1_total) := goodIn_app (goodIn_of _ (by decide +kernel)) ggX4_isUnknownItem_X1_total
theorem dX4_isUnknownItem_0 : decode cX4_isUnknownItem 0 = .ok (.iload_n 1, 1) := by decide +kernel
theorem dX4_isUnknownItem_1 : decode cX4_isUnknownItem 1 = .ok (.ifCond .lt 24, 3) := by decide +kernel
theorem dX4_isUnknownItem_4 : decode cX4_isUnknownItem 4 = .ok (.aload_n 0, 1) := by decide +kernel
theorem dX4_isUnknownItem_5 : decode cX4_isUnknownItem 5 = .ok (.getfield 28, 3) := by decide +kernel
theorem dX4_isUnknownItem_8 : decode cX4_isUnknownItem 8 = .ok (.invokevirtual 78, 3) := by decide +kernel
theorem dX4_isUnknownItem_11 : decode cX4_isUnknownItem 11 = .ok (.ifCond .eq 18, 3) := by decide +kernel
theorem dX4_isUnknownItem_14 : decode cX4_isUnknownItem 14 = .ok (.iload_n 1, 1) := by decide +kernel
theorem dX4_isUnknownItem_15 : decode cX4_isUnknownItem 15 = .ok (.aload_n 0, 1) := by decide +kernel
theorem dX4_isUnknownItem_16 : decode cX4_isUnknownItem 16 = .ok (.getfield 35, 3) := by decide +kernel
theorem dX4_isUnknownItem_19 : decode cX4_isUnknownItem 19 = .ok (.invokevirtual 103, 3) := by decide +kernel
theorem dX4_isUnknownItem_22 : decode cX4_isUnknownItem 22 = .ok (.if_icmp .lt 7, 3) := by decide +kernel
theorem dX4_isUnknownItem_25 : decode cX4_isUnknownItem 25 = .ok (.iconst 1, 1) := by decide +kernel
theorem dX4_isUnknownItem_26 : decode cX4_isUnknownItem 26 = .ok (.goto 4, 3) := by decide +kernel
theorem dX4_isUnknownItem_29 : decode cX4_isUnknownItem 29 = .ok (.iconst 0, 1) := by decide +kernel
theorem dX4_isUnknownItem_30 : decode cX4_isUnknownItem 30 = .ok (.ireturn, 1) := by decide +kernel
set_option maxRecDepth 20000 in
theorem ggX4_heightOf_X0_valueOf : GoodIn wsX4_heightOf wsX0_valueOf := goodIn_r _ [6, 7, 8, 9, 10, 11, 5, 12, 13, 19, 20, 21, 22] (by decide +kernel) (by decide +kernel)
set_option maxRecDepth 20000 in
theorem gX4_heightOf_X0_valueOf : GoodIn wsX4_heightOf (wsV RX4 152 RX0 yX0_valueOf wsX0_valueOf) := goodIn_app (goodIn_of _ (by decide +kernel)) ggX4_heightOf_X0_valueOf
theorem dX4_heightOf_0 : decode cX4_heightOf 0 = .ok (.aload_n 0, 1) := by decide +kernel
theorem dX4_heightOf_1 : decode cX4_heightOf 1 = .ok (.getfield 42, 3) := by decide +kernel
theorem dX4_heightOf_4 : decode cX4_heightOf 4 = .ok (.iload_n 1, 1) := by decide +kernel
theorem dX4_heightOf_5 : decode cX4_heightOf 5 = .ok (.invokevirtual 152, 3) := by decide +kernel
theorem dX4_heightOf_8 : decode cX4_heightOf 8 = .ok (.istore_n 2, 1) := by decide +kernel
theorem dX4_heightOf_9 : decode cX4_heightOf 9 = .ok (.iload_n 2, 1) := by decide +kernel
theorem dX4_heightOf_10 : decode cX4_heightOf 10 = .ok (.ifCond .ne 9, 3) := by decide +kernel
theorem dX4_heightOf_13 : decode cX4_heightOf 13 = .ok (.sipush 1000, 3) := by decide +kernel
theorem dX4_heightOf_16 : decode cX4_heightOf 16 = .ok (.goto 4, 3) := by decide +kernel
theorem dX4_heightOf_19 : decode cX4_heightOf 19 = .ok (.iload_n 2, 1) := by decide +kernel
theorem dX4_heightOf_20 : decode cX4_heightOf 20 = .ok (.ireturn, 1) := by decide +kernel
set_option maxRecDepth 20000 in
theorem ggX4_traysOfPass_X0_clear : GoodIn wsX4_traysOfPass wsX0_clear := goodIn_r _ [8, 9, 10, 11, 91, 92, 93, 94] (by decide +kernel) (by decide +kernel)
set_option maxRecDepth 20000 in
theorem gX4_traysOfPass_X0_clear : GoodIn wsX4_traysOfPass (wsV RX4 155 RX0 yX0_clear wsX0_clear) := goodIn_app (goodIn_of _ (by decide +kernel)) ggX4_traysOfPass_X0_clear
set_option maxRecDepth 20000 in
theorem ggX4_traysOfPass_X1_groupCount : GoodIn wsX4_traysOfPass wsX1_groupCount := goodIn_r _ [16, 17, 95, 96, 97, 98, 99, 100] (by decide +kernel) (by decide +kernel)
set_option maxRecDepth 20000 in
theorem gX4_traysOfPass_X1_groupCount : GoodIn wsX4_traysOfPass (wsV RX4 156 RX1 yX1_groupCount wsX1_groupCount) := goodIn_app (goodIn_of _ (by decide +kernel)) ggX4_traysOfPass_X1_groupCount
set_option maxRecDepth 20000 in
theorem ggX4_traysOfPass_X1_pointOf : GoodIn wsX4_traysOfPass wsX1_pointOf := goodIn_r _ [21, 22, 23, 24, 25, 15, 26, 17, 95, 96, 97, 98, 99, 100] (by decide +kernel) (by decide +kernel)
set_option maxRecDepth 20000 in
theorem gX4_traysOfPass_X1_pointOf : GoodIn wsX4_traysOfPass (wsV RX4 159 RX1 yX1_pointOf wsX1_pointOf) := goodIn_app (goodIn_of _ (by decide +kernel)) ggX4_traysOfPass_X1_pointOf
set_option maxRecDepth 20000 in
theorem ggX4_traysOfPass_X2_binOf : GoodIn wsX4_traysOfPass wsX2_binOf := goodIn_r _ [31, 32, 33, 34, 35, 36, 30, 37, 38, 39, 40, 41, 42, 43, 44, 45, 101, 102, 103, 104, 105] (by decide +kernel) (by decide +kernel)
set_option maxRecDepth 20000 in
theorem gX4_traysOfPass_X2_binOf : GoodIn wsX4_traysOfPass (wsV RX4 82 RX2 yX2_binOf wsX2_binOf) := goodIn_app (goodIn_of _ (by decide +kernel)) ggX4_traysOfPass_X2_binOf
set_option maxRecDepth 20000 in
theorem ggX4_traysOfPass_X0_valueOf : GoodIn wsX4_traysOfPass wsX0_valueOf := goodIn_r _ [49, 10, 50, 51, 52, 53, 7, 54, 55, 91, 92, 93, 94] (by decide +kernel) (by decide +kernel)
set_option maxRecDepth 20000 in
theorem gX4_traysOfPass_X0_valueOf : GoodIn wsX4_traysOfPass (wsV RX4 152 RX0 yX0_valueOf wsX0_valueOf) := goodIn_app (goodIn_of _ (by decide +kernel)) ggX4_traysOfPass_X0_valueOf
set_option maxRecDepth 20000 in
theorem ggX4_traysOfPass_X1_countOf : GoodIn wsX4_traysOfPass wsX1_countOf := goodIn_r _ [59, 60, 23, 24, 25, 15, 26, 17, 95, 96, 97, 98, 99, 100] (by decide +kernel) (by decide +kernel)
set_option maxRecDepth 20000 in
theorem gX4_traysOfPass_X1_countOf : GoodIn wsX4_traysOfPass (wsV RX4 162 RX1 yX1_countOf wsX1_countOf) := goodIn_app (goodIn_of _ (by decide +kernel)) ggX4_traysOfPass_X1_countOf
set_option maxRecDepth 20000 in
theorem ggX4_traysOfPass_X0_put : GoodIn wsX4_traysOfPass wsX0_put := goodIn_r _ [64, 10, 9, 11, 50, 51, 52, 53, 7, 54, 55, 91, 92, 93, 94] (by decide +kernel) (by decide +kernel)
set_option maxRecDepth 20000 in
theorem gX4_traysOfPass_X0_put : GoodIn wsX4_traysOfPass (wsV RX4 111 RX0 yX0_put wsX0_put) := goodIn_app (goodIn_of _ (by decide +kernel)) ggX4_traysOfPass_X0_put
set_option maxRecDepth 20000 in
theorem ggX4_traysOfPass_X0_size : GoodIn wsX4_traysOfPass wsX0_size := goodIn_r _ [68, 9, 91, 92, 93, 94] (by decide +kernel) (by decide +kernel)
set_option maxRecDepth 20000 in
theorem gX4_traysOfPass_X0_size : GoodIn wsX4_traysOfPass (wsV RX4 165 RX0 yX0_size wsX0_size) := goodIn_app (goodIn_of _ (by decide +kernel)) ggX4_traysOfPass_X0_size
set_option maxRecDepth 20000 in
theorem ggX4_traysOfPass_X0_valueAt : GoodIn wsX4_traysOfPass wsX0_valueAt := goodIn_r _ [72, 9, 50, 11, 91, 92, 93, 94] (by decide +kernel) (by decide +kernel)
set_option maxRecDepth 20000 in
theorem gX4_traysOfPass_X0_valueAt : GoodIn wsX4_traysOfPass (wsV RX4 168 RX0 yX0_valueAt wsX0_valueAt) := goodIn_app (goodIn_of _ (by decide +kernel)) ggX4_traysOfPass_X0_valueAt
set_option maxRecDepth 20000 in
theorem ggX4_traysOfPass_X0_binAt : GoodIn wsX4_traysOfPass wsX0_binAt := goodIn_r _ [76, 9, 10, 11, 91, 92, 93, 94] (by decide +kernel) (by decide +kernel)
set_option maxRecDepth 20000 in
theorem gX4_traysOfPass_X0_binAt : GoodIn wsX4_traysOfPass (wsV RX4 171 RX0 yX0_binAt wsX0_binAt) := goodIn_app (goodIn_of _ (by decide +kernel)) ggX4_traysOfPass_X0_binAt
set_option maxRecDepth 20000 in
theorem ggX4_traysOfPass_X4_heightOf : GoodIn wsX4_traysOfPass wsX4_heightOf := goodIn_r _ [81, 82, 46, 47, 48, 7, 49, 10, 50, 51, 52, 53, 54, 55, 86, 87, 88, 89, 90, 91, 92, 93, 94] (by decide +kernel) (by decide +kernel)
set_option maxRecDepth 20000 in
theorem gX4_traysOfPass_X4_heightOf : GoodIn wsX4_traysOfPass (wsV RX4 107 RX4 yX4_heightOf wsX4_heightOf) := goodIn_app (goodIn_of _ (by decide +kernel)) ggX4_traysOfPass_X4_heightOf
set_option maxRecDepth 20000 in
theorem ggX4_traysOfPass_X3_quotientUp : GoodIn wsX4_traysOfPass wsX3_quotientUp := goodIn_r _ [85] (by decide +kernel) (by decide +kernel)
set_option maxRecDepth 20000 in
theorem gX4_traysOfPass_X3_quotientUp : GoodIn wsX4_traysOfPass (va_wsS RX4 174 yX3_quotientUp wsX3_quotientUp) := goodIn_app (goodIn_of _ (by decide +kernel)) ggX4_traysOfPass_X3_quotientUp
theorem dX4_traysOfPass_0 : decode cX4_traysOfPass 0 = .ok (.aload_n 0, 1) := by decide +kernel
theorem dX4_traysOfPass_1 : decode cX4_traysOfPass 1 = .ok (.getfield 46, 3) := by decide +kernel
theorem dX4_traysOfPass_4 : decode cX4_traysOfPass 4 = .ok (.invokevirtual 155, 3) := by decide +kernel
theorem dX4_traysOfPass_7 : decode cX4_traysOfPass 7 = .ok (.iconst 0, 1) := by decide +kernel
theorem dX4_traysOfPass_8 : decode cX4_traysOfPass 8 = .ok (.istore_n 2, 1) := by decide +kernel
theorem dX4_traysOfPass_9 : decode cX4_traysOfPass 9 = .ok (.iload_n 2, 1) := by decide +kernel
theorem dX4_traysOfPass_10 : decode cX4_traysOfPass 10 = .ok (.aload_n 0, 1) := by decide +kernel
theorem dX4_traysOfPass_11 : decode cX4_traysOfPass 11 = .ok (.getfield 35, 3) := by decide +kernel
theorem dX4_traysOfPass_14 : decode cX4_traysOfPass 14 = .ok (.invokevirtual 156, 3) := by decide +kernel
theorem dX4_traysOfPass_17 : decode cX4_traysOfPass 17 = .ok (.if_icmp .ge 52, 3) := by decide +kernel
theorem dX4_traysOfPass_20 : decode cX4_traysOfPass 20 = .ok (.aload_n 0, 1) := by decide +kernel
theorem dX4_traysOfPass_21 : decode cX4_traysOfPass 21 = .ok (.getfield 28, 3) := by decide +kernel
theorem dX4_traysOfPass_24 : decode cX4_traysOfPass 24 = .ok (.aload_n 0, 1) := by decide +kernel
theorem dX4_traysOfPass_25 : decode cX4_traysOfPass 25 = .ok (.getfield 35, 3) := by decide +kernel
theorem dX4_traysOfPass_28 : decode cX4_traysOfPass 28 = .ok (.iload_n 2, 1) := by decide +kernel
theorem dX4_traysOfPass_29 : decode cX4_traysOfPass 29 = .ok (.invokevirtual 159, 3) := by decide +kernel
theorem dX4_traysOfPass_32 : decode cX4_traysOfPass 32 = .ok (.iload_n 1, 1) := by decide +kernel
theorem dX4_traysOfPass_33 : decode cX4_traysOfPass 33 = .ok (.invokevirtual 82, 3) := by decide +kernel
theorem dX4_traysOfPass_36 : decode cX4_traysOfPass 36 = .ok (.istore_n 3, 1) := by decide +kernel
theorem dX4_traysOfPass_37 : decode cX4_traysOfPass 37 = .ok (.aload_n 0, 1) := by decide +kernel
theorem dX4_traysOfPass_38 : decode cX4_traysOfPass 38 = .ok (.getfield 46, 3) := by decide +kernel
theorem dX4_traysOfPass_41 : decode cX4_traysOfPass 41 = .ok (.iload_n 3, 1) := by decide +kernel
theorem dX4_traysOfPass_42 : decode cX4_traysOfPass 42 = .ok (.aload_n 0, 1) := by decide +kernel
theorem dX4_traysOfPass_43 : decode cX4_traysOfPass 43 = .ok (.getfield 46, 3) := by decide +kernel
theorem dX4_traysOfPass_46 : decode cX4_traysOfPass 46 = .ok (.iload_n 3, 1) := by decide +kernel
theorem dX4_traysOfPass_47 : decode cX4_traysOfPass 47 = .ok (.invokevirtual 152, 3) := by decide +kernel
theorem dX4_traysOfPass_50 : decode cX4_traysOfPass 50 = .ok (.aload_n 0, 1) := by decide +kernel
theorem dX4_traysOfPass_51 : decode cX4_traysOfPass 51 = .ok (.getfield 35, 3) := by decide +kernel
theorem dX4_traysOfPass_54 : decode cX4_traysOfPass 54 = .ok (.iload_n 2, 1) := by decide +kernel
theorem dX4_traysOfPass_55 : decode cX4_traysOfPass 55 = .ok (.invokevirtual 162, 3) := by decide +kernel
theorem dX4_traysOfPass_58 : decode cX4_traysOfPass 58 = .ok (.iadd, 1) := by decide +kernel
theorem dX4_traysOfPass_59 : decode cX4_traysOfPass 59 = .ok (.invokevirtual 111, 3) := by decide +kernel
theorem dX4_traysOfPass_62 : decode cX4_traysOfPass 62 = .ok (.pop, 1) := by decide +kernel
theorem dX4_traysOfPass_63 : decode cX4_traysOfPass 63 = .ok (.iinc 2 1, 3) := by decide +kernel
theorem dX4_traysOfPass_66 : decode cX4_traysOfPass 66 = .ok (.goto (-57), 3) := by decide +kernel
theorem dX4_traysOfPass_69 : decode cX4_traysOfPass 69 = .ok (.iconst 0, 1) := by decide +kernel
theorem dX4_traysOfPass_70 : decode cX4_traysOfPass 70 = .ok (.istore_n 2, 1) := by decide +kernel
theorem dX4_traysOfPass_71 : decode cX4_traysOfPass 71 = .ok (.iconst 0, 1) := by decide +kernel
theorem dX4_traysOfPass_72 : decode cX4_traysOfPass 72 = .ok (.istore_n 3, 1) := by decide +kernel
theorem dX4_traysOfPass_73 : decode cX4_traysOfPass 73 = .ok (.iload_n 3, 1) := by decide +kernel
theorem dX4_traysOfPass_74 : decode cX4_traysOfPass 74 = .ok (.aload_n 0, 1) := by decide +kernel
theorem dX4_traysOfPass_75 : decode cX4_traysOfPass 75 = .ok (.getfield 46, 3) := by decide +kernel
theorem dX4_traysOfPass_78 : decode cX4_traysOfPass 78 = .ok (.invokevirtual 165, 3) := by decide +kernel
theorem dX4_traysOfPass_81 : decode cX4_traysOfPass 81 = .ok (.if_icmp .ge 35, 3) := by decide +kernel
theorem dX4_traysOfPass_84 : decode cX4_traysOfPass 84 = .ok (.iload_n 2, 1) := by decide +kernel
theorem dX4_traysOfPass_85 : decode cX4_traysOfPass 85 = .ok (.aload_n 0, 1) := by decide +kernel
theorem dX4_traysOfPass_86 : decode cX4_traysOfPass 86 = .ok (.getfield 46, 3) := by decide +kernel
theorem dX4_traysOfPass_89 : decode cX4_traysOfPass 89 = .ok (.iload_n 3, 1) := by decide +kernel
theorem dX4_traysOfPass_90 : decode cX4_traysOfPass 90 = .ok (.invokevirtual 168, 3) := by decide +kernel
theorem dX4_traysOfPass_93 : decode cX4_traysOfPass 93 = .ok (.aload_n 0, 1) := by decide +kernel
theorem dX4_traysOfPass_94 : decode cX4_traysOfPass 94 = .ok (.aload_n 0, 1) := by decide +kernel
theorem dX4_traysOfPass_95 : decode cX4_traysOfPass 95 = .ok (.getfield 46, 3) := by decide +kernel
theorem dX4_traysOfPass_98 : decode cX4_traysOfPass 98 = .ok (.iload_n 3, 1) := by decide +kernel
theorem dX4_traysOfPass_99 : decode cX4_traysOfPass 99 = .ok (.invokevirtual 171, 3) := by decide +kernel
theorem dX4_traysOfPass_102 : decode cX4_traysOfPass 102 = .ok (.invokevirtual 107, 3) := by decide +kernel
theorem dX4_traysOfPass_105 : decode cX4_traysOfPass 105 = .ok (.invokestatic 174, 3) := by decide +kernel
theorem dX4_traysOfPass_108 : decode cX4_traysOfPass 108 = .ok (.iadd, 1) := by decide +kernel
theorem dX4_traysOfPass_109 : decode cX4_traysOfPass 109 = .ok (.istore_n 2, 1) := by decide +kernel
theorem dX4_traysOfPass_110 : decode cX4_traysOfPass 110 = .ok (.iinc 3 1, 3) := by decide +kernel
theorem dX4_traysOfPass_113 : decode cX4_traysOfPass 113 = .ok (.goto (-40), 3) := by decide +kernel
theorem dX4_traysOfPass_116 : decode cX4_traysOfPass 116 = .ok (.iload_n 2, 1) := by decide +kernel
theorem dX4_traysOfPass_117 : decode cX4_traysOfPass 117 = .ok (.ireturn, 1) := by decide +kernel
theorem dX5_init_0 : decode cX5_init 0 = .ok (.aload_n 0, 1) := by decide +kernel
theorem dX5_init_1 : decode cX5_init 1 = .ok (.invokespecial 1, 3) := by decide +kernel
theorem dX5_init_4 : decode cX5_init 4 = .ok (.aload_n 0, 1) := by decide +kernel
theorem dX5_init_5 : decode cX5_init 5 = .ok (.ldc 7, 2) := by decide +kernel
theorem dX5_init_7 : decode cX5_init 7 = .ok (.newarray .int, 2) := by decide +kernel
theorem dX5_init_9 : decode cX5_init 9 = .ok (.putfield 8, 3) := by decide +kernel
theorem dX5_init_12 : decode cX5_init 12 = .ok (.aload_n 0, 1) := by decide +kernel
theorem dX5_init_13 : decode cX5_init 13 = .ok (.ldc 7, 2) := by decide +kernel
theorem dX5_init_15 : decode cX5_init 15 = .ok (.newarray .int, 2) := by decide +kernel
theorem dX5_init_17 : decode cX5_init 17 = .ok (.putfield 14, 3) := by decide +kernel
theorem dX5_init_20 : decode cX5_init 20 = .ok (.aload_n 0, 1) := by decide +kernel
theorem dX5_init_21 : decode cX5_init 21 = .ok (.bipush 62, 2) := by decide +kernel
theorem dX5_init_23 : decode cX5_init 23 = .ok (.newarray .int, 2) := by decide +kernel
theorem dX5_init_25 : decode cX5_init 25 = .ok (.putfield 17, 3) := by decide +kernel
theorem dX5_init_28 : decode cX5_init 28 = .ok (.aload_n 0, 1) := by decide +kernel
theorem dX5_init_29 : decode cX5_init 29 = .ok (.sipush 4000, 3) := by decide +kernel
theorem dX5_init_32 : decode cX5_init 32 = .ok (.newarray .long, 2) := by decide +kernel
theorem dX5_init_34 : decode cX5_init 34 = .ok (.putfield 20, 3) := by decide +kernel
theorem dX5_init_37 : decode cX5_init 37 = .ok (.aload_n 0, 1) := by decide +kernel
theorem dX5_init_38 : decode cX5_init 38 = .ok (.sipush 4000, 3) := by decide +kernel
theorem dX5_init_41 : decode cX5_init 41 = .ok (.newarray .int, 2) := by decide +kernel
theorem dX5_init_43 : decode cX5_init 43 = .ok (.putfield 24, 3) := by decide +kernel
theorem dX5_init_46 : decode cX5_init 46 = .ok (.aload_n 0, 1) := by decide +kernel
theorem dX5_init_47 : decode cX5_init 47 = .ok (.iload_n 1, 1) := by decide +kernel
theorem dX5_init_48 : decode cX5_init 48 = .ok (.ifCond .ge 7, 3) := by decide +kernel
theorem dX5_init_51 : decode cX5_init 51 = .ok (.iconst 0, 1) := by decide +kernel
theorem dX5_init_52 : decode cX5_init 52 = .ok (.goto 15, 3) := by decide +kernel
theorem dX5_init_55 : decode cX5_init 55 = .ok (.iload_n 1, 1) := by decide +kernel
theorem dX5_init_56 : decode cX5_init 56 = .ok (.ldc 7, 2) := by decide +kernel
theorem dX5_init_58 : decode cX5_init 58 = .ok (.if_icmp .le 8, 3) := by decide +kernel
theorem dX5_init_61 : decode cX5_init 61 = .ok (.ldc 7, 2) := by decide +kernel
theorem dX5_init_63 : decode cX5_init 63 = .ok (.goto 4, 3) := by decide +kernel
theorem dX5_init_66 : decode cX5_init 66 = .ok (.iload_n 1, 1) := by decide +kernel
theorem dX5_init_67 : decode cX5_init 67 = .ok (.putfield 27, 3) := by decide +kernel
theorem dX5_init_70 : decode cX5_init 70 = .ok (.iconst 0, 1) := by decide +kernel
theorem dX5_init_71 : decode cX5_init 71 = .ok (.istore_n 2, 1) := by decide +kernel
theorem dX5_init_72 : decode cX5_init 72 = .ok (.iload_n 2, 1) := by decide +kernel
theorem dX5_init_73 : decode cX5_init 73 = .ok (.ldc 7, 2) := by decide +kernel
theorem dX5_init_75 : decode cX5_init 75 = .ok (.if_icmp .ge 18, 3) := by decide +kernel
theorem dX5_init_78 : decode cX5_init 78 = .ok (.aload_n 0, 1) := by decide +kernel
theorem dX5_init_79 : decode cX5_init 79 = .ok (.getfield 8, 3) := by decide +kernel
theorem dX5_init_82 : decode cX5_init 82 = .ok (.iload_n 2, 1) := by decide +kernel
theorem dX5_init_83 : decode cX5_init 83 = .ok (.sipush 1000, 3) := by decide +kernel
theorem dX5_init_86 : decode cX5_init 86 = .ok (.iastore, 1) := by decide +kernel
theorem dX5_init_87 : decode cX5_init 87 = .ok (.iinc 2 1, 3) := by decide +kernel
theorem dX5_init_90 : decode cX5_init 90 = .ok (.goto (-18), 3) := by decide +kernel
theorem dX5_init_93 : decode cX5_init 93 = .ok (.return_, 1) := by decide +kernel
theorem dX5_thrown_0 : decode cX5_thrown 0 = .ok (.aload_n 0, 1) := by decide +kernel
theorem dX5_thrown_1 : decode cX5_thrown 1 = .ok (.getfield 31, 3) := by decide +kernel
theorem dX5_thrown_4 : decode cX5_thrown 4 = .ok (.ireturn, 1) := by decide +kernel
theorem dX5_isCount_0 : decode cX5_isCount 0 = .ok (.lload_n 0, 1) := by decide +kernel
theorem dX5_isCount_1 : decode cX5_isCount 1 = .ok (.lconst 1, 1) := by decide +kernel
theorem dX5_isCount_2 : decode cX5_isCount 2 = .ok (.lcmp, 1) := by decide +kernel
theorem dX5_isCount_3 : decode cX5_isCount 3 = .ok (.ifCond .lt 15, 3) := by decide +kernel
theorem dX5_isCount_6 : decode cX5_isCount 6 = .ok (.lload_n 0, 1) := by decide +kernel
theorem dX5_isCount_7 : decode cX5_isCount 7 = .ok (.ldc2_w 34, 3) := by decide +kernel
theorem dX5_isCount_10 : decode cX5_isCount 10 = .ok (.lcmp, 1) := by decide +kernel
theorem dX5_isCount_11 : decode cX5_isCount 11 = .ok (.ifCond .gt 7, 3) := by decide +kernel
theorem dX5_isCount_14 : decode cX5_isCount 14 = .ok (.iconst 1, 1) := by decide +kernel
theorem dX5_isCount_15 : decode cX5_isCount 15 = .ok (.goto 4, 3) := by decide +kernel
theorem dX5_isCount_18 : decode cX5_isCount 18 = .ok (.iconst 0, 1) := by decide +kernel
theorem dX5_isCount_19 : decode cX5_isCount 19 = .ok (.ireturn, 1) := by decide +kernel
theorem dX5_product_0 : decode cX5_product 0 = .ok (.lload_n 0, 1) := by decide +kernel
theorem dX5_product_1 : decode cX5_product 1 = .ok (.lconst 0, 1) := by decide +kernel
theorem dX5_product_2 : decode cX5_product 2 = .ok (.lcmp, 1) := by decide +kernel
theorem dX5_product_3 : decode cX5_product 3 = .ok (.ifCond .eq 9, 3) := by decide +kernel
theorem dX5_product_6 : decode cX5_product 6 = .ok (.lload_n 2, 1) := by decide +kernel
theorem dX5_product_7 : decode cX5_product 7 = .ok (.lconst 0, 1) := by decide +kernel
theorem dX5_product_8 : decode cX5_product 8 = .ok (.lcmp, 1) := by decide +kernel
theorem dX5_product_9 : decode cX5_product 9 = .ok (.ifCond .ne 7, 3) := by decide +kernel
theorem dX5_product_12 : decode cX5_product 12 = .ok (.lconst 0, 1) := by decide +kernel
theorem dX5_product_13 : decode cX5_product 13 = .ok (.goto 26, 3) := by decide +kernel
theorem dX5_product_16 : decode cX5_product 16 = .ok (.lload_n 0, 1) := by decide +kernel
theorem dX5_product_17 : decode cX5_product 17 = .ok (.ldc2_w 34, 3) := by decide +kernel
theorem dX5_product_20 : decode cX5_product 20 = .ok (.lload_n 2, 1) := by decide +kernel
theorem dX5_product_21 : decode cX5_product 21 = .ok (.ladd, 1) := by decide +kernel
theorem dX5_product_22 : decode cX5_product 22 = .ok (.lconst 1, 1) := by decide +kernel
theorem dX5_product_23 : decode cX5_product 23 = .ok (.lsub, 1) := by decide +kernel
theorem dX5_product_24 : decode cX5_product 24 = .ok (.lload_n 2, 1) := by decide +kernel
theorem dX5_product_25 : decode cX5_product 25 = .ok (.ldiv, 1) := by decide +kernel
theorem dX5_product_26 : decode cX5_product 26 = .ok (.lcmp, 1) := by decide +kernel
theorem dX5_product_27 : decode cX5_product 27 = .ok (.ifCond .lt 9, 3) := by decide +kernel
theorem dX5_product_30 : decode cX5_product 30 = .ok (.ldc2_w 34, 3) := by decide +kernel
theorem dX5_product_33 : decode cX5_product 33 = .ok (.goto 6, 3) := by decide +kernel
theorem dX5_product_36 : decode cX5_product 36 = .ok (.lload_n 0, 1) := by decide +kernel
theorem dX5_product_37 : decode cX5_product 37 = .ok (.lload_n 2, 1) := by decide +kernel
theorem dX5_product_38 : decode cX5_product 38 = .ok (.lmul, 1) := by decide +kernel
theorem dX5_product_39 : decode cX5_product 39 = .ok (.lreturn, 1) := by decide +kernel
set_option maxRecDepth 20000 in
theorem ggX5_fewest_X5_product : GoodIn wsX5_fewest wsX5_product := goodIn_r _ [4, 5] (by decide +kernel) (by decide +kernel)
set_option maxRecDepth 20000 in
theorem gX5_fewest_X5_product : GoodIn wsX5_fewest (va_wsS RX5 36 yX5_product wsX5_product) := goodIn_app (goodIn_of _ (by decide +kernel)) ggX5_fewest_X5_product
theorem dX5_fewest_0 : decode cX5_fewest 0 = .ok (.iconst 0, 1) := by decide +kernel
theorem dX5_fewest_1 : decode cX5_fewest 1 = .ok (.istore_n 3, 1) := by decide +kernel
theorem dX5_fewest_2 : decode cX5_fewest 2 = .ok (.lconst 1, 1) := by decide +kernel
theorem dX5_fewest_3 : decode cX5_fewest 3 = .ok (.lstore 4, 2) := by decide +kernel
theorem dX5_fewest_5 : decode cX5_fewest 5 = .ok (.lload 4, 2) := by decide +kernel
theorem dX5_fewest_7 : decode cX5_fewest 7 = .ok (.lload_n 0, 1) := by decide +kernel
theorem dX5_fewest_8 : decode cX5_fewest 8 = .ok (.lcmp, 1) := by decide +kernel
theorem dX5_fewest_9 : decode cX5_fewest 9 = .ok (.ifCond .ge 18, 3) := by decide +kernel
theorem dX5_fewest_12 : decode cX5_fewest 12 = .ok (.lload 4, 2) := by decide +kernel
theorem dX5_fewest_14 : decode cX5_fewest 14 = .ok (.iload_n 2, 1) := by decide +kernel
theorem dX5_fewest_15 : decode cX5_fewest 15 = .ok (.i2l, 1) := by decide +kernel
theorem dX5_fewest_16 : decode cX5_fewest 16 = .ok (.invokestatic 36, 3) := by decide +kernel
theorem dX5_fewest_19 : decode cX5_fewest 19 = .ok (.lstore 4, 2) := by decide +kernel
theorem dX5_fewest_21 : decode cX5_fewest 21 = .ok (.iinc 3 1, 3) := by decide +kernel
theorem dX5_fewest_24 : decode cX5_fewest 24 = .ok (.goto (-19), 3) := by decide +kernel
theorem dX5_fewest_27 : decode cX5_fewest 27 = .ok (.iload_n 3, 1) := by decide +kernel
theorem dX5_fewest_28 : decode cX5_fewest 28 = .ok (.ireturn, 1) := by decide +kernel
set_option maxRecDepth 20000 in
theorem ggX5_greatest_X5_product : GoodIn wsX5_greatest wsX5_product := goodIn_r _ [5, 6] (by decide +kernel) (by decide +kernel)
set_option maxRecDepth 20000 in
theorem gX5_greatest_X5_product : GoodIn wsX5_greatest (va_wsS RX5 36 yX5_product wsX5_product) := goodIn_app (goodIn_of _ (by decide +kernel)) ggX5_greatest_X5_product
