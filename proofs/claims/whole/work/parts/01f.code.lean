theorem dX3_product_20 : decode cX3_product 20 = .ok (.lmul, 1) := by decide +kernel
theorem dX3_product_21 : decode cX3_product 21 = .ok (.lreturn, 1) := by decide +kernel
set_option maxRecDepth 20000 in
theorem ggX3_power_X3_product : GoodIn wsX3_power wsX3_product := goodIn_r _ [4, 5, 6, 7, 3, 8] (by decide +kernel) (by decide +kernel)
set_option maxRecDepth 20000 in
theorem gX3_power_X3_product : GoodIn wsX3_power (va_wsS RX3 17 yX3_product wsX3_product) := goodIn_app (goodIn_of _ (by decide +kernel)) ggX3_power_X3_product
theorem dX3_power_0 : decode cX3_power 0 = .ok (.lconst 1, 1) := by decide +kernel
theorem dX3_power_1 : decode cX3_power 1 = .ok (.lstore_n 3, 1) := by decide +kernel
theorem dX3_power_2 : decode cX3_power 2 = .ok (.iconst 0, 1) := by decide +kernel
theorem dX3_power_3 : decode cX3_power 3 = .ok (.istore 5, 2) := by decide +kernel
theorem dX3_power_5 : decode cX3_power 5 = .ok (.iload 5, 2) := by decide +kernel
theorem dX3_power_7 : decode cX3_power 7 = .ok (.iload_n 2, 1) := by decide +kernel
theorem dX3_power_8 : decode cX3_power 8 = .ok (.if_icmp .ge 15, 3) := by decide +kernel
theorem dX3_power_11 : decode cX3_power 11 = .ok (.lload_n 3, 1) := by decide +kernel
theorem dX3_power_12 : decode cX3_power 12 = .ok (.lload_n 0, 1) := by decide +kernel
theorem dX3_power_13 : decode cX3_power 13 = .ok (.invokestatic 17, 3) := by decide +kernel
theorem dX3_power_16 : decode cX3_power 16 = .ok (.lstore_n 3, 1) := by decide +kernel
theorem dX3_power_17 : decode cX3_power 17 = .ok (.iinc 5 1, 3) := by decide +kernel
theorem dX3_power_20 : decode cX3_power 20 = .ok (.goto (-15), 3) := by decide +kernel
theorem dX3_power_23 : decode cX3_power 23 = .ok (.lload_n 3, 1) := by decide +kernel
theorem dX3_power_24 : decode cX3_power 24 = .ok (.lreturn, 1) := by decide +kernel
set_option maxRecDepth 20000 in
theorem ggX3_leastExponent_X3_product : GoodIn wsX3_leastExponent wsX3_product := goodIn_r _ [4, 5, 6, 7, 3, 8] (by decide +kernel) (by decide +kernel)
set_option maxRecDepth 20000 in
theorem gX3_leastExponent_X3_product : GoodIn wsX3_leastExponent (va_wsS RX3 17 yX3_product wsX3_product) := goodIn_app (goodIn_of _ (by decide +kernel)) ggX3_leastExponent_X3_product
theorem dX3_leastExponent_0 : decode cX3_leastExponent 0 = .ok (.lconst 1, 1) := by decide +kernel
theorem dX3_leastExponent_1 : decode cX3_leastExponent 1 = .ok (.lstore 4, 2) := by decide +kernel
theorem dX3_leastExponent_3 : decode cX3_leastExponent 3 = .ok (.iconst 0, 1) := by decide +kernel
theorem dX3_leastExponent_4 : decode cX3_leastExponent 4 = .ok (.istore 6, 2) := by decide +kernel
theorem dX3_leastExponent_6 : decode cX3_leastExponent 6 = .ok (.iload 6, 2) := by decide +kernel
theorem dX3_leastExponent_8 : decode cX3_leastExponent 8 = .ok (.bipush 62, 2) := by decide +kernel
theorem dX3_leastExponent_10 : decode cX3_leastExponent 10 = .ok (.if_icmp .ge 24, 3) := by decide +kernel
theorem dX3_leastExponent_13 : decode cX3_leastExponent 13 = .ok (.lload 4, 2) := by decide +kernel
theorem dX3_leastExponent_15 : decode cX3_leastExponent 15 = .ok (.lload_n 2, 1) := by decide +kernel
theorem dX3_leastExponent_16 : decode cX3_leastExponent 16 = .ok (.lcmp, 1) := by decide +kernel
theorem dX3_leastExponent_17 : decode cX3_leastExponent 17 = .ok (.ifCond .ge 17, 3) := by decide +kernel
theorem dX3_leastExponent_20 : decode cX3_leastExponent 20 = .ok (.lload 4, 2) := by decide +kernel
theorem dX3_leastExponent_22 : decode cX3_leastExponent 22 = .ok (.lload_n 0, 1) := by decide +kernel
theorem dX3_leastExponent_23 : decode cX3_leastExponent 23 = .ok (.invokestatic 17, 3) := by decide +kernel
theorem dX3_leastExponent_26 : decode cX3_leastExponent 26 = .ok (.lstore 4, 2) := by decide +kernel
theorem dX3_leastExponent_28 : decode cX3_leastExponent 28 = .ok (.iinc 6 1, 3) := by decide +kernel
theorem dX3_leastExponent_31 : decode cX3_leastExponent 31 = .ok (.goto (-25), 3) := by decide +kernel
theorem dX3_leastExponent_34 : decode cX3_leastExponent 34 = .ok (.iload 6, 2) := by decide +kernel
theorem dX3_leastExponent_36 : decode cX3_leastExponent 36 = .ok (.ireturn, 1) := by decide +kernel
set_option maxRecDepth 20000 in
theorem ggX3_leastBase_X3_power : GoodIn wsX3_leastBase wsX3_power := goodIn_r _ [5, 6, 7, 4, 8, 9, 10, 11, 12] (by decide +kernel) (by decide +kernel)
set_option maxRecDepth 20000 in
theorem gX3_leastBase_X3_power : GoodIn wsX3_leastBase (va_wsS RX3 22 yX3_power wsX3_power) := goodIn_app (goodIn_of _ (by decide +kernel)) ggX3_leastBase_X3_power
theorem dX3_leastBase_0 : decode cX3_leastBase 0 = .ok (.ldc2_w 20, 3) := by decide +kernel
theorem dX3_leastBase_3 : decode cX3_leastBase 3 = .ok (.lstore 5, 2) := by decide +kernel
theorem dX3_leastBase_5 : decode cX3_leastBase 5 = .ok (.lload_n 3, 1) := by decide +kernel
theorem dX3_leastBase_6 : decode cX3_leastBase 6 = .ok (.lconst 1, 1) := by decide +kernel
theorem dX3_leastBase_7 : decode cX3_leastBase 7 = .ok (.ladd, 1) := by decide +kernel
theorem dX3_leastBase_8 : decode cX3_leastBase 8 = .ok (.lstore 7, 2) := by decide +kernel
theorem dX3_leastBase_10 : decode cX3_leastBase 10 = .ok (.iconst 0, 1) := by decide +kernel
theorem dX3_leastBase_11 : decode cX3_leastBase 11 = .ok (.istore 9, 2) := by decide +kernel
theorem dX3_leastBase_13 : decode cX3_leastBase 13 = .ok (.iload 9, 2) := by decide +kernel
theorem dX3_leastBase_15 : decode cX3_leastBase 15 = .ok (.bipush 64, 2) := by decide +kernel
theorem dX3_leastBase_17 : decode cX3_leastBase 17 = .ok (.if_icmp .ge 52, 3) := by decide +kernel
theorem dX3_leastBase_20 : decode cX3_leastBase 20 = .ok (.lload 5, 2) := by decide +kernel
theorem dX3_leastBase_22 : decode cX3_leastBase 22 = .ok (.lload 7, 2) := by decide +kernel
theorem dX3_leastBase_24 : decode cX3_leastBase 24 = .ok (.lcmp, 1) := by decide +kernel
theorem dX3_leastBase_25 : decode cX3_leastBase 25 = .ok (.ifCond .ge 44, 3) := by decide +kernel
theorem dX3_leastBase_28 : decode cX3_leastBase 28 = .ok (.lload 5, 2) := by decide +kernel
theorem dX3_leastBase_30 : decode cX3_leastBase 30 = .ok (.lload 7, 2) := by decide +kernel
theorem dX3_leastBase_32 : decode cX3_leastBase 32 = .ok (.ladd, 1) := by decide +kernel
theorem dX3_leastBase_33 : decode cX3_leastBase 33 = .ok (.ldc2_w 20, 3) := by decide +kernel
theorem dX3_leastBase_36 : decode cX3_leastBase 36 = .ok (.ldiv, 1) := by decide +kernel
theorem dX3_leastBase_37 : decode cX3_leastBase 37 = .ok (.lstore 10, 2) := by decide +kernel
theorem dX3_leastBase_39 : decode cX3_leastBase 39 = .ok (.lload 10, 2) := by decide +kernel
theorem dX3_leastBase_41 : decode cX3_leastBase 41 = .ok (.iload_n 2, 1) := by decide +kernel
theorem dX3_leastBase_42 : decode cX3_leastBase 42 = .ok (.invokestatic 22, 3) := by decide +kernel
theorem dX3_leastBase_45 : decode cX3_leastBase 45 = .ok (.lload_n 0, 1) := by decide +kernel
theorem dX3_leastBase_46 : decode cX3_leastBase 46 = .ok (.lcmp, 1) := by decide +kernel
theorem dX3_leastBase_47 : decode cX3_leastBase 47 = .ok (.ifCond .lt 10, 3) := by decide +kernel
theorem dX3_leastBase_50 : decode cX3_leastBase 50 = .ok (.lload 10, 2) := by decide +kernel
theorem dX3_leastBase_52 : decode cX3_leastBase 52 = .ok (.lstore 7, 2) := by decide +kernel
theorem dX3_leastBase_54 : decode cX3_leastBase 54 = .ok (.goto 9, 3) := by decide +kernel
theorem dX3_leastBase_57 : decode cX3_leastBase 57 = .ok (.lload 10, 2) := by decide +kernel
theorem dX3_leastBase_59 : decode cX3_leastBase 59 = .ok (.lconst 1, 1) := by decide +kernel
theorem dX3_leastBase_60 : decode cX3_leastBase 60 = .ok (.ladd, 1) := by decide +kernel
theorem dX3_leastBase_61 : decode cX3_leastBase 61 = .ok (.lstore 5, 2) := by decide +kernel
theorem dX3_leastBase_63 : decode cX3_leastBase 63 = .ok (.iinc 9 1, 3) := by decide +kernel
theorem dX3_leastBase_66 : decode cX3_leastBase 66 = .ok (.goto (-53), 3) := by decide +kernel
theorem dX3_leastBase_69 : decode cX3_leastBase 69 = .ok (.lload 5, 2) := by decide +kernel
theorem dX3_leastBase_71 : decode cX3_leastBase 71 = .ok (.lreturn, 1) := by decide +kernel
set_option maxRecDepth 20000 in
theorem ggX3_widestProduct_X3_quotient : GoodIn wsX3_widestProduct wsX3_quotient := goodIn_r _ [4] (by decide +kernel) (by decide +kernel)
set_option maxRecDepth 20000 in
theorem gX3_widestProduct_X3_quotient : GoodIn wsX3_widestProduct (va_wsS RX3 11 yX3_quotient wsX3_quotient) := goodIn_app (goodIn_of _ (by decide +kernel)) ggX3_widestProduct_X3_quotient
set_option maxRecDepth 20000 in
theorem ggX3_widestProduct_X3_remainder : GoodIn wsX3_widestProduct wsX3_remainder := goodIn_r _ [7] (by decide +kernel) (by decide +kernel)
set_option maxRecDepth 20000 in
theorem gX3_widestProduct_X3_remainder : GoodIn wsX3_widestProduct (va_wsS RX3 26 yX3_remainder wsX3_remainder) := goodIn_app (goodIn_of _ (by decide +kernel)) ggX3_widestProduct_X3_remainder
set_option maxRecDepth 20000 in
theorem ggX3_widestProduct_X3_power : GoodIn wsX3_widestProduct wsX3_power := goodIn_r _ [10, 11, 12, 3, 13, 14, 1, 2, 4] (by decide +kernel) (by decide +kernel)
set_option maxRecDepth 20000 in
theorem gX3_widestProduct_X3_power : GoodIn wsX3_widestProduct (va_wsS RX3 22 yX3_power wsX3_power) := goodIn_app (goodIn_of _ (by decide +kernel)) ggX3_widestProduct_X3_power
set_option maxRecDepth 20000 in
theorem ggX3_widestProduct_X3_product : GoodIn wsX3_widestProduct wsX3_product := goodIn_r _ [13, 14, 1, 2, 3, 4] (by decide +kernel) (by decide +kernel)
set_option maxRecDepth 20000 in
theorem gX3_widestProduct_X3_product : GoodIn wsX3_widestProduct (va_wsS RX3 17 yX3_product wsX3_product) := goodIn_app (goodIn_of _ (by decide +kernel)) ggX3_widestProduct_X3_product
theorem dX3_widestProduct_0 : decode cX3_widestProduct 0 = .ok (.iload_n 0, 1) := by decide +kernel
theorem dX3_widestProduct_1 : decode cX3_widestProduct 1 = .ok (.i2l, 1) := by decide +kernel
theorem dX3_widestProduct_2 : decode cX3_widestProduct 2 = .ok (.iload_n 1, 1) := by decide +kernel
theorem dX3_widestProduct_3 : decode cX3_widestProduct 3 = .ok (.i2l, 1) := by decide +kernel
theorem dX3_widestProduct_4 : decode cX3_widestProduct 4 = .ok (.invokestatic 11, 3) := by decide +kernel
theorem dX3_widestProduct_7 : decode cX3_widestProduct 7 = .ok (.l2i, 1) := by decide +kernel
theorem dX3_widestProduct_8 : decode cX3_widestProduct 8 = .ok (.istore_n 2, 1) := by decide +kernel
theorem dX3_widestProduct_9 : decode cX3_widestProduct 9 = .ok (.iload_n 0, 1) := by decide +kernel
theorem dX3_widestProduct_10 : decode cX3_widestProduct 10 = .ok (.i2l, 1) := by decide +kernel
theorem dX3_widestProduct_11 : decode cX3_widestProduct 11 = .ok (.iload_n 1, 1) := by decide +kernel
theorem dX3_widestProduct_12 : decode cX3_widestProduct 12 = .ok (.i2l, 1) := by decide +kernel
theorem dX3_widestProduct_13 : decode cX3_widestProduct 13 = .ok (.invokestatic 26, 3) := by decide +kernel
theorem dX3_widestProduct_16 : decode cX3_widestProduct 16 = .ok (.l2i, 1) := by decide +kernel
theorem dX3_widestProduct_17 : decode cX3_widestProduct 17 = .ok (.istore_n 3, 1) := by decide +kernel
theorem dX3_widestProduct_18 : decode cX3_widestProduct 18 = .ok (.iload_n 2, 1) := by decide +kernel
theorem dX3_widestProduct_19 : decode cX3_widestProduct 19 = .ok (.iconst 1, 1) := by decide +kernel
theorem dX3_widestProduct_20 : decode cX3_widestProduct 20 = .ok (.iadd, 1) := by decide +kernel
theorem dX3_widestProduct_21 : decode cX3_widestProduct 21 = .ok (.i2l, 1) := by decide +kernel
theorem dX3_widestProduct_22 : decode cX3_widestProduct 22 = .ok (.iload_n 3, 1) := by decide +kernel
theorem dX3_widestProduct_23 : decode cX3_widestProduct 23 = .ok (.invokestatic 22, 3) := by decide +kernel
theorem dX3_widestProduct_26 : decode cX3_widestProduct 26 = .ok (.iload_n 2, 1) := by decide +kernel
theorem dX3_widestProduct_27 : decode cX3_widestProduct 27 = .ok (.i2l, 1) := by decide +kernel
theorem dX3_widestProduct_28 : decode cX3_widestProduct 28 = .ok (.iload_n 1, 1) := by decide +kernel
theorem dX3_widestProduct_29 : decode cX3_widestProduct 29 = .ok (.iload_n 3, 1) := by decide +kernel
theorem dX3_widestProduct_30 : decode cX3_widestProduct 30 = .ok (.isub, 1) := by decide +kernel
theorem dX3_widestProduct_31 : decode cX3_widestProduct 31 = .ok (.invokestatic 22, 3) := by decide +kernel
theorem dX3_widestProduct_34 : decode cX3_widestProduct 34 = .ok (.invokestatic 17, 3) := by decide +kernel
theorem dX3_widestProduct_37 : decode cX3_widestProduct 37 = .ok (.lreturn, 1) := by decide +kernel
set_option maxRecDepth 20000 in
theorem ggX4_init_X2_init : GoodIn wsX4_init wsX2_init := goodIn_r _ [28, 29, 2, 3, 30, 31, 32, 33, 34, 53, 54, 55, 56, 57] (by decide +kernel) (by decide +kernel)
set_option maxRecDepth 20000 in
theorem gX4_init_X2_init : GoodIn wsX4_init (wsX2_init) := ggX4_init_X2_init
set_option maxRecDepth 20000 in
theorem ggX4_init_X1_init : GoodIn wsX4_init wsX1_init := goodIn_r _ [36, 37, 2, 3, 32, 38, 30, 39, 40, 41, 58, 59, 60, 61, 62, 63] (by decide +kernel) (by decide +kernel)
set_option maxRecDepth 20000 in
theorem gX4_init_X1_init_n34 : GoodIn wsX4_init (wsX1_init) := ggX4_init_X1_init
set_option maxRecDepth 20000 in
theorem ggX4_init_X0_init : GoodIn wsX4_init wsX0_init := goodIn_r _ [43, 44, 2, 3, 30, 45, 46, 47, 64, 65, 66, 67] (by decide +kernel) (by decide +kernel)
set_option maxRecDepth 20000 in
theorem gX4_init_X0_init_n41 : GoodIn wsX4_init (wsX0_init) := ggX4_init_X0_init
theorem dX4_init_0 : decode cX4_init 0 = .ok (.aload_n 0, 1) := by decide +kernel
theorem dX4_init_1 : decode cX4_init 1 = .ok (.invokespecial 1, 3) := by decide +kernel
theorem dX4_init_4 : decode cX4_init 4 = .ok (.aload_n 0, 1) := by decide +kernel
theorem dX4_init_5 : decode cX4_init 5 = .ok (.iconst 0, 1) := by decide +kernel
theorem dX4_init_6 : decode cX4_init 6 = .ok (.iload_n 1, 1) := by decide +kernel
theorem dX4_init_7 : decode cX4_init 7 = .ok (.ldc 9, 2) := by decide +kernel
theorem dX4_init_9 : decode cX4_init 9 = .ok (.invokestatic 10, 3) := by decide +kernel
theorem dX4_init_12 : decode cX4_init 12 = .ok (.invokestatic 16, 3) := by decide +kernel
theorem dX4_init_15 : decode cX4_init 15 = .ok (.putfield 19, 3) := by decide +kernel
theorem dX4_init_18 : decode cX4_init 18 = .ok (.aload_n 0, 1) := by decide +kernel
theorem dX4_init_19 : decode cX4_init 19 = .ok (.new 23, 3) := by decide +kernel
theorem dX4_init_22 : decode cX4_init 22 = .ok (.dup, 1) := by decide +kernel
theorem dX4_init_23 : decode cX4_init 23 = .ok (.aload_n 0, 1) := by decide +kernel
theorem dX4_init_24 : decode cX4_init 24 = .ok (.getfield 19, 3) := by decide +kernel
theorem dX4_init_27 : decode cX4_init 27 = .ok (.invokespecial 25, 3) := by decide +kernel
theorem dX4_init_30 : decode cX4_init 30 = .ok (.putfield 28, 3) := by decide +kernel
theorem dX4_init_33 : decode cX4_init 33 = .ok (.aload_n 0, 1) := by decide +kernel
theorem dX4_init_34 : decode cX4_init 34 = .ok (.new 32, 3) := by decide +kernel
theorem dX4_init_37 : decode cX4_init 37 = .ok (.dup, 1) := by decide +kernel
theorem dX4_init_38 : decode cX4_init 38 = .ok (.invokespecial 34, 3) := by decide +kernel
theorem dX4_init_41 : decode cX4_init 41 = .ok (.putfield 35, 3) := by decide +kernel
theorem dX4_init_44 : decode cX4_init 44 = .ok (.aload_n 0, 1) := by decide +kernel
theorem dX4_init_45 : decode cX4_init 45 = .ok (.new 39, 3) := by decide +kernel
theorem dX4_init_48 : decode cX4_init 48 = .ok (.dup, 1) := by decide +kernel
theorem dX4_init_49 : decode cX4_init 49 = .ok (.invokespecial 41, 3) := by decide +kernel
theorem dX4_init_52 : decode cX4_init 52 = .ok (.putfield 42, 3) := by decide +kernel
theorem dX4_init_55 : decode cX4_init 55 = .ok (.aload_n 0, 1) := by decide +kernel
theorem dX4_init_56 : decode cX4_init 56 = .ok (.new 39, 3) := by decide +kernel
theorem dX4_init_59 : decode cX4_init 59 = .ok (.dup, 1) := by decide +kernel
theorem dX4_init_60 : decode cX4_init 60 = .ok (.invokespecial 41, 3) := by decide +kernel
theorem dX4_init_63 : decode cX4_init 63 = .ok (.putfield 46, 3) := by decide +kernel
theorem dX4_init_66 : decode cX4_init 66 = .ok (.return_, 1) := by decide +kernel
set_option maxRecDepth 20000 in
theorem ggX4_passes_X4_isRound : GoodIn wsX4_passes wsX4_isRound := goodIn_r _ [9, 10] (by decide +kernel) (by decide +kernel)
set_option maxRecDepth 20000 in
theorem gX4_passes_X4_isRound : GoodIn wsX4_passes (va_wsS RX4 56 yX4_isRound wsX4_isRound) := goodIn_app (goodIn_of _ (by decide +kernel)) ggX4_passes_X4_isRound
set_option maxRecDepth 20000 in
theorem ggX4_passes_X2_lay : GoodIn wsX4_passes wsX2_lay := goodIn_r _ [15, 16, 17, 18, 19, 20, 21, 22, 23, 24, 25, 26, 27, 28, 29, 30, 31, 32, 33, 34, 14, 35, 36, 37, 38, 39, 40, 41, 42, 43, 44, 45, 46, 47, 48, 49, 50, 51, 52, 53, 54, 55, 56, 57, 58, 59, 60, 61, 62, 79, 80, 81, 82, 83] (by decide +kernel) (by decide +kernel)
set_option maxRecDepth 20000 in
theorem gX4_passes_X2_lay : GoodIn wsX4_passes (wsV RX4 60 RX2 yX2_lay wsX2_lay) := goodIn_app (goodIn_of _ (by decide +kernel)) ggX4_passes_X2_lay
set_option maxRecDepth 20000 in
theorem ggX4_passes_X1_clear : GoodIn wsX4_passes wsX1_clear := goodIn_r _ [67, 68, 69, 84, 85, 86, 87, 88, 89] (by decide +kernel) (by decide +kernel)
set_option maxRecDepth 20000 in
theorem gX4_passes_X1_clear : GoodIn wsX4_passes (wsV RX4 64 RX1 yX1_clear wsX1_clear) := goodIn_app (goodIn_of _ (by decide +kernel)) ggX4_passes_X1_clear
set_option maxRecDepth 20000 in
theorem ggX4_passes_X2_passCount : GoodIn wsX4_passes wsX2_passCount := goodIn_r _ [73, 18, 79, 80, 81, 82, 83] (by decide +kernel) (by decide +kernel)
set_option maxRecDepth 20000 in
theorem gX4_passes_X2_passCount : GoodIn wsX4_passes (wsV RX4 67 RX2 yX2_passCount wsX2_passCount) := goodIn_app (goodIn_of _ (by decide +kernel)) ggX4_passes_X2_passCount
theorem dX4_passes_0 : decode cX4_passes 0 = .ok (.aload_n 0, 1) := by decide +kernel
theorem dX4_passes_1 : decode cX4_passes 1 = .ok (.getfield 19, 3) := by decide +kernel
theorem dX4_passes_4 : decode cX4_passes 4 = .ok (.iconst 2, 1) := by decide +kernel
theorem dX4_passes_5 : decode cX4_passes 5 = .ok (.if_icmp .ge 13, 3) := by decide +kernel
theorem dX4_passes_8 : decode cX4_passes 8 = .ok (.new 49, 3) := by decide +kernel
theorem dX4_passes_11 : decode cX4_passes 11 = .ok (.dup, 1) := by decide +kernel
theorem dX4_passes_12 : decode cX4_passes 12 = .ok (.ldc 51, 2) := by decide +kernel
theorem dX4_passes_14 : decode cX4_passes 14 = .ok (.invokespecial 53, 3) := by decide +kernel
theorem dX4_passes_17 : decode cX4_passes 17 = .ok (.athrow, 1) := by decide +kernel
theorem dX4_passes_18 : decode cX4_passes 18 = .ok (.lload_n 1, 1) := by decide +kernel
theorem dX4_passes_19 : decode cX4_passes 19 = .ok (.invokestatic 56, 3) := by decide +kernel
theorem dX4_passes_22 : decode cX4_passes 22 = .ok (.ifCond .ne 6, 3) := by decide +kernel
theorem dX4_passes_25 : decode cX4_passes 25 = .ok (.bipush (-2), 2) := by decide +kernel
theorem dX4_passes_27 : decode cX4_passes 27 = .ok (.ireturn, 1) := by decide +kernel
theorem dX4_passes_28 : decode cX4_passes 28 = .ok (.aload_n 0, 1) := by decide +kernel
theorem dX4_passes_29 : decode cX4_passes 29 = .ok (.getfield 28, 3) := by decide +kernel
theorem dX4_passes_32 : decode cX4_passes 32 = .ok (.lload_n 1, 1) := by decide +kernel
theorem dX4_passes_33 : decode cX4_passes 33 = .ok (.invokevirtual 60, 3) := by decide +kernel
theorem dX4_passes_36 : decode cX4_passes 36 = .ok (.aload_n 0, 1) := by decide +kernel
theorem dX4_passes_37 : decode cX4_passes 37 = .ok (.getfield 35, 3) := by decide +kernel
theorem dX4_passes_40 : decode cX4_passes 40 = .ok (.invokevirtual 64, 3) := by decide +kernel
theorem dX4_passes_43 : decode cX4_passes 43 = .ok (.aload_n 0, 1) := by decide +kernel
theorem dX4_passes_44 : decode cX4_passes 44 = .ok (.getfield 28, 3) := by decide +kernel
theorem dX4_passes_47 : decode cX4_passes 47 = .ok (.invokevirtual 67, 3) := by decide +kernel
theorem dX4_passes_50 : decode cX4_passes 50 = .ok (.ireturn, 1) := by decide +kernel
set_option maxRecDepth 20000 in
theorem ggX4_digit_X4_isUnknownPoint : GoodIn wsX4_digit wsX4_isUnknownPoint := goodIn_r _ [6, 1, 7, 8, 9, 10, 11, 12, 13, 14, 15, 16, 40, 41, 42, 43, 44, 45, 46, 47, 48, 49] (by decide +kernel) (by decide +kernel)
set_option maxRecDepth 20000 in
theorem gX4_digit_X4_isUnknownPoint : GoodIn wsX4_digit (wsV RX4 71 RX4 yX4_isUnknownPoint wsX4_isUnknownPoint) := goodIn_app (goodIn_of _ (by decide +kernel)) ggX4_digit_X4_isUnknownPoint
set_option maxRecDepth 20000 in
theorem ggX4_digit_X4_isUnknownPass : GoodIn wsX4_digit wsX4_isUnknownPass := goodIn_r _ [20, 1, 7, 8, 9, 10, 11, 12, 21, 22, 23, 24, 25, 40, 41, 42, 43, 44, 45, 46, 47, 48, 49] (by decide +kernel) (by decide +kernel)
set_option maxRecDepth 20000 in
theorem gX4_digit_X4_isUnknownPass : GoodIn wsX4_digit (wsV RX4 74 RX4 yX4_isUnknownPass wsX4_isUnknownPass) := goodIn_app (goodIn_of _ (by decide +kernel)) ggX4_digit_X4_isUnknownPass
set_option maxRecDepth 20000 in
theorem ggX4_digit_X2_isLaid : GoodIn wsX4_digit wsX2_isLaid := goodIn_r _ [11, 12, 45, 46, 47, 48, 49] (by decide +kernel) (by decide +kernel)
set_option maxRecDepth 20000 in
theorem gX4_digit_X2_isLaid : GoodIn wsX4_digit (wsV RX4 78 RX2 yX2_isLaid wsX2_isLaid) := goodIn_app (goodIn_of _ (by decide +kernel)) ggX4_digit_X2_isLaid
set_option maxRecDepth 20000 in
theorem ggX4_digit_X2_binOf : GoodIn wsX4_digit wsX2_binOf := goodIn_r _ [29, 30, 31, 32, 22, 23, 10, 24, 25, 33, 34, 35, 36, 37, 38, 39, 45, 46, 47, 48, 49] (by decide +kernel) (by decide +kernel)
set_option maxRecDepth 20000 in
theorem gX4_digit_X2_binOf : GoodIn wsX4_digit (wsV RX4 82 RX2 yX2_binOf wsX2_binOf) := goodIn_app (goodIn_of _ (by decide +kernel)) ggX4_digit_X2_binOf
theorem dX4_digit_0 : decode cX4_digit 0 = .ok (.aload_n 0, 1) := by decide +kernel
theorem dX4_digit_1 : decode cX4_digit 1 = .ok (.lload_n 1, 1) := by decide +kernel
theorem dX4_digit_2 : decode cX4_digit 2 = .ok (.invokevirtual 71, 3) := by decide +kernel
theorem dX4_digit_5 : decode cX4_digit 5 = .ok (.ifCond .ne 11, 3) := by decide +kernel
theorem dX4_digit_8 : decode cX4_digit 8 = .ok (.aload_n 0, 1) := by decide +kernel
theorem dX4_digit_9 : decode cX4_digit 9 = .ok (.iload_n 3, 1) := by decide +kernel
theorem dX4_digit_10 : decode cX4_digit 10 = .ok (.invokevirtual 74, 3) := by decide +kernel
theorem dX4_digit_13 : decode cX4_digit 13 = .ok (.ifCond .eq 5, 3) := by decide +kernel
theorem dX4_digit_16 : decode cX4_digit 16 = .ok (.iconst (-1), 1) := by decide +kernel
theorem dX4_digit_17 : decode cX4_digit 17 = .ok (.ireturn, 1) := by decide +kernel
theorem dX4_digit_18 : decode cX4_digit 18 = .ok (.aload_n 0, 1) := by decide +kernel
theorem dX4_digit_19 : decode cX4_digit 19 = .ok (.getfield 28, 3) := by decide +kernel
theorem dX4_digit_22 : decode cX4_digit 22 = .ok (.invokevirtual 78, 3) := by decide +kernel
theorem dX4_digit_25 : decode cX4_digit 25 = .ok (.ifCond .eq 15, 3) := by decide +kernel
theorem dX4_digit_28 : decode cX4_digit 28 = .ok (.aload_n 0, 1) := by decide +kernel
theorem dX4_digit_29 : decode cX4_digit 29 = .ok (.getfield 28, 3) := by decide +kernel
theorem dX4_digit_32 : decode cX4_digit 32 = .ok (.lload_n 1, 1) := by decide +kernel
theorem dX4_digit_33 : decode cX4_digit 33 = .ok (.iload_n 3, 1) := by decide +kernel
theorem dX4_digit_34 : decode cX4_digit 34 = .ok (.invokevirtual 82, 3) := by decide +kernel
theorem dX4_digit_37 : decode cX4_digit 37 = .ok (.goto 5, 3) := by decide +kernel
theorem dX4_digit_40 : decode cX4_digit 40 = .ok (.bipush (-3), 2) := by decide +kernel
theorem dX4_digit_42 : decode cX4_digit 42 = .ok (.ireturn, 1) := by decide +kernel
set_option maxRecDepth 20000 in
theorem ggX4_best_X4_isRound : GoodIn wsX4_best wsX4_isRound := goodIn_r _ [5, 6] (by decide +kernel) (by decide +kernel)
set_option maxRecDepth 20000 in
theorem gX4_best_X4_isRound : GoodIn wsX4_best (va_wsS RX4 56 yX4_isRound wsX4_isRound) := goodIn_app (goodIn_of _ (by decide +kernel)) ggX4_best_X4_isRound
set_option maxRecDepth 20000 in
theorem ggX4_best_X3_leastBase : GoodIn wsX4_best wsX3_leastBase := goodIn_r _ [10, 11, 12, 13, 9, 14, 15, 16, 17, 18, 19, 20, 21] (by decide +kernel) (by decide +kernel)
set_option maxRecDepth 20000 in
theorem gX4_best_X3_leastBase : GoodIn wsX4_best (va_wsS RX4 90 yX3_leastBase wsX3_leastBase) := goodIn_app (goodIn_of _ (by decide +kernel)) ggX4_best_X3_leastBase
theorem dX4_best_0 : decode cX4_best 0 = .ok (.lload_n 1, 1) := by decide +kernel
theorem dX4_best_1 : decode cX4_best 1 = .ok (.invokestatic 56, 3) := by decide +kernel
theorem dX4_best_4 : decode cX4_best 4 = .ok (.ifCond .eq 14, 3) := by decide +kernel
theorem dX4_best_7 : decode cX4_best 7 = .ok (.iload_n 3, 1) := by decide +kernel
theorem dX4_best_8 : decode cX4_best 8 = .ok (.iconst 1, 1) := by decide +kernel
theorem dX4_best_9 : decode cX4_best 9 = .ok (.if_icmp .lt 9, 3) := by decide +kernel
theorem dX4_best_12 : decode cX4_best 12 = .ok (.iload_n 3, 1) := by decide +kernel
theorem dX4_best_13 : decode cX4_best 13 = .ok (.bipush 62, 2) := by decide +kernel
theorem dX4_best_15 : decode cX4_best 15 = .ok (.if_icmp .le 6, 3) := by decide +kernel
theorem dX4_best_18 : decode cX4_best 18 = .ok (.bipush (-2), 2) := by decide +kernel
theorem dX4_best_20 : decode cX4_best 20 = .ok (.ireturn, 1) := by decide +kernel
theorem dX4_best_21 : decode cX4_best 21 = .ok (.lload_n 1, 1) := by decide +kernel
theorem dX4_best_22 : decode cX4_best 22 = .ok (.iload_n 3, 1) := by decide +kernel
theorem dX4_best_23 : decode cX4_best 23 = .ok (.ldc2_w 88, 3) := by decide +kernel
theorem dX4_best_26 : decode cX4_best 26 = .ok (.invokestatic 90, 3) := by decide +kernel
theorem dX4_best_29 : decode cX4_best 29 = .ok (.lstore 4, 2) := by decide +kernel
theorem dX4_best_31 : decode cX4_best 31 = .ok (.lload 4, 2) := by decide +kernel
theorem dX4_best_33 : decode cX4_best 33 = .ok (.ldc2_w 88, 3) := by decide +kernel
theorem dX4_best_36 : decode cX4_best 36 = .ok (.lcmp, 1) := by decide +kernel
theorem dX4_best_37 : decode cX4_best 37 = .ok (.ifCond .le 8, 3) := by decide +kernel
theorem dX4_best_40 : decode cX4_best 40 = .ok (.bipush (-2), 2) := by decide +kernel
theorem dX4_best_42 : decode cX4_best 42 = .ok (.goto 6, 3) := by decide +kernel
theorem dX4_best_45 : decode cX4_best 45 = .ok (.lload 4, 2) := by decide +kernel
theorem dX4_best_47 : decode cX4_best 47 = .ok (.l2i, 1) := by decide +kernel
theorem dX4_best_48 : decode cX4_best 48 = .ok (.ireturn, 1) := by decide +kernel
set_option maxRecDepth 20000 in
theorem ggX4_volume_X4_isUnknownPoint : GoodIn wsX4_volume wsX4_isUnknownPoint := goodIn_r _ [7, 1, 8, 9, 10, 11, 12, 13, 14, 15, 16, 17, 42, 43, 44, 45, 46, 47, 48, 49, 50, 51] (by decide +kernel) (by decide +kernel)
set_option maxRecDepth 20000 in
theorem gX4_volume_X4_isUnknownPoint : GoodIn wsX4_volume (wsV RX4 71 RX4 yX4_isUnknownPoint wsX4_isUnknownPoint) := goodIn_app (goodIn_of _ (by decide +kernel)) ggX4_volume_X4_isUnknownPoint
set_option maxRecDepth 20000 in
theorem ggX4_volume_X2_isLaid : GoodIn wsX4_volume wsX2_isLaid := goodIn_r _ [12, 13, 47, 48, 49, 50, 51] (by decide +kernel) (by decide +kernel)
set_option maxRecDepth 20000 in
theorem gX4_volume_X2_isLaid : GoodIn wsX4_volume (wsV RX4 78 RX2 yX2_isLaid wsX2_isLaid) := goodIn_app (goodIn_of _ (by decide +kernel)) ggX4_volume_X2_isLaid
set_option maxRecDepth 20000 in
theorem ggX4_volume_X1_hasRoom : GoodIn wsX4_volume wsX1_hasRoom := goodIn_r _ [22, 23, 24, 52, 53, 54, 55, 56, 57] (by decide +kernel) (by decide +kernel)
set_option maxRecDepth 20000 in
theorem gX4_volume_X1_hasRoom : GoodIn wsX4_volume (wsV RX4 96 RX1 yX1_hasRoom wsX1_hasRoom) := goodIn_app (goodIn_of _ (by decide +kernel)) ggX4_volume_X1_hasRoom
set_option maxRecDepth 20000 in
theorem ggX4_volume_X1_add : GoodIn wsX4_volume wsX1_add := goodIn_r _ [28, 29, 24, 30, 23, 31, 32, 19, 20, 21, 22, 33, 34, 35, 36, 37, 52, 53, 54, 55, 56, 57] (by decide +kernel) (by decide +kernel)
set_option maxRecDepth 20000 in
theorem gX4_volume_X1_add : GoodIn wsX4_volume (wsV RX4 99 RX1 yX1_add wsX1_add) := goodIn_app (goodIn_of _ (by decide +kernel)) ggX4_volume_X1_add
set_option maxRecDepth 20000 in
theorem ggX4_volume_X1_total : GoodIn wsX4_volume wsX1_total := goodIn_r _ [41, 23, 52, 53, 54, 55, 56, 57] (by decide +kernel) (by decide +kernel)
set_option maxRecDepth 20000 in
theorem gX4_volume_X1_total : GoodIn wsX4_volume (wsV RX4 103 RX1 yX1_total wsX1_total) := goodIn_app (goodIn_of _ (by decide +kernel)) ggX4_volume_X1_total
theorem dX4_volume_0 : decode cX4_volume 0 = .ok (.aload_n 0, 1) := by decide +kernel
theorem dX4_volume_1 : decode cX4_volume 1 = .ok (.lload_n 1, 1) := by decide +kernel
theorem dX4_volume_2 : decode cX4_volume 2 = .ok (.invokevirtual 71, 3) := by decide +kernel
theorem dX4_volume_5 : decode cX4_volume 5 = .ok (.ifCond .eq 5, 3) := by decide +kernel
theorem dX4_volume_8 : decode cX4_volume 8 = .ok (.iconst (-1), 1) := by decide +kernel
theorem dX4_volume_9 : decode cX4_volume 9 = .ok (.ireturn, 1) := by decide +kernel
theorem dX4_volume_10 : decode cX4_volume 10 = .ok (.iload_n 3, 1) := by decide +kernel
theorem dX4_volume_11 : decode cX4_volume 11 = .ok (.ifCond .lt 10, 3) := by decide +kernel
theorem dX4_volume_14 : decode cX4_volume 14 = .ok (.iload_n 3, 1) := by decide +kernel
theorem dX4_volume_15 : decode cX4_volume 15 = .ok (.sipush 1000, 3) := by decide +kernel
theorem dX4_volume_18 : decode cX4_volume 18 = .ok (.if_icmp .le 6, 3) := by decide +kernel
theorem dX4_volume_21 : decode cX4_volume 21 = .ok (.bipush (-2), 2) := by decide +kernel
theorem dX4_volume_23 : decode cX4_volume 23 = .ok (.ireturn, 1) := by decide +kernel
theorem dX4_volume_24 : decode cX4_volume 24 = .ok (.aload_n 0, 1) := by decide +kernel
theorem dX4_volume_25 : decode cX4_volume 25 = .ok (.getfield 28, 3) := by decide +kernel
theorem dX4_volume_28 : decode cX4_volume 28 = .ok (.invokevirtual 78, 3) := by decide +kernel
theorem dX4_volume_31 : decode cX4_volume 31 = .ok (.ifCond .ne 6, 3) := by decide +kernel
theorem dX4_volume_34 : decode cX4_volume 34 = .ok (.bipush (-3), 2) := by decide +kernel
theorem dX4_volume_36 : decode cX4_volume 36 = .ok (.ireturn, 1) := by decide +kernel
theorem dX4_volume_37 : decode cX4_volume 37 = .ok (.aload_n 0, 1) := by decide +kernel
theorem dX4_volume_38 : decode cX4_volume 38 = .ok (.getfield 35, 3) := by decide +kernel
theorem dX4_volume_41 : decode cX4_volume 41 = .ok (.iload_n 3, 1) := by decide +kernel
theorem dX4_volume_42 : decode cX4_volume 42 = .ok (.invokevirtual 96, 3) := by decide +kernel
theorem dX4_volume_45 : decode cX4_volume 45 = .ok (.ifCond .ne 6, 3) := by decide +kernel
theorem dX4_volume_48 : decode cX4_volume 48 = .ok (.bipush (-4), 2) := by decide +kernel
theorem dX4_volume_50 : decode cX4_volume 50 = .ok (.ireturn, 1) := by decide +kernel
theorem dX4_volume_51 : decode cX4_volume 51 = .ok (.aload_n 0, 1) := by decide +kernel
theorem dX4_volume_52 : decode cX4_volume 52 = .ok (.getfield 35, 3) := by decide +kernel
theorem dX4_volume_55 : decode cX4_volume 55 = .ok (.lload_n 1, 1) := by decide +kernel
theorem dX4_volume_56 : decode cX4_volume 56 = .ok (.iload_n 3, 1) := by decide +kernel
theorem dX4_volume_57 : decode cX4_volume 57 = .ok (.invokevirtual 99, 3) := by decide +kernel
theorem dX4_volume_60 : decode cX4_volume 60 = .ok (.aload_n 0, 1) := by decide +kernel
theorem dX4_volume_61 : decode cX4_volume 61 = .ok (.getfield 35, 3) := by decide +kernel
theorem dX4_volume_64 : decode cX4_volume 64 = .ok (.invokevirtual 103, 3) := by decide +kernel
theorem dX4_volume_67 : decode cX4_volume 67 = .ok (.ireturn, 1) := by decide +kernel
set_option maxRecDepth 20000 in
theorem ggX4_height_X4_heightOf : GoodIn wsX4_height wsX4_heightOf := goodIn_r _ [8, 3, 9, 10, 11, 12, 13, 14, 15, 16, 17, 18, 19, 20, 27, 28, 29, 30, 31, 32, 33, 34, 35] (by decide +kernel) (by decide +kernel)
set_option maxRecDepth 20000 in
theorem gX4_height_X4_heightOf : GoodIn wsX4_height (wsV RX4 107 RX4 yX4_heightOf wsX4_heightOf) := goodIn_app (goodIn_of _ (by decide +kernel)) ggX4_height_X4_heightOf
set_option maxRecDepth 20000 in
theorem ggX4_height_X0_put : GoodIn wsX4_height wsX0_put := goodIn_r _ [24, 14, 25, 26, 15, 16, 17, 18, 12, 19, 20, 32, 33, 34, 35] (by decide +kernel) (by decide +kernel)
set_option maxRecDepth 20000 in
theorem gX4_height_X0_put : GoodIn wsX4_height (wsV RX4 111 RX0 yX0_put wsX0_put) := goodIn_app (goodIn_of _ (by decide +kernel)) ggX4_height_X0_put
theorem dX4_height_0 : decode cX4_height 0 = .ok (.iload_n 1, 1) := by decide +kernel
theorem dX4_height_1 : decode cX4_height 1 = .ok (.ifCond .lt 11, 3) := by decide +kernel
theorem dX4_height_4 : decode cX4_height 4 = .ok (.iload_n 1, 1) := by decide +kernel
theorem dX4_height_5 : decode cX4_height 5 = .ok (.aload_n 0, 1) := by decide +kernel
theorem dX4_height_6 : decode cX4_height 6 = .ok (.getfield 19, 3) := by decide +kernel
theorem dX4_height_9 : decode cX4_height 9 = .ok (.if_icmp .lt 5, 3) := by decide +kernel
theorem dX4_height_12 : decode cX4_height 12 = .ok (.iconst (-1), 1) := by decide +kernel
theorem dX4_height_13 : decode cX4_height 13 = .ok (.ireturn, 1) := by decide +kernel
theorem dX4_height_14 : decode cX4_height 14 = .ok (.iload_n 2, 1) := by decide +kernel
theorem dX4_height_15 : decode cX4_height 15 = .ok (.iconst 1, 1) := by decide +kernel
theorem dX4_height_16 : decode cX4_height 16 = .ok (.if_icmp .lt 9, 3) := by decide +kernel
theorem dX4_height_19 : decode cX4_height 19 = .ok (.iload_n 2, 1) := by decide +kernel
theorem dX4_height_20 : decode cX4_height 20 = .ok (.ldc 106, 2) := by decide +kernel
theorem dX4_height_22 : decode cX4_height 22 = .ok (.if_icmp .le 6, 3) := by decide +kernel
theorem dX4_height_25 : decode cX4_height 25 = .ok (.bipush (-2), 2) := by decide +kernel
theorem dX4_height_27 : decode cX4_height 27 = .ok (.ireturn, 1) := by decide +kernel
theorem dX4_height_28 : decode cX4_height 28 = .ok (.aload_n 0, 1) := by decide +kernel
theorem dX4_height_29 : decode cX4_height 29 = .ok (.iload_n 1, 1) := by decide +kernel
theorem dX4_height_30 : decode cX4_height 30 = .ok (.invokevirtual 107, 3) := by decide +kernel
theorem dX4_height_33 : decode cX4_height 33 = .ok (.istore_n 3, 1) := by decide +kernel
theorem dX4_height_34 : decode cX4_height 34 = .ok (.aload_n 0, 1) := by decide +kernel
theorem dX4_height_35 : decode cX4_height 35 = .ok (.getfield 42, 3) := by decide +kernel
theorem dX4_height_38 : decode cX4_height 38 = .ok (.iload_n 1, 1) := by decide +kernel
theorem dX4_height_39 : decode cX4_height 39 = .ok (.iload_n 2, 1) := by decide +kernel
theorem dX4_height_40 : decode cX4_height 40 = .ok (.invokevirtual 111, 3) := by decide +kernel
theorem dX4_height_43 : decode cX4_height 43 = .ok (.ifCond .eq 7, 3) := by decide +kernel
theorem dX4_height_46 : decode cX4_height 46 = .ok (.iload_n 3, 1) := by decide +kernel
theorem dX4_height_47 : decode cX4_height 47 = .ok (.goto 5, 3) := by decide +kernel
theorem dX4_height_50 : decode cX4_height 50 = .ok (.bipush (-2), 2) := by decide +kernel
theorem dX4_height_52 : decode cX4_height 52 = .ok (.ireturn, 1) := by decide +kernel
set_option maxRecDepth 20000 in
theorem ggX4_trays_X2_isLaid : GoodIn wsX4_trays wsX2_isLaid := goodIn_r _ [6, 7, 104, 105, 106, 107, 108] (by decide +kernel) (by decide +kernel)
set_option maxRecDepth 20000 in
theorem gX4_trays_X2_isLaid : GoodIn wsX4_trays (wsV RX4 78 RX2 yX2_isLaid wsX2_isLaid) := goodIn_app (goodIn_of _ (by decide +kernel)) ggX4_trays_X2_isLaid
set_option maxRecDepth 20000 in
theorem ggX4_trays_X2_passCount : GoodIn wsX4_trays wsX2_passCount := goodIn_r _ [11, 12, 104, 105, 106, 107, 108] (by decide +kernel) (by decide +kernel)
set_option maxRecDepth 20000 in
theorem gX4_trays_X2_passCount : GoodIn wsX4_trays (wsV RX4 67 RX2 yX2_passCount wsX2_passCount) := goodIn_app (goodIn_of _ (by decide +kernel)) ggX4_trays_X2_passCount
set_option maxRecDepth 20000 in
theorem ggX4_trays_X4_traysOfPass : GoodIn wsX4_trays wsX4_traysOfPass := goodIn_r _ [17, 18, 19, 1, 20, 21, 22, 23, 24, 25, 26, 27, 28, 29, 30, 31, 32, 33, 34, 35, 36, 37, 38, 39, 40, 41, 42, 43, 44, 45, 5, 46, 47, 48, 49, 50, 51, 52, 12, 53, 54, 55, 56, 57, 58, 59, 60, 61, 62, 63, 64, 65, 66, 67, 68, 69, 70, 71, 72, 73, 74, 75, 76, 77, 78, 79, 80, 81, 82, 83, 84, 85, 86, 87, 88, 89, 90, 91, 92, 93, 16, 94, 95, 96, 97, 98, 99, 100, 101, 102, 103, 109, 110, 111, 112, 113, 114, 115, 116, 117, 118, 104, 105, 106, 107, 108] (by decide +kernel) (by decide +kernel)
set_option maxRecDepth 20000 in
theorem gX4_trays_X4_traysOfPass : GoodIn wsX4_trays (wsV RX4 115 RX4 yX4_traysOfPass wsX4_traysOfPass) := goodIn_app (goodIn_of _ (by decide +kernel)) ggX4_trays_X4_traysOfPass
theorem dX4_trays_0 : decode cX4_trays 0 = .ok (.aload_n 0, 1) := by decide +kernel
theorem dX4_trays_1 : decode cX4_trays 1 = .ok (.getfield 28, 3) := by decide +kernel
theorem dX4_trays_4 : decode cX4_trays 4 = .ok (.invokevirtual 78, 3) := by decide +kernel
theorem dX4_trays_7 : decode cX4_trays 7 = .ok (.ifCond .ne 6, 3) := by decide +kernel
theorem dX4_trays_10 : decode cX4_trays 10 = .ok (.bipush (-3), 2) := by decide +kernel
theorem dX4_trays_12 : decode cX4_trays 12 = .ok (.ireturn, 1) := by decide +kernel
theorem dX4_trays_13 : decode cX4_trays 13 = .ok (.iconst 0, 1) := by decide +kernel
theorem dX4_trays_14 : decode cX4_trays 14 = .ok (.istore_n 1, 1) := by decide +kernel
theorem dX4_trays_15 : decode cX4_trays 15 = .ok (.iconst 0, 1) := by decide +kernel
theorem dX4_trays_16 : decode cX4_trays 16 = .ok (.istore_n 2, 1) := by decide +kernel
theorem dX4_trays_17 : decode cX4_trays 17 = .ok (.iload_n 2, 1) := by decide +kernel
theorem dX4_trays_18 : decode cX4_trays 18 = .ok (.aload_n 0, 1) := by decide +kernel
theorem dX4_trays_19 : decode cX4_trays 19 = .ok (.getfield 28, 3) := by decide +kernel
theorem dX4_trays_22 : decode cX4_trays 22 = .ok (.invokevirtual 67, 3) := by decide +kernel
theorem dX4_trays_25 : decode cX4_trays 25 = .ok (.if_icmp .ge 17, 3) := by decide +kernel
theorem dX4_trays_28 : decode cX4_trays 28 = .ok (.iload_n 1, 1) := by decide +kernel
theorem dX4_trays_29 : decode cX4_trays 29 = .ok (.aload_n 0, 1) := by decide +kernel
theorem dX4_trays_30 : decode cX4_trays 30 = .ok (.iload_n 2, 1) := by decide +kernel
theorem dX4_trays_31 : decode cX4_trays 31 = .ok (.invokevirtual 115, 3) := by decide +kernel
theorem dX4_trays_34 : decode cX4_trays 34 = .ok (.iadd, 1) := by decide +kernel
theorem dX4_trays_35 : decode cX4_trays 35 = .ok (.istore_n 1, 1) := by decide +kernel
theorem dX4_trays_36 : decode cX4_trays 36 = .ok (.iinc 2 1, 3) := by decide +kernel
theorem dX4_trays_39 : decode cX4_trays 39 = .ok (.goto (-22), 3) := by decide +kernel
theorem dX4_trays_42 : decode cX4_trays 42 = .ok (.iload_n 1, 1) := by decide +kernel
theorem dX4_trays_43 : decode cX4_trays 43 = .ok (.ireturn, 1) := by decide +kernel
set_option maxRecDepth 20000 in
theorem ggX4_sort_X4_isUnknownItem : GoodIn wsX4_sort wsX4_isUnknownItem := goodIn_r _ [7, 1, 2, 8, 9, 10, 11, 12, 13, 14, 15, 16, 17, 18, 19, 55, 56, 57, 58, 59, 60, 61, 62, 63, 64, 65, 66, 67, 68, 69, 70] (by decide +kernel) (by decide +kernel)
set_option maxRecDepth 20000 in
theorem gX4_sort_X4_isUnknownItem : GoodIn wsX4_sort (wsV RX4 118 RX4 yX4_isUnknownItem wsX4_isUnknownItem) := goodIn_app (goodIn_of _ (by decide +kernel)) ggX4_sort_X4_isUnknownItem
set_option maxRecDepth 20000 in
theorem ggX4_sort_X4_isUnknownPass : GoodIn wsX4_sort wsX4_isUnknownPass := goodIn_r _ [23, 1, 8, 9, 10, 11, 12, 13, 24, 25, 26, 27, 28, 55, 56, 57, 58, 59, 60, 61, 62, 63, 64] (by decide +kernel) (by decide +kernel)
set_option maxRecDepth 20000 in
theorem gX4_sort_X4_isUnknownPass : GoodIn wsX4_sort (wsV RX4 74 RX4 yX4_isUnknownPass wsX4_isUnknownPass) := goodIn_app (goodIn_of _ (by decide +kernel)) ggX4_sort_X4_isUnknownPass
set_option maxRecDepth 20000 in
theorem ggX4_sort_X2_isLaid : GoodIn wsX4_sort wsX2_isLaid := goodIn_r _ [12, 13, 60, 61, 62, 63, 64] (by decide +kernel) (by decide +kernel)
set_option maxRecDepth 20000 in
theorem gX4_sort_X2_isLaid : GoodIn wsX4_sort (wsV RX4 78 RX2 yX2_isLaid wsX2_isLaid) := goodIn_app (goodIn_of _ (by decide +kernel)) ggX4_sort_X2_isLaid
set_option maxRecDepth 20000 in
theorem ggX4_sort_X2_spanBehind : GoodIn wsX4_sort wsX2_spanBehind := goodIn_r _ [32, 33, 34, 25, 26, 11, 27, 28, 60, 61, 62, 63, 64] (by decide +kernel) (by decide +kernel)
