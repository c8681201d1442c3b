theorem dX5_greatest_0 : decode cX5_greatest 0 = .ok (.lload_n 0, 1) := by decide +kernel
theorem dX5_greatest_1 : decode cX5_greatest 1 = .ok (.ldc2_w 40, 3) := by decide +kernel
theorem dX5_greatest_4 : decode cX5_greatest 4 = .ok (.iload_n 2, 1) := by decide +kernel
theorem dX5_greatest_5 : decode cX5_greatest 5 = .ok (.i2l, 1) := by decide +kernel
theorem dX5_greatest_6 : decode cX5_greatest 6 = .ok (.lmul, 1) := by decide +kernel
theorem dX5_greatest_7 : decode cX5_greatest 7 = .ok (.lcmp, 1) := by decide +kernel
theorem dX5_greatest_8 : decode cX5_greatest 8 = .ok (.ifCond .lt 13, 3) := by decide +kernel
theorem dX5_greatest_11 : decode cX5_greatest 11 = .ok (.lload_n 0, 1) := by decide +kernel
theorem dX5_greatest_12 : decode cX5_greatest 12 = .ok (.iload_n 2, 1) := by decide +kernel
theorem dX5_greatest_13 : decode cX5_greatest 13 = .ok (.i2l, 1) := by decide +kernel
theorem dX5_greatest_14 : decode cX5_greatest 14 = .ok (.iload_n 3, 1) := by decide +kernel
theorem dX5_greatest_15 : decode cX5_greatest 15 = .ok (.i2l, 1) := by decide +kernel
theorem dX5_greatest_16 : decode cX5_greatest 16 = .ok (.lmul, 1) := by decide +kernel
theorem dX5_greatest_17 : decode cX5_greatest 17 = .ok (.lcmp, 1) := by decide +kernel
theorem dX5_greatest_18 : decode cX5_greatest 18 = .ok (.ifCond .le 5, 3) := by decide +kernel
theorem dX5_greatest_21 : decode cX5_greatest 21 = .ok (.lconst 0, 1) := by decide +kernel
theorem dX5_greatest_22 : decode cX5_greatest 22 = .ok (.lreturn, 1) := by decide +kernel
theorem dX5_greatest_23 : decode cX5_greatest 23 = .ok (.lload_n 0, 1) := by decide +kernel
theorem dX5_greatest_24 : decode cX5_greatest 24 = .ok (.lstore 4, 2) := by decide +kernel
theorem dX5_greatest_26 : decode cX5_greatest 26 = .ok (.lconst 1, 1) := by decide +kernel
theorem dX5_greatest_27 : decode cX5_greatest 27 = .ok (.lstore 6, 2) := by decide +kernel
theorem dX5_greatest_29 : decode cX5_greatest 29 = .ok (.iload_n 2, 1) := by decide +kernel
theorem dX5_greatest_30 : decode cX5_greatest 30 = .ok (.istore 8, 2) := by decide +kernel
theorem dX5_greatest_32 : decode cX5_greatest 32 = .ok (.iload 8, 2) := by decide +kernel
theorem dX5_greatest_34 : decode cX5_greatest 34 = .ok (.ifCond .le 33, 3) := by decide +kernel
theorem dX5_greatest_37 : decode cX5_greatest 37 = .ok (.lload 4, 2) := by decide +kernel
theorem dX5_greatest_39 : decode cX5_greatest 39 = .ok (.iload 8, 2) := by decide +kernel
theorem dX5_greatest_41 : decode cX5_greatest 41 = .ok (.i2l, 1) := by decide +kernel
theorem dX5_greatest_42 : decode cX5_greatest 42 = .ok (.ldiv, 1) := by decide +kernel
theorem dX5_greatest_43 : decode cX5_greatest 43 = .ok (.lstore 9, 2) := by decide +kernel
theorem dX5_greatest_45 : decode cX5_greatest 45 = .ok (.lload 6, 2) := by decide +kernel
theorem dX5_greatest_47 : decode cX5_greatest 47 = .ok (.lload 9, 2) := by decide +kernel
theorem dX5_greatest_49 : decode cX5_greatest 49 = .ok (.invokestatic 36, 3) := by decide +kernel
theorem dX5_greatest_52 : decode cX5_greatest 52 = .ok (.lstore 6, 2) := by decide +kernel
theorem dX5_greatest_54 : decode cX5_greatest 54 = .ok (.lload 4, 2) := by decide +kernel
theorem dX5_greatest_56 : decode cX5_greatest 56 = .ok (.lload 9, 2) := by decide +kernel
theorem dX5_greatest_58 : decode cX5_greatest 58 = .ok (.lsub, 1) := by decide +kernel
theorem dX5_greatest_59 : decode cX5_greatest 59 = .ok (.lstore 4, 2) := by decide +kernel
theorem dX5_greatest_61 : decode cX5_greatest 61 = .ok (.iinc 8 (-1), 3) := by decide +kernel
theorem dX5_greatest_64 : decode cX5_greatest 64 = .ok (.goto (-32), 3) := by decide +kernel
theorem dX5_greatest_67 : decode cX5_greatest 67 = .ok (.lload 6, 2) := by decide +kernel
theorem dX5_greatest_69 : decode cX5_greatest 69 = .ok (.lreturn, 1) := by decide +kernel
set_option maxRecDepth 20000 in
theorem ggX5_choose_X5_greatest : GoodIn wsX5_choose wsX5_greatest := goodIn_r _ [10, 1, 11, 12, 9, 13, 14] (by decide +kernel) (by decide +kernel)
set_option maxRecDepth 20000 in
theorem gX5_choose_X5_greatest : GoodIn wsX5_choose (va_wsS RX5 47 yX5_greatest wsX5_greatest) := goodIn_app (goodIn_of _ (by decide +kernel)) ggX5_choose_X5_greatest
set_option maxRecDepth 20000 in
theorem ggX5_choose_X5_product : GoodIn wsX5_choose wsX5_product := goodIn_r _ [13, 14] (by decide +kernel) (by decide +kernel)
set_option maxRecDepth 20000 in
theorem gX5_choose_X5_product : GoodIn wsX5_choose (va_wsS RX5 36 yX5_product wsX5_product) := goodIn_app (goodIn_of _ (by decide +kernel)) ggX5_choose_X5_product
theorem dX5_choose_0 : decode cX5_choose 0 = .ok (.ldc2_w 40, 3) := by decide +kernel
theorem dX5_choose_3 : decode cX5_choose 3 = .ok (.aload_n 0, 1) := by decide +kernel
theorem dX5_choose_4 : decode cX5_choose 4 = .ok (.getfield 42, 3) := by decide +kernel
theorem dX5_choose_7 : decode cX5_choose 7 = .ok (.i2l, 1) := by decide +kernel
theorem dX5_choose_8 : decode cX5_choose 8 = .ok (.lmul, 1) := by decide +kernel
theorem dX5_choose_9 : decode cX5_choose 9 = .ok (.lstore_n 1, 1) := by decide +kernel
theorem dX5_choose_10 : decode cX5_choose 10 = .ok (.ldc2_w 45, 3) := by decide +kernel
theorem dX5_choose_13 : decode cX5_choose 13 = .ok (.lstore_n 3, 1) := by decide +kernel
theorem dX5_choose_14 : decode cX5_choose 14 = .ok (.lload_n 3, 1) := by decide +kernel
theorem dX5_choose_15 : decode cX5_choose 15 = .ok (.lconst 0, 1) := by decide +kernel
theorem dX5_choose_16 : decode cX5_choose 16 = .ok (.lcmp, 1) := by decide +kernel
theorem dX5_choose_17 : decode cX5_choose 17 = .ok (.ifCond .le 60, 3) := by decide +kernel
theorem dX5_choose_20 : decode cX5_choose 20 = .ok (.lload_n 1, 1) := by decide +kernel
theorem dX5_choose_21 : decode cX5_choose 21 = .ok (.lload_n 3, 1) := by decide +kernel
theorem dX5_choose_22 : decode cX5_choose 22 = .ok (.ladd, 1) := by decide +kernel
theorem dX5_choose_23 : decode cX5_choose 23 = .ok (.aload_n 0, 1) := by decide +kernel
theorem dX5_choose_24 : decode cX5_choose 24 = .ok (.getfield 42, 3) := by decide +kernel
theorem dX5_choose_27 : decode cX5_choose 27 = .ok (.aload_n 0, 1) := by decide +kernel
theorem dX5_choose_28 : decode cX5_choose 28 = .ok (.getfield 27, 3) := by decide +kernel
theorem dX5_choose_31 : decode cX5_choose 31 = .ok (.invokestatic 47, 3) := by decide +kernel
theorem dX5_choose_34 : decode cX5_choose 34 = .ok (.lconst 0, 1) := by decide +kernel
theorem dX5_choose_35 : decode cX5_choose 35 = .ok (.lcmp, 1) := by decide +kernel
theorem dX5_choose_36 : decode cX5_choose 36 = .ok (.ifCond .le 32, 3) := by decide +kernel
theorem dX5_choose_39 : decode cX5_choose 39 = .ok (.lload_n 1, 1) := by decide +kernel
theorem dX5_choose_40 : decode cX5_choose 40 = .ok (.lload_n 3, 1) := by decide +kernel
theorem dX5_choose_41 : decode cX5_choose 41 = .ok (.ladd, 1) := by decide +kernel
theorem dX5_choose_42 : decode cX5_choose 42 = .ok (.aload_n 0, 1) := by decide +kernel
theorem dX5_choose_43 : decode cX5_choose 43 = .ok (.getfield 42, 3) := by decide +kernel
theorem dX5_choose_46 : decode cX5_choose 46 = .ok (.aload_n 0, 1) := by decide +kernel
theorem dX5_choose_47 : decode cX5_choose 47 = .ok (.getfield 27, 3) := by decide +kernel
theorem dX5_choose_50 : decode cX5_choose 50 = .ok (.invokestatic 47, 3) := by decide +kernel
theorem dX5_choose_53 : decode cX5_choose 53 = .ok (.aload_n 0, 1) := by decide +kernel
theorem dX5_choose_54 : decode cX5_choose 54 = .ok (.getfield 51, 3) := by decide +kernel
theorem dX5_choose_57 : decode cX5_choose 57 = .ok (.lcmp, 1) := by decide +kernel
theorem dX5_choose_58 : decode cX5_choose 58 = .ok (.ifCond .ge 10, 3) := by decide +kernel
theorem dX5_choose_61 : decode cX5_choose 61 = .ok (.lload_n 1, 1) := by decide +kernel
theorem dX5_choose_62 : decode cX5_choose 62 = .ok (.lload_n 3, 1) := by decide +kernel
theorem dX5_choose_63 : decode cX5_choose 63 = .ok (.ladd, 1) := by decide +kernel
theorem dX5_choose_64 : decode cX5_choose 64 = .ok (.lstore_n 1, 1) := by decide +kernel
theorem dX5_choose_65 : decode cX5_choose 65 = .ok (.goto (-45), 3) := by decide +kernel
theorem dX5_choose_68 : decode cX5_choose 68 = .ok (.lload_n 3, 1) := by decide +kernel
theorem dX5_choose_69 : decode cX5_choose 69 = .ok (.ldc2_w 40, 3) := by decide +kernel
theorem dX5_choose_72 : decode cX5_choose 72 = .ok (.ldiv, 1) := by decide +kernel
theorem dX5_choose_73 : decode cX5_choose 73 = .ok (.lstore_n 3, 1) := by decide +kernel
theorem dX5_choose_74 : decode cX5_choose 74 = .ok (.goto (-60), 3) := by decide +kernel
theorem dX5_choose_77 : decode cX5_choose 77 = .ok (.lload_n 1, 1) := by decide +kernel
theorem dX5_choose_78 : decode cX5_choose 78 = .ok (.aload_n 0, 1) := by decide +kernel
theorem dX5_choose_79 : decode cX5_choose 79 = .ok (.getfield 42, 3) := by decide +kernel
theorem dX5_choose_82 : decode cX5_choose 82 = .ok (.aload_n 0, 1) := by decide +kernel
theorem dX5_choose_83 : decode cX5_choose 83 = .ok (.getfield 27, 3) := by decide +kernel
theorem dX5_choose_86 : decode cX5_choose 86 = .ok (.invokestatic 47, 3) := by decide +kernel
theorem dX5_choose_89 : decode cX5_choose 89 = .ok (.aload_n 0, 1) := by decide +kernel
theorem dX5_choose_90 : decode cX5_choose 90 = .ok (.getfield 51, 3) := by decide +kernel
theorem dX5_choose_93 : decode cX5_choose 93 = .ok (.lcmp, 1) := by decide +kernel
theorem dX5_choose_94 : decode cX5_choose 94 = .ok (.ifCond .ge 7, 3) := by decide +kernel
theorem dX5_choose_97 : decode cX5_choose 97 = .ok (.lload_n 1, 1) := by decide +kernel
theorem dX5_choose_98 : decode cX5_choose 98 = .ok (.lconst 1, 1) := by decide +kernel
theorem dX5_choose_99 : decode cX5_choose 99 = .ok (.ladd, 1) := by decide +kernel
theorem dX5_choose_100 : decode cX5_choose 100 = .ok (.lstore_n 1, 1) := by decide +kernel
theorem dX5_choose_101 : decode cX5_choose 101 = .ok (.lconst 1, 1) := by decide +kernel
theorem dX5_choose_102 : decode cX5_choose 102 = .ok (.lstore 5, 2) := by decide +kernel
theorem dX5_choose_104 : decode cX5_choose 104 = .ok (.iconst 0, 1) := by decide +kernel
theorem dX5_choose_105 : decode cX5_choose 105 = .ok (.istore 7, 2) := by decide +kernel
theorem dX5_choose_107 : decode cX5_choose 107 = .ok (.iload 7, 2) := by decide +kernel
theorem dX5_choose_109 : decode cX5_choose 109 = .ok (.aload_n 0, 1) := by decide +kernel
theorem dX5_choose_110 : decode cX5_choose 110 = .ok (.getfield 42, 3) := by decide +kernel
theorem dX5_choose_113 : decode cX5_choose 113 = .ok (.if_icmp .ge 83, 3) := by decide +kernel
theorem dX5_choose_116 : decode cX5_choose 116 = .ok (.iconst 2, 1) := by decide +kernel
theorem dX5_choose_117 : decode cX5_choose 117 = .ok (.istore 8, 2) := by decide +kernel
theorem dX5_choose_119 : decode cX5_choose 119 = .ok (.lload 5, 2) := by decide +kernel
theorem dX5_choose_121 : decode cX5_choose 121 = .ok (.iload 8, 2) := by decide +kernel
theorem dX5_choose_123 : decode cX5_choose 123 = .ok (.i2l, 1) := by decide +kernel
theorem dX5_choose_124 : decode cX5_choose 124 = .ok (.invokestatic 36, 3) := by decide +kernel
theorem dX5_choose_127 : decode cX5_choose 127 = .ok (.lload_n 1, 1) := by decide +kernel
theorem dX5_choose_128 : decode cX5_choose 128 = .ok (.iload 8, 2) := by decide +kernel
theorem dX5_choose_130 : decode cX5_choose 130 = .ok (.i2l, 1) := by decide +kernel
theorem dX5_choose_131 : decode cX5_choose 131 = .ok (.lsub, 1) := by decide +kernel
theorem dX5_choose_132 : decode cX5_choose 132 = .ok (.aload_n 0, 1) := by decide +kernel
theorem dX5_choose_133 : decode cX5_choose 133 = .ok (.getfield 42, 3) := by decide +kernel
theorem dX5_choose_136 : decode cX5_choose 136 = .ok (.iload 7, 2) := by decide +kernel
theorem dX5_choose_138 : decode cX5_choose 138 = .ok (.isub, 1) := by decide +kernel
theorem dX5_choose_139 : decode cX5_choose 139 = .ok (.iconst 1, 1) := by decide +kernel
theorem dX5_choose_140 : decode cX5_choose 140 = .ok (.isub, 1) := by decide +kernel
theorem dX5_choose_141 : decode cX5_choose 141 = .ok (.aload_n 0, 1) := by decide +kernel
theorem dX5_choose_142 : decode cX5_choose 142 = .ok (.getfield 27, 3) := by decide +kernel
theorem dX5_choose_145 : decode cX5_choose 145 = .ok (.invokestatic 47, 3) := by decide +kernel
theorem dX5_choose_148 : decode cX5_choose 148 = .ok (.invokestatic 36, 3) := by decide +kernel
theorem dX5_choose_151 : decode cX5_choose 151 = .ok (.aload_n 0, 1) := by decide +kernel
theorem dX5_choose_152 : decode cX5_choose 152 = .ok (.getfield 51, 3) := by decide +kernel
theorem dX5_choose_155 : decode cX5_choose 155 = .ok (.lcmp, 1) := by decide +kernel
theorem dX5_choose_156 : decode cX5_choose 156 = .ok (.ifCond .ge 9, 3) := by decide +kernel
theorem dX5_choose_159 : decode cX5_choose 159 = .ok (.iinc 8 1, 3) := by decide +kernel
theorem dX5_choose_162 : decode cX5_choose 162 = .ok (.goto (-43), 3) := by decide +kernel
theorem dX5_choose_165 : decode cX5_choose 165 = .ok (.aload_n 0, 1) := by decide +kernel
theorem dX5_choose_166 : decode cX5_choose 166 = .ok (.getfield 17, 3) := by decide +kernel
theorem dX5_choose_169 : decode cX5_choose 169 = .ok (.iload 7, 2) := by decide +kernel
theorem dX5_choose_171 : decode cX5_choose 171 = .ok (.iload 8, 2) := by decide +kernel
theorem dX5_choose_173 : decode cX5_choose 173 = .ok (.iastore, 1) := by decide +kernel
theorem dX5_choose_174 : decode cX5_choose 174 = .ok (.lload_n 1, 1) := by decide +kernel
theorem dX5_choose_175 : decode cX5_choose 175 = .ok (.iload 8, 2) := by decide +kernel
theorem dX5_choose_177 : decode cX5_choose 177 = .ok (.i2l, 1) := by decide +kernel
theorem dX5_choose_178 : decode cX5_choose 178 = .ok (.lsub, 1) := by decide +kernel
theorem dX5_choose_179 : decode cX5_choose 179 = .ok (.lstore_n 1, 1) := by decide +kernel
theorem dX5_choose_180 : decode cX5_choose 180 = .ok (.lload 5, 2) := by decide +kernel
theorem dX5_choose_182 : decode cX5_choose 182 = .ok (.iload 8, 2) := by decide +kernel
theorem dX5_choose_184 : decode cX5_choose 184 = .ok (.i2l, 1) := by decide +kernel
theorem dX5_choose_185 : decode cX5_choose 185 = .ok (.invokestatic 36, 3) := by decide +kernel
theorem dX5_choose_188 : decode cX5_choose 188 = .ok (.lstore 5, 2) := by decide +kernel
theorem dX5_choose_190 : decode cX5_choose 190 = .ok (.iinc 7 1, 3) := by decide +kernel
theorem dX5_choose_193 : decode cX5_choose 193 = .ok (.goto (-86), 3) := by decide +kernel
theorem dX5_choose_196 : decode cX5_choose 196 = .ok (.return_, 1) := by decide +kernel
set_option maxRecDepth 20000 in
theorem ggX5_passes_X5_isCount : GoodIn wsX5_passes wsX5_isCount := goodIn_r _ [10, 11] (by decide +kernel) (by decide +kernel)
set_option maxRecDepth 20000 in
theorem gX5_passes_X5_isCount : GoodIn wsX5_passes (va_wsS RX5 55 yX5_isCount wsX5_isCount) := goodIn_app (goodIn_of _ (by decide +kernel)) ggX5_passes_X5_isCount
set_option maxRecDepth 20000 in
theorem ggX5_passes_X5_fewest : GoodIn wsX5_passes wsX5_fewest := goodIn_r _ [14, 15, 16, 9, 17, 11] (by decide +kernel) (by decide +kernel)
set_option maxRecDepth 20000 in
theorem gX5_passes_X5_fewest : GoodIn wsX5_passes (va_wsS RX5 66 yX5_fewest wsX5_fewest) := goodIn_app (goodIn_of _ (by decide +kernel)) ggX5_passes_X5_fewest
set_option maxRecDepth 20000 in
theorem ggX5_passes_X5_choose : GoodIn wsX5_passes wsX5_choose := goodIn_r _ [21, 22, 6, 23, 1, 4, 24, 25, 26, 9, 27, 15, 16, 17, 11, 28, 29, 30, 31, 32, 33, 34, 35, 36, 37, 38] (by decide +kernel) (by decide +kernel)
set_option maxRecDepth 20000 in
theorem gX5_passes_X5_choose : GoodIn wsX5_passes (wsV RX5 70 RX5 yX5_choose wsX5_choose) := goodIn_app (goodIn_of _ (by decide +kernel)) ggX5_passes_X5_choose
theorem dX5_passes_0 : decode cX5_passes 0 = .ok (.aload_n 0, 1) := by decide +kernel
theorem dX5_passes_1 : decode cX5_passes 1 = .ok (.aload_n 0, 1) := by decide +kernel
theorem dX5_passes_2 : decode cX5_passes 2 = .ok (.getfield 27, 3) := by decide +kernel
theorem dX5_passes_5 : decode cX5_passes 5 = .ok (.iconst 2, 1) := by decide +kernel
theorem dX5_passes_6 : decode cX5_passes 6 = .ok (.if_icmp .ge 7, 3) := by decide +kernel
theorem dX5_passes_9 : decode cX5_passes 9 = .ok (.iconst 1, 1) := by decide +kernel
theorem dX5_passes_10 : decode cX5_passes 10 = .ok (.goto 4, 3) := by decide +kernel
theorem dX5_passes_13 : decode cX5_passes 13 = .ok (.iconst 0, 1) := by decide +kernel
theorem dX5_passes_14 : decode cX5_passes 14 = .ok (.putfield 31, 3) := by decide +kernel
theorem dX5_passes_17 : decode cX5_passes 17 = .ok (.aload_n 0, 1) := by decide +kernel
theorem dX5_passes_18 : decode cX5_passes 18 = .ok (.getfield 31, 3) := by decide +kernel
theorem dX5_passes_21 : decode cX5_passes 21 = .ok (.ifCond .le 5, 3) := by decide +kernel
theorem dX5_passes_24 : decode cX5_passes 24 = .ok (.iconst 0, 1) := by decide +kernel
theorem dX5_passes_25 : decode cX5_passes 25 = .ok (.ireturn, 1) := by decide +kernel
theorem dX5_passes_26 : decode cX5_passes 26 = .ok (.lload_n 1, 1) := by decide +kernel
theorem dX5_passes_27 : decode cX5_passes 27 = .ok (.invokestatic 55, 3) := by decide +kernel
theorem dX5_passes_30 : decode cX5_passes 30 = .ok (.ifCond .ne 6, 3) := by decide +kernel
theorem dX5_passes_33 : decode cX5_passes 33 = .ok (.bipush (-2), 2) := by decide +kernel
theorem dX5_passes_35 : decode cX5_passes 35 = .ok (.ireturn, 1) := by decide +kernel
theorem dX5_passes_36 : decode cX5_passes 36 = .ok (.aload_n 0, 1) := by decide +kernel
theorem dX5_passes_37 : decode cX5_passes 37 = .ok (.iconst 1, 1) := by decide +kernel
theorem dX5_passes_38 : decode cX5_passes 38 = .ok (.putfield 59, 3) := by decide +kernel
theorem dX5_passes_41 : decode cX5_passes 41 = .ok (.aload_n 0, 1) := by decide +kernel
theorem dX5_passes_42 : decode cX5_passes 42 = .ok (.lload_n 1, 1) := by decide +kernel
theorem dX5_passes_43 : decode cX5_passes 43 = .ok (.putfield 51, 3) := by decide +kernel
theorem dX5_passes_46 : decode cX5_passes 46 = .ok (.aload_n 0, 1) := by decide +kernel
theorem dX5_passes_47 : decode cX5_passes 47 = .ok (.iconst 0, 1) := by decide +kernel
theorem dX5_passes_48 : decode cX5_passes 48 = .ok (.putfield 63, 3) := by decide +kernel
theorem dX5_passes_51 : decode cX5_passes 51 = .ok (.aload_n 0, 1) := by decide +kernel
theorem dX5_passes_52 : decode cX5_passes 52 = .ok (.lload_n 1, 1) := by decide +kernel
theorem dX5_passes_53 : decode cX5_passes 53 = .ok (.aload_n 0, 1) := by decide +kernel
theorem dX5_passes_54 : decode cX5_passes 54 = .ok (.getfield 27, 3) := by decide +kernel
theorem dX5_passes_57 : decode cX5_passes 57 = .ok (.invokestatic 66, 3) := by decide +kernel
theorem dX5_passes_60 : decode cX5_passes 60 = .ok (.putfield 42, 3) := by decide +kernel
theorem dX5_passes_63 : decode cX5_passes 63 = .ok (.aload_n 0, 1) := by decide +kernel
theorem dX5_passes_64 : decode cX5_passes 64 = .ok (.invokevirtual 70, 3) := by decide +kernel
theorem dX5_passes_67 : decode cX5_passes 67 = .ok (.aload_n 0, 1) := by decide +kernel
theorem dX5_passes_68 : decode cX5_passes 68 = .ok (.getfield 42, 3) := by decide +kernel
theorem dX5_passes_71 : decode cX5_passes 71 = .ok (.ireturn, 1) := by decide +kernel
theorem dX5_isPoint_0 : decode cX5_isPoint 0 = .ok (.lload_n 1, 1) := by decide +kernel
theorem dX5_isPoint_1 : decode cX5_isPoint 1 = .ok (.lconst 0, 1) := by decide +kernel
theorem dX5_isPoint_2 : decode cX5_isPoint 2 = .ok (.lcmp, 1) := by decide +kernel
theorem dX5_isPoint_3 : decode cX5_isPoint 3 = .ok (.ifCond .lt 23, 3) := by decide +kernel
theorem dX5_isPoint_6 : decode cX5_isPoint 6 = .ok (.aload_n 0, 1) := by decide +kernel
theorem dX5_isPoint_7 : decode cX5_isPoint 7 = .ok (.getfield 59, 3) := by decide +kernel
theorem dX5_isPoint_10 : decode cX5_isPoint 10 = .ok (.ifCond .eq 12, 3) := by decide +kernel
theorem dX5_isPoint_13 : decode cX5_isPoint 13 = .ok (.lload_n 1, 1) := by decide +kernel
theorem dX5_isPoint_14 : decode cX5_isPoint 14 = .ok (.aload_n 0, 1) := by decide +kernel
theorem dX5_isPoint_15 : decode cX5_isPoint 15 = .ok (.getfield 51, 3) := by decide +kernel
theorem dX5_isPoint_18 : decode cX5_isPoint 18 = .ok (.lcmp, 1) := by decide +kernel
theorem dX5_isPoint_19 : decode cX5_isPoint 19 = .ok (.ifCond .ge 7, 3) := by decide +kernel
theorem dX5_isPoint_22 : decode cX5_isPoint 22 = .ok (.iconst 1, 1) := by decide +kernel
theorem dX5_isPoint_23 : decode cX5_isPoint 23 = .ok (.goto 4, 3) := by decide +kernel
theorem dX5_isPoint_26 : decode cX5_isPoint 26 = .ok (.iconst 0, 1) := by decide +kernel
theorem dX5_isPoint_27 : decode cX5_isPoint 27 = .ok (.ireturn, 1) := by decide +kernel
theorem dX5_isPass_0 : decode cX5_isPass 0 = .ok (.iload_n 1, 1) := by decide +kernel
theorem dX5_isPass_1 : decode cX5_isPass 1 = .ok (.ifCond .lt 22, 3) := by decide +kernel
theorem dX5_isPass_4 : decode cX5_isPass 4 = .ok (.aload_n 0, 1) := by decide +kernel
theorem dX5_isPass_5 : decode cX5_isPass 5 = .ok (.getfield 59, 3) := by decide +kernel
theorem dX5_isPass_8 : decode cX5_isPass 8 = .ok (.ifCond .eq 11, 3) := by decide +kernel
theorem dX5_isPass_11 : decode cX5_isPass 11 = .ok (.iload_n 1, 1) := by decide +kernel
theorem dX5_isPass_12 : decode cX5_isPass 12 = .ok (.aload_n 0, 1) := by decide +kernel
theorem dX5_isPass_13 : decode cX5_isPass 13 = .ok (.getfield 42, 3) := by decide +kernel
theorem dX5_isPass_16 : decode cX5_isPass 16 = .ok (.if_icmp .ge 7, 3) := by decide +kernel
theorem dX5_isPass_19 : decode cX5_isPass 19 = .ok (.iconst 1, 1) := by decide +kernel
theorem dX5_isPass_20 : decode cX5_isPass 20 = .ok (.goto 4, 3) := by decide +kernel
theorem dX5_isPass_23 : decode cX5_isPass 23 = .ok (.iconst 0, 1) := by decide +kernel
theorem dX5_isPass_24 : decode cX5_isPass 24 = .ok (.ireturn, 1) := by decide +kernel
theorem dX5_isItem_0 : decode cX5_isItem 0 = .ok (.iload_n 1, 1) := by decide +kernel
theorem dX5_isItem_1 : decode cX5_isItem 1 = .ok (.ifCond .lt 22, 3) := by decide +kernel
theorem dX5_isItem_4 : decode cX5_isItem 4 = .ok (.aload_n 0, 1) := by decide +kernel
theorem dX5_isItem_5 : decode cX5_isItem 5 = .ok (.getfield 59, 3) := by decide +kernel
theorem dX5_isItem_8 : decode cX5_isItem 8 = .ok (.ifCond .eq 11, 3) := by decide +kernel
theorem dX5_isItem_11 : decode cX5_isItem 11 = .ok (.iload_n 1, 1) := by decide +kernel
theorem dX5_isItem_12 : decode cX5_isItem 12 = .ok (.aload_n 0, 1) := by decide +kernel
theorem dX5_isItem_13 : decode cX5_isItem 13 = .ok (.getfield 63, 3) := by decide +kernel
theorem dX5_isItem_16 : decode cX5_isItem 16 = .ok (.if_icmp .ge 7, 3) := by decide +kernel
theorem dX5_isItem_19 : decode cX5_isItem 19 = .ok (.iconst 1, 1) := by decide +kernel
theorem dX5_isItem_20 : decode cX5_isItem 20 = .ok (.goto 4, 3) := by decide +kernel
theorem dX5_isItem_23 : decode cX5_isItem 23 = .ok (.iconst 0, 1) := by decide +kernel
theorem dX5_isItem_24 : decode cX5_isItem 24 = .ok (.ireturn, 1) := by decide +kernel
set_option maxRecDepth 20000 in
theorem ggX5_digit_X5_isPoint : GoodIn wsX5_digit wsX5_isPoint := goodIn_r _ [8, 2, 9, 15, 16, 17, 18, 19, 20, 21, 22, 23, 24, 25] (by decide +kernel) (by decide +kernel)
set_option maxRecDepth 20000 in
theorem gX5_digit_X5_isPoint : GoodIn wsX5_digit (wsV RX5 73 RX5 yX5_isPoint wsX5_isPoint) := goodIn_app (goodIn_of _ (by decide +kernel)) ggX5_digit_X5_isPoint
set_option maxRecDepth 20000 in
theorem ggX5_digit_X5_isPass : GoodIn wsX5_digit wsX5_isPass := goodIn_r _ [13, 2, 14, 15, 16, 17, 18, 19, 20, 21, 22, 23, 24, 25] (by decide +kernel) (by decide +kernel)
set_option maxRecDepth 20000 in
theorem gX5_digit_X5_isPass : GoodIn wsX5_digit (wsV RX5 76 RX5 yX5_isPass wsX5_isPass) := goodIn_app (goodIn_of _ (by decide +kernel)) ggX5_digit_X5_isPass
theorem dX5_digit_0 : decode cX5_digit 0 = .ok (.aload_n 0, 1) := by decide +kernel
theorem dX5_digit_1 : decode cX5_digit 1 = .ok (.iconst 0, 1) := by decide +kernel
theorem dX5_digit_2 : decode cX5_digit 2 = .ok (.putfield 31, 3) := by decide +kernel
theorem dX5_digit_5 : decode cX5_digit 5 = .ok (.aload_n 0, 1) := by decide +kernel
theorem dX5_digit_6 : decode cX5_digit 6 = .ok (.lload_n 1, 1) := by decide +kernel
theorem dX5_digit_7 : decode cX5_digit 7 = .ok (.invokevirtual 73, 3) := by decide +kernel
theorem dX5_digit_10 : decode cX5_digit 10 = .ok (.ifCond .eq 11, 3) := by decide +kernel
theorem dX5_digit_13 : decode cX5_digit 13 = .ok (.aload_n 0, 1) := by decide +kernel
theorem dX5_digit_14 : decode cX5_digit 14 = .ok (.iload_n 3, 1) := by decide +kernel
theorem dX5_digit_15 : decode cX5_digit 15 = .ok (.invokevirtual 76, 3) := by decide +kernel
theorem dX5_digit_18 : decode cX5_digit 18 = .ok (.ifCond .ne 5, 3) := by decide +kernel
theorem dX5_digit_21 : decode cX5_digit 21 = .ok (.iconst (-1), 1) := by decide +kernel
theorem dX5_digit_22 : decode cX5_digit 22 = .ok (.ireturn, 1) := by decide +kernel
theorem dX5_digit_23 : decode cX5_digit 23 = .ok (.aload_n 0, 1) := by decide +kernel
theorem dX5_digit_24 : decode cX5_digit 24 = .ok (.getfield 59, 3) := by decide +kernel
theorem dX5_digit_27 : decode cX5_digit 27 = .ok (.ifCond .ne 6, 3) := by decide +kernel
theorem dX5_digit_30 : decode cX5_digit 30 = .ok (.bipush (-3), 2) := by decide +kernel
theorem dX5_digit_32 : decode cX5_digit 32 = .ok (.ireturn, 1) := by decide +kernel
theorem dX5_digit_33 : decode cX5_digit 33 = .ok (.lload_n 1, 1) := by decide +kernel
theorem dX5_digit_34 : decode cX5_digit 34 = .ok (.lstore 4, 2) := by decide +kernel
theorem dX5_digit_36 : decode cX5_digit 36 = .ok (.iconst 0, 1) := by decide +kernel
theorem dX5_digit_37 : decode cX5_digit 37 = .ok (.istore 6, 2) := by decide +kernel
theorem dX5_digit_39 : decode cX5_digit 39 = .ok (.iload 6, 2) := by decide +kernel
theorem dX5_digit_41 : decode cX5_digit 41 = .ok (.iload_n 3, 1) := by decide +kernel
theorem dX5_digit_42 : decode cX5_digit 42 = .ok (.if_icmp .ge 22, 3) := by decide +kernel
theorem dX5_digit_45 : decode cX5_digit 45 = .ok (.lload 4, 2) := by decide +kernel
theorem dX5_digit_47 : decode cX5_digit 47 = .ok (.aload_n 0, 1) := by decide +kernel
theorem dX5_digit_48 : decode cX5_digit 48 = .ok (.getfield 17, 3) := by decide +kernel
theorem dX5_digit_51 : decode cX5_digit 51 = .ok (.iload 6, 2) := by decide +kernel
theorem dX5_digit_53 : decode cX5_digit 53 = .ok (.iaload, 1) := by decide +kernel
theorem dX5_digit_54 : decode cX5_digit 54 = .ok (.i2l, 1) := by decide +kernel
theorem dX5_digit_55 : decode cX5_digit 55 = .ok (.ldiv, 1) := by decide +kernel
theorem dX5_digit_56 : decode cX5_digit 56 = .ok (.lstore 4, 2) := by decide +kernel
theorem dX5_digit_58 : decode cX5_digit 58 = .ok (.iinc 6 1, 3) := by decide +kernel
theorem dX5_digit_61 : decode cX5_digit 61 = .ok (.goto (-22), 3) := by decide +kernel
theorem dX5_digit_64 : decode cX5_digit 64 = .ok (.lload 4, 2) := by decide +kernel
theorem dX5_digit_66 : decode cX5_digit 66 = .ok (.aload_n 0, 1) := by decide +kernel
theorem dX5_digit_67 : decode cX5_digit 67 = .ok (.getfield 17, 3) := by decide +kernel
theorem dX5_digit_70 : decode cX5_digit 70 = .ok (.iload_n 3, 1) := by decide +kernel
theorem dX5_digit_71 : decode cX5_digit 71 = .ok (.iaload, 1) := by decide +kernel
theorem dX5_digit_72 : decode cX5_digit 72 = .ok (.i2l, 1) := by decide +kernel
theorem dX5_digit_73 : decode cX5_digit 73 = .ok (.lrem, 1) := by decide +kernel
theorem dX5_digit_74 : decode cX5_digit 74 = .ok (.l2i, 1) := by decide +kernel
theorem dX5_digit_75 : decode cX5_digit 75 = .ok (.ireturn, 1) := by decide +kernel
set_option maxRecDepth 20000 in
theorem ggX5_isEnough_X5_product : GoodIn wsX5_isEnough wsX5_product := goodIn_r _ [4, 5] (by decide +kernel) (by decide +kernel)
set_option maxRecDepth 20000 in
theorem gX5_isEnough_X5_product : GoodIn wsX5_isEnough (va_wsS RX5 36 yX5_product wsX5_product) := goodIn_app (goodIn_of _ (by decide +kernel)) ggX5_isEnough_X5_product
theorem dX5_isEnough_0 : decode cX5_isEnough 0 = .ok (.lconst 1, 1) := by decide +kernel
theorem dX5_isEnough_1 : decode cX5_isEnough 1 = .ok (.lstore 5, 2) := by decide +kernel
theorem dX5_isEnough_3 : decode cX5_isEnough 3 = .ok (.iconst 0, 1) := by decide +kernel
theorem dX5_isEnough_4 : decode cX5_isEnough 4 = .ok (.istore 7, 2) := by decide +kernel
theorem dX5_isEnough_6 : decode cX5_isEnough 6 = .ok (.iload 7, 2) := by decide +kernel
theorem dX5_isEnough_8 : decode cX5_isEnough 8 = .ok (.iload_n 2, 1) := by decide +kernel
theorem dX5_isEnough_9 : decode cX5_isEnough 9 = .ok (.if_icmp .ge 17, 3) := by decide +kernel
theorem dX5_isEnough_12 : decode cX5_isEnough 12 = .ok (.lload 5, 2) := by decide +kernel
theorem dX5_isEnough_14 : decode cX5_isEnough 14 = .ok (.lload_n 0, 1) := by decide +kernel
theorem dX5_isEnough_15 : decode cX5_isEnough 15 = .ok (.invokestatic 36, 3) := by decide +kernel
theorem dX5_isEnough_18 : decode cX5_isEnough 18 = .ok (.lstore 5, 2) := by decide +kernel
theorem dX5_isEnough_20 : decode cX5_isEnough 20 = .ok (.iinc 7 1, 3) := by decide +kernel
theorem dX5_isEnough_23 : decode cX5_isEnough 23 = .ok (.goto (-17), 3) := by decide +kernel
theorem dX5_isEnough_26 : decode cX5_isEnough 26 = .ok (.lload 5, 2) := by decide +kernel
theorem dX5_isEnough_28 : decode cX5_isEnough 28 = .ok (.lload_n 3, 1) := by decide +kernel
theorem dX5_isEnough_29 : decode cX5_isEnough 29 = .ok (.lcmp, 1) := by decide +kernel
theorem dX5_isEnough_30 : decode cX5_isEnough 30 = .ok (.ifCond .lt 7, 3) := by decide +kernel
theorem dX5_isEnough_33 : decode cX5_isEnough 33 = .ok (.iconst 1, 1) := by decide +kernel
theorem dX5_isEnough_34 : decode cX5_isEnough 34 = .ok (.goto 4, 3) := by decide +kernel
theorem dX5_isEnough_37 : decode cX5_isEnough 37 = .ok (.iconst 0, 1) := by decide +kernel
theorem dX5_isEnough_38 : decode cX5_isEnough 38 = .ok (.ireturn, 1) := by decide +kernel
set_option maxRecDepth 20000 in
theorem ggX5_best_X5_isCount : GoodIn wsX5_best wsX5_isCount := goodIn_r _ [6, 7] (by decide +kernel) (by decide +kernel)
set_option maxRecDepth 20000 in
theorem gX5_best_X5_isCount : GoodIn wsX5_best (va_wsS RX5 55 yX5_isCount wsX5_isCount) := goodIn_app (goodIn_of _ (by decide +kernel)) ggX5_best_X5_isCount
set_option maxRecDepth 20000 in
theorem ggX5_best_X5_isEnough : GoodIn wsX5_best wsX5_isEnough := goodIn_r _ [10, 11, 12, 5, 13, 7] (by decide +kernel) (by decide +kernel)
set_option maxRecDepth 20000 in
theorem gX5_best_X5_isEnough : GoodIn wsX5_best (va_wsS RX5 80 yX5_isEnough wsX5_isEnough) := goodIn_app (goodIn_of _ (by decide +kernel)) ggX5_best_X5_isEnough
theorem dX5_best_0 : decode cX5_best 0 = .ok (.aload_n 0, 1) := by decide +kernel
theorem dX5_best_1 : decode cX5_best 1 = .ok (.iconst 0, 1) := by decide +kernel
theorem dX5_best_2 : decode cX5_best 2 = .ok (.putfield 31, 3) := by decide +kernel
theorem dX5_best_5 : decode cX5_best 5 = .ok (.lload_n 1, 1) := by decide +kernel
theorem dX5_best_6 : decode cX5_best 6 = .ok (.invokestatic 55, 3) := by decide +kernel
theorem dX5_best_9 : decode cX5_best 9 = .ok (.ifCond .eq 14, 3) := by decide +kernel
theorem dX5_best_12 : decode cX5_best 12 = .ok (.iload_n 3, 1) := by decide +kernel
theorem dX5_best_13 : decode cX5_best 13 = .ok (.iconst 1, 1) := by decide +kernel
theorem dX5_best_14 : decode cX5_best 14 = .ok (.if_icmp .lt 9, 3) := by decide +kernel
theorem dX5_best_17 : decode cX5_best 17 = .ok (.iload_n 3, 1) := by decide +kernel
theorem dX5_best_18 : decode cX5_best 18 = .ok (.bipush 62, 2) := by decide +kernel
theorem dX5_best_20 : decode cX5_best 20 = .ok (.if_icmp .le 6, 3) := by decide +kernel
theorem dX5_best_23 : decode cX5_best 23 = .ok (.bipush (-2), 2) := by decide +kernel
theorem dX5_best_25 : decode cX5_best 25 = .ok (.ireturn, 1) := by decide +kernel
theorem dX5_best_26 : decode cX5_best 26 = .ok (.lconst 1, 1) := by decide +kernel
theorem dX5_best_27 : decode cX5_best 27 = .ok (.lstore 4, 2) := by decide +kernel
theorem dX5_best_29 : decode cX5_best 29 = .ok (.bipush 31, 2) := by decide +kernel
theorem dX5_best_31 : decode cX5_best 31 = .ok (.istore 6, 2) := by decide +kernel
theorem dX5_best_33 : decode cX5_best 33 = .ok (.iload 6, 2) := by decide +kernel
theorem dX5_best_35 : decode cX5_best 35 = .ok (.ifCond .lt 38, 3) := by decide +kernel
theorem dX5_best_38 : decode cX5_best 38 = .ok (.lload 4, 2) := by decide +kernel
theorem dX5_best_40 : decode cX5_best 40 = .ok (.lconst 1, 1) := by decide +kernel
theorem dX5_best_41 : decode cX5_best 41 = .ok (.iload 6, 2) := by decide +kernel
theorem dX5_best_43 : decode cX5_best 43 = .ok (.lshl, 1) := by decide +kernel
theorem dX5_best_44 : decode cX5_best 44 = .ok (.ladd, 1) := by decide +kernel
theorem dX5_best_45 : decode cX5_best 45 = .ok (.iload_n 3, 1) := by decide +kernel
theorem dX5_best_46 : decode cX5_best 46 = .ok (.lload_n 1, 1) := by decide +kernel
theorem dX5_best_47 : decode cX5_best 47 = .ok (.invokestatic 80, 3) := by decide +kernel
theorem dX5_best_50 : decode cX5_best 50 = .ok (.ifCond .ne 13, 3) := by decide +kernel
theorem dX5_best_53 : decode cX5_best 53 = .ok (.lload 4, 2) := by decide +kernel
theorem dX5_best_55 : decode cX5_best 55 = .ok (.lconst 1, 1) := by decide +kernel
theorem dX5_best_56 : decode cX5_best 56 = .ok (.iload 6, 2) := by decide +kernel
theorem dX5_best_58 : decode cX5_best 58 = .ok (.lshl, 1) := by decide +kernel
theorem dX5_best_59 : decode cX5_best 59 = .ok (.ladd, 1) := by decide +kernel
theorem dX5_best_60 : decode cX5_best 60 = .ok (.goto 5, 3) := by decide +kernel
theorem dX5_best_63 : decode cX5_best 63 = .ok (.lload 4, 2) := by decide +kernel
theorem dX5_best_65 : decode cX5_best 65 = .ok (.lstore 4, 2) := by decide +kernel
theorem dX5_best_67 : decode cX5_best 67 = .ok (.iinc 6 (-1), 3) := by decide +kernel
theorem dX5_best_70 : decode cX5_best 70 = .ok (.goto (-37), 3) := by decide +kernel
theorem dX5_best_73 : decode cX5_best 73 = .ok (.lload 4, 2) := by decide +kernel
theorem dX5_best_75 : decode cX5_best 75 = .ok (.lconst 1, 1) := by decide +kernel
theorem dX5_best_76 : decode cX5_best 76 = .ok (.ladd, 1) := by decide +kernel
theorem dX5_best_77 : decode cX5_best 77 = .ok (.ldc2_w 84, 3) := by decide +kernel
theorem dX5_best_80 : decode cX5_best 80 = .ok (.lcmp, 1) := by decide +kernel
theorem dX5_best_81 : decode cX5_best 81 = .ok (.ifCond .le 8, 3) := by decide +kernel
theorem dX5_best_84 : decode cX5_best 84 = .ok (.bipush (-2), 2) := by decide +kernel
theorem dX5_best_86 : decode cX5_best 86 = .ok (.goto 8, 3) := by decide +kernel
theorem dX5_best_89 : decode cX5_best 89 = .ok (.lload 4, 2) := by decide +kernel
theorem dX5_best_91 : decode cX5_best 91 = .ok (.lconst 1, 1) := by decide +kernel
theorem dX5_best_92 : decode cX5_best 92 = .ok (.ladd, 1) := by decide +kernel
theorem dX5_best_93 : decode cX5_best 93 = .ok (.l2i, 1) := by decide +kernel
theorem dX5_best_94 : decode cX5_best 94 = .ok (.ireturn, 1) := by decide +kernel
set_option maxRecDepth 20000 in
theorem ggX5_volume_X5_isPoint : GoodIn wsX5_volume wsX5_isPoint := goodIn_r _ [10, 2, 11, 12, 13, 14, 15, 16, 17, 18, 19, 20, 21, 22] (by decide +kernel) (by decide +kernel)
set_option maxRecDepth 20000 in
theorem gX5_volume_X5_isPoint : GoodIn wsX5_volume (wsV RX5 73 RX5 yX5_isPoint wsX5_isPoint) := goodIn_app (goodIn_of _ (by decide +kernel)) ggX5_volume_X5_isPoint
theorem dX5_volume_0 : decode cX5_volume 0 = .ok (.aload_n 0, 1) := by decide +kernel
theorem dX5_volume_1 : decode cX5_volume 1 = .ok (.iconst 0, 1) := by decide +kernel
theorem dX5_volume_2 : decode cX5_volume 2 = .ok (.putfield 31, 3) := by decide +kernel
theorem dX5_volume_5 : decode cX5_volume 5 = .ok (.aload_n 0, 1) := by decide +kernel
theorem dX5_volume_6 : decode cX5_volume 6 = .ok (.lload_n 1, 1) := by decide +kernel
theorem dX5_volume_7 : decode cX5_volume 7 = .ok (.invokevirtual 73, 3) := by decide +kernel
theorem dX5_volume_10 : decode cX5_volume 10 = .ok (.ifCond .ne 5, 3) := by decide +kernel
theorem dX5_volume_13 : decode cX5_volume 13 = .ok (.iconst (-1), 1) := by decide +kernel
theorem dX5_volume_14 : decode cX5_volume 14 = .ok (.ireturn, 1) := by decide +kernel
theorem dX5_volume_15 : decode cX5_volume 15 = .ok (.iload_n 3, 1) := by decide +kernel
theorem dX5_volume_16 : decode cX5_volume 16 = .ok (.ifCond .lt 10, 3) := by decide +kernel
theorem dX5_volume_19 : decode cX5_volume 19 = .ok (.iload_n 3, 1) := by decide +kernel
theorem dX5_volume_20 : decode cX5_volume 20 = .ok (.sipush 1000, 3) := by decide +kernel
theorem dX5_volume_23 : decode cX5_volume 23 = .ok (.if_icmp .le 6, 3) := by decide +kernel
theorem dX5_volume_26 : decode cX5_volume 26 = .ok (.bipush (-2), 2) := by decide +kernel
theorem dX5_volume_28 : decode cX5_volume 28 = .ok (.ireturn, 1) := by decide +kernel
theorem dX5_volume_29 : decode cX5_volume 29 = .ok (.aload_n 0, 1) := by decide +kernel
theorem dX5_volume_30 : decode cX5_volume 30 = .ok (.getfield 59, 3) := by decide +kernel
theorem dX5_volume_33 : decode cX5_volume 33 = .ok (.ifCond .ne 6, 3) := by decide +kernel
theorem dX5_volume_36 : decode cX5_volume 36 = .ok (.bipush (-3), 2) := by decide +kernel
theorem dX5_volume_38 : decode cX5_volume 38 = .ok (.ireturn, 1) := by decide +kernel
theorem dX5_volume_39 : decode cX5_volume 39 = .ok (.aload_n 0, 1) := by decide +kernel
theorem dX5_volume_40 : decode cX5_volume 40 = .ok (.getfield 63, 3) := by decide +kernel
theorem dX5_volume_43 : decode cX5_volume 43 = .ok (.iload_n 3, 1) := by decide +kernel
theorem dX5_volume_44 : decode cX5_volume 44 = .ok (.iadd, 1) := by decide +kernel
theorem dX5_volume_45 : decode cX5_volume 45 = .ok (.sipush 4000, 3) := by decide +kernel
theorem dX5_volume_48 : decode cX5_volume 48 = .ok (.if_icmp .le 6, 3) := by decide +kernel
theorem dX5_volume_51 : decode cX5_volume 51 = .ok (.bipush (-4), 2) := by decide +kernel
theorem dX5_volume_53 : decode cX5_volume 53 = .ok (.ireturn, 1) := by decide +kernel
theorem dX5_volume_54 : decode cX5_volume 54 = .ok (.iconst 0, 1) := by decide +kernel
theorem dX5_volume_55 : decode cX5_volume 55 = .ok (.istore 4, 2) := by decide +kernel
theorem dX5_volume_57 : decode cX5_volume 57 = .ok (.iload 4, 2) := by decide +kernel
theorem dX5_volume_59 : decode cX5_volume 59 = .ok (.aload_n 0, 1) := by decide +kernel
theorem dX5_volume_60 : decode cX5_volume 60 = .ok (.getfield 63, 3) := by decide +kernel
theorem dX5_volume_63 : decode cX5_volume 63 = .ok (.if_icmp .ge 26, 3) := by decide +kernel
