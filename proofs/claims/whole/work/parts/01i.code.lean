theorem dX5_volume_66 : decode cX5_volume 66 = .ok (.aload_n 0, 1) := by decide +kernel
theorem dX5_volume_67 : decode cX5_volume 67 = .ok (.getfield 20, 3) := by decide +kernel
theorem dX5_volume_70 : decode cX5_volume 70 = .ok (.aload_n 0, 1) := by decide +kernel
theorem dX5_volume_71 : decode cX5_volume 71 = .ok (.getfield 24, 3) := by decide +kernel
theorem dX5_volume_74 : decode cX5_volume 74 = .ok (.iload 4, 2) := by decide +kernel
theorem dX5_volume_76 : decode cX5_volume 76 = .ok (.iaload, 1) := by decide +kernel
theorem dX5_volume_77 : decode cX5_volume 77 = .ok (.laload, 1) := by decide +kernel
theorem dX5_volume_78 : decode cX5_volume 78 = .ok (.lload_n 1, 1) := by decide +kernel
theorem dX5_volume_79 : decode cX5_volume 79 = .ok (.lcmp, 1) := by decide +kernel
theorem dX5_volume_80 : decode cX5_volume 80 = .ok (.ifCond .gt 9, 3) := by decide +kernel
theorem dX5_volume_83 : decode cX5_volume 83 = .ok (.iinc 4 1, 3) := by decide +kernel
theorem dX5_volume_86 : decode cX5_volume 86 = .ok (.goto (-29), 3) := by decide +kernel
theorem dX5_volume_89 : decode cX5_volume 89 = .ok (.aload_n 0, 1) := by decide +kernel
theorem dX5_volume_90 : decode cX5_volume 90 = .ok (.getfield 63, 3) := by decide +kernel
theorem dX5_volume_93 : decode cX5_volume 93 = .ok (.iconst 1, 1) := by decide +kernel
theorem dX5_volume_94 : decode cX5_volume 94 = .ok (.isub, 1) := by decide +kernel
theorem dX5_volume_95 : decode cX5_volume 95 = .ok (.istore 5, 2) := by decide +kernel
theorem dX5_volume_97 : decode cX5_volume 97 = .ok (.iload 5, 2) := by decide +kernel
theorem dX5_volume_99 : decode cX5_volume 99 = .ok (.iload 4, 2) := by decide +kernel
theorem dX5_volume_101 : decode cX5_volume 101 = .ok (.if_icmp .lt 25, 3) := by decide +kernel
theorem dX5_volume_104 : decode cX5_volume 104 = .ok (.aload_n 0, 1) := by decide +kernel
theorem dX5_volume_105 : decode cX5_volume 105 = .ok (.getfield 24, 3) := by decide +kernel
theorem dX5_volume_108 : decode cX5_volume 108 = .ok (.iload 5, 2) := by decide +kernel
theorem dX5_volume_110 : decode cX5_volume 110 = .ok (.iload_n 3, 1) := by decide +kernel
theorem dX5_volume_111 : decode cX5_volume 111 = .ok (.iadd, 1) := by decide +kernel
theorem dX5_volume_112 : decode cX5_volume 112 = .ok (.aload_n 0, 1) := by decide +kernel
theorem dX5_volume_113 : decode cX5_volume 113 = .ok (.getfield 24, 3) := by decide +kernel
theorem dX5_volume_116 : decode cX5_volume 116 = .ok (.iload 5, 2) := by decide +kernel
theorem dX5_volume_118 : decode cX5_volume 118 = .ok (.iaload, 1) := by decide +kernel
theorem dX5_volume_119 : decode cX5_volume 119 = .ok (.iastore, 1) := by decide +kernel
theorem dX5_volume_120 : decode cX5_volume 120 = .ok (.iinc 5 (-1), 3) := by decide +kernel
theorem dX5_volume_123 : decode cX5_volume 123 = .ok (.goto (-26), 3) := by decide +kernel
theorem dX5_volume_126 : decode cX5_volume 126 = .ok (.iconst 0, 1) := by decide +kernel
theorem dX5_volume_127 : decode cX5_volume 127 = .ok (.istore 5, 2) := by decide +kernel
theorem dX5_volume_129 : decode cX5_volume 129 = .ok (.iload 5, 2) := by decide +kernel
theorem dX5_volume_131 : decode cX5_volume 131 = .ok (.iload_n 3, 1) := by decide +kernel
theorem dX5_volume_132 : decode cX5_volume 132 = .ok (.if_icmp .ge 39, 3) := by decide +kernel
theorem dX5_volume_135 : decode cX5_volume 135 = .ok (.aload_n 0, 1) := by decide +kernel
theorem dX5_volume_136 : decode cX5_volume 136 = .ok (.getfield 24, 3) := by decide +kernel
theorem dX5_volume_139 : decode cX5_volume 139 = .ok (.iload 4, 2) := by decide +kernel
theorem dX5_volume_141 : decode cX5_volume 141 = .ok (.iload 5, 2) := by decide +kernel
theorem dX5_volume_143 : decode cX5_volume 143 = .ok (.iadd, 1) := by decide +kernel
theorem dX5_volume_144 : decode cX5_volume 144 = .ok (.aload_n 0, 1) := by decide +kernel
theorem dX5_volume_145 : decode cX5_volume 145 = .ok (.getfield 63, 3) := by decide +kernel
theorem dX5_volume_148 : decode cX5_volume 148 = .ok (.iload 5, 2) := by decide +kernel
theorem dX5_volume_150 : decode cX5_volume 150 = .ok (.iadd, 1) := by decide +kernel
theorem dX5_volume_151 : decode cX5_volume 151 = .ok (.iastore, 1) := by decide +kernel
theorem dX5_volume_152 : decode cX5_volume 152 = .ok (.aload_n 0, 1) := by decide +kernel
theorem dX5_volume_153 : decode cX5_volume 153 = .ok (.getfield 20, 3) := by decide +kernel
theorem dX5_volume_156 : decode cX5_volume 156 = .ok (.aload_n 0, 1) := by decide +kernel
theorem dX5_volume_157 : decode cX5_volume 157 = .ok (.getfield 63, 3) := by decide +kernel
theorem dX5_volume_160 : decode cX5_volume 160 = .ok (.iload 5, 2) := by decide +kernel
theorem dX5_volume_162 : decode cX5_volume 162 = .ok (.iadd, 1) := by decide +kernel
theorem dX5_volume_163 : decode cX5_volume 163 = .ok (.lload_n 1, 1) := by decide +kernel
theorem dX5_volume_164 : decode cX5_volume 164 = .ok (.lastore, 1) := by decide +kernel
theorem dX5_volume_165 : decode cX5_volume 165 = .ok (.iinc 5 1, 3) := by decide +kernel
theorem dX5_volume_168 : decode cX5_volume 168 = .ok (.goto (-39), 3) := by decide +kernel
theorem dX5_volume_171 : decode cX5_volume 171 = .ok (.aload_n 0, 1) := by decide +kernel
theorem dX5_volume_172 : decode cX5_volume 172 = .ok (.aload_n 0, 1) := by decide +kernel
theorem dX5_volume_173 : decode cX5_volume 173 = .ok (.getfield 63, 3) := by decide +kernel
theorem dX5_volume_176 : decode cX5_volume 176 = .ok (.iload_n 3, 1) := by decide +kernel
theorem dX5_volume_177 : decode cX5_volume 177 = .ok (.iadd, 1) := by decide +kernel
theorem dX5_volume_178 : decode cX5_volume 178 = .ok (.putfield 63, 3) := by decide +kernel
theorem dX5_volume_181 : decode cX5_volume 181 = .ok (.aload_n 0, 1) := by decide +kernel
theorem dX5_volume_182 : decode cX5_volume 182 = .ok (.getfield 63, 3) := by decide +kernel
theorem dX5_volume_185 : decode cX5_volume 185 = .ok (.ireturn, 1) := by decide +kernel
theorem dX5_height_0 : decode cX5_height 0 = .ok (.aload_n 0, 1) := by decide +kernel
theorem dX5_height_1 : decode cX5_height 1 = .ok (.iconst 0, 1) := by decide +kernel
theorem dX5_height_2 : decode cX5_height 2 = .ok (.putfield 31, 3) := by decide +kernel
theorem dX5_height_5 : decode cX5_height 5 = .ok (.iload_n 1, 1) := by decide +kernel
theorem dX5_height_6 : decode cX5_height 6 = .ok (.ifCond .lt 11, 3) := by decide +kernel
theorem dX5_height_9 : decode cX5_height 9 = .ok (.iload_n 1, 1) := by decide +kernel
theorem dX5_height_10 : decode cX5_height 10 = .ok (.aload_n 0, 1) := by decide +kernel
theorem dX5_height_11 : decode cX5_height 11 = .ok (.getfield 27, 3) := by decide +kernel
theorem dX5_height_14 : decode cX5_height 14 = .ok (.if_icmp .lt 5, 3) := by decide +kernel
theorem dX5_height_17 : decode cX5_height 17 = .ok (.iconst (-1), 1) := by decide +kernel
theorem dX5_height_18 : decode cX5_height 18 = .ok (.ireturn, 1) := by decide +kernel
theorem dX5_height_19 : decode cX5_height 19 = .ok (.iload_n 2, 1) := by decide +kernel
theorem dX5_height_20 : decode cX5_height 20 = .ok (.iconst 1, 1) := by decide +kernel
theorem dX5_height_21 : decode cX5_height 21 = .ok (.if_icmp .lt 9, 3) := by decide +kernel
theorem dX5_height_24 : decode cX5_height 24 = .ok (.iload_n 2, 1) := by decide +kernel
theorem dX5_height_25 : decode cX5_height 25 = .ok (.ldc 86, 2) := by decide +kernel
theorem dX5_height_27 : decode cX5_height 27 = .ok (.if_icmp .le 6, 3) := by decide +kernel
theorem dX5_height_30 : decode cX5_height 30 = .ok (.bipush (-2), 2) := by decide +kernel
theorem dX5_height_32 : decode cX5_height 32 = .ok (.ireturn, 1) := by decide +kernel
theorem dX5_height_33 : decode cX5_height 33 = .ok (.aload_n 0, 1) := by decide +kernel
theorem dX5_height_34 : decode cX5_height 34 = .ok (.getfield 8, 3) := by decide +kernel
theorem dX5_height_37 : decode cX5_height 37 = .ok (.iload_n 1, 1) := by decide +kernel
theorem dX5_height_38 : decode cX5_height 38 = .ok (.iaload, 1) := by decide +kernel
theorem dX5_height_39 : decode cX5_height 39 = .ok (.istore_n 3, 1) := by decide +kernel
theorem dX5_height_40 : decode cX5_height 40 = .ok (.aload_n 0, 1) := by decide +kernel
theorem dX5_height_41 : decode cX5_height 41 = .ok (.getfield 8, 3) := by decide +kernel
theorem dX5_height_44 : decode cX5_height 44 = .ok (.iload_n 1, 1) := by decide +kernel
theorem dX5_height_45 : decode cX5_height 45 = .ok (.iload_n 2, 1) := by decide +kernel
theorem dX5_height_46 : decode cX5_height 46 = .ok (.iastore, 1) := by decide +kernel
theorem dX5_height_47 : decode cX5_height 47 = .ok (.iload_n 3, 1) := by decide +kernel
theorem dX5_height_48 : decode cX5_height 48 = .ok (.ireturn, 1) := by decide +kernel
set_option maxRecDepth 20000 in
theorem ggX5_trays_X5_digit : GoodIn wsX5_trays wsX5_digit := goodIn_r _ [13, 1, 2, 4, 14, 15, 16, 12, 17, 18, 19, 20, 21, 22, 3, 23, 24, 25, 26, 27, 28, 29, 30, 31, 32, 33] (by decide +kernel) (by decide +kernel)
set_option maxRecDepth 20000 in
theorem gX5_trays_X5_digit : GoodIn wsX5_trays (wsV RX5 87 RX5 yX5_digit wsX5_digit) := goodIn_app (goodIn_of _ (by decide +kernel)) ggX5_trays_X5_digit
theorem dX5_trays_0 : decode cX5_trays 0 = .ok (.aload_n 0, 1) := by decide +kernel
theorem dX5_trays_1 : decode cX5_trays 1 = .ok (.iconst 0, 1) := by decide +kernel
theorem dX5_trays_2 : decode cX5_trays 2 = .ok (.putfield 31, 3) := by decide +kernel
theorem dX5_trays_5 : decode cX5_trays 5 = .ok (.aload_n 0, 1) := by decide +kernel
theorem dX5_trays_6 : decode cX5_trays 6 = .ok (.getfield 59, 3) := by decide +kernel
theorem dX5_trays_9 : decode cX5_trays 9 = .ok (.ifCond .ne 6, 3) := by decide +kernel
theorem dX5_trays_12 : decode cX5_trays 12 = .ok (.bipush (-3), 2) := by decide +kernel
theorem dX5_trays_14 : decode cX5_trays 14 = .ok (.ireturn, 1) := by decide +kernel
theorem dX5_trays_15 : decode cX5_trays 15 = .ok (.iconst 0, 1) := by decide +kernel
theorem dX5_trays_16 : decode cX5_trays 16 = .ok (.istore_n 1, 1) := by decide +kernel
theorem dX5_trays_17 : decode cX5_trays 17 = .ok (.iconst 0, 1) := by decide +kernel
theorem dX5_trays_18 : decode cX5_trays 18 = .ok (.istore_n 2, 1) := by decide +kernel
theorem dX5_trays_19 : decode cX5_trays 19 = .ok (.iload_n 2, 1) := by decide +kernel
theorem dX5_trays_20 : decode cX5_trays 20 = .ok (.aload_n 0, 1) := by decide +kernel
theorem dX5_trays_21 : decode cX5_trays 21 = .ok (.getfield 42, 3) := by decide +kernel
theorem dX5_trays_24 : decode cX5_trays 24 = .ok (.if_icmp .ge 126, 3) := by decide +kernel
theorem dX5_trays_27 : decode cX5_trays 27 = .ok (.iconst 0, 1) := by decide +kernel
theorem dX5_trays_28 : decode cX5_trays 28 = .ok (.istore_n 3, 1) := by decide +kernel
theorem dX5_trays_29 : decode cX5_trays 29 = .ok (.iload_n 3, 1) := by decide +kernel
theorem dX5_trays_30 : decode cX5_trays 30 = .ok (.aload_n 0, 1) := by decide +kernel
theorem dX5_trays_31 : decode cX5_trays 31 = .ok (.getfield 17, 3) := by decide +kernel
theorem dX5_trays_34 : decode cX5_trays 34 = .ok (.iload_n 2, 1) := by decide +kernel
theorem dX5_trays_35 : decode cX5_trays 35 = .ok (.iaload, 1) := by decide +kernel
theorem dX5_trays_36 : decode cX5_trays 36 = .ok (.if_icmp .ge 16, 3) := by decide +kernel
theorem dX5_trays_39 : decode cX5_trays 39 = .ok (.aload_n 0, 1) := by decide +kernel
theorem dX5_trays_40 : decode cX5_trays 40 = .ok (.getfield 14, 3) := by decide +kernel
theorem dX5_trays_43 : decode cX5_trays 43 = .ok (.iload_n 3, 1) := by decide +kernel
theorem dX5_trays_44 : decode cX5_trays 44 = .ok (.iconst 0, 1) := by decide +kernel
theorem dX5_trays_45 : decode cX5_trays 45 = .ok (.iastore, 1) := by decide +kernel
theorem dX5_trays_46 : decode cX5_trays 46 = .ok (.iinc 3 1, 3) := by decide +kernel
theorem dX5_trays_49 : decode cX5_trays 49 = .ok (.goto (-20), 3) := by decide +kernel
theorem dX5_trays_52 : decode cX5_trays 52 = .ok (.iconst 0, 1) := by decide +kernel
theorem dX5_trays_53 : decode cX5_trays 53 = .ok (.istore_n 3, 1) := by decide +kernel
theorem dX5_trays_54 : decode cX5_trays 54 = .ok (.iload_n 3, 1) := by decide +kernel
theorem dX5_trays_55 : decode cX5_trays 55 = .ok (.aload_n 0, 1) := by decide +kernel
theorem dX5_trays_56 : decode cX5_trays 56 = .ok (.getfield 63, 3) := by decide +kernel
theorem dX5_trays_59 : decode cX5_trays 59 = .ok (.if_icmp .ge 29, 3) := by decide +kernel
theorem dX5_trays_62 : decode cX5_trays 62 = .ok (.aload_n 0, 1) := by decide +kernel
theorem dX5_trays_63 : decode cX5_trays 63 = .ok (.getfield 14, 3) := by decide +kernel
theorem dX5_trays_66 : decode cX5_trays 66 = .ok (.aload_n 0, 1) := by decide +kernel
theorem dX5_trays_67 : decode cX5_trays 67 = .ok (.aload_n 0, 1) := by decide +kernel
theorem dX5_trays_68 : decode cX5_trays 68 = .ok (.getfield 20, 3) := by decide +kernel
theorem dX5_trays_71 : decode cX5_trays 71 = .ok (.iload_n 3, 1) := by decide +kernel
theorem dX5_trays_72 : decode cX5_trays 72 = .ok (.laload, 1) := by decide +kernel
theorem dX5_trays_73 : decode cX5_trays 73 = .ok (.iload_n 2, 1) := by decide +kernel
theorem dX5_trays_74 : decode cX5_trays 74 = .ok (.invokevirtual 87, 3) := by decide +kernel
theorem dX5_trays_77 : decode cX5_trays 77 = .ok (.dup2, 1) := by decide +kernel
theorem dX5_trays_78 : decode cX5_trays 78 = .ok (.iaload, 1) := by decide +kernel
theorem dX5_trays_79 : decode cX5_trays 79 = .ok (.iconst 1, 1) := by decide +kernel
theorem dX5_trays_80 : decode cX5_trays 80 = .ok (.iadd, 1) := by decide +kernel
theorem dX5_trays_81 : decode cX5_trays 81 = .ok (.iastore, 1) := by decide +kernel
theorem dX5_trays_82 : decode cX5_trays 82 = .ok (.iinc 3 1, 3) := by decide +kernel
theorem dX5_trays_85 : decode cX5_trays 85 = .ok (.goto (-31), 3) := by decide +kernel
theorem dX5_trays_88 : decode cX5_trays 88 = .ok (.iconst 0, 1) := by decide +kernel
theorem dX5_trays_89 : decode cX5_trays 89 = .ok (.istore_n 3, 1) := by decide +kernel
theorem dX5_trays_90 : decode cX5_trays 90 = .ok (.iload_n 3, 1) := by decide +kernel
theorem dX5_trays_91 : decode cX5_trays 91 = .ok (.aload_n 0, 1) := by decide +kernel
theorem dX5_trays_92 : decode cX5_trays 92 = .ok (.getfield 17, 3) := by decide +kernel
theorem dX5_trays_95 : decode cX5_trays 95 = .ok (.iload_n 2, 1) := by decide +kernel
theorem dX5_trays_96 : decode cX5_trays 96 = .ok (.iaload, 1) := by decide +kernel
theorem dX5_trays_97 : decode cX5_trays 97 = .ok (.if_icmp .ge 47, 3) := by decide +kernel
theorem dX5_trays_100 : decode cX5_trays 100 = .ok (.iload_n 1, 1) := by decide +kernel
theorem dX5_trays_101 : decode cX5_trays 101 = .ok (.aload_n 0, 1) := by decide +kernel
theorem dX5_trays_102 : decode cX5_trays 102 = .ok (.getfield 14, 3) := by decide +kernel
theorem dX5_trays_105 : decode cX5_trays 105 = .ok (.iload_n 3, 1) := by decide +kernel
theorem dX5_trays_106 : decode cX5_trays 106 = .ok (.iaload, 1) := by decide +kernel
theorem dX5_trays_107 : decode cX5_trays 107 = .ok (.aload_n 0, 1) := by decide +kernel
theorem dX5_trays_108 : decode cX5_trays 108 = .ok (.getfield 8, 3) := by decide +kernel
theorem dX5_trays_111 : decode cX5_trays 111 = .ok (.iload_n 3, 1) := by decide +kernel
theorem dX5_trays_112 : decode cX5_trays 112 = .ok (.iaload, 1) := by decide +kernel
theorem dX5_trays_113 : decode cX5_trays 113 = .ok (.idiv, 1) := by decide +kernel
theorem dX5_trays_114 : decode cX5_trays 114 = .ok (.iadd, 1) := by decide +kernel
theorem dX5_trays_115 : decode cX5_trays 115 = .ok (.aload_n 0, 1) := by decide +kernel
theorem dX5_trays_116 : decode cX5_trays 116 = .ok (.getfield 14, 3) := by decide +kernel
theorem dX5_trays_119 : decode cX5_trays 119 = .ok (.iload_n 3, 1) := by decide +kernel
theorem dX5_trays_120 : decode cX5_trays 120 = .ok (.iaload, 1) := by decide +kernel
theorem dX5_trays_121 : decode cX5_trays 121 = .ok (.aload_n 0, 1) := by decide +kernel
theorem dX5_trays_122 : decode cX5_trays 122 = .ok (.getfield 8, 3) := by decide +kernel
theorem dX5_trays_125 : decode cX5_trays 125 = .ok (.iload_n 3, 1) := by decide +kernel
theorem dX5_trays_126 : decode cX5_trays 126 = .ok (.iaload, 1) := by decide +kernel
theorem dX5_trays_127 : decode cX5_trays 127 = .ok (.irem, 1) := by decide +kernel
theorem dX5_trays_128 : decode cX5_trays 128 = .ok (.ifCond .le 7, 3) := by decide +kernel
theorem dX5_trays_131 : decode cX5_trays 131 = .ok (.iconst 1, 1) := by decide +kernel
theorem dX5_trays_132 : decode cX5_trays 132 = .ok (.goto 4, 3) := by decide +kernel
theorem dX5_trays_135 : decode cX5_trays 135 = .ok (.iconst 0, 1) := by decide +kernel
theorem dX5_trays_136 : decode cX5_trays 136 = .ok (.iadd, 1) := by decide +kernel
theorem dX5_trays_137 : decode cX5_trays 137 = .ok (.istore_n 1, 1) := by decide +kernel
theorem dX5_trays_138 : decode cX5_trays 138 = .ok (.iinc 3 1, 3) := by decide +kernel
theorem dX5_trays_141 : decode cX5_trays 141 = .ok (.goto (-51), 3) := by decide +kernel
theorem dX5_trays_144 : decode cX5_trays 144 = .ok (.iinc 2 1, 3) := by decide +kernel
theorem dX5_trays_147 : decode cX5_trays 147 = .ok (.goto (-128), 3) := by decide +kernel
theorem dX5_trays_150 : decode cX5_trays 150 = .ok (.iload_n 1, 1) := by decide +kernel
theorem dX5_trays_151 : decode cX5_trays 151 = .ok (.ireturn, 1) := by decide +kernel
set_option maxRecDepth 20000 in
theorem ggX5_sort_X5_isItem : GoodIn wsX5_sort wsX5_isItem := goodIn_r _ [10, 2, 4, 20, 21, 22, 23, 24, 25, 26, 27, 28, 29, 30] (by decide +kernel) (by decide +kernel)
set_option maxRecDepth 20000 in
theorem gX5_sort_X5_isItem : GoodIn wsX5_sort (wsV RX5 90 RX5 yX5_isItem wsX5_isItem) := goodIn_app (goodIn_of _ (by decide +kernel)) ggX5_sort_X5_isItem
set_option maxRecDepth 20000 in
theorem ggX5_sort_X5_isPass : GoodIn wsX5_sort wsX5_isPass := goodIn_r _ [14, 2, 15, 20, 21, 22, 23, 24, 25, 26, 27, 28, 29, 30] (by decide +kernel) (by decide +kernel)
set_option maxRecDepth 20000 in
theorem gX5_sort_X5_isPass : GoodIn wsX5_sort (wsV RX5 76 RX5 yX5_isPass wsX5_isPass) := goodIn_app (goodIn_of _ (by decide +kernel)) ggX5_sort_X5_isPass
set_option maxRecDepth 20000 in
theorem ggX5_sort_X5_product : GoodIn wsX5_sort wsX5_product := goodIn_r _ [18, 19] (by decide +kernel) (by decide +kernel)
set_option maxRecDepth 20000 in
theorem gX5_sort_X5_product : GoodIn wsX5_sort (va_wsS RX5 36 yX5_product wsX5_product) := goodIn_app (goodIn_of _ (by decide +kernel)) ggX5_sort_X5_product
theorem dX5_sort_0 : decode cX5_sort 0 = .ok (.aload_n 0, 1) := by decide +kernel
theorem dX5_sort_1 : decode cX5_sort 1 = .ok (.iconst 0, 1) := by decide +kernel
theorem dX5_sort_2 : decode cX5_sort 2 = .ok (.putfield 31, 3) := by decide +kernel
theorem dX5_sort_5 : decode cX5_sort 5 = .ok (.aload_n 0, 1) := by decide +kernel
theorem dX5_sort_6 : decode cX5_sort 6 = .ok (.iload_n 1, 1) := by decide +kernel
theorem dX5_sort_7 : decode cX5_sort 7 = .ok (.invokevirtual 90, 3) := by decide +kernel
theorem dX5_sort_10 : decode cX5_sort 10 = .ok (.ifCond .eq 11, 3) := by decide +kernel
theorem dX5_sort_13 : decode cX5_sort 13 = .ok (.aload_n 0, 1) := by decide +kernel
theorem dX5_sort_14 : decode cX5_sort 14 = .ok (.iload_n 2, 1) := by decide +kernel
theorem dX5_sort_15 : decode cX5_sort 15 = .ok (.invokevirtual 76, 3) := by decide +kernel
theorem dX5_sort_18 : decode cX5_sort 18 = .ok (.ifCond .ne 5, 3) := by decide +kernel
theorem dX5_sort_21 : decode cX5_sort 21 = .ok (.iconst (-1), 1) := by decide +kernel
theorem dX5_sort_22 : decode cX5_sort 22 = .ok (.ireturn, 1) := by decide +kernel
theorem dX5_sort_23 : decode cX5_sort 23 = .ok (.aload_n 0, 1) := by decide +kernel
theorem dX5_sort_24 : decode cX5_sort 24 = .ok (.getfield 59, 3) := by decide +kernel
theorem dX5_sort_27 : decode cX5_sort 27 = .ok (.ifCond .ne 6, 3) := by decide +kernel
theorem dX5_sort_30 : decode cX5_sort 30 = .ok (.bipush (-3), 2) := by decide +kernel
theorem dX5_sort_32 : decode cX5_sort 32 = .ok (.ireturn, 1) := by decide +kernel
theorem dX5_sort_33 : decode cX5_sort 33 = .ok (.lconst 1, 1) := by decide +kernel
theorem dX5_sort_34 : decode cX5_sort 34 = .ok (.lstore_n 3, 1) := by decide +kernel
theorem dX5_sort_35 : decode cX5_sort 35 = .ok (.iconst 0, 1) := by decide +kernel
theorem dX5_sort_36 : decode cX5_sort 36 = .ok (.istore 5, 2) := by decide +kernel
theorem dX5_sort_38 : decode cX5_sort 38 = .ok (.iload 5, 2) := by decide +kernel
theorem dX5_sort_40 : decode cX5_sort 40 = .ok (.iload_n 2, 1) := by decide +kernel
theorem dX5_sort_41 : decode cX5_sort 41 = .ok (.if_icmp .gt 22, 3) := by decide +kernel
theorem dX5_sort_44 : decode cX5_sort 44 = .ok (.lload_n 3, 1) := by decide +kernel
theorem dX5_sort_45 : decode cX5_sort 45 = .ok (.aload_n 0, 1) := by decide +kernel
theorem dX5_sort_46 : decode cX5_sort 46 = .ok (.getfield 17, 3) := by decide +kernel
theorem dX5_sort_49 : decode cX5_sort 49 = .ok (.iload 5, 2) := by decide +kernel
theorem dX5_sort_51 : decode cX5_sort 51 = .ok (.iaload, 1) := by decide +kernel
theorem dX5_sort_52 : decode cX5_sort 52 = .ok (.i2l, 1) := by decide +kernel
theorem dX5_sort_53 : decode cX5_sort 53 = .ok (.invokestatic 36, 3) := by decide +kernel
theorem dX5_sort_56 : decode cX5_sort 56 = .ok (.lstore_n 3, 1) := by decide +kernel
theorem dX5_sort_57 : decode cX5_sort 57 = .ok (.iinc 5 1, 3) := by decide +kernel
theorem dX5_sort_60 : decode cX5_sort 60 = .ok (.goto (-22), 3) := by decide +kernel
theorem dX5_sort_63 : decode cX5_sort 63 = .ok (.iconst 0, 1) := by decide +kernel
theorem dX5_sort_64 : decode cX5_sort 64 = .ok (.istore 5, 2) := by decide +kernel
theorem dX5_sort_66 : decode cX5_sort 66 = .ok (.iconst 0, 1) := by decide +kernel
theorem dX5_sort_67 : decode cX5_sort 67 = .ok (.istore 6, 2) := by decide +kernel
theorem dX5_sort_69 : decode cX5_sort 69 = .ok (.iload 6, 2) := by decide +kernel
theorem dX5_sort_71 : decode cX5_sort 71 = .ok (.aload_n 0, 1) := by decide +kernel
theorem dX5_sort_72 : decode cX5_sort 72 = .ok (.getfield 63, 3) := by decide +kernel
theorem dX5_sort_75 : decode cX5_sort 75 = .ok (.if_icmp .ge 63, 3) := by decide +kernel
theorem dX5_sort_78 : decode cX5_sort 78 = .ok (.aload_n 0, 1) := by decide +kernel
theorem dX5_sort_79 : decode cX5_sort 79 = .ok (.getfield 20, 3) := by decide +kernel
theorem dX5_sort_82 : decode cX5_sort 82 = .ok (.iload 6, 2) := by decide +kernel
theorem dX5_sort_84 : decode cX5_sort 84 = .ok (.laload, 1) := by decide +kernel
theorem dX5_sort_85 : decode cX5_sort 85 = .ok (.lload_n 3, 1) := by decide +kernel
theorem dX5_sort_86 : decode cX5_sort 86 = .ok (.lrem, 1) := by decide +kernel
theorem dX5_sort_87 : decode cX5_sort 87 = .ok (.lstore 7, 2) := by decide +kernel
theorem dX5_sort_89 : decode cX5_sort 89 = .ok (.aload_n 0, 1) := by decide +kernel
theorem dX5_sort_90 : decode cX5_sort 90 = .ok (.getfield 20, 3) := by decide +kernel
theorem dX5_sort_93 : decode cX5_sort 93 = .ok (.iload_n 1, 1) := by decide +kernel
theorem dX5_sort_94 : decode cX5_sort 94 = .ok (.laload, 1) := by decide +kernel
theorem dX5_sort_95 : decode cX5_sort 95 = .ok (.lload_n 3, 1) := by decide +kernel
theorem dX5_sort_96 : decode cX5_sort 96 = .ok (.lrem, 1) := by decide +kernel
theorem dX5_sort_97 : decode cX5_sort 97 = .ok (.lstore 9, 2) := by decide +kernel
theorem dX5_sort_99 : decode cX5_sort 99 = .ok (.lload 7, 2) := by decide +kernel
theorem dX5_sort_101 : decode cX5_sort 101 = .ok (.lload 9, 2) := by decide +kernel
theorem dX5_sort_103 : decode cX5_sort 103 = .ok (.lcmp, 1) := by decide +kernel
theorem dX5_sort_104 : decode cX5_sort 104 = .ok (.ifCond .lt 17, 3) := by decide +kernel
theorem dX5_sort_107 : decode cX5_sort 107 = .ok (.lload 7, 2) := by decide +kernel
theorem dX5_sort_109 : decode cX5_sort 109 = .ok (.lload 9, 2) := by decide +kernel
theorem dX5_sort_111 : decode cX5_sort 111 = .ok (.lcmp, 1) := by decide +kernel
theorem dX5_sort_112 : decode cX5_sort 112 = .ok (.ifCond .ne 16, 3) := by decide +kernel
theorem dX5_sort_115 : decode cX5_sort 115 = .ok (.iload 6, 2) := by decide +kernel
theorem dX5_sort_117 : decode cX5_sort 117 = .ok (.iload_n 1, 1) := by decide +kernel
theorem dX5_sort_118 : decode cX5_sort 118 = .ok (.if_icmp .ge 10, 3) := by decide +kernel
theorem dX5_sort_121 : decode cX5_sort 121 = .ok (.iload 5, 2) := by decide +kernel
theorem dX5_sort_123 : decode cX5_sort 123 = .ok (.iconst 1, 1) := by decide +kernel
theorem dX5_sort_124 : decode cX5_sort 124 = .ok (.iadd, 1) := by decide +kernel
theorem dX5_sort_125 : decode cX5_sort 125 = .ok (.goto 5, 3) := by decide +kernel
theorem dX5_sort_128 : decode cX5_sort 128 = .ok (.iload 5, 2) := by decide +kernel
theorem dX5_sort_130 : decode cX5_sort 130 = .ok (.istore 5, 2) := by decide +kernel
theorem dX5_sort_132 : decode cX5_sort 132 = .ok (.iinc 6 1, 3) := by decide +kernel
theorem dX5_sort_135 : decode cX5_sort 135 = .ok (.goto (-66), 3) := by decide +kernel
theorem dX5_sort_138 : decode cX5_sort 138 = .ok (.iload 5, 2) := by decide +kernel
theorem dX5_sort_140 : decode cX5_sort 140 = .ok (.ireturn, 1) := by decide +kernel
set_option maxRecDepth 20000 in
theorem ggX5_order_X5_isItem : GoodIn wsX5_order wsX5_isItem := goodIn_r _ [9, 2, 10, 11, 12, 13, 14, 15, 16, 17, 18, 19, 20, 21] (by decide +kernel) (by decide +kernel)
set_option maxRecDepth 20000 in
theorem gX5_order_X5_isItem : GoodIn wsX5_order (wsV RX5 90 RX5 yX5_isItem wsX5_isItem) := goodIn_app (goodIn_of _ (by decide +kernel)) ggX5_order_X5_isItem
theorem dX5_order_0 : decode cX5_order 0 = .ok (.aload_n 0, 1) := by decide +kernel
theorem dX5_order_1 : decode cX5_order 1 = .ok (.iconst 0, 1) := by decide +kernel
theorem dX5_order_2 : decode cX5_order 2 = .ok (.putfield 31, 3) := by decide +kernel
theorem dX5_order_5 : decode cX5_order 5 = .ok (.aload_n 0, 1) := by decide +kernel
theorem dX5_order_6 : decode cX5_order 6 = .ok (.iload_n 1, 1) := by decide +kernel
theorem dX5_order_7 : decode cX5_order 7 = .ok (.invokevirtual 90, 3) := by decide +kernel
theorem dX5_order_10 : decode cX5_order 10 = .ok (.ifCond .ne 5, 3) := by decide +kernel
theorem dX5_order_13 : decode cX5_order 13 = .ok (.iconst (-1), 1) := by decide +kernel
theorem dX5_order_14 : decode cX5_order 14 = .ok (.ireturn, 1) := by decide +kernel
theorem dX5_order_15 : decode cX5_order 15 = .ok (.aload_n 0, 1) := by decide +kernel
theorem dX5_order_16 : decode cX5_order 16 = .ok (.getfield 59, 3) := by decide +kernel
theorem dX5_order_19 : decode cX5_order 19 = .ok (.ifCond .eq 23, 3) := by decide +kernel
theorem dX5_order_22 : decode cX5_order 22 = .ok (.aload_n 0, 1) := by decide +kernel
theorem dX5_order_23 : decode cX5_order 23 = .ok (.getfield 42, 3) := by decide +kernel
theorem dX5_order_26 : decode cX5_order 26 = .ok (.ifCond .ne 7, 3) := by decide +kernel
theorem dX5_order_29 : decode cX5_order 29 = .ok (.iload_n 1, 1) := by decide +kernel
theorem dX5_order_30 : decode cX5_order 30 = .ok (.goto 14, 3) := by decide +kernel
theorem dX5_order_33 : decode cX5_order 33 = .ok (.aload_n 0, 1) := by decide +kernel
theorem dX5_order_34 : decode cX5_order 34 = .ok (.getfield 24, 3) := by decide +kernel
theorem dX5_order_37 : decode cX5_order 37 = .ok (.iload_n 1, 1) := by decide +kernel
theorem dX5_order_38 : decode cX5_order 38 = .ok (.iaload, 1) := by decide +kernel
theorem dX5_order_39 : decode cX5_order 39 = .ok (.goto 5, 3) := by decide +kernel
theorem dX5_order_42 : decode cX5_order 42 = .ok (.bipush (-3), 2) := by decide +kernel
theorem dX5_order_44 : decode cX5_order 44 = .ok (.ireturn, 1) := by decide +kernel
theorem dX5_digits_0 : decode cX5_digits 0 = .ok (.aload_n 0, 1) := by decide +kernel
theorem dX5_digits_1 : decode cX5_digits 1 = .ok (.aload_n 0, 1) := by decide +kernel
theorem dX5_digits_2 : decode cX5_digits 2 = .ok (.getfield 59, 3) := by decide +kernel
theorem dX5_digits_5 : decode cX5_digits 5 = .ok (.ifCond .eq 15, 3) := by decide +kernel
theorem dX5_digits_8 : decode cX5_digits 8 = .ok (.iload_n 1, 1) := by decide +kernel
theorem dX5_digits_9 : decode cX5_digits 9 = .ok (.ifCond .lt 11, 3) := by decide +kernel
theorem dX5_digits_12 : decode cX5_digits 12 = .ok (.iload_n 1, 1) := by decide +kernel
theorem dX5_digits_13 : decode cX5_digits 13 = .ok (.aload_n 0, 1) := by decide +kernel
theorem dX5_digits_14 : decode cX5_digits 14 = .ok (.getfield 42, 3) := by decide +kernel
theorem dX5_digits_17 : decode cX5_digits 17 = .ok (.if_icmp .lt 7, 3) := by decide +kernel
theorem dX5_digits_20 : decode cX5_digits 20 = .ok (.iconst 1, 1) := by decide +kernel
theorem dX5_digits_21 : decode cX5_digits 21 = .ok (.goto 4, 3) := by decide +kernel
theorem dX5_digits_24 : decode cX5_digits 24 = .ok (.iconst 0, 1) := by decide +kernel
theorem dX5_digits_25 : decode cX5_digits 25 = .ok (.putfield 31, 3) := by decide +kernel
theorem dX5_digits_28 : decode cX5_digits 28 = .ok (.aload_n 0, 1) := by decide +kernel
theorem dX5_digits_29 : decode cX5_digits 29 = .ok (.getfield 31, 3) := by decide +kernel
theorem dX5_digits_32 : decode cX5_digits 32 = .ok (.ifCond .le 7, 3) := by decide +kernel
theorem dX5_digits_35 : decode cX5_digits 35 = .ok (.iconst 0, 1) := by decide +kernel
theorem dX5_digits_36 : decode cX5_digits 36 = .ok (.goto 9, 3) := by decide +kernel
theorem dX5_digits_39 : decode cX5_digits 39 = .ok (.aload_n 0, 1) := by decide +kernel
theorem dX5_digits_40 : decode cX5_digits 40 = .ok (.getfield 17, 3) := by decide +kernel
theorem dX5_digits_43 : decode cX5_digits 43 = .ok (.iload_n 1, 1) := by decide +kernel
theorem dX5_digits_44 : decode cX5_digits 44 = .ok (.iaload, 1) := by decide +kernel
theorem dX5_digits_45 : decode cX5_digits 45 = .ok (.ireturn, 1) := by decide +kernel
set_option maxRecDepth 20000 in
theorem ggX5_least_X5_isCount : GoodIn wsX5_least wsX5_isCount := goodIn_r _ [6, 7] (by decide +kernel) (by decide +kernel)
set_option maxRecDepth 20000 in
theorem gX5_least_X5_isCount : GoodIn wsX5_least (va_wsS RX5 55 yX5_isCount wsX5_isCount) := goodIn_app (goodIn_of _ (by decide +kernel)) ggX5_least_X5_isCount
set_option maxRecDepth 20000 in
theorem ggX5_least_X5_fewest : GoodIn wsX5_least wsX5_fewest := goodIn_r _ [10, 11, 12, 5, 13, 7] (by decide +kernel) (by decide +kernel)
set_option maxRecDepth 20000 in
theorem gX5_least_X5_fewest : GoodIn wsX5_least (va_wsS RX5 66 yX5_fewest wsX5_fewest) := goodIn_app (goodIn_of _ (by decide +kernel)) ggX5_least_X5_fewest
theorem dX5_least_0 : decode cX5_least 0 = .ok (.aload_n 0, 1) := by decide +kernel
theorem dX5_least_1 : decode cX5_least 1 = .ok (.iconst 0, 1) := by decide +kernel
theorem dX5_least_2 : decode cX5_least 2 = .ok (.putfield 31, 3) := by decide +kernel
theorem dX5_least_5 : decode cX5_least 5 = .ok (.aload_n 0, 1) := by decide +kernel
theorem dX5_least_6 : decode cX5_least 6 = .ok (.getfield 27, 3) := by decide +kernel
theorem dX5_least_9 : decode cX5_least 9 = .ok (.iconst 1, 1) := by decide +kernel
theorem dX5_least_10 : decode cX5_least 10 = .ok (.if_icmp .le 26, 3) := by decide +kernel
theorem dX5_least_13 : decode cX5_least 13 = .ok (.lload_n 1, 1) := by decide +kernel
theorem dX5_least_14 : decode cX5_least 14 = .ok (.invokestatic 55, 3) := by decide +kernel
theorem dX5_least_17 : decode cX5_least 17 = .ok (.ifCond .eq 19, 3) := by decide +kernel
theorem dX5_least_20 : decode cX5_least 20 = .ok (.lload_n 1, 1) := by decide +kernel
theorem dX5_least_21 : decode cX5_least 21 = .ok (.aload_n 0, 1) := by decide +kernel
theorem dX5_least_22 : decode cX5_least 22 = .ok (.getfield 27, 3) := by decide +kernel
theorem dX5_least_25 : decode cX5_least 25 = .ok (.invokestatic 66, 3) := by decide +kernel
theorem dX5_least_28 : decode cX5_least 28 = .ok (.iload_n 3, 1) := by decide +kernel
theorem dX5_least_29 : decode cX5_least 29 = .ok (.if_icmp .ne 7, 3) := by decide +kernel
theorem dX5_least_32 : decode cX5_least 32 = .ok (.iconst 1, 1) := by decide +kernel
theorem dX5_least_33 : decode cX5_least 33 = .ok (.goto 4, 3) := by decide +kernel
theorem dX5_least_36 : decode cX5_least 36 = .ok (.iconst 0, 1) := by decide +kernel
theorem dX5_least_37 : decode cX5_least 37 = .ok (.ireturn, 1) := by decide +kernel
theorem dJx00060_init_a7421_0 : decode cJx00060_init_a7421 0 = .ok (.aload_n 0, 1) := by decide +kernel
theorem dJx00060_init_a7421_1 : decode cJx00060_init_a7421 1 = .ok (.aload_n 1, 1) := by decide +kernel
theorem dJx00060_init_a7421_2 : decode cJx00060_init_a7421 2 = .ok (.invokespecial 7, 3) := by decide +kernel
theorem dJx00060_init_a7421_5 : decode cJx00060_init_a7421 5 = .ok (.return_, 1) := by decide +kernel
theorem dJ9_max_7cf53_0 : decode cJ9_max_7cf53 0 = .ok (.iload_n 0, 1) := by decide +kernel
theorem dJ9_max_7cf53_1 : decode cJ9_max_7cf53 1 = .ok (.iload_n 1, 1) := by decide +kernel
theorem dJ9_max_7cf53_2 : decode cJ9_max_7cf53 2 = .ok (.if_icmp .lt 7, 3) := by decide +kernel
theorem dJ9_max_7cf53_5 : decode cJ9_max_7cf53 5 = .ok (.iload_n 0, 1) := by decide +kernel
theorem dJ9_max_7cf53_6 : decode cJ9_max_7cf53 6 = .ok (.goto 4, 3) := by decide +kernel
theorem dJ9_max_7cf53_9 : decode cJ9_max_7cf53 9 = .ok (.iload_n 1, 1) := by decide +kernel
theorem dJ9_max_7cf53_10 : decode cJ9_max_7cf53 10 = .ok (.ireturn, 1) := by decide +kernel
theorem dJ9_min_7cf53_0 : decode cJ9_min_7cf53 0 = .ok (.iload_n 0, 1) := by decide +kernel
theorem dJ9_min_7cf53_1 : decode cJ9_min_7cf53 1 = .ok (.iload_n 1, 1) := by decide +kernel
theorem dJ9_min_7cf53_2 : decode cJ9_min_7cf53 2 = .ok (.if_icmp .gt 7, 3) := by decide +kernel
theorem dJ9_min_7cf53_5 : decode cJ9_min_7cf53 5 = .ok (.iload_n 0, 1) := by decide +kernel
theorem dJ9_min_7cf53_6 : decode cJ9_min_7cf53 6 = .ok (.goto 4, 3) := by decide +kernel
theorem dJ9_min_7cf53_9 : decode cJ9_min_7cf53 9 = .ok (.iload_n 1, 1) := by decide +kernel
theorem dJ9_min_7cf53_10 : decode cJ9_min_7cf53 10 = .ok (.ireturn, 1) := by decide +kernel
theorem dL_cell_0 : decode cL_cell 0 = .ok (.iload_n 1, 1) := by decide +kernel
theorem dL_cell_1 : decode cL_cell 1 = .ok (.aload_n 0, 1) := by decide +kernel
theorem dL_cell_2 : decode cL_cell 2 = .ok (.arraylength, 1) := by decide +kernel
theorem dL_cell_3 : decode cL_cell 3 = .ok (.if_icmp .ge 9, 3) := by decide +kernel
theorem dL_cell_6 : decode cL_cell 6 = .ok (.aload_n 0, 1) := by decide +kernel
theorem dL_cell_7 : decode cL_cell 7 = .ok (.iload_n 1, 1) := by decide +kernel
theorem dL_cell_8 : decode cL_cell 8 = .ok (.iaload, 1) := by decide +kernel
theorem dL_cell_9 : decode cL_cell 9 = .ok (.goto 4, 3) := by decide +kernel
theorem dL_cell_12 : decode cL_cell 12 = .ok (.iconst 0, 1) := by decide +kernel
theorem dL_cell_13 : decode cL_cell 13 = .ok (.ireturn, 1) := by decide +kernel
set_option maxRecDepth 20000 in
theorem ggL_passes_X4_passes : GoodIn wsL_passes wsX4_passes := goodIn_ca (goodIn_r _ [6, 7, 8, 9, 10, 11, 12, 13, 5, 14, 15, 16, 17, 18, 19, 20, 21, 22, 23, 24, 25, 26, 27, 28, 29, 30, 31, 32, 33, 34, 35, 36, 37, 38, 39, 40, 41, 42, 43, 44, 45, 46, 47, 48, 49, 50, 51, 52, 53, 54, 55, 56, 57, 58, 59, 60, 61, 62, 63, 64, 65, 66, 67, 68, 69, 70, 71, 72, 73, 74, 75, 76, 77, 78, 79, 80, 81, 82, 83, 84, 85, 86, 87, 88, 89, 90, 91, 92, 93, 94] (by decide +kernel) (by decide +kernel)) (goodIn_sub (fun _ h => List.mem_cons_of_mem _ (List.mem_append_right _ h)) (by decide +kernel))
set_option maxRecDepth 20000 in
theorem gL_passes_X4_passes : GoodIn wsL_passes (wsV RL 7 RX4 yX4_passes wsX4_passes) := goodIn_app (goodIn_of _ (by decide +kernel)) ggL_passes_X4_passes
theorem dL_passes_0 : decode cL_passes 0 = .ok (.aload_n 3, 1) := by decide +kernel
theorem dL_passes_1 : decode cL_passes 1 = .ok (.iconst 0, 1) := by decide +kernel
theorem dL_passes_2 : decode cL_passes 2 = .ok (.aload_n 0, 1) := by decide +kernel
theorem dL_passes_3 : decode cL_passes 3 = .ok (.lload_n 1, 1) := by decide +kernel
theorem dL_passes_4 : decode cL_passes 4 = .ok (.invokevirtual 7, 3) := by decide +kernel
theorem dL_passes_7 : decode cL_passes 7 = .ok (.i2l, 1) := by decide +kernel
theorem dL_passes_8 : decode cL_passes 8 = .ok (.lastore, 1) := by decide +kernel
theorem dL_passes_9 : decode cL_passes 9 = .ok (.goto 7, 3) := by decide +kernel
theorem dL_passes_12 : decode cL_passes 12 = .ok (.astore 4, 2) := by decide +kernel
theorem dL_passes_14 : decode cL_passes 14 = .ok (.iconst 1, 1) := by decide +kernel
theorem dL_passes_15 : decode cL_passes 15 = .ok (.ireturn, 1) := by decide +kernel
theorem dL_passes_16 : decode cL_passes 16 = .ok (.iconst 0, 1) := by decide +kernel
theorem dL_passes_17 : decode cL_passes 17 = .ok (.ireturn, 1) := by decide +kernel
set_option maxRecDepth 20000 in
theorem ggL_digits_X4_digits : GoodIn wsL_digits wsX4_digits := goodIn_r _ [5, 6, 7, 8, 9, 10, 11, 12, 13, 14, 15, 16, 17, 18, 19, 20, 21, 22, 23, 24, 25, 26, 27, 28, 29, 30, 31, 32, 33, 34, 35, 36, 37] (by decide +kernel) (by decide +kernel)
set_option maxRecDepth 20000 in
theorem gL_digits_X4_digits : GoodIn wsL_digits (wsV RL 15 RX4 yX4_digits wsX4_digits) := goodIn_app (goodIn_of _ (by decide +kernel)) ggL_digits_X4_digits
theorem dL_digits_0 : decode cL_digits 0 = .ok (.aload_n 2, 1) := by decide +kernel
theorem dL_digits_1 : decode cL_digits 1 = .ok (.iconst 0, 1) := by decide +kernel
theorem dL_digits_2 : decode cL_digits 2 = .ok (.aload_n 0, 1) := by decide +kernel
theorem dL_digits_3 : decode cL_digits 3 = .ok (.iload_n 1, 1) := by decide +kernel
theorem dL_digits_4 : decode cL_digits 4 = .ok (.invokevirtual 15, 3) := by decide +kernel
theorem dL_digits_7 : decode cL_digits 7 = .ok (.i2l, 1) := by decide +kernel
theorem dL_digits_8 : decode cL_digits 8 = .ok (.lastore, 1) := by decide +kernel
theorem dL_digits_9 : decode cL_digits 9 = .ok (.goto 6, 3) := by decide +kernel
theorem dL_digits_12 : decode cL_digits 12 = .ok (.astore_n 3, 1) := by decide +kernel
theorem dL_digits_13 : decode cL_digits 13 = .ok (.iconst 1, 1) := by decide +kernel
theorem dL_digits_14 : decode cL_digits 14 = .ok (.ireturn, 1) := by decide +kernel
theorem dL_digits_15 : decode cL_digits 15 = .ok (.iconst 0, 1) := by decide +kernel
theorem dL_digits_16 : decode cL_digits 16 = .ok (.ireturn, 1) := by decide +kernel
set_option maxRecDepth 20000 in
theorem ggL_law_L_cell : GoodIn wsL_law wsL_cell := goodIn_r _ [11] (by decide +kernel) (by decide +kernel)
set_option maxRecDepth 20000 in
theorem gL_law_L_cell : GoodIn wsL_law (va_wsS RL 21 yL_cell wsL_cell) := goodIn_app (goodIn_of _ (by decide +kernel)) ggL_law_L_cell
