theorem dX0_init_0 : decode cX0_init 0 = .ok (.aload_n 0, 1) := by decide +kernel
theorem dX0_init_1 : decode cX0_init 1 = .ok (.invokespecial 5, 3) := by decide +kernel
theorem dX0_init_4 : decode cX0_init 4 = .ok (.aload_n 0, 1) := by decide +kernel
theorem dX0_init_5 : decode cX0_init 5 = .ok (.sipush 1024, 3) := by decide +kernel
theorem dX0_init_8 : decode cX0_init 8 = .ok (.newarray .int, 2) := by decide +kernel
theorem dX0_init_10 : decode cX0_init 10 = .ok (.putfield 11, 3) := by decide +kernel
theorem dX0_init_13 : decode cX0_init 13 = .ok (.aload_n 0, 1) := by decide +kernel
theorem dX0_init_14 : decode cX0_init 14 = .ok (.sipush 1024, 3) := by decide +kernel
theorem dX0_init_17 : decode cX0_init 17 = .ok (.newarray .int, 2) := by decide +kernel
theorem dX0_init_19 : decode cX0_init 19 = .ok (.putfield 15, 3) := by decide +kernel
theorem dX0_init_22 : decode cX0_init 22 = .ok (.aload_n 0, 1) := by decide +kernel
theorem dX0_init_23 : decode cX0_init 23 = .ok (.sipush 512, 3) := by decide +kernel
theorem dX0_init_26 : decode cX0_init 26 = .ok (.newarray .int, 2) := by decide +kernel
theorem dX0_init_28 : decode cX0_init 28 = .ok (.putfield 18, 3) := by decide +kernel
theorem dX0_init_31 : decode cX0_init 31 = .ok (.return_, 1) := by decide +kernel
theorem dX0_size_0 : decode cX0_size 0 = .ok (.aload_n 0, 1) := by decide +kernel
theorem dX0_size_1 : decode cX0_size 1 = .ok (.getfield 21, 3) := by decide +kernel
theorem dX0_size_4 : decode cX0_size 4 = .ok (.ireturn, 1) := by decide +kernel
theorem dX0_binAt_0 : decode cX0_binAt 0 = .ok (.iload_n 1, 1) := by decide +kernel
theorem dX0_binAt_1 : decode cX0_binAt 1 = .ok (.ifCond .lt 27, 3) := by decide +kernel
theorem dX0_binAt_4 : decode cX0_binAt 4 = .ok (.iload_n 1, 1) := by decide +kernel
theorem dX0_binAt_5 : decode cX0_binAt 5 = .ok (.aload_n 0, 1) := by decide +kernel
theorem dX0_binAt_6 : decode cX0_binAt 6 = .ok (.getfield 21, 3) := by decide +kernel
theorem dX0_binAt_9 : decode cX0_binAt 9 = .ok (.if_icmp .ge 19, 3) := by decide +kernel
theorem dX0_binAt_12 : decode cX0_binAt 12 = .ok (.aload_n 0, 1) := by decide +kernel
theorem dX0_binAt_13 : decode cX0_binAt 13 = .ok (.getfield 11, 3) := by decide +kernel
theorem dX0_binAt_16 : decode cX0_binAt 16 = .ok (.aload_n 0, 1) := by decide +kernel
theorem dX0_binAt_17 : decode cX0_binAt 17 = .ok (.getfield 18, 3) := by decide +kernel
theorem dX0_binAt_20 : decode cX0_binAt 20 = .ok (.iload_n 1, 1) := by decide +kernel
theorem dX0_binAt_21 : decode cX0_binAt 21 = .ok (.iaload, 1) := by decide +kernel
theorem dX0_binAt_22 : decode cX0_binAt 22 = .ok (.iaload, 1) := by decide +kernel
theorem dX0_binAt_23 : decode cX0_binAt 23 = .ok (.iconst 1, 1) := by decide +kernel
theorem dX0_binAt_24 : decode cX0_binAt 24 = .ok (.isub, 1) := by decide +kernel
theorem dX0_binAt_25 : decode cX0_binAt 25 = .ok (.goto 4, 3) := by decide +kernel
theorem dX0_binAt_28 : decode cX0_binAt 28 = .ok (.iconst 0, 1) := by decide +kernel
theorem dX0_binAt_29 : decode cX0_binAt 29 = .ok (.ireturn, 1) := by decide +kernel
theorem dX0_valueAt_0 : decode cX0_valueAt 0 = .ok (.iload_n 1, 1) := by decide +kernel
theorem dX0_valueAt_1 : decode cX0_valueAt 1 = .ok (.ifCond .lt 25, 3) := by decide +kernel
theorem dX0_valueAt_4 : decode cX0_valueAt 4 = .ok (.iload_n 1, 1) := by decide +kernel
theorem dX0_valueAt_5 : decode cX0_valueAt 5 = .ok (.aload_n 0, 1) := by decide +kernel
theorem dX0_valueAt_6 : decode cX0_valueAt 6 = .ok (.getfield 21, 3) := by decide +kernel
theorem dX0_valueAt_9 : decode cX0_valueAt 9 = .ok (.if_icmp .ge 17, 3) := by decide +kernel
theorem dX0_valueAt_12 : decode cX0_valueAt 12 = .ok (.aload_n 0, 1) := by decide +kernel
theorem dX0_valueAt_13 : decode cX0_valueAt 13 = .ok (.getfield 15, 3) := by decide +kernel
theorem dX0_valueAt_16 : decode cX0_valueAt 16 = .ok (.aload_n 0, 1) := by decide +kernel
theorem dX0_valueAt_17 : decode cX0_valueAt 17 = .ok (.getfield 18, 3) := by decide +kernel
theorem dX0_valueAt_20 : decode cX0_valueAt 20 = .ok (.iload_n 1, 1) := by decide +kernel
theorem dX0_valueAt_21 : decode cX0_valueAt 21 = .ok (.iaload, 1) := by decide +kernel
theorem dX0_valueAt_22 : decode cX0_valueAt 22 = .ok (.iaload, 1) := by decide +kernel
theorem dX0_valueAt_23 : decode cX0_valueAt 23 = .ok (.goto 4, 3) := by decide +kernel
theorem dX0_valueAt_26 : decode cX0_valueAt 26 = .ok (.iconst 0, 1) := by decide +kernel
theorem dX0_valueAt_27 : decode cX0_valueAt 27 = .ok (.ireturn, 1) := by decide +kernel
set_option maxRecDepth 20000 in
theorem ggX0_valueOf_X0_slotOf : GoodIn wsX0_valueOf wsX0_slotOf := goodIn_r _ [7, 8, 1, 9, 10, 11, 12] (by decide +kernel) (by decide +kernel)
set_option maxRecDepth 20000 in
theorem gX0_valueOf_X0_slotOf : GoodIn wsX0_valueOf (wsV RX0 25 RX0 yX0_slotOf wsX0_slotOf) := goodIn_app (goodIn_of _ (by decide +kernel)) ggX0_valueOf_X0_slotOf
theorem dX0_valueOf_0 : decode cX0_valueOf 0 = .ok (.aload_n 0, 1) := by decide +kernel
theorem dX0_valueOf_1 : decode cX0_valueOf 1 = .ok (.iload_n 1, 1) := by decide +kernel
theorem dX0_valueOf_2 : decode cX0_valueOf 2 = .ok (.invokevirtual 25, 3) := by decide +kernel
theorem dX0_valueOf_5 : decode cX0_valueOf 5 = .ok (.istore_n 2, 1) := by decide +kernel
theorem dX0_valueOf_6 : decode cX0_valueOf 6 = .ok (.aload_n 0, 1) := by decide +kernel
theorem dX0_valueOf_7 : decode cX0_valueOf 7 = .ok (.getfield 11, 3) := by decide +kernel
theorem dX0_valueOf_10 : decode cX0_valueOf 10 = .ok (.iload_n 2, 1) := by decide +kernel
theorem dX0_valueOf_11 : decode cX0_valueOf 11 = .ok (.iaload, 1) := by decide +kernel
theorem dX0_valueOf_12 : decode cX0_valueOf 12 = .ok (.ifCond .ne 7, 3) := by decide +kernel
theorem dX0_valueOf_15 : decode cX0_valueOf 15 = .ok (.iconst 0, 1) := by decide +kernel
theorem dX0_valueOf_16 : decode cX0_valueOf 16 = .ok (.goto 9, 3) := by decide +kernel
theorem dX0_valueOf_19 : decode cX0_valueOf 19 = .ok (.aload_n 0, 1) := by decide +kernel
theorem dX0_valueOf_20 : decode cX0_valueOf 20 = .ok (.getfield 15, 3) := by decide +kernel
theorem dX0_valueOf_23 : decode cX0_valueOf 23 = .ok (.iload_n 2, 1) := by decide +kernel
theorem dX0_valueOf_24 : decode cX0_valueOf 24 = .ok (.iaload, 1) := by decide +kernel
theorem dX0_valueOf_25 : decode cX0_valueOf 25 = .ok (.ireturn, 1) := by decide +kernel
set_option maxRecDepth 20000 in
theorem ggX0_put_X0_slotOf : GoodIn wsX0_put wsX0_slotOf := goodIn_r _ [9, 10, 1, 11, 12, 13, 14] (by decide +kernel) (by decide +kernel)
set_option maxRecDepth 20000 in
theorem gX0_put_X0_slotOf : GoodIn wsX0_put (wsV RX0 25 RX0 yX0_slotOf wsX0_slotOf) := goodIn_app (goodIn_of _ (by decide +kernel)) ggX0_put_X0_slotOf
theorem dX0_put_0 : decode cX0_put 0 = .ok (.aload_n 0, 1) := by decide +kernel
theorem dX0_put_1 : decode cX0_put 1 = .ok (.iload_n 1, 1) := by decide +kernel
theorem dX0_put_2 : decode cX0_put 2 = .ok (.invokevirtual 25, 3) := by decide +kernel
theorem dX0_put_5 : decode cX0_put 5 = .ok (.istore_n 3, 1) := by decide +kernel
theorem dX0_put_6 : decode cX0_put 6 = .ok (.aload_n 0, 1) := by decide +kernel
theorem dX0_put_7 : decode cX0_put 7 = .ok (.getfield 11, 3) := by decide +kernel
theorem dX0_put_10 : decode cX0_put 10 = .ok (.iload_n 3, 1) := by decide +kernel
theorem dX0_put_11 : decode cX0_put 11 = .ok (.iaload, 1) := by decide +kernel
theorem dX0_put_12 : decode cX0_put 12 = .ok (.ifCond .ne 44, 3) := by decide +kernel
theorem dX0_put_15 : decode cX0_put 15 = .ok (.aload_n 0, 1) := by decide +kernel
theorem dX0_put_16 : decode cX0_put 16 = .ok (.getfield 21, 3) := by decide +kernel
theorem dX0_put_19 : decode cX0_put 19 = .ok (.sipush 512, 3) := by decide +kernel
theorem dX0_put_22 : decode cX0_put 22 = .ok (.if_icmp .lt 5, 3) := by decide +kernel
theorem dX0_put_25 : decode cX0_put 25 = .ok (.iconst 0, 1) := by decide +kernel
theorem dX0_put_26 : decode cX0_put 26 = .ok (.ireturn, 1) := by decide +kernel
theorem dX0_put_27 : decode cX0_put 27 = .ok (.aload_n 0, 1) := by decide +kernel
theorem dX0_put_28 : decode cX0_put 28 = .ok (.getfield 11, 3) := by decide +kernel
theorem dX0_put_31 : decode cX0_put 31 = .ok (.iload_n 3, 1) := by decide +kernel
theorem dX0_put_32 : decode cX0_put 32 = .ok (.iload_n 1, 1) := by decide +kernel
theorem dX0_put_33 : decode cX0_put 33 = .ok (.iconst 1, 1) := by decide +kernel
theorem dX0_put_34 : decode cX0_put 34 = .ok (.iadd, 1) := by decide +kernel
theorem dX0_put_35 : decode cX0_put 35 = .ok (.iastore, 1) := by decide +kernel
theorem dX0_put_36 : decode cX0_put 36 = .ok (.aload_n 0, 1) := by decide +kernel
theorem dX0_put_37 : decode cX0_put 37 = .ok (.getfield 18, 3) := by decide +kernel
theorem dX0_put_40 : decode cX0_put 40 = .ok (.aload_n 0, 1) := by decide +kernel
theorem dX0_put_41 : decode cX0_put 41 = .ok (.getfield 21, 3) := by decide +kernel
theorem dX0_put_44 : decode cX0_put 44 = .ok (.iload_n 3, 1) := by decide +kernel
theorem dX0_put_45 : decode cX0_put 45 = .ok (.iastore, 1) := by decide +kernel
theorem dX0_put_46 : decode cX0_put 46 = .ok (.aload_n 0, 1) := by decide +kernel
theorem dX0_put_47 : decode cX0_put 47 = .ok (.dup, 1) := by decide +kernel
theorem dX0_put_48 : decode cX0_put 48 = .ok (.getfield 21, 3) := by decide +kernel
theorem dX0_put_51 : decode cX0_put 51 = .ok (.iconst 1, 1) := by decide +kernel
theorem dX0_put_52 : decode cX0_put 52 = .ok (.iadd, 1) := by decide +kernel
theorem dX0_put_53 : decode cX0_put 53 = .ok (.putfield 21, 3) := by decide +kernel
theorem dX0_put_56 : decode cX0_put 56 = .ok (.aload_n 0, 1) := by decide +kernel
theorem dX0_put_57 : decode cX0_put 57 = .ok (.getfield 15, 3) := by decide +kernel
theorem dX0_put_60 : decode cX0_put 60 = .ok (.iload_n 3, 1) := by decide +kernel
theorem dX0_put_61 : decode cX0_put 61 = .ok (.iload_n 2, 1) := by decide +kernel
theorem dX0_put_62 : decode cX0_put 62 = .ok (.iastore, 1) := by decide +kernel
theorem dX0_put_63 : decode cX0_put 63 = .ok (.iconst 1, 1) := by decide +kernel
theorem dX0_put_64 : decode cX0_put 64 = .ok (.ireturn, 1) := by decide +kernel
theorem dX0_clear_0 : decode cX0_clear 0 = .ok (.iconst 0, 1) := by decide +kernel
theorem dX0_clear_1 : decode cX0_clear 1 = .ok (.istore_n 1, 1) := by decide +kernel
theorem dX0_clear_2 : decode cX0_clear 2 = .ok (.iload_n 1, 1) := by decide +kernel
theorem dX0_clear_3 : decode cX0_clear 3 = .ok (.aload_n 0, 1) := by decide +kernel
theorem dX0_clear_4 : decode cX0_clear 4 = .ok (.getfield 21, 3) := by decide +kernel
theorem dX0_clear_7 : decode cX0_clear 7 = .ok (.if_icmp .ge 21, 3) := by decide +kernel
theorem dX0_clear_10 : decode cX0_clear 10 = .ok (.aload_n 0, 1) := by decide +kernel
theorem dX0_clear_11 : decode cX0_clear 11 = .ok (.getfield 11, 3) := by decide +kernel
theorem dX0_clear_14 : decode cX0_clear 14 = .ok (.aload_n 0, 1) := by decide +kernel
theorem dX0_clear_15 : decode cX0_clear 15 = .ok (.getfield 18, 3) := by decide +kernel
theorem dX0_clear_18 : decode cX0_clear 18 = .ok (.iload_n 1, 1) := by decide +kernel
theorem dX0_clear_19 : decode cX0_clear 19 = .ok (.iaload, 1) := by decide +kernel
theorem dX0_clear_20 : decode cX0_clear 20 = .ok (.iconst 0, 1) := by decide +kernel
theorem dX0_clear_21 : decode cX0_clear 21 = .ok (.iastore, 1) := by decide +kernel
theorem dX0_clear_22 : decode cX0_clear 22 = .ok (.iinc 1 1, 3) := by decide +kernel
theorem dX0_clear_25 : decode cX0_clear 25 = .ok (.goto (-23), 3) := by decide +kernel
theorem dX0_clear_28 : decode cX0_clear 28 = .ok (.aload_n 0, 1) := by decide +kernel
theorem dX0_clear_29 : decode cX0_clear 29 = .ok (.iconst 0, 1) := by decide +kernel
theorem dX0_clear_30 : decode cX0_clear 30 = .ok (.putfield 21, 3) := by decide +kernel
theorem dX0_clear_33 : decode cX0_clear 33 = .ok (.return_, 1) := by decide +kernel
theorem dX0_slotOf_0 : decode cX0_slotOf 0 = .ok (.iload_n 1, 1) := by decide +kernel
theorem dX0_slotOf_1 : decode cX0_slotOf 1 = .ok (.ldc 29, 2) := by decide +kernel
theorem dX0_slotOf_3 : decode cX0_slotOf 3 = .ok (.imul, 1) := by decide +kernel
theorem dX0_slotOf_4 : decode cX0_slotOf 4 = .ok (.bipush 22, 2) := by decide +kernel
theorem dX0_slotOf_6 : decode cX0_slotOf 6 = .ok (.iushr, 1) := by decide +kernel
theorem dX0_slotOf_7 : decode cX0_slotOf 7 = .ok (.istore_n 2, 1) := by decide +kernel
theorem dX0_slotOf_8 : decode cX0_slotOf 8 = .ok (.iconst 0, 1) := by decide +kernel
theorem dX0_slotOf_9 : decode cX0_slotOf 9 = .ok (.istore_n 3, 1) := by decide +kernel
theorem dX0_slotOf_10 : decode cX0_slotOf 10 = .ok (.iload_n 3, 1) := by decide +kernel
theorem dX0_slotOf_11 : decode cX0_slotOf 11 = .ok (.sipush 1024, 3) := by decide +kernel
theorem dX0_slotOf_14 : decode cX0_slotOf 14 = .ok (.if_icmp .ge 38, 3) := by decide +kernel
theorem dX0_slotOf_17 : decode cX0_slotOf 17 = .ok (.aload_n 0, 1) := by decide +kernel
theorem dX0_slotOf_18 : decode cX0_slotOf 18 = .ok (.getfield 11, 3) := by decide +kernel
theorem dX0_slotOf_21 : decode cX0_slotOf 21 = .ok (.iload_n 2, 1) := by decide +kernel
theorem dX0_slotOf_22 : decode cX0_slotOf 22 = .ok (.iaload, 1) := by decide +kernel
theorem dX0_slotOf_23 : decode cX0_slotOf 23 = .ok (.ifCond .eq 29, 3) := by decide +kernel
theorem dX0_slotOf_26 : decode cX0_slotOf 26 = .ok (.aload_n 0, 1) := by decide +kernel
theorem dX0_slotOf_27 : decode cX0_slotOf 27 = .ok (.getfield 11, 3) := by decide +kernel
theorem dX0_slotOf_30 : decode cX0_slotOf 30 = .ok (.iload_n 2, 1) := by decide +kernel
theorem dX0_slotOf_31 : decode cX0_slotOf 31 = .ok (.iaload, 1) := by decide +kernel
theorem dX0_slotOf_32 : decode cX0_slotOf 32 = .ok (.iload_n 1, 1) := by decide +kernel
theorem dX0_slotOf_33 : decode cX0_slotOf 33 = .ok (.iconst 1, 1) := by decide +kernel
theorem dX0_slotOf_34 : decode cX0_slotOf 34 = .ok (.iadd, 1) := by decide +kernel
theorem dX0_slotOf_35 : decode cX0_slotOf 35 = .ok (.if_icmp .eq 17, 3) := by decide +kernel
theorem dX0_slotOf_38 : decode cX0_slotOf 38 = .ok (.iload_n 2, 1) := by decide +kernel
theorem dX0_slotOf_39 : decode cX0_slotOf 39 = .ok (.iconst 1, 1) := by decide +kernel
theorem dX0_slotOf_40 : decode cX0_slotOf 40 = .ok (.iadd, 1) := by decide +kernel
theorem dX0_slotOf_41 : decode cX0_slotOf 41 = .ok (.sipush 1023, 3) := by decide +kernel
theorem dX0_slotOf_44 : decode cX0_slotOf 44 = .ok (.iand, 1) := by decide +kernel
theorem dX0_slotOf_45 : decode cX0_slotOf 45 = .ok (.istore_n 2, 1) := by decide +kernel
theorem dX0_slotOf_46 : decode cX0_slotOf 46 = .ok (.iinc 3 1, 3) := by decide +kernel
theorem dX0_slotOf_49 : decode cX0_slotOf 49 = .ok (.goto (-39), 3) := by decide +kernel
theorem dX0_slotOf_52 : decode cX0_slotOf 52 = .ok (.iload_n 2, 1) := by decide +kernel
theorem dX0_slotOf_53 : decode cX0_slotOf 53 = .ok (.ireturn, 1) := by decide +kernel
theorem dX1_init_0 : decode cX1_init 0 = .ok (.aload_n 0, 1) := by decide +kernel
theorem dX1_init_1 : decode cX1_init 1 = .ok (.invokespecial 3, 3) := by decide +kernel
theorem dX1_init_4 : decode cX1_init 4 = .ok (.aload_n 0, 1) := by decide +kernel
theorem dX1_init_5 : decode cX1_init 5 = .ok (.sipush 512, 3) := by decide +kernel
theorem dX1_init_8 : decode cX1_init 8 = .ok (.newarray .long, 2) := by decide +kernel
theorem dX1_init_10 : decode cX1_init 10 = .ok (.putfield 9, 3) := by decide +kernel
theorem dX1_init_13 : decode cX1_init 13 = .ok (.aload_n 0, 1) := by decide +kernel
theorem dX1_init_14 : decode cX1_init 14 = .ok (.sipush 512, 3) := by decide +kernel
theorem dX1_init_17 : decode cX1_init 17 = .ok (.newarray .int, 2) := by decide +kernel
theorem dX1_init_19 : decode cX1_init 19 = .ok (.putfield 15, 3) := by decide +kernel
theorem dX1_init_22 : decode cX1_init 22 = .ok (.aload_n 0, 1) := by decide +kernel
theorem dX1_init_23 : decode cX1_init 23 = .ok (.sipush 512, 3) := by decide +kernel
theorem dX1_init_26 : decode cX1_init 26 = .ok (.newarray .int, 2) := by decide +kernel
theorem dX1_init_28 : decode cX1_init 28 = .ok (.putfield 19, 3) := by decide +kernel
theorem dX1_init_31 : decode cX1_init 31 = .ok (.aload_n 0, 1) := by decide +kernel
theorem dX1_init_32 : decode cX1_init 32 = .ok (.sipush 512, 3) := by decide +kernel
theorem dX1_init_35 : decode cX1_init 35 = .ok (.newarray .int, 2) := by decide +kernel
theorem dX1_init_37 : decode cX1_init 37 = .ok (.putfield 22, 3) := by decide +kernel
theorem dX1_init_40 : decode cX1_init 40 = .ok (.return_, 1) := by decide +kernel
theorem dX1_clear_0 : decode cX1_clear 0 = .ok (.aload_n 0, 1) := by decide +kernel
theorem dX1_clear_1 : decode cX1_clear 1 = .ok (.iconst 0, 1) := by decide +kernel
theorem dX1_clear_2 : decode cX1_clear 2 = .ok (.putfield 25, 3) := by decide +kernel
theorem dX1_clear_5 : decode cX1_clear 5 = .ok (.aload_n 0, 1) := by decide +kernel
theorem dX1_clear_6 : decode cX1_clear 6 = .ok (.iconst 0, 1) := by decide +kernel
theorem dX1_clear_7 : decode cX1_clear 7 = .ok (.putfield 29, 3) := by decide +kernel
theorem dX1_clear_10 : decode cX1_clear 10 = .ok (.return_, 1) := by decide +kernel
theorem dX1_total_0 : decode cX1_total 0 = .ok (.aload_n 0, 1) := by decide +kernel
theorem dX1_total_1 : decode cX1_total 1 = .ok (.getfield 29, 3) := by decide +kernel
theorem dX1_total_4 : decode cX1_total 4 = .ok (.ireturn, 1) := by decide +kernel
theorem dX1_groupCount_0 : decode cX1_groupCount 0 = .ok (.aload_n 0, 1) := by decide +kernel
theorem dX1_groupCount_1 : decode cX1_groupCount 1 = .ok (.getfield 25, 3) := by decide +kernel
theorem dX1_groupCount_4 : decode cX1_groupCount 4 = .ok (.ireturn, 1) := by decide +kernel
set_option maxRecDepth 20000 in
theorem ggX1_pointOf_X1_hasGroup : GoodIn wsX1_pointOf wsX1_hasGroup := goodIn_r _ [6, 7, 8, 9, 10, 11, 12, 13] (by decide +kernel) (by decide +kernel)
set_option maxRecDepth 20000 in
theorem gX1_pointOf_X1_hasGroup : GoodIn wsX1_pointOf (wsV RX1 32 RX1 yX1_hasGroup wsX1_hasGroup) := goodIn_app (goodIn_of _ (by decide +kernel)) ggX1_pointOf_X1_hasGroup
theorem dX1_pointOf_0 : decode cX1_pointOf 0 = .ok (.aload_n 0, 1) := by decide +kernel
theorem dX1_pointOf_1 : decode cX1_pointOf 1 = .ok (.iload_n 1, 1) := by decide +kernel
theorem dX1_pointOf_2 : decode cX1_pointOf 2 = .ok (.invokevirtual 32, 3) := by decide +kernel
theorem dX1_pointOf_5 : decode cX1_pointOf 5 = .ok (.ifCond .eq 12, 3) := by decide +kernel
theorem dX1_pointOf_8 : decode cX1_pointOf 8 = .ok (.aload_n 0, 1) := by decide +kernel
theorem dX1_pointOf_9 : decode cX1_pointOf 9 = .ok (.getfield 9, 3) := by decide +kernel
theorem dX1_pointOf_12 : decode cX1_pointOf 12 = .ok (.iload_n 1, 1) := by decide +kernel
theorem dX1_pointOf_13 : decode cX1_pointOf 13 = .ok (.laload, 1) := by decide +kernel
theorem dX1_pointOf_14 : decode cX1_pointOf 14 = .ok (.goto 4, 3) := by decide +kernel
theorem dX1_pointOf_17 : decode cX1_pointOf 17 = .ok (.lconst 0, 1) := by decide +kernel
theorem dX1_pointOf_18 : decode cX1_pointOf 18 = .ok (.lreturn, 1) := by decide +kernel
set_option maxRecDepth 20000 in
theorem ggX1_countOf_X1_hasGroup : GoodIn wsX1_countOf wsX1_hasGroup := goodIn_r _ [6, 7, 8, 9, 10, 11, 12, 13] (by decide +kernel) (by decide +kernel)
set_option maxRecDepth 20000 in
theorem gX1_countOf_X1_hasGroup : GoodIn wsX1_countOf (wsV RX1 32 RX1 yX1_hasGroup wsX1_hasGroup) := goodIn_app (goodIn_of _ (by decide +kernel)) ggX1_countOf_X1_hasGroup
theorem dX1_countOf_0 : decode cX1_countOf 0 = .ok (.aload_n 0, 1) := by decide +kernel
theorem dX1_countOf_1 : decode cX1_countOf 1 = .ok (.iload_n 1, 1) := by decide +kernel
theorem dX1_countOf_2 : decode cX1_countOf 2 = .ok (.invokevirtual 32, 3) := by decide +kernel
theorem dX1_countOf_5 : decode cX1_countOf 5 = .ok (.ifCond .eq 12, 3) := by decide +kernel
theorem dX1_countOf_8 : decode cX1_countOf 8 = .ok (.aload_n 0, 1) := by decide +kernel
theorem dX1_countOf_9 : decode cX1_countOf 9 = .ok (.getfield 19, 3) := by decide +kernel
theorem dX1_countOf_12 : decode cX1_countOf 12 = .ok (.iload_n 1, 1) := by decide +kernel
theorem dX1_countOf_13 : decode cX1_countOf 13 = .ok (.iaload, 1) := by decide +kernel
theorem dX1_countOf_14 : decode cX1_countOf 14 = .ok (.goto 4, 3) := by decide +kernel
theorem dX1_countOf_17 : decode cX1_countOf 17 = .ok (.iconst 0, 1) := by decide +kernel
theorem dX1_countOf_18 : decode cX1_countOf 18 = .ok (.ireturn, 1) := by decide +kernel
theorem dX1_hasRoom_0 : decode cX1_hasRoom 0 = .ok (.aload_n 0, 1) := by decide +kernel
theorem dX1_hasRoom_1 : decode cX1_hasRoom 1 = .ok (.getfield 29, 3) := by decide +kernel
theorem dX1_hasRoom_4 : decode cX1_hasRoom 4 = .ok (.iload_n 1, 1) := by decide +kernel
theorem dX1_hasRoom_5 : decode cX1_hasRoom 5 = .ok (.iadd, 1) := by decide +kernel
theorem dX1_hasRoom_6 : decode cX1_hasRoom 6 = .ok (.sipush 4000, 3) := by decide +kernel
theorem dX1_hasRoom_9 : decode cX1_hasRoom 9 = .ok (.if_icmp .gt 21, 3) := by decide +kernel
theorem dX1_hasRoom_12 : decode cX1_hasRoom 12 = .ok (.iload_n 1, 1) := by decide +kernel
theorem dX1_hasRoom_13 : decode cX1_hasRoom 13 = .ok (.ifCond .eq 13, 3) := by decide +kernel
theorem dX1_hasRoom_16 : decode cX1_hasRoom 16 = .ok (.aload_n 0, 1) := by decide +kernel
theorem dX1_hasRoom_17 : decode cX1_hasRoom 17 = .ok (.getfield 25, 3) := by decide +kernel
theorem dX1_hasRoom_20 : decode cX1_hasRoom 20 = .ok (.sipush 512, 3) := by decide +kernel
theorem dX1_hasRoom_23 : decode cX1_hasRoom 23 = .ok (.if_icmp .ge 7, 3) := by decide +kernel
theorem dX1_hasRoom_26 : decode cX1_hasRoom 26 = .ok (.iconst 1, 1) := by decide +kernel
theorem dX1_hasRoom_27 : decode cX1_hasRoom 27 = .ok (.goto 4, 3) := by decide +kernel
theorem dX1_hasRoom_30 : decode cX1_hasRoom 30 = .ok (.iconst 0, 1) := by decide +kernel
theorem dX1_hasRoom_31 : decode cX1_hasRoom 31 = .ok (.ireturn, 1) := by decide +kernel
set_option maxRecDepth 20000 in
theorem ggX1_add_X1_hasRoom : GoodIn wsX1_add wsX1_hasRoom := goodIn_r _ [10, 4, 2, 16, 17, 18, 19, 20, 21] (by decide +kernel) (by decide +kernel)
set_option maxRecDepth 20000 in
theorem gX1_add_X1_hasRoom : GoodIn wsX1_add (wsV RX1 36 RX1 yX1_hasRoom wsX1_hasRoom) := goodIn_app (goodIn_of _ (by decide +kernel)) ggX1_add_X1_hasRoom
set_option maxRecDepth 20000 in
theorem ggX1_add_X1_putSorted : GoodIn wsX1_add wsX1_putSorted := goodIn_r _ [14, 1, 15, 16, 17, 18, 19, 20, 21] (by decide +kernel) (by decide +kernel)
set_option maxRecDepth 20000 in
theorem gX1_add_X1_putSorted : GoodIn wsX1_add (wsV RX1 39 RX1 yX1_putSorted wsX1_putSorted) := goodIn_app (goodIn_of _ (by decide +kernel)) ggX1_add_X1_putSorted
theorem dX1_add_0 : decode cX1_add 0 = .ok (.iload_n 3, 1) := by decide +kernel
theorem dX1_add_1 : decode cX1_add 1 = .ok (.iconst 1, 1) := by decide +kernel
theorem dX1_add_2 : decode cX1_add 2 = .ok (.if_icmp .lt 11, 3) := by decide +kernel
theorem dX1_add_5 : decode cX1_add 5 = .ok (.aload_n 0, 1) := by decide +kernel
theorem dX1_add_6 : decode cX1_add 6 = .ok (.iload_n 3, 1) := by decide +kernel
theorem dX1_add_7 : decode cX1_add 7 = .ok (.invokevirtual 36, 3) := by decide +kernel
theorem dX1_add_10 : decode cX1_add 10 = .ok (.ifCond .ne 4, 3) := by decide +kernel
theorem dX1_add_13 : decode cX1_add 13 = .ok (.return_, 1) := by decide +kernel
theorem dX1_add_14 : decode cX1_add 14 = .ok (.aload_n 0, 1) := by decide +kernel
theorem dX1_add_15 : decode cX1_add 15 = .ok (.getfield 9, 3) := by decide +kernel
theorem dX1_add_18 : decode cX1_add 18 = .ok (.aload_n 0, 1) := by decide +kernel
theorem dX1_add_19 : decode cX1_add 19 = .ok (.getfield 25, 3) := by decide +kernel
theorem dX1_add_22 : decode cX1_add 22 = .ok (.lload_n 1, 1) := by decide +kernel
theorem dX1_add_23 : decode cX1_add 23 = .ok (.lastore, 1) := by decide +kernel
theorem dX1_add_24 : decode cX1_add 24 = .ok (.aload_n 0, 1) := by decide +kernel
theorem dX1_add_25 : decode cX1_add 25 = .ok (.getfield 15, 3) := by decide +kernel
theorem dX1_add_28 : decode cX1_add 28 = .ok (.aload_n 0, 1) := by decide +kernel
theorem dX1_add_29 : decode cX1_add 29 = .ok (.getfield 25, 3) := by decide +kernel
theorem dX1_add_32 : decode cX1_add 32 = .ok (.aload_n 0, 1) := by decide +kernel
theorem dX1_add_33 : decode cX1_add 33 = .ok (.getfield 29, 3) := by decide +kernel
theorem dX1_add_36 : decode cX1_add 36 = .ok (.iastore, 1) := by decide +kernel
theorem dX1_add_37 : decode cX1_add 37 = .ok (.aload_n 0, 1) := by decide +kernel
theorem dX1_add_38 : decode cX1_add 38 = .ok (.getfield 19, 3) := by decide +kernel
theorem dX1_add_41 : decode cX1_add 41 = .ok (.aload_n 0, 1) := by decide +kernel
theorem dX1_add_42 : decode cX1_add 42 = .ok (.getfield 25, 3) := by decide +kernel
theorem dX1_add_45 : decode cX1_add 45 = .ok (.iload_n 3, 1) := by decide +kernel
theorem dX1_add_46 : decode cX1_add 46 = .ok (.iastore, 1) := by decide +kernel
theorem dX1_add_47 : decode cX1_add 47 = .ok (.aload_n 0, 1) := by decide +kernel
theorem dX1_add_48 : decode cX1_add 48 = .ok (.aload_n 0, 1) := by decide +kernel
theorem dX1_add_49 : decode cX1_add 49 = .ok (.getfield 25, 3) := by decide +kernel
theorem dX1_add_52 : decode cX1_add 52 = .ok (.invokevirtual 39, 3) := by decide +kernel
theorem dX1_add_55 : decode cX1_add 55 = .ok (.aload_n 0, 1) := by decide +kernel
theorem dX1_add_56 : decode cX1_add 56 = .ok (.dup, 1) := by decide +kernel
theorem dX1_add_57 : decode cX1_add 57 = .ok (.getfield 25, 3) := by decide +kernel
theorem dX1_add_60 : decode cX1_add 60 = .ok (.iconst 1, 1) := by decide +kernel
theorem dX1_add_61 : decode cX1_add 61 = .ok (.iadd, 1) := by decide +kernel
theorem dX1_add_62 : decode cX1_add 62 = .ok (.putfield 25, 3) := by decide +kernel
theorem dX1_add_65 : decode cX1_add 65 = .ok (.aload_n 0, 1) := by decide +kernel
theorem dX1_add_66 : decode cX1_add 66 = .ok (.dup, 1) := by decide +kernel
theorem dX1_add_67 : decode cX1_add 67 = .ok (.getfield 29, 3) := by decide +kernel
theorem dX1_add_70 : decode cX1_add 70 = .ok (.iload_n 3, 1) := by decide +kernel
theorem dX1_add_71 : decode cX1_add 71 = .ok (.iadd, 1) := by decide +kernel
theorem dX1_add_72 : decode cX1_add 72 = .ok (.putfield 29, 3) := by decide +kernel
theorem dX1_add_75 : decode cX1_add 75 = .ok (.return_, 1) := by decide +kernel
theorem dX1_itemAt_0 : decode cX1_itemAt 0 = .ok (.iconst 0, 1) := by decide +kernel
theorem dX1_itemAt_1 : decode cX1_itemAt 1 = .ok (.istore_n 2, 1) := by decide +kernel
theorem dX1_itemAt_2 : decode cX1_itemAt 2 = .ok (.iconst 0, 1) := by decide +kernel
theorem dX1_itemAt_3 : decode cX1_itemAt 3 = .ok (.istore_n 3, 1) := by decide +kernel
theorem dX1_itemAt_4 : decode cX1_itemAt 4 = .ok (.iload_n 3, 1) := by decide +kernel
theorem dX1_itemAt_5 : decode cX1_itemAt 5 = .ok (.aload_n 0, 1) := by decide +kernel
theorem dX1_itemAt_6 : decode cX1_itemAt 6 = .ok (.getfield 25, 3) := by decide +kernel
theorem dX1_itemAt_9 : decode cX1_itemAt 9 = .ok (.if_icmp .ge 52, 3) := by decide +kernel
theorem dX1_itemAt_12 : decode cX1_itemAt 12 = .ok (.aload_n 0, 1) := by decide +kernel
theorem dX1_itemAt_13 : decode cX1_itemAt 13 = .ok (.getfield 22, 3) := by decide +kernel
theorem dX1_itemAt_16 : decode cX1_itemAt 16 = .ok (.iload_n 3, 1) := by decide +kernel
theorem dX1_itemAt_17 : decode cX1_itemAt 17 = .ok (.iaload, 1) := by decide +kernel
theorem dX1_itemAt_18 : decode cX1_itemAt 18 = .ok (.istore 4, 2) := by decide +kernel
theorem dX1_itemAt_20 : decode cX1_itemAt 20 = .ok (.iload_n 1, 1) := by decide +kernel
theorem dX1_itemAt_21 : decode cX1_itemAt 21 = .ok (.iload_n 2, 1) := by decide +kernel
theorem dX1_itemAt_22 : decode cX1_itemAt 22 = .ok (.aload_n 0, 1) := by decide +kernel
theorem dX1_itemAt_23 : decode cX1_itemAt 23 = .ok (.getfield 19, 3) := by decide +kernel
theorem dX1_itemAt_26 : decode cX1_itemAt 26 = .ok (.iload 4, 2) := by decide +kernel
theorem dX1_itemAt_28 : decode cX1_itemAt 28 = .ok (.iaload, 1) := by decide +kernel
theorem dX1_itemAt_29 : decode cX1_itemAt 29 = .ok (.iadd, 1) := by decide +kernel
theorem dX1_itemAt_30 : decode cX1_itemAt 30 = .ok (.if_icmp .ge 15, 3) := by decide +kernel
theorem dX1_itemAt_33 : decode cX1_itemAt 33 = .ok (.aload_n 0, 1) := by decide +kernel
theorem dX1_itemAt_34 : decode cX1_itemAt 34 = .ok (.getfield 15, 3) := by decide +kernel
theorem dX1_itemAt_37 : decode cX1_itemAt 37 = .ok (.iload 4, 2) := by decide +kernel
theorem dX1_itemAt_39 : decode cX1_itemAt 39 = .ok (.iaload, 1) := by decide +kernel
theorem dX1_itemAt_40 : decode cX1_itemAt 40 = .ok (.iload_n 1, 1) := by decide +kernel
theorem dX1_itemAt_41 : decode cX1_itemAt 41 = .ok (.iadd, 1) := by decide +kernel
theorem dX1_itemAt_42 : decode cX1_itemAt 42 = .ok (.iload_n 2, 1) := by decide +kernel
theorem dX1_itemAt_43 : decode cX1_itemAt 43 = .ok (.isub, 1) := by decide +kernel
theorem dX1_itemAt_44 : decode cX1_itemAt 44 = .ok (.ireturn, 1) := by decide +kernel
theorem dX1_itemAt_45 : decode cX1_itemAt 45 = .ok (.iload_n 2, 1) := by decide +kernel
theorem dX1_itemAt_46 : decode cX1_itemAt 46 = .ok (.aload_n 0, 1) := by decide +kernel
theorem dX1_itemAt_47 : decode cX1_itemAt 47 = .ok (.getfield 19, 3) := by decide +kernel
theorem dX1_itemAt_50 : decode cX1_itemAt 50 = .ok (.iload 4, 2) := by decide +kernel
theorem dX1_itemAt_52 : decode cX1_itemAt 52 = .ok (.iaload, 1) := by decide +kernel
theorem dX1_itemAt_53 : decode cX1_itemAt 53 = .ok (.iadd, 1) := by decide +kernel
theorem dX1_itemAt_54 : decode cX1_itemAt 54 = .ok (.istore_n 2, 1) := by decide +kernel
theorem dX1_itemAt_55 : decode cX1_itemAt 55 = .ok (.iinc 3 1, 3) := by decide +kernel
theorem dX1_itemAt_58 : decode cX1_itemAt 58 = .ok (.goto (-54), 3) := by decide +kernel
theorem dX1_itemAt_61 : decode cX1_itemAt 61 = .ok (.iconst (-1), 1) := by decide +kernel
theorem dX1_itemAt_62 : decode cX1_itemAt 62 = .ok (.ireturn, 1) := by decide +kernel
set_option maxRecDepth 20000 in
theorem ggX1_placeOf_X1_groupOf : GoodIn wsX1_placeOf wsX1_groupOf := goodIn_r _ [9, 3, 2, 18, 19, 20, 21, 22, 23] (by decide +kernel) (by decide +kernel)
set_option maxRecDepth 20000 in
theorem gX1_placeOf_X1_groupOf : GoodIn wsX1_placeOf (wsV RX1 43 RX1 yX1_groupOf wsX1_groupOf) := goodIn_app (goodIn_of _ (by decide +kernel)) ggX1_placeOf_X1_groupOf
set_option maxRecDepth 20000 in
theorem ggX1_placeOf_X1_hasGroup : GoodIn wsX1_placeOf wsX1_hasGroup := goodIn_r _ [13, 3, 18, 19, 20, 21, 22, 23] (by decide +kernel) (by decide +kernel)
set_option maxRecDepth 20000 in
theorem gX1_placeOf_X1_hasGroup : GoodIn wsX1_placeOf (wsV RX1 32 RX1 yX1_hasGroup wsX1_hasGroup) := goodIn_app (goodIn_of _ (by decide +kernel)) ggX1_placeOf_X1_hasGroup
set_option maxRecDepth 20000 in
theorem ggX1_placeOf_X3_remainder : GoodIn wsX1_placeOf wsX3_remainder := goodIn_r _ [17] (by decide +kernel) (by decide +kernel)
set_option maxRecDepth 20000 in
theorem gX1_placeOf_X3_remainder : GoodIn wsX1_placeOf (va_wsS RX1 47 yX3_remainder wsX3_remainder) := goodIn_app (goodIn_of _ (by decide +kernel)) ggX1_placeOf_X3_remainder
theorem dX1_placeOf_0 : decode cX1_placeOf 0 = .ok (.aload_n 0, 1) := by decide +kernel
theorem dX1_placeOf_1 : decode cX1_placeOf 1 = .ok (.iload_n 1, 1) := by decide +kernel
theorem dX1_placeOf_2 : decode cX1_placeOf 2 = .ok (.invokevirtual 43, 3) := by decide +kernel
theorem dX1_placeOf_5 : decode cX1_placeOf 5 = .ok (.istore 4, 2) := by decide +kernel
theorem dX1_placeOf_7 : decode cX1_placeOf 7 = .ok (.aload_n 0, 1) := by decide +kernel
theorem dX1_placeOf_8 : decode cX1_placeOf 8 = .ok (.iload 4, 2) := by decide +kernel
theorem dX1_placeOf_10 : decode cX1_placeOf 10 = .ok (.invokevirtual 32, 3) := by decide +kernel
theorem dX1_placeOf_13 : decode cX1_placeOf 13 = .ok (.ifCond .ne 5, 3) := by decide +kernel
theorem dX1_placeOf_16 : decode cX1_placeOf 16 = .ok (.iconst (-1), 1) := by decide +kernel
theorem dX1_placeOf_17 : decode cX1_placeOf 17 = .ok (.ireturn, 1) := by decide +kernel
theorem dX1_placeOf_18 : decode cX1_placeOf 18 = .ok (.aload_n 0, 1) := by decide +kernel
theorem dX1_placeOf_19 : decode cX1_placeOf 19 = .ok (.getfield 9, 3) := by decide +kernel
theorem dX1_placeOf_22 : decode cX1_placeOf 22 = .ok (.iload 4, 2) := by decide +kernel
theorem dX1_placeOf_24 : decode cX1_placeOf 24 = .ok (.laload, 1) := by decide +kernel
theorem dX1_placeOf_25 : decode cX1_placeOf 25 = .ok (.lload_n 2, 1) := by decide +kernel
theorem dX1_placeOf_26 : decode cX1_placeOf 26 = .ok (.invokestatic 47, 3) := by decide +kernel
theorem dX1_placeOf_29 : decode cX1_placeOf 29 = .ok (.lstore 5, 2) := by decide +kernel
theorem dX1_placeOf_31 : decode cX1_placeOf 31 = .ok (.iload_n 1, 1) := by decide +kernel
theorem dX1_placeOf_32 : decode cX1_placeOf 32 = .ok (.aload_n 0, 1) := by decide +kernel
theorem dX1_placeOf_33 : decode cX1_placeOf 33 = .ok (.getfield 15, 3) := by decide +kernel
theorem dX1_placeOf_36 : decode cX1_placeOf 36 = .ok (.iload 4, 2) := by decide +kernel
theorem dX1_placeOf_38 : decode cX1_placeOf 38 = .ok (.iaload, 1) := by decide +kernel
theorem dX1_placeOf_39 : decode cX1_placeOf 39 = .ok (.isub, 1) := by decide +kernel
theorem dX1_placeOf_40 : decode cX1_placeOf 40 = .ok (.istore 7, 2) := by decide +kernel
theorem dX1_placeOf_42 : decode cX1_placeOf 42 = .ok (.iconst 0, 1) := by decide +kernel
theorem dX1_placeOf_43 : decode cX1_placeOf 43 = .ok (.istore 8, 2) := by decide +kernel
theorem dX1_placeOf_45 : decode cX1_placeOf 45 = .ok (.iload 8, 2) := by decide +kernel
theorem dX1_placeOf_47 : decode cX1_placeOf 47 = .ok (.aload_n 0, 1) := by decide +kernel
theorem dX1_placeOf_48 : decode cX1_placeOf 48 = .ok (.getfield 25, 3) := by decide +kernel
theorem dX1_placeOf_51 : decode cX1_placeOf 51 = .ok (.if_icmp .ge 57, 3) := by decide +kernel
theorem dX1_placeOf_54 : decode cX1_placeOf 54 = .ok (.aload_n 0, 1) := by decide +kernel
theorem dX1_placeOf_55 : decode cX1_placeOf 55 = .ok (.getfield 9, 3) := by decide +kernel
theorem dX1_placeOf_58 : decode cX1_placeOf 58 = .ok (.iload 8, 2) := by decide +kernel
theorem dX1_placeOf_60 : decode cX1_placeOf 60 = .ok (.laload, 1) := by decide +kernel
theorem dX1_placeOf_61 : decode cX1_placeOf 61 = .ok (.lload_n 2, 1) := by decide +kernel
theorem dX1_placeOf_62 : decode cX1_placeOf 62 = .ok (.invokestatic 47, 3) := by decide +kernel
theorem dX1_placeOf_65 : decode cX1_placeOf 65 = .ok (.lstore 9, 2) := by decide +kernel
theorem dX1_placeOf_67 : decode cX1_placeOf 67 = .ok (.lload 9, 2) := by decide +kernel
theorem dX1_placeOf_69 : decode cX1_placeOf 69 = .ok (.lload 5, 2) := by decide +kernel
theorem dX1_placeOf_71 : decode cX1_placeOf 71 = .ok (.lcmp, 1) := by decide +kernel
theorem dX1_placeOf_72 : decode cX1_placeOf 72 = .ok (.ifCond .lt 18, 3) := by decide +kernel
theorem dX1_placeOf_75 : decode cX1_placeOf 75 = .ok (.lload 9, 2) := by decide +kernel
theorem dX1_placeOf_77 : decode cX1_placeOf 77 = .ok (.lload 5, 2) := by decide +kernel
theorem dX1_placeOf_79 : decode cX1_placeOf 79 = .ok (.lcmp, 1) := by decide +kernel
theorem dX1_placeOf_80 : decode cX1_placeOf 80 = .ok (.ifCond .ne 22, 3) := by decide +kernel
theorem dX1_placeOf_83 : decode cX1_placeOf 83 = .ok (.iload 8, 2) := by decide +kernel
theorem dX1_placeOf_85 : decode cX1_placeOf 85 = .ok (.iload 4, 2) := by decide +kernel
theorem dX1_placeOf_87 : decode cX1_placeOf 87 = .ok (.if_icmp .ge 15, 3) := by decide +kernel
theorem dX1_placeOf_90 : decode cX1_placeOf 90 = .ok (.iload 7, 2) := by decide +kernel
theorem dX1_placeOf_92 : decode cX1_placeOf 92 = .ok (.aload_n 0, 1) := by decide +kernel
theorem dX1_placeOf_93 : decode cX1_placeOf 93 = .ok (.getfield 19, 3) := by decide +kernel
theorem dX1_placeOf_96 : decode cX1_placeOf 96 = .ok (.iload 8, 2) := by decide +kernel
theorem dX1_placeOf_98 : decode cX1_placeOf 98 = .ok (.iaload, 1) := by decide +kernel
theorem dX1_placeOf_99 : decode cX1_placeOf 99 = .ok (.iadd, 1) := by decide +kernel
theorem dX1_placeOf_100 : decode cX1_placeOf 100 = .ok (.istore 7, 2) := by decide +kernel
theorem dX1_placeOf_102 : decode cX1_placeOf 102 = .ok (.iinc 8 1, 3) := by decide +kernel
theorem dX1_placeOf_105 : decode cX1_placeOf 105 = .ok (.goto (-60), 3) := by decide +kernel
theorem dX1_placeOf_108 : decode cX1_placeOf 108 = .ok (.iload 7, 2) := by decide +kernel
theorem dX1_placeOf_110 : decode cX1_placeOf 110 = .ok (.ireturn, 1) := by decide +kernel
theorem dX1_hasGroup_0 : decode cX1_hasGroup 0 = .ok (.iload_n 1, 1) := by decide +kernel
theorem dX1_hasGroup_1 : decode cX1_hasGroup 1 = .ok (.ifCond .lt 15, 3) := by decide +kernel
theorem dX1_hasGroup_4 : decode cX1_hasGroup 4 = .ok (.iload_n 1, 1) := by decide +kernel
theorem dX1_hasGroup_5 : decode cX1_hasGroup 5 = .ok (.aload_n 0, 1) := by decide +kernel
theorem dX1_hasGroup_6 : decode cX1_hasGroup 6 = .ok (.getfield 25, 3) := by decide +kernel
theorem dX1_hasGroup_9 : decode cX1_hasGroup 9 = .ok (.if_icmp .ge 7, 3) := by decide +kernel
theorem dX1_hasGroup_12 : decode cX1_hasGroup 12 = .ok (.iconst 1, 1) := by decide +kernel
theorem dX1_hasGroup_13 : decode cX1_hasGroup 13 = .ok (.goto 4, 3) := by decide +kernel
theorem dX1_hasGroup_16 : decode cX1_hasGroup 16 = .ok (.iconst 0, 1) := by decide +kernel
theorem dX1_hasGroup_17 : decode cX1_hasGroup 17 = .ok (.ireturn, 1) := by decide +kernel
theorem dX1_groupOf_0 : decode cX1_groupOf 0 = .ok (.aload_n 0, 1) := by decide +kernel
theorem dX1_groupOf_1 : decode cX1_groupOf 1 = .ok (.getfield 25, 3) := by decide +kernel
theorem dX1_groupOf_4 : decode cX1_groupOf 4 = .ok (.iconst 1, 1) := by decide +kernel
theorem dX1_groupOf_5 : decode cX1_groupOf 5 = .ok (.isub, 1) := by decide +kernel
theorem dX1_groupOf_6 : decode cX1_groupOf 6 = .ok (.istore_n 2, 1) := by decide +kernel
theorem dX1_groupOf_7 : decode cX1_groupOf 7 = .ok (.iload_n 2, 1) := by decide +kernel
theorem dX1_groupOf_8 : decode cX1_groupOf 8 = .ok (.ifCond .le 19, 3) := by decide +kernel
