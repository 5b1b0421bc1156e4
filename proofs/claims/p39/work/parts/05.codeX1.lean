theorem dX1_init_0 : decode cX1_init 0 = .ok (.aload_n 0, 1) := by decide +kernel
theorem dX1_init_1 : decode cX1_init 1 = .ok (.invokespecial 1, 3) := by decide +kernel
theorem dX1_init_4 : decode cX1_init 4 = .ok (.aload_n 0, 1) := by decide +kernel
theorem dX1_init_5 : decode cX1_init 5 = .ok (.iconst 0, 1) := by decide +kernel
theorem dX1_init_6 : decode cX1_init 6 = .ok (.newarray .int, 2) := by decide +kernel
theorem dX1_init_8 : decode cX1_init 8 = .ok (.putfield 7, 3) := by decide +kernel
theorem dX1_init_11 : decode cX1_init 11 = .ok (.aload_n 0, 1) := by decide +kernel
theorem dX1_init_12 : decode cX1_init 12 = .ok (.iconst 0, 1) := by decide +kernel
theorem dX1_init_13 : decode cX1_init 13 = .ok (.anewarray 13, 3) := by decide +kernel
theorem dX1_init_16 : decode cX1_init 16 = .ok (.putfield 14, 3) := by decide +kernel
theorem dX1_init_19 : decode cX1_init 19 = .ok (.aload_n 0, 1) := by decide +kernel
theorem dX1_init_20 : decode cX1_init 20 = .ok (.iconst 0, 1) := by decide +kernel
theorem dX1_init_21 : decode cX1_init 21 = .ok (.anewarray 13, 3) := by decide +kernel
theorem dX1_init_24 : decode cX1_init 24 = .ok (.putfield 18, 3) := by decide +kernel
theorem dX1_init_27 : decode cX1_init 27 = .ok (.aload_n 0, 1) := by decide +kernel
theorem dX1_init_28 : decode cX1_init 28 = .ok (.bipush 20, 2) := by decide +kernel
theorem dX1_init_30 : decode cX1_init 30 = .ok (.putfield 21, 3) := by decide +kernel
theorem dX1_init_33 : decode cX1_init 33 = .ok (.aload_n 0, 1) := by decide +kernel
theorem dX1_init_34 : decode cX1_init 34 = .ok (.iconst 1, 1) := by decide +kernel
theorem dX1_init_35 : decode cX1_init 35 = .ok (.putfield 25, 3) := by decide +kernel
theorem dX1_init_38 : decode cX1_init 38 = .ok (.aload_n 0, 1) := by decide +kernel
theorem dX1_init_39 : decode cX1_init 39 = .ok (.iconst 3, 1) := by decide +kernel
theorem dX1_init_40 : decode cX1_init 40 = .ok (.putfield 28, 3) := by decide +kernel
theorem dX1_init_43 : decode cX1_init 43 = .ok (.return_, 1) := by decide +kernel
theorem dX1_with_0 : decode cX1_with 0 = .ok (.aload_n 0, 1) := by decide +kernel
theorem dX1_with_1 : decode cX1_with 1 = .ok (.arraylength, 1) := by decide +kernel
theorem dX1_with_2 : decode cX1_with 2 = .ok (.iconst 1, 1) := by decide +kernel
theorem dX1_with_3 : decode cX1_with 3 = .ok (.iadd, 1) := by decide +kernel
theorem dX1_with_4 : decode cX1_with 4 = .ok (.anewarray 13, 3) := by decide +kernel
theorem dX1_with_7 : decode cX1_with 7 = .ok (.astore_n 2, 1) := by decide +kernel
theorem dX1_with_8 : decode cX1_with 8 = .ok (.iconst 0, 1) := by decide +kernel
theorem dX1_with_9 : decode cX1_with 9 = .ok (.istore_n 3, 1) := by decide +kernel
theorem dX1_with_10 : decode cX1_with 10 = .ok (.iload_n 3, 1) := by decide +kernel
theorem dX1_with_11 : decode cX1_with 11 = .ok (.aload_n 0, 1) := by decide +kernel
theorem dX1_with_12 : decode cX1_with 12 = .ok (.arraylength, 1) := by decide +kernel
theorem dX1_with_13 : decode cX1_with 13 = .ok (.if_icmp .ge 15, 3) := by decide +kernel
theorem dX1_with_16 : decode cX1_with 16 = .ok (.aload_n 2, 1) := by decide +kernel
theorem dX1_with_17 : decode cX1_with 17 = .ok (.iload_n 3, 1) := by decide +kernel
theorem dX1_with_18 : decode cX1_with 18 = .ok (.aload_n 0, 1) := by decide +kernel
theorem dX1_with_19 : decode cX1_with 19 = .ok (.iload_n 3, 1) := by decide +kernel
theorem dX1_with_20 : decode cX1_with 20 = .ok (.aaload, 1) := by decide +kernel
theorem dX1_with_21 : decode cX1_with 21 = .ok (.aastore, 1) := by decide +kernel
theorem dX1_with_22 : decode cX1_with 22 = .ok (.iinc 3 1, 3) := by decide +kernel
theorem dX1_with_25 : decode cX1_with 25 = .ok (.goto (-15), 3) := by decide +kernel
theorem dX1_with_28 : decode cX1_with 28 = .ok (.aload_n 2, 1) := by decide +kernel
theorem dX1_with_29 : decode cX1_with 29 = .ok (.aload_n 0, 1) := by decide +kernel
theorem dX1_with_30 : decode cX1_with 30 = .ok (.arraylength, 1) := by decide +kernel
theorem dX1_with_31 : decode cX1_with 31 = .ok (.aload_n 1, 1) := by decide +kernel
theorem dX1_with_32 : decode cX1_with 32 = .ok (.aastore, 1) := by decide +kernel
theorem dX1_with_33 : decode cX1_with 33 = .ok (.aload_n 2, 1) := by decide +kernel
theorem dX1_with_34 : decode cX1_with 34 = .ok (.areturn, 1) := by decide +kernel
set_option maxRecDepth 20000 in
theorem ggX1_without_X1_with : GoodIn wsX1_without wsX1_with := goodIn_r _ [5, 1] (by decide +kernel) (by decide +kernel)
set_option maxRecDepth 20000 in
theorem gX1_without_X1_with : GoodIn wsX1_without (va_wsS RX1 31 yX1_with wsX1_with) := goodIn_app (goodIn_of _ (by decide +kernel)) ggX1_without_X1_with
theorem dX1_without_0 : decode cX1_without 0 = .ok (.iconst 0, 1) := by decide +kernel
theorem dX1_without_1 : decode cX1_without 1 = .ok (.anewarray 13, 3) := by decide +kernel
theorem dX1_without_4 : decode cX1_without 4 = .ok (.astore_n 2, 1) := by decide +kernel
theorem dX1_without_5 : decode cX1_without 5 = .ok (.iconst 0, 1) := by decide +kernel
theorem dX1_without_6 : decode cX1_without 6 = .ok (.istore_n 3, 1) := by decide +kernel
theorem dX1_without_7 : decode cX1_without 7 = .ok (.iload_n 3, 1) := by decide +kernel
theorem dX1_without_8 : decode cX1_without 8 = .ok (.aload_n 0, 1) := by decide +kernel
theorem dX1_without_9 : decode cX1_without 9 = .ok (.arraylength, 1) := by decide +kernel
theorem dX1_without_10 : decode cX1_without 10 = .ok (.if_icmp .ge 22, 3) := by decide +kernel
theorem dX1_without_13 : decode cX1_without 13 = .ok (.iload_n 3, 1) := by decide +kernel
theorem dX1_without_14 : decode cX1_without 14 = .ok (.iload_n 1, 1) := by decide +kernel
theorem dX1_without_15 : decode cX1_without 15 = .ok (.if_icmp .eq 11, 3) := by decide +kernel
theorem dX1_without_18 : decode cX1_without 18 = .ok (.aload_n 2, 1) := by decide +kernel
theorem dX1_without_19 : decode cX1_without 19 = .ok (.aload_n 0, 1) := by decide +kernel
theorem dX1_without_20 : decode cX1_without 20 = .ok (.iload_n 3, 1) := by decide +kernel
theorem dX1_without_21 : decode cX1_without 21 = .ok (.aaload, 1) := by decide +kernel
theorem dX1_without_22 : decode cX1_without 22 = .ok (.invokestatic 31, 3) := by decide +kernel
theorem dX1_without_25 : decode cX1_without 25 = .ok (.astore_n 2, 1) := by decide +kernel
theorem dX1_without_26 : decode cX1_without 26 = .ok (.iinc 3 1, 3) := by decide +kernel
theorem dX1_without_29 : decode cX1_without 29 = .ok (.goto (-22), 3) := by decide +kernel
theorem dX1_without_32 : decode cX1_without 32 = .ok (.aload_n 2, 1) := by decide +kernel
theorem dX1_without_33 : decode cX1_without 33 = .ok (.areturn, 1) := by decide +kernel
theorem dX1_addStick_0 : decode cX1_addStick 0 = .ok (.aload_n 0, 1) := by decide +kernel
theorem dX1_addStick_1 : decode cX1_addStick 1 = .ok (.getfield 7, 3) := by decide +kernel
theorem dX1_addStick_4 : decode cX1_addStick 4 = .ok (.arraylength, 1) := by decide +kernel
theorem dX1_addStick_5 : decode cX1_addStick 5 = .ok (.iconst 1, 1) := by decide +kernel
theorem dX1_addStick_6 : decode cX1_addStick 6 = .ok (.iadd, 1) := by decide +kernel
theorem dX1_addStick_7 : decode cX1_addStick 7 = .ok (.newarray .int, 2) := by decide +kernel
theorem dX1_addStick_9 : decode cX1_addStick 9 = .ok (.astore_n 2, 1) := by decide +kernel
theorem dX1_addStick_10 : decode cX1_addStick 10 = .ok (.iconst 0, 1) := by decide +kernel
theorem dX1_addStick_11 : decode cX1_addStick 11 = .ok (.istore_n 3, 1) := by decide +kernel
theorem dX1_addStick_12 : decode cX1_addStick 12 = .ok (.iload_n 3, 1) := by decide +kernel
theorem dX1_addStick_13 : decode cX1_addStick 13 = .ok (.aload_n 0, 1) := by decide +kernel
theorem dX1_addStick_14 : decode cX1_addStick 14 = .ok (.getfield 7, 3) := by decide +kernel
theorem dX1_addStick_17 : decode cX1_addStick 17 = .ok (.arraylength, 1) := by decide +kernel
theorem dX1_addStick_18 : decode cX1_addStick 18 = .ok (.if_icmp .ge 18, 3) := by decide +kernel
theorem dX1_addStick_21 : decode cX1_addStick 21 = .ok (.aload_n 2, 1) := by decide +kernel
theorem dX1_addStick_22 : decode cX1_addStick 22 = .ok (.iload_n 3, 1) := by decide +kernel
theorem dX1_addStick_23 : decode cX1_addStick 23 = .ok (.aload_n 0, 1) := by decide +kernel
theorem dX1_addStick_24 : decode cX1_addStick 24 = .ok (.getfield 7, 3) := by decide +kernel
theorem dX1_addStick_27 : decode cX1_addStick 27 = .ok (.iload_n 3, 1) := by decide +kernel
theorem dX1_addStick_28 : decode cX1_addStick 28 = .ok (.iaload, 1) := by decide +kernel
theorem dX1_addStick_29 : decode cX1_addStick 29 = .ok (.iastore, 1) := by decide +kernel
theorem dX1_addStick_30 : decode cX1_addStick 30 = .ok (.iinc 3 1, 3) := by decide +kernel
theorem dX1_addStick_33 : decode cX1_addStick 33 = .ok (.goto (-21), 3) := by decide +kernel
theorem dX1_addStick_36 : decode cX1_addStick 36 = .ok (.aload_n 2, 1) := by decide +kernel
theorem dX1_addStick_37 : decode cX1_addStick 37 = .ok (.aload_n 0, 1) := by decide +kernel
theorem dX1_addStick_38 : decode cX1_addStick 38 = .ok (.getfield 7, 3) := by decide +kernel
theorem dX1_addStick_41 : decode cX1_addStick 41 = .ok (.arraylength, 1) := by decide +kernel
theorem dX1_addStick_42 : decode cX1_addStick 42 = .ok (.iload_n 1, 1) := by decide +kernel
theorem dX1_addStick_43 : decode cX1_addStick 43 = .ok (.iastore, 1) := by decide +kernel
theorem dX1_addStick_44 : decode cX1_addStick 44 = .ok (.aload_n 0, 1) := by decide +kernel
theorem dX1_addStick_45 : decode cX1_addStick 45 = .ok (.aload_n 2, 1) := by decide +kernel
theorem dX1_addStick_46 : decode cX1_addStick 46 = .ok (.putfield 7, 3) := by decide +kernel
theorem dX1_addStick_49 : decode cX1_addStick 49 = .ok (.return_, 1) := by decide +kernel
theorem dX1_napsAt_0 : decode cX1_napsAt 0 = .ok (.iconst 0, 1) := by decide +kernel
theorem dX1_napsAt_1 : decode cX1_napsAt 1 = .ok (.istore_n 3, 1) := by decide +kernel
theorem dX1_napsAt_2 : decode cX1_napsAt 2 = .ok (.iconst 0, 1) := by decide +kernel
theorem dX1_napsAt_3 : decode cX1_napsAt 3 = .ok (.istore 4, 2) := by decide +kernel
theorem dX1_napsAt_5 : decode cX1_napsAt 5 = .ok (.iload 4, 2) := by decide +kernel
theorem dX1_napsAt_7 : decode cX1_napsAt 7 = .ok (.aload_n 0, 1) := by decide +kernel
theorem dX1_napsAt_8 : decode cX1_napsAt 8 = .ok (.getfield 14, 3) := by decide +kernel
theorem dX1_napsAt_11 : decode cX1_napsAt 11 = .ok (.arraylength, 1) := by decide +kernel
theorem dX1_napsAt_12 : decode cX1_napsAt 12 = .ok (.if_icmp .ge 49, 3) := by decide +kernel
theorem dX1_napsAt_15 : decode cX1_napsAt 15 = .ok (.iload_n 3, 1) := by decide +kernel
theorem dX1_napsAt_16 : decode cX1_napsAt 16 = .ok (.iload 4, 2) := by decide +kernel
theorem dX1_napsAt_18 : decode cX1_napsAt 18 = .ok (.iload_n 2, 1) := by decide +kernel
theorem dX1_napsAt_19 : decode cX1_napsAt 19 = .ok (.if_icmp .eq 33, 3) := by decide +kernel
theorem dX1_napsAt_22 : decode cX1_napsAt 22 = .ok (.iload_n 1, 1) := by decide +kernel
theorem dX1_napsAt_23 : decode cX1_napsAt 23 = .ok (.aload_n 0, 1) := by decide +kernel
theorem dX1_napsAt_24 : decode cX1_napsAt 24 = .ok (.getfield 14, 3) := by decide +kernel
theorem dX1_napsAt_27 : decode cX1_napsAt 27 = .ok (.iload 4, 2) := by decide +kernel
theorem dX1_napsAt_29 : decode cX1_napsAt 29 = .ok (.aaload, 1) := by decide +kernel
theorem dX1_napsAt_30 : decode cX1_napsAt 30 = .ok (.iconst 0, 1) := by decide +kernel
theorem dX1_napsAt_31 : decode cX1_napsAt 31 = .ok (.iaload, 1) := by decide +kernel
theorem dX1_napsAt_32 : decode cX1_napsAt 32 = .ok (.if_icmp .lt 20, 3) := by decide +kernel
theorem dX1_napsAt_35 : decode cX1_napsAt 35 = .ok (.iload_n 1, 1) := by decide +kernel
theorem dX1_napsAt_36 : decode cX1_napsAt 36 = .ok (.aload_n 0, 1) := by decide +kernel
theorem dX1_napsAt_37 : decode cX1_napsAt 37 = .ok (.getfield 14, 3) := by decide +kernel
theorem dX1_napsAt_40 : decode cX1_napsAt 40 = .ok (.iload 4, 2) := by decide +kernel
theorem dX1_napsAt_42 : decode cX1_napsAt 42 = .ok (.aaload, 1) := by decide +kernel
theorem dX1_napsAt_43 : decode cX1_napsAt 43 = .ok (.iconst 1, 1) := by decide +kernel
theorem dX1_napsAt_44 : decode cX1_napsAt 44 = .ok (.iaload, 1) := by decide +kernel
theorem dX1_napsAt_45 : decode cX1_napsAt 45 = .ok (.if_icmp .ge 7, 3) := by decide +kernel
theorem dX1_napsAt_48 : decode cX1_napsAt 48 = .ok (.iconst 1, 1) := by decide +kernel
theorem dX1_napsAt_49 : decode cX1_napsAt 49 = .ok (.goto 4, 3) := by decide +kernel
theorem dX1_napsAt_52 : decode cX1_napsAt 52 = .ok (.iconst 0, 1) := by decide +kernel
theorem dX1_napsAt_53 : decode cX1_napsAt 53 = .ok (.iadd, 1) := by decide +kernel
theorem dX1_napsAt_54 : decode cX1_napsAt 54 = .ok (.istore_n 3, 1) := by decide +kernel
theorem dX1_napsAt_55 : decode cX1_napsAt 55 = .ok (.iinc 4 1, 3) := by decide +kernel
theorem dX1_napsAt_58 : decode cX1_napsAt 58 = .ok (.goto (-53), 3) := by decide +kernel
theorem dX1_napsAt_61 : decode cX1_napsAt 61 = .ok (.iload_n 3, 1) := by decide +kernel
theorem dX1_napsAt_62 : decode cX1_napsAt 62 = .ok (.ireturn, 1) := by decide +kernel
set_option maxRecDepth 20000 in
theorem ggX1_awake_X1_napsAt : GoodIn wsX1_awake wsX1_napsAt := goodIn_r _ [5, 6, 7, 8, 9, 10, 11, 12, 13, 14, 15, 16] (by decide +kernel) (by decide +kernel)
set_option maxRecDepth 20000 in
theorem gX1_awake_X1_napsAt : GoodIn wsX1_awake (wsV RX1 48 RX1 yX1_napsAt wsX1_napsAt) := goodIn_app (goodIn_of _ (by decide +kernel)) ggX1_awake_X1_napsAt
theorem dX1_awake_0 : decode cX1_awake 0 = .ok (.iconst 0, 1) := by decide +kernel
theorem dX1_awake_1 : decode cX1_awake 1 = .ok (.istore_n 3, 1) := by decide +kernel
theorem dX1_awake_2 : decode cX1_awake 2 = .ok (.iconst 0, 1) := by decide +kernel
theorem dX1_awake_3 : decode cX1_awake 3 = .ok (.istore 4, 2) := by decide +kernel
theorem dX1_awake_5 : decode cX1_awake 5 = .ok (.iload 4, 2) := by decide +kernel
theorem dX1_awake_7 : decode cX1_awake 7 = .ok (.iload_n 1, 1) := by decide +kernel
theorem dX1_awake_8 : decode cX1_awake 8 = .ok (.if_icmp .ge 27, 3) := by decide +kernel
theorem dX1_awake_11 : decode cX1_awake 11 = .ok (.iload_n 3, 1) := by decide +kernel
theorem dX1_awake_12 : decode cX1_awake 12 = .ok (.aload_n 0, 1) := by decide +kernel
theorem dX1_awake_13 : decode cX1_awake 13 = .ok (.iload 4, 2) := by decide +kernel
theorem dX1_awake_15 : decode cX1_awake 15 = .ok (.iload_n 2, 1) := by decide +kernel
theorem dX1_awake_16 : decode cX1_awake 16 = .ok (.invokevirtual 48, 3) := by decide +kernel
theorem dX1_awake_19 : decode cX1_awake 19 = .ok (.ifCond .ne 7, 3) := by decide +kernel
theorem dX1_awake_22 : decode cX1_awake 22 = .ok (.iconst 1, 1) := by decide +kernel
theorem dX1_awake_23 : decode cX1_awake 23 = .ok (.goto 4, 3) := by decide +kernel
theorem dX1_awake_26 : decode cX1_awake 26 = .ok (.iconst 0, 1) := by decide +kernel
theorem dX1_awake_27 : decode cX1_awake 27 = .ok (.iadd, 1) := by decide +kernel
theorem dX1_awake_28 : decode cX1_awake 28 = .ok (.istore_n 3, 1) := by decide +kernel
theorem dX1_awake_29 : decode cX1_awake 29 = .ok (.iinc 4 1, 3) := by decide +kernel
theorem dX1_awake_32 : decode cX1_awake 32 = .ok (.goto (-27), 3) := by decide +kernel
theorem dX1_awake_35 : decode cX1_awake 35 = .ok (.iload_n 3, 1) := by decide +kernel
theorem dX1_awake_36 : decode cX1_awake 36 = .ok (.ireturn, 1) := by decide +kernel
set_option maxRecDepth 20000 in
theorem ggX1_ticks_X1_napsAt : GoodIn wsX1_ticks wsX1_napsAt := goodIn_r _ [6, 7, 8, 9, 10, 11, 12, 13, 14, 15, 16, 17] (by decide +kernel) (by decide +kernel)
set_option maxRecDepth 20000 in
theorem gX1_ticks_X1_napsAt : GoodIn wsX1_ticks (wsV RX1 48 RX1 yX1_napsAt wsX1_napsAt) := goodIn_app (goodIn_of _ (by decide +kernel)) ggX1_ticks_X1_napsAt
theorem dX1_ticks_0 : decode cX1_ticks 0 = .ok (.aload_n 0, 1) := by decide +kernel
theorem dX1_ticks_1 : decode cX1_ticks 1 = .ok (.iload_n 2, 1) := by decide +kernel
theorem dX1_ticks_2 : decode cX1_ticks 2 = .ok (.iconst (-1), 1) := by decide +kernel
theorem dX1_ticks_3 : decode cX1_ticks 3 = .ok (.invokevirtual 48, 3) := by decide +kernel
theorem dX1_ticks_6 : decode cX1_ticks 6 = .ok (.ifCond .ne 41, 3) := by decide +kernel
theorem dX1_ticks_9 : decode cX1_ticks 9 = .ok (.iload_n 2, 1) := by decide +kernel
theorem dX1_ticks_10 : decode cX1_ticks 10 = .ok (.aload_n 0, 1) := by decide +kernel
theorem dX1_ticks_11 : decode cX1_ticks 11 = .ok (.getfield 18, 3) := by decide +kernel
theorem dX1_ticks_14 : decode cX1_ticks 14 = .ok (.iload_n 1, 1) := by decide +kernel
theorem dX1_ticks_15 : decode cX1_ticks 15 = .ok (.aaload, 1) := by decide +kernel
theorem dX1_ticks_16 : decode cX1_ticks 16 = .ok (.iconst 1, 1) := by decide +kernel
theorem dX1_ticks_17 : decode cX1_ticks 17 = .ok (.iaload, 1) := by decide +kernel
theorem dX1_ticks_18 : decode cX1_ticks 18 = .ok (.isub, 1) := by decide +kernel
theorem dX1_ticks_19 : decode cX1_ticks 19 = .ok (.aload_n 0, 1) := by decide +kernel
theorem dX1_ticks_20 : decode cX1_ticks 20 = .ok (.getfield 18, 3) := by decide +kernel
theorem dX1_ticks_23 : decode cX1_ticks 23 = .ok (.iload_n 1, 1) := by decide +kernel
theorem dX1_ticks_24 : decode cX1_ticks 24 = .ok (.aaload, 1) := by decide +kernel
theorem dX1_ticks_25 : decode cX1_ticks 25 = .ok (.iconst 0, 1) := by decide +kernel
theorem dX1_ticks_26 : decode cX1_ticks 26 = .ok (.iaload, 1) := by decide +kernel
theorem dX1_ticks_27 : decode cX1_ticks 27 = .ok (.irem, 1) := by decide +kernel
theorem dX1_ticks_28 : decode cX1_ticks 28 = .ok (.ifCond .ne 19, 3) := by decide +kernel
theorem dX1_ticks_31 : decode cX1_ticks 31 = .ok (.iload_n 2, 1) := by decide +kernel
theorem dX1_ticks_32 : decode cX1_ticks 32 = .ok (.aload_n 0, 1) := by decide +kernel
theorem dX1_ticks_33 : decode cX1_ticks 33 = .ok (.getfield 18, 3) := by decide +kernel
theorem dX1_ticks_36 : decode cX1_ticks 36 = .ok (.iload_n 1, 1) := by decide +kernel
theorem dX1_ticks_37 : decode cX1_ticks 37 = .ok (.aaload, 1) := by decide +kernel
theorem dX1_ticks_38 : decode cX1_ticks 38 = .ok (.iconst 1, 1) := by decide +kernel
theorem dX1_ticks_39 : decode cX1_ticks 39 = .ok (.iaload, 1) := by decide +kernel
theorem dX1_ticks_40 : decode cX1_ticks 40 = .ok (.if_icmp .lt 7, 3) := by decide +kernel
theorem dX1_ticks_43 : decode cX1_ticks 43 = .ok (.iconst 1, 1) := by decide +kernel
theorem dX1_ticks_44 : decode cX1_ticks 44 = .ok (.goto 4, 3) := by decide +kernel
theorem dX1_ticks_47 : decode cX1_ticks 47 = .ok (.iconst 0, 1) := by decide +kernel
theorem dX1_ticks_48 : decode cX1_ticks 48 = .ok (.ireturn, 1) := by decide +kernel
set_option maxRecDepth 20000 in
theorem ggX1_ticked_X1_napsAt : GoodIn wsX1_ticked wsX1_napsAt := goodIn_r _ [7, 8, 9, 10, 11, 12, 13, 14, 15, 16, 17, 18] (by decide +kernel) (by decide +kernel)
set_option maxRecDepth 20000 in
theorem gX1_ticked_X1_napsAt : GoodIn wsX1_ticked (wsV RX1 48 RX1 yX1_napsAt wsX1_napsAt) := goodIn_app (goodIn_of _ (by decide +kernel)) ggX1_ticked_X1_napsAt
theorem dX1_ticked_0 : decode cX1_ticked 0 = .ok (.iconst 0, 1) := by decide +kernel
theorem dX1_ticked_1 : decode cX1_ticked 1 = .ok (.istore_n 2, 1) := by decide +kernel
theorem dX1_ticked_2 : decode cX1_ticked 2 = .ok (.aload_n 0, 1) := by decide +kernel
theorem dX1_ticked_3 : decode cX1_ticked 3 = .ok (.getfield 18, 3) := by decide +kernel
theorem dX1_ticked_6 : decode cX1_ticked 6 = .ok (.iload_n 1, 1) := by decide +kernel
theorem dX1_ticked_7 : decode cX1_ticked 7 = .ok (.aaload, 1) := by decide +kernel
theorem dX1_ticked_8 : decode cX1_ticked 8 = .ok (.iconst 1, 1) := by decide +kernel
theorem dX1_ticked_9 : decode cX1_ticked 9 = .ok (.iaload, 1) := by decide +kernel
theorem dX1_ticked_10 : decode cX1_ticked 10 = .ok (.istore_n 3, 1) := by decide +kernel
theorem dX1_ticked_11 : decode cX1_ticked 11 = .ok (.iload_n 3, 1) := by decide +kernel
theorem dX1_ticked_12 : decode cX1_ticked 12 = .ok (.aload_n 0, 1) := by decide +kernel
theorem dX1_ticked_13 : decode cX1_ticked 13 = .ok (.getfield 39, 3) := by decide +kernel
theorem dX1_ticked_16 : decode cX1_ticked 16 = .ok (.if_icmp .ge 34, 3) := by decide +kernel
theorem dX1_ticked_19 : decode cX1_ticked 19 = .ok (.iload_n 2, 1) := by decide +kernel
theorem dX1_ticked_20 : decode cX1_ticked 20 = .ok (.aload_n 0, 1) := by decide +kernel
theorem dX1_ticked_21 : decode cX1_ticked 21 = .ok (.iload_n 3, 1) := by decide +kernel
theorem dX1_ticked_22 : decode cX1_ticked 22 = .ok (.iconst (-1), 1) := by decide +kernel
theorem dX1_ticked_23 : decode cX1_ticked 23 = .ok (.invokevirtual 48, 3) := by decide +kernel
theorem dX1_ticked_26 : decode cX1_ticked 26 = .ok (.ifCond .ne 7, 3) := by decide +kernel
theorem dX1_ticked_29 : decode cX1_ticked 29 = .ok (.iconst 1, 1) := by decide +kernel
theorem dX1_ticked_30 : decode cX1_ticked 30 = .ok (.goto 4, 3) := by decide +kernel
theorem dX1_ticked_33 : decode cX1_ticked 33 = .ok (.iconst 0, 1) := by decide +kernel
theorem dX1_ticked_34 : decode cX1_ticked 34 = .ok (.iadd, 1) := by decide +kernel
theorem dX1_ticked_35 : decode cX1_ticked 35 = .ok (.istore_n 2, 1) := by decide +kernel
theorem dX1_ticked_36 : decode cX1_ticked 36 = .ok (.iload_n 3, 1) := by decide +kernel
theorem dX1_ticked_37 : decode cX1_ticked 37 = .ok (.aload_n 0, 1) := by decide +kernel
theorem dX1_ticked_38 : decode cX1_ticked 38 = .ok (.getfield 18, 3) := by decide +kernel
theorem dX1_ticked_41 : decode cX1_ticked 41 = .ok (.iload_n 1, 1) := by decide +kernel
theorem dX1_ticked_42 : decode cX1_ticked 42 = .ok (.aaload, 1) := by decide +kernel
theorem dX1_ticked_43 : decode cX1_ticked 43 = .ok (.iconst 0, 1) := by decide +kernel
theorem dX1_ticked_44 : decode cX1_ticked 44 = .ok (.iaload, 1) := by decide +kernel
theorem dX1_ticked_45 : decode cX1_ticked 45 = .ok (.iadd, 1) := by decide +kernel
theorem dX1_ticked_46 : decode cX1_ticked 46 = .ok (.istore_n 3, 1) := by decide +kernel
theorem dX1_ticked_47 : decode cX1_ticked 47 = .ok (.goto (-36), 3) := by decide +kernel
theorem dX1_ticked_50 : decode cX1_ticked 50 = .ok (.iload_n 2, 1) := by decide +kernel
theorem dX1_ticked_51 : decode cX1_ticked 51 = .ok (.ireturn, 1) := by decide +kernel
set_option maxRecDepth 20000 in
theorem ggX1_pass_X1_napsAt : GoodIn wsX1_pass wsX1_napsAt := goodIn_r _ [12, 13, 18, 19, 20, 21, 22, 23, 24, 25, 26, 27] (by decide +kernel) (by decide +kernel)
set_option maxRecDepth 20000 in
theorem gX1_pass_X1_napsAt : GoodIn wsX1_pass (wsV RX1 48 RX1 yX1_napsAt wsX1_napsAt) := goodIn_app (goodIn_of _ (by decide +kernel)) ggX1_pass_X1_napsAt
set_option maxRecDepth 20000 in
theorem ggX1_pass_X1_ticks : GoodIn wsX1_pass wsX1_ticks := goodIn_r _ [17, 4, 8, 9, 10, 11, 12, 13, 18, 19, 20, 21, 22, 23, 24, 25, 26, 27] (by decide +kernel) (by decide +kernel)
set_option maxRecDepth 20000 in
theorem gX1_pass_X1_ticks : GoodIn wsX1_pass (wsV RX1 52 RX1 yX1_ticks wsX1_ticks) := goodIn_app (goodIn_of _ (by decide +kernel)) ggX1_pass_X1_ticks
theorem dX1_pass_0 : decode cX1_pass 0 = .ok (.iconst 0, 1) := by decide +kernel
theorem dX1_pass_1 : decode cX1_pass 1 = .ok (.istore_n 1, 1) := by decide +kernel
theorem dX1_pass_2 : decode cX1_pass 2 = .ok (.aload_n 0, 1) := by decide +kernel
theorem dX1_pass_3 : decode cX1_pass 3 = .ok (.aload_n 0, 1) := by decide +kernel
theorem dX1_pass_4 : decode cX1_pass 4 = .ok (.getfield 39, 3) := by decide +kernel
theorem dX1_pass_7 : decode cX1_pass 7 = .ok (.iconst (-1), 1) := by decide +kernel
theorem dX1_pass_8 : decode cX1_pass 8 = .ok (.invokevirtual 48, 3) := by decide +kernel
theorem dX1_pass_11 : decode cX1_pass 11 = .ok (.ifCond .ne 118, 3) := by decide +kernel
theorem dX1_pass_14 : decode cX1_pass 14 = .ok (.aload_n 0, 1) := by decide +kernel
theorem dX1_pass_15 : decode cX1_pass 15 = .ok (.dup, 1) := by decide +kernel
theorem dX1_pass_16 : decode cX1_pass 16 = .ok (.getfield 42, 3) := by decide +kernel
theorem dX1_pass_19 : decode cX1_pass 19 = .ok (.aload_n 0, 1) := by decide +kernel
theorem dX1_pass_20 : decode cX1_pass 20 = .ok (.getfield 25, 3) := by decide +kernel
theorem dX1_pass_23 : decode cX1_pass 23 = .ok (.iadd, 1) := by decide +kernel
theorem dX1_pass_24 : decode cX1_pass 24 = .ok (.putfield 42, 3) := by decide +kernel
theorem dX1_pass_27 : decode cX1_pass 27 = .ok (.iconst 0, 1) := by decide +kernel
theorem dX1_pass_28 : decode cX1_pass 28 = .ok (.istore_n 2, 1) := by decide +kernel
theorem dX1_pass_29 : decode cX1_pass 29 = .ok (.iload_n 2, 1) := by decide +kernel
theorem dX1_pass_30 : decode cX1_pass 30 = .ok (.aload_n 0, 1) := by decide +kernel
theorem dX1_pass_31 : decode cX1_pass 31 = .ok (.getfield 18, 3) := by decide +kernel
theorem dX1_pass_34 : decode cX1_pass 34 = .ok (.arraylength, 1) := by decide +kernel
theorem dX1_pass_35 : decode cX1_pass 35 = .ok (.if_icmp .ge 49, 3) := by decide +kernel
theorem dX1_pass_38 : decode cX1_pass 38 = .ok (.aload_n 0, 1) := by decide +kernel
theorem dX1_pass_39 : decode cX1_pass 39 = .ok (.iload_n 2, 1) := by decide +kernel
theorem dX1_pass_40 : decode cX1_pass 40 = .ok (.aload_n 0, 1) := by decide +kernel
theorem dX1_pass_41 : decode cX1_pass 41 = .ok (.getfield 39, 3) := by decide +kernel
theorem dX1_pass_44 : decode cX1_pass 44 = .ok (.invokevirtual 52, 3) := by decide +kernel
theorem dX1_pass_47 : decode cX1_pass 47 = .ok (.ifCond .eq 31, 3) := by decide +kernel
theorem dX1_pass_50 : decode cX1_pass 50 = .ok (.aload_n 0, 1) := by decide +kernel
theorem dX1_pass_51 : decode cX1_pass 51 = .ok (.aload_n 0, 1) := by decide +kernel
theorem dX1_pass_52 : decode cX1_pass 52 = .ok (.getfield 42, 3) := by decide +kernel
theorem dX1_pass_55 : decode cX1_pass 55 = .ok (.aload_n 0, 1) := by decide +kernel
theorem dX1_pass_56 : decode cX1_pass 56 = .ok (.getfield 28, 3) := by decide +kernel
theorem dX1_pass_59 : decode cX1_pass 59 = .ok (.if_icmp .ge 7, 3) := by decide +kernel
theorem dX1_pass_62 : decode cX1_pass 62 = .ok (.iconst 0, 1) := by decide +kernel
theorem dX1_pass_63 : decode cX1_pass 63 = .ok (.goto 12, 3) := by decide +kernel
theorem dX1_pass_66 : decode cX1_pass 66 = .ok (.aload_n 0, 1) := by decide +kernel
theorem dX1_pass_67 : decode cX1_pass 67 = .ok (.getfield 42, 3) := by decide +kernel
theorem dX1_pass_70 : decode cX1_pass 70 = .ok (.aload_n 0, 1) := by decide +kernel
theorem dX1_pass_71 : decode cX1_pass 71 = .ok (.getfield 28, 3) := by decide +kernel
theorem dX1_pass_74 : decode cX1_pass 74 = .ok (.isub, 1) := by decide +kernel
theorem dX1_pass_75 : decode cX1_pass 75 = .ok (.putfield 42, 3) := by decide +kernel
theorem dX1_pass_78 : decode cX1_pass 78 = .ok (.iinc 2 1, 3) := by decide +kernel
theorem dX1_pass_81 : decode cX1_pass 81 = .ok (.goto (-52), 3) := by decide +kernel
theorem dX1_pass_84 : decode cX1_pass 84 = .ok (.aload_n 0, 1) := by decide +kernel
theorem dX1_pass_85 : decode cX1_pass 85 = .ok (.getfield 42, 3) := by decide +kernel
theorem dX1_pass_88 : decode cX1_pass 88 = .ok (.aload_n 0, 1) := by decide +kernel
theorem dX1_pass_89 : decode cX1_pass 89 = .ok (.getfield 21, 3) := by decide +kernel
theorem dX1_pass_92 : decode cX1_pass 92 = .ok (.if_icmp .le 15, 3) := by decide +kernel
theorem dX1_pass_95 : decode cX1_pass 95 = .ok (.aload_n 0, 1) := by decide +kernel
theorem dX1_pass_96 : decode cX1_pass 96 = .ok (.getfield 42, 3) := by decide +kernel
theorem dX1_pass_99 : decode cX1_pass 99 = .ok (.aload_n 0, 1) := by decide +kernel
theorem dX1_pass_100 : decode cX1_pass 100 = .ok (.getfield 21, 3) := by decide +kernel
theorem dX1_pass_103 : decode cX1_pass 103 = .ok (.isub, 1) := by decide +kernel
theorem dX1_pass_104 : decode cX1_pass 104 = .ok (.goto 4, 3) := by decide +kernel
theorem dX1_pass_107 : decode cX1_pass 107 = .ok (.iconst 0, 1) := by decide +kernel
theorem dX1_pass_108 : decode cX1_pass 108 = .ok (.istore_n 1, 1) := by decide +kernel
theorem dX1_pass_109 : decode cX1_pass 109 = .ok (.aload_n 0, 1) := by decide +kernel
theorem dX1_pass_110 : decode cX1_pass 110 = .ok (.dup, 1) := by decide +kernel
theorem dX1_pass_111 : decode cX1_pass 111 = .ok (.getfield 42, 3) := by decide +kernel
theorem dX1_pass_114 : decode cX1_pass 114 = .ok (.iload_n 1, 1) := by decide +kernel
theorem dX1_pass_115 : decode cX1_pass 115 = .ok (.isub, 1) := by decide +kernel
theorem dX1_pass_116 : decode cX1_pass 116 = .ok (.putfield 42, 3) := by decide +kernel
theorem dX1_pass_119 : decode cX1_pass 119 = .ok (.aload_n 0, 1) := by decide +kernel
theorem dX1_pass_120 : decode cX1_pass 120 = .ok (.dup, 1) := by decide +kernel
theorem dX1_pass_121 : decode cX1_pass 121 = .ok (.getfield 45, 3) := by decide +kernel
theorem dX1_pass_124 : decode cX1_pass 124 = .ok (.iload_n 1, 1) := by decide +kernel
theorem dX1_pass_125 : decode cX1_pass 125 = .ok (.iadd, 1) := by decide +kernel
theorem dX1_pass_126 : decode cX1_pass 126 = .ok (.putfield 45, 3) := by decide +kernel
theorem dX1_pass_129 : decode cX1_pass 129 = .ok (.aload_n 0, 1) := by decide +kernel
theorem dX1_pass_130 : decode cX1_pass 130 = .ok (.dup, 1) := by decide +kernel
theorem dX1_pass_131 : decode cX1_pass 131 = .ok (.getfield 39, 3) := by decide +kernel
theorem dX1_pass_134 : decode cX1_pass 134 = .ok (.iconst 1, 1) := by decide +kernel
theorem dX1_pass_135 : decode cX1_pass 135 = .ok (.iadd, 1) := by decide +kernel
theorem dX1_pass_136 : decode cX1_pass 136 = .ok (.putfield 39, 3) := by decide +kernel
theorem dX1_pass_139 : decode cX1_pass 139 = .ok (.iload_n 1, 1) := by decide +kernel
theorem dX1_pass_140 : decode cX1_pass 140 = .ok (.ireturn, 1) := by decide +kernel
set_option maxRecDepth 20000 in
theorem ggX1_pass__X1_pass : GoodIn wsX1_pass_ wsX1_pass := goodIn_r _ [5, 6, 7, 8, 9, 10, 11, 12, 13, 14, 15, 4, 16, 17, 18, 19, 20, 21, 22, 23, 24, 25, 26, 27, 28, 29, 30, 31] (by decide +kernel) (by decide +kernel)
set_option maxRecDepth 20000 in
theorem gX1_pass__X1_pass : GoodIn wsX1_pass_ (wsV RX1 56 RX1 yX1_pass wsX1_pass) := goodIn_app (goodIn_of _ (by decide +kernel)) ggX1_pass__X1_pass
theorem dX1_pass__0 : decode cX1_pass_ 0 = .ok (.iconst 0, 1) := by decide +kernel
theorem dX1_pass__1 : decode cX1_pass_ 1 = .ok (.istore_n 2, 1) := by decide +kernel
theorem dX1_pass__2 : decode cX1_pass_ 2 = .ok (.iconst 0, 1) := by decide +kernel
theorem dX1_pass__3 : decode cX1_pass_ 3 = .ok (.istore_n 3, 1) := by decide +kernel
theorem dX1_pass__4 : decode cX1_pass_ 4 = .ok (.iload_n 3, 1) := by decide +kernel
theorem dX1_pass__5 : decode cX1_pass_ 5 = .ok (.iload_n 1, 1) := by decide +kernel
theorem dX1_pass__6 : decode cX1_pass_ 6 = .ok (.if_icmp .ge 16, 3) := by decide +kernel
theorem dX1_pass__9 : decode cX1_pass_ 9 = .ok (.iload_n 2, 1) := by decide +kernel
theorem dX1_pass__10 : decode cX1_pass_ 10 = .ok (.aload_n 0, 1) := by decide +kernel
theorem dX1_pass__11 : decode cX1_pass_ 11 = .ok (.invokevirtual 56, 3) := by decide +kernel
theorem dX1_pass__14 : decode cX1_pass_ 14 = .ok (.iadd, 1) := by decide +kernel
theorem dX1_pass__15 : decode cX1_pass_ 15 = .ok (.istore_n 2, 1) := by decide +kernel
theorem dX1_pass__16 : decode cX1_pass_ 16 = .ok (.iinc 3 1, 3) := by decide +kernel
theorem dX1_pass__19 : decode cX1_pass_ 19 = .ok (.goto (-15), 3) := by decide +kernel
theorem dX1_pass__22 : decode cX1_pass_ 22 = .ok (.iload_n 2, 1) := by decide +kernel
theorem dX1_pass__23 : decode cX1_pass_ 23 = .ok (.ireturn, 1) := by decide +kernel
set_option maxRecDepth 20000 in
theorem ggX1_isSame_X0_afternoon : GoodIn wsX1_isSame wsX0_afternoon := goodIn_r _ [16, 17, 196, 197, 198, 199, 200, 201, 202, 203, 204, 205, 206, 207, 208, 209, 210, 211, 212] (by decide +kernel) (by decide +kernel)
set_option maxRecDepth 20000 in
theorem gX1_isSame_X0_afternoon : GoodIn wsX1_isSame (wsV RX1 60 RX0 yX0_afternoon wsX0_afternoon) := goodIn_app (goodIn_of _ (by decide +kernel)) ggX1_isSame_X0_afternoon
set_option maxRecDepth 20000 in
theorem ggX1_isSame_X0_minute : GoodIn wsX1_isSame wsX0_minute := goodIn_r _ [21, 22, 196, 197, 198, 199, 200, 201, 202, 203, 204, 205, 206, 207, 208, 209, 210, 211, 212] (by decide +kernel) (by decide +kernel)
set_option maxRecDepth 20000 in
theorem gX1_isSame_X0_minute : GoodIn wsX1_isSame (wsV RX1 64 RX0 yX0_minute wsX0_minute) := goodIn_app (goodIn_of _ (by decide +kernel)) ggX1_isSame_X0_minute
set_option maxRecDepth 20000 in
theorem ggX1_isSame_X0_awakeMinutes : GoodIn wsX1_isSame wsX0_awakeMinutes := goodIn_r _ [26, 22, 27, 196, 197, 198, 199, 200, 201, 202, 203, 204, 205, 206, 207, 208, 209, 210, 211, 212] (by decide +kernel) (by decide +kernel)
set_option maxRecDepth 20000 in
theorem gX1_isSame_X0_awakeMinutes : GoodIn wsX1_isSame (wsV RX1 66 RX0 yX0_awakeMinutes wsX0_awakeMinutes) := goodIn_app (goodIn_of _ (by decide +kernel)) ggX1_isSame_X0_awakeMinutes
set_option maxRecDepth 20000 in
theorem ggX1_isSame_X1_awake : GoodIn wsX1_isSame wsX1_awake := goodIn_r _ [32, 33, 34, 35, 31, 36, 4, 186, 187, 188, 189, 190, 191, 192, 193, 194, 195] (by decide +kernel) (by decide +kernel)
set_option maxRecDepth 20000 in
theorem gX1_isSame_X1_awake : GoodIn wsX1_isSame (wsV RX1 69 RX1 yX1_awake wsX1_awake) := goodIn_app (goodIn_of _ (by decide +kernel)) ggX1_isSame_X1_awake
set_option maxRecDepth 20000 in
theorem ggX1_isSame_X0_sleptMinutes : GoodIn wsX1_isSame wsX0_sleptMinutes := goodIn_r _ [40, 22, 41, 24, 25, 15, 26, 27, 196, 197, 198, 199, 200, 201, 202, 203, 204, 205, 206, 207, 208, 209, 210, 211, 212] (by decide +kernel) (by decide +kernel)
set_option maxRecDepth 20000 in
theorem gX1_isSame_X0_sleptMinutes : GoodIn wsX1_isSame (wsV RX1 72 RX0 yX0_sleptMinutes wsX0_sleptMinutes) := goodIn_app (goodIn_of _ (by decide +kernel)) ggX1_isSame_X0_sleptMinutes
set_option maxRecDepth 20000 in
theorem ggX1_isSame_X0_sticks : GoodIn wsX1_isSame wsX0_sticks := goodIn_r _ [45, 46, 196, 197, 198, 199, 200, 201, 202, 203, 204, 205, 206, 207, 208, 209, 210, 211, 212] (by decide +kernel) (by decide +kernel)
set_option maxRecDepth 20000 in
theorem gX1_isSame_X0_sticks : GoodIn wsX1_isSame (wsV RX1 75 RX0 yX0_sticks wsX0_sticks) := goodIn_app (goodIn_of _ (by decide +kernel)) ggX1_isSame_X0_sticks
set_option maxRecDepth 20000 in
theorem ggX1_isSame_X0_naps : GoodIn wsX1_isSame wsX0_naps := goodIn_r _ [50, 51, 196, 197, 198, 199, 200, 201, 202, 203, 204, 205, 206, 207, 208, 209, 210, 211, 212] (by decide +kernel) (by decide +kernel)
set_option maxRecDepth 20000 in
theorem gX1_isSame_X0_naps : GoodIn wsX1_isSame (wsV RX1 77 RX0 yX0_naps wsX0_naps) := goodIn_app (goodIn_of _ (by decide +kernel)) ggX1_isSame_X0_naps
set_option maxRecDepth 20000 in
theorem ggX1_isSame_X0_bees : GoodIn wsX1_isSame wsX0_bees := goodIn_r _ [55, 56, 196, 197, 198, 199, 200, 201, 202, 203, 204, 205, 206, 207, 208, 209, 210, 211, 212] (by decide +kernel) (by decide +kernel)
set_option maxRecDepth 20000 in
theorem gX1_isSame_X0_bees : GoodIn wsX1_isSame (wsV RX1 79 RX0 yX0_bees wsX0_bees) := goodIn_app (goodIn_of _ (by decide +kernel)) ggX1_isSame_X0_bees
set_option maxRecDepth 20000 in
theorem ggX1_isSame_X0_tea : GoodIn wsX1_isSame wsX0_tea := goodIn_r _ [60, 61, 196, 197, 198, 199, 200, 201, 202, 203, 204, 205, 206, 207, 208, 209, 210, 211, 212] (by decide +kernel) (by decide +kernel)
set_option maxRecDepth 20000 in
theorem gX1_isSame_X0_tea : GoodIn wsX1_isSame (wsV RX1 81 RX0 yX0_tea wsX0_tea) := goodIn_app (goodIn_of _ (by decide +kernel)) ggX1_isSame_X0_tea
set_option maxRecDepth 20000 in
theorem ggX1_isSame_X0_spilt : GoodIn wsX1_isSame wsX0_spilt := goodIn_r _ [65, 66, 196, 197, 198, 199, 200, 201, 202, 203, 204, 205, 206, 207, 208, 209, 210, 211, 212] (by decide +kernel) (by decide +kernel)
set_option maxRecDepth 20000 in
theorem gX1_isSame_X0_spilt : GoodIn wsX1_isSame (wsV RX1 83 RX0 yX0_spilt wsX0_spilt) := goodIn_app (goodIn_of _ (by decide +kernel)) ggX1_isSame_X0_spilt
set_option maxRecDepth 20000 in
theorem ggX1_isSame_X1_napsAt : GoodIn wsX1_isSame wsX1_napsAt := goodIn_r _ [36, 4, 186, 187, 188, 189, 190, 191, 192, 193, 194, 195] (by decide +kernel) (by decide +kernel)
set_option maxRecDepth 20000 in
theorem gX1_isSame_X1_napsAt : GoodIn wsX1_isSame (wsV RX1 48 RX1 yX1_napsAt wsX1_napsAt) := goodIn_app (goodIn_of _ (by decide +kernel)) ggX1_isSame_X1_napsAt
set_option maxRecDepth 20000 in
theorem ggX1_isSame_X0_longestAwake : GoodIn wsX1_isSame wsX0_longestAwake := goodIn_r _ [70, 27, 71, 72, 10, 73, 196, 197, 198, 199, 200, 201, 202, 203, 204, 205, 206, 207, 208, 209, 210, 211, 212] (by decide +kernel) (by decide +kernel)
set_option maxRecDepth 20000 in
theorem gX1_isSame_X0_longestAwake : GoodIn wsX1_isSame (wsV RX1 85 RX0 yX0_longestAwake wsX0_longestAwake) := goodIn_app (goodIn_of _ (by decide +kernel)) ggX1_isSame_X0_longestAwake
set_option maxRecDepth 20000 in
theorem ggX1_isSame_X0_napsAt : GoodIn wsX1_isSame wsX0_napsAt := goodIn_ca (goodIn_r _ [77, 27, 78, 79, 80, 15, 81, 82, 83, 196, 197, 198, 199, 200, 201, 202, 203, 204, 205, 206, 207, 208, 209, 210, 211, 212] (by decide +kernel) (by decide +kernel)) (goodIn_sub (fun _ h => List.mem_cons_of_mem _ (List.mem_append_left _ (List.mem_append_right _ h))) (by decide +kernel))
set_option maxRecDepth 20000 in
theorem gX1_isSame_X0_napsAt : GoodIn wsX1_isSame (wsV RX1 88 RX0 yX0_napsAt wsX0_napsAt) := goodIn_app (goodIn_of _ (by decide +kernel)) ggX1_isSame_X0_napsAt
set_option maxRecDepth 20000 in
theorem ggX1_isSame_X0_isAsleep : GoodIn wsX1_isSame wsX0_isAsleep := goodIn_ca (goodIn_r _ [87, 27, 78, 79, 80, 15, 81, 82, 83, 196, 197, 198, 199, 200, 201, 202, 203, 204, 205, 206, 207, 208, 209, 210, 211, 212] (by decide +kernel) (by decide +kernel)) (goodIn_sub (fun _ h => List.mem_cons_of_mem _ (List.mem_append_left _ (List.mem_append_right _ h))) (by decide +kernel))
set_option maxRecDepth 20000 in
theorem gX1_isSame_X0_isAsleep : GoodIn wsX1_isSame (wsV RX1 91 RX0 yX0_isAsleep wsX0_isAsleep) := goodIn_app (goodIn_of _ (by decide +kernel)) ggX1_isSame_X0_isAsleep
set_option maxRecDepth 20000 in
theorem ggX1_isSame_X0_shadowAt : GoodIn wsX1_isSame wsX0_shadowAt := goodIn_ca (goodIn_ca (goodIn_r _ [91, 92, 93, 94, 15, 95, 96, 97, 46, 78, 79, 80, 81, 82, 83, 98, 99, 100, 101, 102, 196, 197, 198, 199, 200, 201, 202, 203, 204, 205, 206, 207, 208, 209, 210, 211, 212] (by decide +kernel) (by decide +kernel)) (goodIn_sub (fun _ h => List.mem_cons_of_mem _ (List.mem_append_right _ h)) (by decide +kernel))) (goodIn_sub (fun _ h => List.mem_cons_of_mem _ (List.mem_append_left _ (List.mem_append_right _ h))) (by decide +kernel))
set_option maxRecDepth 20000 in
theorem gX1_isSame_X0_shadowAt : GoodIn wsX1_isSame (wsV RX1 95 RX0 yX0_shadowAt wsX0_shadowAt) := goodIn_app (goodIn_of _ (by decide +kernel)) ggX1_isSame_X0_shadowAt
set_option maxRecDepth 20000 in
theorem ggX1_isSame_X0_allShadows : GoodIn wsX1_isSame wsX0_allShadows := goodIn_ca (goodIn_r _ [106, 78, 79, 80, 15, 81, 82, 83, 107, 108, 109, 110, 46, 98, 99, 100, 101, 102, 196, 197, 198, 199, 200, 201, 202, 203, 204, 205, 206, 207, 208, 209, 210, 211, 212] (by decide +kernel) (by decide +kernel)) (goodIn_sub (fun _ h => List.mem_cons_of_mem _ (List.mem_append_left _ (List.mem_append_right _ h))) (by decide +kernel))
set_option maxRecDepth 20000 in
theorem gX1_isSame_X0_allShadows : GoodIn wsX1_isSame (wsV RX1 98 RX0 yX0_allShadows wsX0_allShadows) := goodIn_app (goodIn_of _ (by decide +kernel)) ggX1_isSame_X0_allShadows
set_option maxRecDepth 20000 in
theorem ggX1_isSame_X0_meanLastShadow : GoodIn wsX1_isSame wsX0_meanLastShadow := goodIn_r _ [114, 46, 107, 108, 109, 15, 110, 98, 99, 100, 101, 102, 196, 197, 198, 199, 200, 201, 202, 203, 204, 205, 206, 207, 208, 209, 210, 211, 212] (by decide +kernel) (by decide +kernel)
set_option maxRecDepth 20000 in
theorem gX1_isSame_X0_meanLastShadow : GoodIn wsX1_isSame (wsV RX1 101 RX0 yX0_meanLastShadow wsX0_meanLastShadow) := goodIn_app (goodIn_of _ (by decide +kernel)) ggX1_isSame_X0_meanLastShadow
set_option maxRecDepth 20000 in
theorem ggX1_isSame_X0_startOf : GoodIn wsX1_isSame wsX0_startOf := goodIn_ca (goodIn_r _ [118, 119, 120, 121, 122, 15, 123, 96, 97, 51, 196, 197, 198, 199, 200, 201, 202, 203, 204, 205, 206, 207, 208, 209, 210, 211, 212] (by decide +kernel) (by decide +kernel)) (goodIn_sub (fun _ h => List.mem_cons_of_mem _ (List.mem_append_right _ h)) (by decide +kernel))
set_option maxRecDepth 20000 in
theorem gX1_isSame_X0_startOf : GoodIn wsX1_isSame (wsV RX1 105 RX0 yX0_startOf wsX0_startOf) := goodIn_app (goodIn_of _ (by decide +kernel)) ggX1_isSame_X0_startOf
set_option maxRecDepth 20000 in
theorem ggX1_isSame_X0_lengthOf : GoodIn wsX1_isSame wsX0_lengthOf := goodIn_ca (goodIn_r _ [127, 128, 119, 120, 121, 122, 15, 123, 96, 97, 51, 196, 197, 198, 199, 200, 201, 202, 203, 204, 205, 206, 207, 208, 209, 210, 211, 212] (by decide +kernel) (by decide +kernel)) (goodIn_sub (fun _ h => List.mem_cons_of_mem _ (List.mem_append_right _ h)) (by decide +kernel))
set_option maxRecDepth 20000 in
theorem gX1_isSame_X0_lengthOf : GoodIn wsX1_isSame (wsV RX1 108 RX0 yX0_lengthOf wsX0_lengthOf) := goodIn_app (goodIn_of _ (by decide +kernel)) ggX1_isSame_X0_lengthOf
set_option maxRecDepth 20000 in
theorem ggX1_isSame_X0_minutesAlone : GoodIn wsX1_isSame wsX0_minutesAlone := goodIn_ca (goodIn_r _ [132, 120, 121, 122, 15, 123, 96, 97, 51, 133, 134, 135, 136, 27, 137, 138, 139, 140, 119, 128, 196, 197, 198, 199, 200, 201, 202, 203, 204, 205, 206, 207, 208, 209, 210, 211, 212] (by decide +kernel) (by decide +kernel)) (goodIn_sub (fun _ h => List.mem_cons_of_mem _ (List.mem_append_right _ h)) (by decide +kernel))
set_option maxRecDepth 20000 in
theorem gX1_isSame_X0_minutesAlone : GoodIn wsX1_isSame (wsV RX1 111 RX0 yX0_minutesAlone wsX0_minutesAlone) := goodIn_app (goodIn_of _ (by decide +kernel)) ggX1_isSame_X0_minutesAlone
set_option maxRecDepth 20000 in
theorem ggX1_isSame_X1_ticked : GoodIn wsX1_isSame wsX1_ticked := goodIn_r _ [144, 5, 2, 33, 34, 35, 31, 36, 4, 186, 187, 188, 189, 190, 191, 192, 193, 194, 195] (by decide +kernel) (by decide +kernel)
set_option maxRecDepth 20000 in
theorem gX1_isSame_X1_ticked : GoodIn wsX1_isSame (wsV RX1 114 RX1 yX1_ticked wsX1_ticked) := goodIn_app (goodIn_of _ (by decide +kernel)) ggX1_isSame_X1_ticked
set_option maxRecDepth 20000 in
theorem ggX1_isSame_X0_ticksOf : GoodIn wsX1_isSame wsX0_ticksOf := goodIn_ca (goodIn_r _ [148, 149, 150, 151, 15, 152, 96, 97, 56, 153, 154, 155, 156, 22, 157, 158, 159, 160, 27, 161, 162, 163, 164, 165, 166, 196, 197, 198, 199, 200, 201, 202, 203, 204, 205, 206, 207, 208, 209, 210, 211, 212] (by decide +kernel) (by decide +kernel)) (goodIn_sub (fun _ h => List.mem_cons_of_mem _ (List.mem_append_right _ h)) (by decide +kernel))
set_option maxRecDepth 20000 in
theorem gX1_isSame_X0_ticksOf : GoodIn wsX1_isSame (wsV RX1 117 RX0 yX0_ticksOf wsX0_ticksOf) := goodIn_app (goodIn_of _ (by decide +kernel)) ggX1_isSame_X0_ticksOf
set_option maxRecDepth 20000 in
theorem ggX1_isSame_X0_measuredBy : GoodIn wsX1_isSame wsX0_measuredBy := goodIn_ca (goodIn_r _ [170, 165, 149, 150, 151, 15, 152, 96, 97, 56, 153, 154, 155, 156, 22, 157, 158, 159, 160, 27, 161, 162, 163, 164, 166, 196, 197, 198, 199, 200, 201, 202, 203, 204, 205, 206, 207, 208, 209, 210, 211, 212] (by decide +kernel) (by decide +kernel)) (goodIn_sub (fun _ h => List.mem_cons_of_mem _ (List.mem_append_right _ h)) (by decide +kernel))
set_option maxRecDepth 20000 in
theorem gX1_isSame_X0_measuredBy : GoodIn wsX1_isSame (wsV RX1 120 RX0 yX0_measuredBy wsX0_measuredBy) := goodIn_app (goodIn_of _ (by decide +kernel)) ggX1_isSame_X0_measuredBy
set_option maxRecDepth 20000 in
theorem ggX1_isSame_X0_errorOf : GoodIn wsX1_isSame wsX0_errorOf := goodIn_ca (goodIn_r _ [174, 175, 168, 169, 15, 170, 165, 149, 150, 151, 152, 96, 97, 56, 153, 154, 155, 156, 22, 157, 158, 159, 160, 27, 161, 162, 163, 164, 166, 41, 24, 25, 26, 196, 197, 198, 199, 200, 201, 202, 203, 204, 205, 206, 207, 208, 209, 210, 211, 212] (by decide +kernel) (by decide +kernel)) (goodIn_sub (fun _ h => List.mem_cons_of_mem _ (List.mem_append_right _ h)) (by decide +kernel))
set_option maxRecDepth 20000 in
theorem gX1_isSame_X0_errorOf : GoodIn wsX1_isSame (wsV RX1 123 RX0 yX0_errorOf wsX0_errorOf) := goodIn_app (goodIn_of _ (by decide +kernel)) ggX1_isSame_X0_errorOf
set_option maxRecDepth 20000 in
theorem ggX1_isSame_X0_bestToGiveUp : GoodIn wsX1_isSame wsX0_bestToGiveUp := goodIn_r _ [179, 51, 133, 134, 135, 15, 136, 27, 137, 138, 139, 140, 119, 128, 196, 197, 198, 199, 200, 201, 202, 203, 204, 205, 206, 207, 208, 209, 210, 211, 212] (by decide +kernel) (by decide +kernel)
set_option maxRecDepth 20000 in
theorem gX1_isSame_X0_bestToGiveUp : GoodIn wsX1_isSame (wsV RX1 131 RX0 yX0_bestToGiveUp wsX0_bestToGiveUp) := goodIn_app (goodIn_of _ (by decide +kernel)) ggX1_isSame_X0_bestToGiveUp
set_option maxRecDepth 20000 in
theorem ggX1_isSame_X0_bestBee : GoodIn wsX1_isSame wsX0_bestBee := goodIn_ca (goodIn_r _ [183, 56, 184, 9, 10, 11, 185, 172, 173, 15, 174, 175, 168, 169, 170, 165, 149, 150, 151, 152, 96, 97, 153, 154, 155, 156, 22, 157, 158, 159, 160, 27, 161, 162, 163, 164, 166, 41, 24, 25, 26, 196, 197, 198, 199, 200, 201, 202, 203, 204, 205, 206, 207, 208, 209, 210, 211, 212] (by decide +kernel) (by decide +kernel)) (goodIn_sub (fun _ h => List.mem_cons_of_mem _ (List.mem_append_right _ h)) (by decide +kernel))
set_option maxRecDepth 20000 in
theorem gX1_isSame_X0_bestBee : GoodIn wsX1_isSame (wsV RX1 134 RX0 yX0_bestBee wsX0_bestBee) := goodIn_app (goodIn_of _ (by decide +kernel)) ggX1_isSame_X0_bestBee
theorem dX1_isSame_0 : decode cX1_isSame 0 = .ok (.aload_n 1, 1) := by decide +kernel
theorem dX1_isSame_1 : decode cX1_isSame 1 = .ok (.invokevirtual 60, 3) := by decide +kernel
theorem dX1_isSame_4 : decode cX1_isSame 4 = .ok (.aload_n 0, 1) := by decide +kernel
theorem dX1_isSame_5 : decode cX1_isSame 5 = .ok (.getfield 36, 3) := by decide +kernel
theorem dX1_isSame_8 : decode cX1_isSame 8 = .ok (.if_icmp .ne 104, 3) := by decide +kernel
theorem dX1_isSame_11 : decode cX1_isSame 11 = .ok (.aload_n 1, 1) := by decide +kernel
theorem dX1_isSame_12 : decode cX1_isSame 12 = .ok (.invokevirtual 64, 3) := by decide +kernel
theorem dX1_isSame_15 : decode cX1_isSame 15 = .ok (.aload_n 0, 1) := by decide +kernel
theorem dX1_isSame_16 : decode cX1_isSame 16 = .ok (.getfield 39, 3) := by decide +kernel
theorem dX1_isSame_19 : decode cX1_isSame 19 = .ok (.if_icmp .ne 93, 3) := by decide +kernel
theorem dX1_isSame_22 : decode cX1_isSame 22 = .ok (.aload_n 1, 1) := by decide +kernel
theorem dX1_isSame_23 : decode cX1_isSame 23 = .ok (.invokevirtual 66, 3) := by decide +kernel
theorem dX1_isSame_26 : decode cX1_isSame 26 = .ok (.aload_n 0, 1) := by decide +kernel
theorem dX1_isSame_27 : decode cX1_isSame 27 = .ok (.aload_n 0, 1) := by decide +kernel
theorem dX1_isSame_28 : decode cX1_isSame 28 = .ok (.getfield 39, 3) := by decide +kernel
theorem dX1_isSame_31 : decode cX1_isSame 31 = .ok (.iconst (-1), 1) := by decide +kernel
theorem dX1_isSame_32 : decode cX1_isSame 32 = .ok (.invokevirtual 69, 3) := by decide +kernel
theorem dX1_isSame_35 : decode cX1_isSame 35 = .ok (.if_icmp .ne 77, 3) := by decide +kernel
theorem dX1_isSame_38 : decode cX1_isSame 38 = .ok (.aload_n 1, 1) := by decide +kernel
theorem dX1_isSame_39 : decode cX1_isSame 39 = .ok (.invokevirtual 72, 3) := by decide +kernel
theorem dX1_isSame_42 : decode cX1_isSame 42 = .ok (.aload_n 0, 1) := by decide +kernel
theorem dX1_isSame_43 : decode cX1_isSame 43 = .ok (.getfield 39, 3) := by decide +kernel
theorem dX1_isSame_46 : decode cX1_isSame 46 = .ok (.aload_n 1, 1) := by decide +kernel
theorem dX1_isSame_47 : decode cX1_isSame 47 = .ok (.invokevirtual 66, 3) := by decide +kernel
theorem dX1_isSame_50 : decode cX1_isSame 50 = .ok (.isub, 1) := by decide +kernel
theorem dX1_isSame_51 : decode cX1_isSame 51 = .ok (.if_icmp .ne 61, 3) := by decide +kernel
theorem dX1_isSame_54 : decode cX1_isSame 54 = .ok (.aload_n 1, 1) := by decide +kernel
theorem dX1_isSame_55 : decode cX1_isSame 55 = .ok (.invokevirtual 75, 3) := by decide +kernel
theorem dX1_isSame_58 : decode cX1_isSame 58 = .ok (.aload_n 0, 1) := by decide +kernel
theorem dX1_isSame_59 : decode cX1_isSame 59 = .ok (.getfield 7, 3) := by decide +kernel
theorem dX1_isSame_62 : decode cX1_isSame 62 = .ok (.arraylength, 1) := by decide +kernel
theorem dX1_isSame_63 : decode cX1_isSame 63 = .ok (.if_icmp .ne 49, 3) := by decide +kernel
theorem dX1_isSame_66 : decode cX1_isSame 66 = .ok (.aload_n 1, 1) := by decide +kernel
theorem dX1_isSame_67 : decode cX1_isSame 67 = .ok (.invokevirtual 77, 3) := by decide +kernel
theorem dX1_isSame_70 : decode cX1_isSame 70 = .ok (.aload_n 0, 1) := by decide +kernel
theorem dX1_isSame_71 : decode cX1_isSame 71 = .ok (.getfield 14, 3) := by decide +kernel
theorem dX1_isSame_74 : decode cX1_isSame 74 = .ok (.arraylength, 1) := by decide +kernel
theorem dX1_isSame_75 : decode cX1_isSame 75 = .ok (.if_icmp .ne 37, 3) := by decide +kernel
theorem dX1_isSame_78 : decode cX1_isSame 78 = .ok (.aload_n 1, 1) := by decide +kernel
theorem dX1_isSame_79 : decode cX1_isSame 79 = .ok (.invokevirtual 79, 3) := by decide +kernel
theorem dX1_isSame_82 : decode cX1_isSame 82 = .ok (.aload_n 0, 1) := by decide +kernel
theorem dX1_isSame_83 : decode cX1_isSame 83 = .ok (.getfield 18, 3) := by decide +kernel
theorem dX1_isSame_86 : decode cX1_isSame 86 = .ok (.arraylength, 1) := by decide +kernel
theorem dX1_isSame_87 : decode cX1_isSame 87 = .ok (.if_icmp .ne 25, 3) := by decide +kernel
theorem dX1_isSame_90 : decode cX1_isSame 90 = .ok (.aload_n 1, 1) := by decide +kernel
theorem dX1_isSame_91 : decode cX1_isSame 91 = .ok (.invokevirtual 81, 3) := by decide +kernel
theorem dX1_isSame_94 : decode cX1_isSame 94 = .ok (.aload_n 0, 1) := by decide +kernel
theorem dX1_isSame_95 : decode cX1_isSame 95 = .ok (.getfield 42, 3) := by decide +kernel
theorem dX1_isSame_98 : decode cX1_isSame 98 = .ok (.if_icmp .ne 14, 3) := by decide +kernel
theorem dX1_isSame_101 : decode cX1_isSame 101 = .ok (.aload_n 1, 1) := by decide +kernel
theorem dX1_isSame_102 : decode cX1_isSame 102 = .ok (.invokevirtual 83, 3) := by decide +kernel
theorem dX1_isSame_105 : decode cX1_isSame 105 = .ok (.aload_n 0, 1) := by decide +kernel
theorem dX1_isSame_106 : decode cX1_isSame 106 = .ok (.getfield 45, 3) := by decide +kernel
theorem dX1_isSame_109 : decode cX1_isSame 109 = .ok (.if_icmp .eq 5, 3) := by decide +kernel
theorem dX1_isSame_112 : decode cX1_isSame 112 = .ok (.iconst 0, 1) := by decide +kernel
theorem dX1_isSame_113 : decode cX1_isSame 113 = .ok (.ireturn, 1) := by decide +kernel
theorem dX1_isSame_114 : decode cX1_isSame 114 = .ok (.iconst 0, 1) := by decide +kernel
theorem dX1_isSame_115 : decode cX1_isSame 115 = .ok (.istore_n 2, 1) := by decide +kernel
theorem dX1_isSame_116 : decode cX1_isSame 116 = .ok (.iconst (-1), 1) := by decide +kernel
theorem dX1_isSame_117 : decode cX1_isSame 117 = .ok (.istore_n 3, 1) := by decide +kernel
theorem dX1_isSame_118 : decode cX1_isSame 118 = .ok (.iconst 0, 1) := by decide +kernel
theorem dX1_isSame_119 : decode cX1_isSame 119 = .ok (.istore 4, 2) := by decide +kernel
theorem dX1_isSame_121 : decode cX1_isSame 121 = .ok (.iload 4, 2) := by decide +kernel
theorem dX1_isSame_123 : decode cX1_isSame 123 = .ok (.sipush 360, 3) := by decide +kernel
theorem dX1_isSame_126 : decode cX1_isSame 126 = .ok (.if_icmp .gt 54, 3) := by decide +kernel
theorem dX1_isSame_129 : decode cX1_isSame 129 = .ok (.iload 4, 2) := by decide +kernel
theorem dX1_isSame_131 : decode cX1_isSame 131 = .ok (.sipush 360, 3) := by decide +kernel
theorem dX1_isSame_134 : decode cX1_isSame 134 = .ok (.if_icmp .ge 16, 3) := by decide +kernel
theorem dX1_isSame_137 : decode cX1_isSame 137 = .ok (.aload_n 0, 1) := by decide +kernel
theorem dX1_isSame_138 : decode cX1_isSame 138 = .ok (.iload 4, 2) := by decide +kernel
theorem dX1_isSame_140 : decode cX1_isSame 140 = .ok (.iconst (-1), 1) := by decide +kernel
theorem dX1_isSame_141 : decode cX1_isSame 141 = .ok (.invokevirtual 48, 3) := by decide +kernel
theorem dX1_isSame_144 : decode cX1_isSame 144 = .ok (.ifCond .ne 6, 3) := by decide +kernel
theorem dX1_isSame_147 : decode cX1_isSame 147 = .ok (.goto 27, 3) := by decide +kernel
theorem dX1_isSame_150 : decode cX1_isSame 150 = .ok (.iload 4, 2) := by decide +kernel
theorem dX1_isSame_152 : decode cX1_isSame 152 = .ok (.iload_n 3, 1) := by decide +kernel
theorem dX1_isSame_153 : decode cX1_isSame 153 = .ok (.isub, 1) := by decide +kernel
theorem dX1_isSame_154 : decode cX1_isSame 154 = .ok (.iconst 1, 1) := by decide +kernel
theorem dX1_isSame_155 : decode cX1_isSame 155 = .ok (.isub, 1) := by decide +kernel
theorem dX1_isSame_156 : decode cX1_isSame 156 = .ok (.iload_n 2, 1) := by decide +kernel
theorem dX1_isSame_157 : decode cX1_isSame 157 = .ok (.if_icmp .le 12, 3) := by decide +kernel
theorem dX1_isSame_160 : decode cX1_isSame 160 = .ok (.iload 4, 2) := by decide +kernel
theorem dX1_isSame_162 : decode cX1_isSame 162 = .ok (.iload_n 3, 1) := by decide +kernel
theorem dX1_isSame_163 : decode cX1_isSame 163 = .ok (.isub, 1) := by decide +kernel
theorem dX1_isSame_164 : decode cX1_isSame 164 = .ok (.iconst 1, 1) := by decide +kernel
theorem dX1_isSame_165 : decode cX1_isSame 165 = .ok (.isub, 1) := by decide +kernel
theorem dX1_isSame_166 : decode cX1_isSame 166 = .ok (.goto 4, 3) := by decide +kernel
theorem dX1_isSame_169 : decode cX1_isSame 169 = .ok (.iload_n 2, 1) := by decide +kernel
theorem dX1_isSame_170 : decode cX1_isSame 170 = .ok (.istore_n 2, 1) := by decide +kernel
theorem dX1_isSame_171 : decode cX1_isSame 171 = .ok (.iload 4, 2) := by decide +kernel
theorem dX1_isSame_173 : decode cX1_isSame 173 = .ok (.istore_n 3, 1) := by decide +kernel
theorem dX1_isSame_174 : decode cX1_isSame 174 = .ok (.iinc 4 1, 3) := by decide +kernel
theorem dX1_isSame_177 : decode cX1_isSame 177 = .ok (.goto (-56), 3) := by decide +kernel
theorem dX1_isSame_180 : decode cX1_isSame 180 = .ok (.aload_n 1, 1) := by decide +kernel
theorem dX1_isSame_181 : decode cX1_isSame 181 = .ok (.invokevirtual 85, 3) := by decide +kernel
theorem dX1_isSame_184 : decode cX1_isSame 184 = .ok (.iload_n 2, 1) := by decide +kernel
theorem dX1_isSame_185 : decode cX1_isSame 185 = .ok (.if_icmp .eq 5, 3) := by decide +kernel
theorem dX1_isSame_188 : decode cX1_isSame 188 = .ok (.iconst 0, 1) := by decide +kernel
theorem dX1_isSame_189 : decode cX1_isSame 189 = .ok (.ireturn, 1) := by decide +kernel
theorem dX1_isSame_190 : decode cX1_isSame 190 = .ok (.aload_n 0, 1) := by decide +kernel
theorem dX1_isSame_191 : decode cX1_isSame 191 = .ok (.getfield 39, 3) := by decide +kernel
theorem dX1_isSame_194 : decode cX1_isSame 194 = .ok (.bipush 7, 2) := by decide +kernel
theorem dX1_isSame_196 : decode cX1_isSame 196 = .ok (.irem, 1) := by decide +kernel
theorem dX1_isSame_197 : decode cX1_isSame 197 = .ok (.istore 4, 2) := by decide +kernel
theorem dX1_isSame_199 : decode cX1_isSame 199 = .ok (.iload 4, 2) := by decide +kernel
theorem dX1_isSame_201 : decode cX1_isSame 201 = .ok (.sipush 360, 3) := by decide +kernel
theorem dX1_isSame_204 : decode cX1_isSame 204 = .ok (.if_icmp .ge 51, 3) := by decide +kernel
theorem dX1_isSame_207 : decode cX1_isSame 207 = .ok (.aload_n 1, 1) := by decide +kernel
theorem dX1_isSame_208 : decode cX1_isSame 208 = .ok (.iload 4, 2) := by decide +kernel
theorem dX1_isSame_210 : decode cX1_isSame 210 = .ok (.invokevirtual 88, 3) := by decide +kernel
theorem dX1_isSame_213 : decode cX1_isSame 213 = .ok (.aload_n 0, 1) := by decide +kernel
theorem dX1_isSame_214 : decode cX1_isSame 214 = .ok (.iload 4, 2) := by decide +kernel
theorem dX1_isSame_216 : decode cX1_isSame 216 = .ok (.iconst (-1), 1) := by decide +kernel
theorem dX1_isSame_217 : decode cX1_isSame 217 = .ok (.invokevirtual 48, 3) := by decide +kernel
theorem dX1_isSame_220 : decode cX1_isSame 220 = .ok (.if_icmp .ne 27, 3) := by decide +kernel
theorem dX1_isSame_223 : decode cX1_isSame 223 = .ok (.aload_n 1, 1) := by decide +kernel
theorem dX1_isSame_224 : decode cX1_isSame 224 = .ok (.iload 4, 2) := by decide +kernel
theorem dX1_isSame_226 : decode cX1_isSame 226 = .ok (.invokevirtual 91, 3) := by decide +kernel
theorem dX1_isSame_229 : decode cX1_isSame 229 = .ok (.aload_n 0, 1) := by decide +kernel
theorem dX1_isSame_230 : decode cX1_isSame 230 = .ok (.iload 4, 2) := by decide +kernel
theorem dX1_isSame_232 : decode cX1_isSame 232 = .ok (.iconst (-1), 1) := by decide +kernel
theorem dX1_isSame_233 : decode cX1_isSame 233 = .ok (.invokevirtual 48, 3) := by decide +kernel
theorem dX1_isSame_236 : decode cX1_isSame 236 = .ok (.ifCond .le 7, 3) := by decide +kernel
theorem dX1_isSame_239 : decode cX1_isSame 239 = .ok (.iconst 1, 1) := by decide +kernel
theorem dX1_isSame_240 : decode cX1_isSame 240 = .ok (.goto 4, 3) := by decide +kernel
theorem dX1_isSame_243 : decode cX1_isSame 243 = .ok (.iconst 0, 1) := by decide +kernel
theorem dX1_isSame_244 : decode cX1_isSame 244 = .ok (.if_icmp .eq 5, 3) := by decide +kernel
theorem dX1_isSame_247 : decode cX1_isSame 247 = .ok (.iconst 0, 1) := by decide +kernel
theorem dX1_isSame_248 : decode cX1_isSame 248 = .ok (.ireturn, 1) := by decide +kernel
theorem dX1_isSame_249 : decode cX1_isSame 249 = .ok (.iinc 4 7, 3) := by decide +kernel
theorem dX1_isSame_252 : decode cX1_isSame 252 = .ok (.goto (-53), 3) := by decide +kernel
theorem dX1_isSame_255 : decode cX1_isSame 255 = .ok (.iconst 0, 1) := by decide +kernel
theorem dX1_isSame_256 : decode cX1_isSame 256 = .ok (.istore 4, 2) := by decide +kernel
theorem dX1_isSame_258 : decode cX1_isSame 258 = .ok (.iconst 0, 1) := by decide +kernel
theorem dX1_isSame_259 : decode cX1_isSame 259 = .ok (.istore 5, 2) := by decide +kernel
theorem dX1_isSame_261 : decode cX1_isSame 261 = .ok (.iload 5, 2) := by decide +kernel
theorem dX1_isSame_263 : decode cX1_isSame 263 = .ok (.aload_n 0, 1) := by decide +kernel
theorem dX1_isSame_264 : decode cX1_isSame 264 = .ok (.getfield 7, 3) := by decide +kernel
theorem dX1_isSame_267 : decode cX1_isSame 267 = .ok (.arraylength, 1) := by decide +kernel
theorem dX1_isSame_268 : decode cX1_isSame 268 = .ok (.if_icmp .ge 88, 3) := by decide +kernel
theorem dX1_isSame_271 : decode cX1_isSame 271 = .ok (.iload 4, 2) := by decide +kernel
theorem dX1_isSame_273 : decode cX1_isSame 273 = .ok (.aload_n 0, 1) := by decide +kernel
theorem dX1_isSame_274 : decode cX1_isSame 274 = .ok (.getfield 7, 3) := by decide +kernel
theorem dX1_isSame_277 : decode cX1_isSame 277 = .ok (.iload 5, 2) := by decide +kernel
theorem dX1_isSame_279 : decode cX1_isSame 279 = .ok (.iaload, 1) := by decide +kernel
theorem dX1_isSame_280 : decode cX1_isSame 280 = .ok (.sipush 419, 3) := by decide +kernel
theorem dX1_isSame_283 : decode cX1_isSame 283 = .ok (.imul, 1) := by decide +kernel
theorem dX1_isSame_284 : decode cX1_isSame 284 = .ok (.bipush 120, 2) := by decide +kernel
theorem dX1_isSame_286 : decode cX1_isSame 286 = .ok (.idiv, 1) := by decide +kernel
theorem dX1_isSame_287 : decode cX1_isSame 287 = .ok (.iadd, 1) := by decide +kernel
theorem dX1_isSame_288 : decode cX1_isSame 288 = .ok (.istore 4, 2) := by decide +kernel
theorem dX1_isSame_290 : decode cX1_isSame 290 = .ok (.aload_n 1, 1) := by decide +kernel
theorem dX1_isSame_291 : decode cX1_isSame 291 = .ok (.iload 5, 2) := by decide +kernel
theorem dX1_isSame_293 : decode cX1_isSame 293 = .ok (.iconst 0, 1) := by decide +kernel
theorem dX1_isSame_294 : decode cX1_isSame 294 = .ok (.invokevirtual 95, 3) := by decide +kernel
theorem dX1_isSame_297 : decode cX1_isSame 297 = .ok (.aload_n 0, 1) := by decide +kernel
theorem dX1_isSame_298 : decode cX1_isSame 298 = .ok (.getfield 7, 3) := by decide +kernel
theorem dX1_isSame_301 : decode cX1_isSame 301 = .ok (.iload 5, 2) := by decide +kernel
theorem dX1_isSame_303 : decode cX1_isSame 303 = .ok (.iaload, 1) := by decide +kernel
theorem dX1_isSame_304 : decode cX1_isSame 304 = .ok (.iconst 2, 1) := by decide +kernel
theorem dX1_isSame_305 : decode cX1_isSame 305 = .ok (.idiv, 1) := by decide +kernel
theorem dX1_isSame_306 : decode cX1_isSame 306 = .ok (.if_icmp .ne 42, 3) := by decide +kernel
theorem dX1_isSame_309 : decode cX1_isSame 309 = .ok (.aload_n 1, 1) := by decide +kernel
theorem dX1_isSame_310 : decode cX1_isSame 310 = .ok (.iload 5, 2) := by decide +kernel
theorem dX1_isSame_312 : decode cX1_isSame 312 = .ok (.aload_n 0, 1) := by decide +kernel
theorem dX1_isSame_313 : decode cX1_isSame 313 = .ok (.getfield 39, 3) := by decide +kernel
theorem dX1_isSame_316 : decode cX1_isSame 316 = .ok (.sipush 360, 3) := by decide +kernel
theorem dX1_isSame_319 : decode cX1_isSame 319 = .ok (.irem, 1) := by decide +kernel
theorem dX1_isSame_320 : decode cX1_isSame 320 = .ok (.invokevirtual 95, 3) := by decide +kernel
theorem dX1_isSame_323 : decode cX1_isSame 323 = .ok (.aload_n 0, 1) := by decide +kernel
theorem dX1_isSame_324 : decode cX1_isSame 324 = .ok (.getfield 7, 3) := by decide +kernel
theorem dX1_isSame_327 : decode cX1_isSame 327 = .ok (.iload 5, 2) := by decide +kernel
theorem dX1_isSame_329 : decode cX1_isSame 329 = .ok (.iaload, 1) := by decide +kernel
theorem dX1_isSame_330 : decode cX1_isSame 330 = .ok (.bipush 60, 2) := by decide +kernel
theorem dX1_isSame_332 : decode cX1_isSame 332 = .ok (.aload_n 0, 1) := by decide +kernel
theorem dX1_isSame_333 : decode cX1_isSame 333 = .ok (.getfield 39, 3) := by decide +kernel
theorem dX1_isSame_336 : decode cX1_isSame 336 = .ok (.sipush 360, 3) := by decide +kernel
theorem dX1_isSame_339 : decode cX1_isSame 339 = .ok (.irem, 1) := by decide +kernel
theorem dX1_isSame_340 : decode cX1_isSame 340 = .ok (.iadd, 1) := by decide +kernel
theorem dX1_isSame_341 : decode cX1_isSame 341 = .ok (.imul, 1) := by decide +kernel
theorem dX1_isSame_342 : decode cX1_isSame 342 = .ok (.bipush 120, 2) := by decide +kernel
theorem dX1_isSame_344 : decode cX1_isSame 344 = .ok (.idiv, 1) := by decide +kernel
theorem dX1_isSame_345 : decode cX1_isSame 345 = .ok (.if_icmp .eq 5, 3) := by decide +kernel
theorem dX1_isSame_348 : decode cX1_isSame 348 = .ok (.iconst 0, 1) := by decide +kernel
theorem dX1_isSame_349 : decode cX1_isSame 349 = .ok (.ireturn, 1) := by decide +kernel
theorem dX1_isSame_350 : decode cX1_isSame 350 = .ok (.iinc 5 1, 3) := by decide +kernel
theorem dX1_isSame_353 : decode cX1_isSame 353 = .ok (.goto (-92), 3) := by decide +kernel
theorem dX1_isSame_356 : decode cX1_isSame 356 = .ok (.aload_n 1, 1) := by decide +kernel
theorem dX1_isSame_357 : decode cX1_isSame 357 = .ok (.sipush 359, 3) := by decide +kernel
theorem dX1_isSame_360 : decode cX1_isSame 360 = .ok (.invokevirtual 98, 3) := by decide +kernel
theorem dX1_isSame_363 : decode cX1_isSame 363 = .ok (.iload 4, 2) := by decide +kernel
theorem dX1_isSame_365 : decode cX1_isSame 365 = .ok (.if_icmp .ne 33, 3) := by decide +kernel
theorem dX1_isSame_368 : decode cX1_isSame 368 = .ok (.aload_n 1, 1) := by decide +kernel
theorem dX1_isSame_369 : decode cX1_isSame 369 = .ok (.invokevirtual 101, 3) := by decide +kernel
theorem dX1_isSame_372 : decode cX1_isSame 372 = .ok (.aload_n 0, 1) := by decide +kernel
theorem dX1_isSame_373 : decode cX1_isSame 373 = .ok (.getfield 7, 3) := by decide +kernel
theorem dX1_isSame_376 : decode cX1_isSame 376 = .ok (.arraylength, 1) := by decide +kernel
theorem dX1_isSame_377 : decode cX1_isSame 377 = .ok (.ifCond .ne 7, 3) := by decide +kernel
theorem dX1_isSame_380 : decode cX1_isSame 380 = .ok (.dconst 0, 1) := by decide +kernel
theorem dX1_isSame_381 : decode cX1_isSame 381 = .ok (.goto 13, 3) := by decide +kernel
theorem dX1_isSame_384 : decode cX1_isSame 384 = .ok (.iload 4, 2) := by decide +kernel
theorem dX1_isSame_386 : decode cX1_isSame 386 = .ok (.i2d, 1) := by decide +kernel
theorem dX1_isSame_387 : decode cX1_isSame 387 = .ok (.aload_n 0, 1) := by decide +kernel
theorem dX1_isSame_388 : decode cX1_isSame 388 = .ok (.getfield 7, 3) := by decide +kernel
theorem dX1_isSame_391 : decode cX1_isSame 391 = .ok (.arraylength, 1) := by decide +kernel
theorem dX1_isSame_392 : decode cX1_isSame 392 = .ok (.i2d, 1) := by decide +kernel
theorem dX1_isSame_393 : decode cX1_isSame 393 = .ok (.ddiv, 1) := by decide +kernel
theorem dX1_isSame_394 : decode cX1_isSame 394 = .ok (.dcmp .l, 1) := by decide +kernel
theorem dX1_isSame_395 : decode cX1_isSame 395 = .ok (.ifCond .eq 5, 3) := by decide +kernel
theorem dX1_isSame_398 : decode cX1_isSame 398 = .ok (.iconst 0, 1) := by decide +kernel
theorem dX1_isSame_399 : decode cX1_isSame 399 = .ok (.ireturn, 1) := by decide +kernel
theorem dX1_isSame_400 : decode cX1_isSame 400 = .ok (.iconst (-1), 1) := by decide +kernel
theorem dX1_isSame_401 : decode cX1_isSame 401 = .ok (.istore 5, 2) := by decide +kernel
theorem dX1_isSame_403 : decode cX1_isSame 403 = .ok (.iconst (-1), 1) := by decide +kernel
theorem dX1_isSame_404 : decode cX1_isSame 404 = .ok (.istore 6, 2) := by decide +kernel
theorem dX1_isSame_406 : decode cX1_isSame 406 = .ok (.aload_n 0, 1) := by decide +kernel
theorem dX1_isSame_407 : decode cX1_isSame 407 = .ok (.getfield 14, 3) := by decide +kernel
theorem dX1_isSame_410 : decode cX1_isSame 410 = .ok (.arraylength, 1) := by decide +kernel
theorem dX1_isSame_411 : decode cX1_isSame 411 = .ok (.iconst 1, 1) := by decide +kernel
theorem dX1_isSame_412 : decode cX1_isSame 412 = .ok (.isub, 1) := by decide +kernel
theorem dX1_isSame_413 : decode cX1_isSame 413 = .ok (.istore 7, 2) := by decide +kernel
theorem dX1_isSame_415 : decode cX1_isSame 415 = .ok (.iload 7, 2) := by decide +kernel
theorem dX1_isSame_417 : decode cX1_isSame 417 = .ok (.ifCond .lt 106, 3) := by decide +kernel
theorem dX1_isSame_420 : decode cX1_isSame 420 = .ok (.aload_n 0, 1) := by decide +kernel
theorem dX1_isSame_421 : decode cX1_isSame 421 = .ok (.sipush 360, 3) := by decide +kernel
theorem dX1_isSame_424 : decode cX1_isSame 424 = .ok (.iload 7, 2) := by decide +kernel
theorem dX1_isSame_426 : decode cX1_isSame 426 = .ok (.invokevirtual 69, 3) := by decide +kernel
theorem dX1_isSame_429 : decode cX1_isSame 429 = .ok (.aload_n 0, 1) := by decide +kernel
theorem dX1_isSame_430 : decode cX1_isSame 430 = .ok (.sipush 360, 3) := by decide +kernel
theorem dX1_isSame_433 : decode cX1_isSame 433 = .ok (.iconst (-1), 1) := by decide +kernel
theorem dX1_isSame_434 : decode cX1_isSame 434 = .ok (.invokevirtual 69, 3) := by decide +kernel
theorem dX1_isSame_437 : decode cX1_isSame 437 = .ok (.isub, 1) := by decide +kernel
theorem dX1_isSame_438 : decode cX1_isSame 438 = .ok (.istore 8, 2) := by decide +kernel
theorem dX1_isSame_440 : decode cX1_isSame 440 = .ok (.aload_n 1, 1) := by decide +kernel
theorem dX1_isSame_441 : decode cX1_isSame 441 = .ok (.iload 7, 2) := by decide +kernel
theorem dX1_isSame_443 : decode cX1_isSame 443 = .ok (.invokevirtual 105, 3) := by decide +kernel
theorem dX1_isSame_446 : decode cX1_isSame 446 = .ok (.aload_n 0, 1) := by decide +kernel
theorem dX1_isSame_447 : decode cX1_isSame 447 = .ok (.getfield 14, 3) := by decide +kernel
theorem dX1_isSame_450 : decode cX1_isSame 450 = .ok (.iload 7, 2) := by decide +kernel
theorem dX1_isSame_452 : decode cX1_isSame 452 = .ok (.aaload, 1) := by decide +kernel
theorem dX1_isSame_453 : decode cX1_isSame 453 = .ok (.iconst 0, 1) := by decide +kernel
theorem dX1_isSame_454 : decode cX1_isSame 454 = .ok (.iaload, 1) := by decide +kernel
theorem dX1_isSame_455 : decode cX1_isSame 455 = .ok (.if_icmp .ne 42, 3) := by decide +kernel
theorem dX1_isSame_458 : decode cX1_isSame 458 = .ok (.aload_n 1, 1) := by decide +kernel
theorem dX1_isSame_459 : decode cX1_isSame 459 = .ok (.iload 7, 2) := by decide +kernel
theorem dX1_isSame_461 : decode cX1_isSame 461 = .ok (.invokevirtual 108, 3) := by decide +kernel
theorem dX1_isSame_464 : decode cX1_isSame 464 = .ok (.aload_n 0, 1) := by decide +kernel
theorem dX1_isSame_465 : decode cX1_isSame 465 = .ok (.getfield 14, 3) := by decide +kernel
theorem dX1_isSame_468 : decode cX1_isSame 468 = .ok (.iload 7, 2) := by decide +kernel
theorem dX1_isSame_470 : decode cX1_isSame 470 = .ok (.aaload, 1) := by decide +kernel
theorem dX1_isSame_471 : decode cX1_isSame 471 = .ok (.iconst 1, 1) := by decide +kernel
theorem dX1_isSame_472 : decode cX1_isSame 472 = .ok (.iaload, 1) := by decide +kernel
theorem dX1_isSame_473 : decode cX1_isSame 473 = .ok (.aload_n 0, 1) := by decide +kernel
theorem dX1_isSame_474 : decode cX1_isSame 474 = .ok (.getfield 14, 3) := by decide +kernel
theorem dX1_isSame_477 : decode cX1_isSame 477 = .ok (.iload 7, 2) := by decide +kernel
theorem dX1_isSame_479 : decode cX1_isSame 479 = .ok (.aaload, 1) := by decide +kernel
theorem dX1_isSame_480 : decode cX1_isSame 480 = .ok (.iconst 0, 1) := by decide +kernel
theorem dX1_isSame_481 : decode cX1_isSame 481 = .ok (.iaload, 1) := by decide +kernel
theorem dX1_isSame_482 : decode cX1_isSame 482 = .ok (.isub, 1) := by decide +kernel
theorem dX1_isSame_483 : decode cX1_isSame 483 = .ok (.if_icmp .ne 14, 3) := by decide +kernel
theorem dX1_isSame_486 : decode cX1_isSame 486 = .ok (.aload_n 1, 1) := by decide +kernel
theorem dX1_isSame_487 : decode cX1_isSame 487 = .ok (.iload 7, 2) := by decide +kernel
theorem dX1_isSame_489 : decode cX1_isSame 489 = .ok (.invokevirtual 111, 3) := by decide +kernel
theorem dX1_isSame_492 : decode cX1_isSame 492 = .ok (.iload 8, 2) := by decide +kernel
theorem dX1_isSame_494 : decode cX1_isSame 494 = .ok (.if_icmp .eq 5, 3) := by decide +kernel
theorem dX1_isSame_497 : decode cX1_isSame 497 = .ok (.iconst 0, 1) := by decide +kernel
theorem dX1_isSame_498 : decode cX1_isSame 498 = .ok (.ireturn, 1) := by decide +kernel
theorem dX1_isSame_499 : decode cX1_isSame 499 = .ok (.iload 8, 2) := by decide +kernel
theorem dX1_isSame_501 : decode cX1_isSame 501 = .ok (.iload 6, 2) := by decide +kernel
theorem dX1_isSame_503 : decode cX1_isSame 503 = .ok (.if_icmp .ge 6, 3) := by decide +kernel
theorem dX1_isSame_506 : decode cX1_isSame 506 = .ok (.goto 11, 3) := by decide +kernel
theorem dX1_isSame_509 : decode cX1_isSame 509 = .ok (.iload 7, 2) := by decide +kernel
theorem dX1_isSame_511 : decode cX1_isSame 511 = .ok (.istore 5, 2) := by decide +kernel
theorem dX1_isSame_513 : decode cX1_isSame 513 = .ok (.iload 8, 2) := by decide +kernel
theorem dX1_isSame_515 : decode cX1_isSame 515 = .ok (.istore 6, 2) := by decide +kernel
theorem dX1_isSame_517 : decode cX1_isSame 517 = .ok (.iinc 7 (-1), 3) := by decide +kernel
theorem dX1_isSame_520 : decode cX1_isSame 520 = .ok (.goto (-105), 3) := by decide +kernel
theorem dX1_isSame_523 : decode cX1_isSame 523 = .ok (.iconst (-1), 1) := by decide +kernel
theorem dX1_isSame_524 : decode cX1_isSame 524 = .ok (.istore 7, 2) := by decide +kernel
theorem dX1_isSame_526 : decode cX1_isSame 526 = .ok (.aload_n 0, 1) := by decide +kernel
theorem dX1_isSame_527 : decode cX1_isSame 527 = .ok (.getfield 18, 3) := by decide +kernel
theorem dX1_isSame_530 : decode cX1_isSame 530 = .ok (.arraylength, 1) := by decide +kernel
theorem dX1_isSame_531 : decode cX1_isSame 531 = .ok (.iconst 1, 1) := by decide +kernel
theorem dX1_isSame_532 : decode cX1_isSame 532 = .ok (.isub, 1) := by decide +kernel
theorem dX1_isSame_533 : decode cX1_isSame 533 = .ok (.istore 8, 2) := by decide +kernel
theorem dX1_isSame_535 : decode cX1_isSame 535 = .ok (.iload 8, 2) := by decide +kernel
theorem dX1_isSame_537 : decode cX1_isSame 537 = .ok (.ifCond .lt 112, 3) := by decide +kernel
theorem dX1_isSame_540 : decode cX1_isSame 540 = .ok (.aload_n 0, 1) := by decide +kernel
theorem dX1_isSame_541 : decode cX1_isSame 541 = .ok (.iload 8, 2) := by decide +kernel
theorem dX1_isSame_543 : decode cX1_isSame 543 = .ok (.invokevirtual 114, 3) := by decide +kernel
theorem dX1_isSame_546 : decode cX1_isSame 546 = .ok (.istore 9, 2) := by decide +kernel
theorem dX1_isSame_548 : decode cX1_isSame 548 = .ok (.aload_n 1, 1) := by decide +kernel
theorem dX1_isSame_549 : decode cX1_isSame 549 = .ok (.iload 8, 2) := by decide +kernel
theorem dX1_isSame_551 : decode cX1_isSame 551 = .ok (.invokevirtual 117, 3) := by decide +kernel
theorem dX1_isSame_554 : decode cX1_isSame 554 = .ok (.iload 9, 2) := by decide +kernel
theorem dX1_isSame_556 : decode cX1_isSame 556 = .ok (.if_icmp .ne 55, 3) := by decide +kernel
theorem dX1_isSame_559 : decode cX1_isSame 559 = .ok (.aload_n 1, 1) := by decide +kernel
theorem dX1_isSame_560 : decode cX1_isSame 560 = .ok (.iload 8, 2) := by decide +kernel
theorem dX1_isSame_562 : decode cX1_isSame 562 = .ok (.invokevirtual 120, 3) := by decide +kernel
theorem dX1_isSame_565 : decode cX1_isSame 565 = .ok (.iload 9, 2) := by decide +kernel
theorem dX1_isSame_567 : decode cX1_isSame 567 = .ok (.aload_n 0, 1) := by decide +kernel
theorem dX1_isSame_568 : decode cX1_isSame 568 = .ok (.getfield 18, 3) := by decide +kernel
theorem dX1_isSame_571 : decode cX1_isSame 571 = .ok (.iload 8, 2) := by decide +kernel
theorem dX1_isSame_573 : decode cX1_isSame 573 = .ok (.aaload, 1) := by decide +kernel
theorem dX1_isSame_574 : decode cX1_isSame 574 = .ok (.iconst 0, 1) := by decide +kernel
theorem dX1_isSame_575 : decode cX1_isSame 575 = .ok (.iaload, 1) := by decide +kernel
theorem dX1_isSame_576 : decode cX1_isSame 576 = .ok (.imul, 1) := by decide +kernel
theorem dX1_isSame_577 : decode cX1_isSame 577 = .ok (.if_icmp .ne 34, 3) := by decide +kernel
theorem dX1_isSame_580 : decode cX1_isSame 580 = .ok (.aload_n 1, 1) := by decide +kernel
theorem dX1_isSame_581 : decode cX1_isSame 581 = .ok (.iload 8, 2) := by decide +kernel
theorem dX1_isSame_583 : decode cX1_isSame 583 = .ok (.invokevirtual 123, 3) := by decide +kernel
theorem dX1_isSame_586 : decode cX1_isSame 586 = .ok (.iload 9, 2) := by decide +kernel
theorem dX1_isSame_588 : decode cX1_isSame 588 = .ok (.aload_n 0, 1) := by decide +kernel
theorem dX1_isSame_589 : decode cX1_isSame 589 = .ok (.getfield 18, 3) := by decide +kernel
theorem dX1_isSame_592 : decode cX1_isSame 592 = .ok (.iload 8, 2) := by decide +kernel
theorem dX1_isSame_594 : decode cX1_isSame 594 = .ok (.aaload, 1) := by decide +kernel
theorem dX1_isSame_595 : decode cX1_isSame 595 = .ok (.iconst 0, 1) := by decide +kernel
theorem dX1_isSame_596 : decode cX1_isSame 596 = .ok (.iaload, 1) := by decide +kernel
theorem dX1_isSame_597 : decode cX1_isSame 597 = .ok (.imul, 1) := by decide +kernel
theorem dX1_isSame_598 : decode cX1_isSame 598 = .ok (.aload_n 0, 1) := by decide +kernel
theorem dX1_isSame_599 : decode cX1_isSame 599 = .ok (.aload_n 0, 1) := by decide +kernel
theorem dX1_isSame_600 : decode cX1_isSame 600 = .ok (.getfield 39, 3) := by decide +kernel
theorem dX1_isSame_603 : decode cX1_isSame 603 = .ok (.iconst (-1), 1) := by decide +kernel
theorem dX1_isSame_604 : decode cX1_isSame 604 = .ok (.invokevirtual 69, 3) := by decide +kernel
theorem dX1_isSame_607 : decode cX1_isSame 607 = .ok (.isub, 1) := by decide +kernel
theorem dX1_isSame_608 : decode cX1_isSame 608 = .ok (.if_icmp .eq 5, 3) := by decide +kernel
theorem dX1_isSame_611 : decode cX1_isSame 611 = .ok (.iconst 0, 1) := by decide +kernel
theorem dX1_isSame_612 : decode cX1_isSame 612 = .ok (.ireturn, 1) := by decide +kernel
theorem dX1_isSame_613 : decode cX1_isSame 613 = .ok (.iload 7, 2) := by decide +kernel
theorem dX1_isSame_615 : decode cX1_isSame 615 = .ok (.ifCond .lt 24, 3) := by decide +kernel
theorem dX1_isSame_618 : decode cX1_isSame 618 = .ok (.aload_n 1, 1) := by decide +kernel
theorem dX1_isSame_619 : decode cX1_isSame 619 = .ok (.iload 8, 2) := by decide +kernel
theorem dX1_isSame_621 : decode cX1_isSame 621 = .ok (.invokevirtual 123, 3) := by decide +kernel
theorem dX1_isSame_624 : decode cX1_isSame 624 = .ok (.invokestatic 126, 3) := by decide +kernel
theorem dX1_isSame_627 : decode cX1_isSame 627 = .ok (.aload_n 1, 1) := by decide +kernel
theorem dX1_isSame_628 : decode cX1_isSame 628 = .ok (.iload 7, 2) := by decide +kernel
theorem dX1_isSame_630 : decode cX1_isSame 630 = .ok (.invokevirtual 123, 3) := by decide +kernel
theorem dX1_isSame_633 : decode cX1_isSame 633 = .ok (.invokestatic 126, 3) := by decide +kernel
theorem dX1_isSame_636 : decode cX1_isSame 636 = .ok (.if_icmp .gt 7, 3) := by decide +kernel
theorem dX1_isSame_639 : decode cX1_isSame 639 = .ok (.iload 8, 2) := by decide +kernel
theorem dX1_isSame_641 : decode cX1_isSame 641 = .ok (.istore 7, 2) := by decide +kernel
theorem dX1_isSame_643 : decode cX1_isSame 643 = .ok (.iinc 8 (-1), 3) := by decide +kernel
theorem dX1_isSame_646 : decode cX1_isSame 646 = .ok (.goto (-111), 3) := by decide +kernel
theorem dX1_isSame_649 : decode cX1_isSame 649 = .ok (.aload_n 1, 1) := by decide +kernel
theorem dX1_isSame_650 : decode cX1_isSame 650 = .ok (.invokevirtual 131, 3) := by decide +kernel
theorem dX1_isSame_653 : decode cX1_isSame 653 = .ok (.iload 5, 2) := by decide +kernel
theorem dX1_isSame_655 : decode cX1_isSame 655 = .ok (.if_icmp .ne 16, 3) := by decide +kernel
theorem dX1_isSame_658 : decode cX1_isSame 658 = .ok (.aload_n 1, 1) := by decide +kernel
theorem dX1_isSame_659 : decode cX1_isSame 659 = .ok (.invokevirtual 134, 3) := by decide +kernel
theorem dX1_isSame_662 : decode cX1_isSame 662 = .ok (.iload 7, 2) := by decide +kernel
theorem dX1_isSame_664 : decode cX1_isSame 664 = .ok (.if_icmp .ne 7, 3) := by decide +kernel
theorem dX1_isSame_667 : decode cX1_isSame 667 = .ok (.iconst 1, 1) := by decide +kernel
theorem dX1_isSame_668 : decode cX1_isSame 668 = .ok (.goto 4, 3) := by decide +kernel
theorem dX1_isSame_671 : decode cX1_isSame 671 = .ok (.iconst 0, 1) := by decide +kernel
theorem dX1_isSame_672 : decode cX1_isSame 672 = .ok (.ireturn, 1) := by decide +kernel
theorem dJ9_abs_0f7a4_0 : decode cJ9_abs_0f7a4 0 = .ok (.iload_n 0, 1) := by decide +kernel
theorem dJ9_abs_0f7a4_1 : decode cJ9_abs_0f7a4 1 = .ok (.ifCond .ge 8, 3) := by decide +kernel
theorem dJ9_abs_0f7a4_4 : decode cJ9_abs_0f7a4 4 = .ok (.iload_n 0, 1) := by decide +kernel
theorem dJ9_abs_0f7a4_5 : decode cJ9_abs_0f7a4 5 = .ok (.ineg, 1) := by decide +kernel
theorem dJ9_abs_0f7a4_6 : decode cJ9_abs_0f7a4 6 = .ok (.goto 4, 3) := by decide +kernel
theorem dJ9_abs_0f7a4_9 : decode cJ9_abs_0f7a4 9 = .ok (.iload_n 0, 1) := by decide +kernel
theorem dJ9_abs_0f7a4_10 : decode cJ9_abs_0f7a4 10 = .ok (.ireturn, 1) := by decide +kernel
theorem dJ9_max_7cf53_0 : decode cJ9_max_7cf53 0 = .ok (.iload_n 0, 1) := by decide +kernel
theorem dJ9_max_7cf53_1 : decode cJ9_max_7cf53 1 = .ok (.iload_n 1, 1) := by decide +kernel
theorem dJ9_max_7cf53_2 : decode cJ9_max_7cf53 2 = .ok (.if_icmp .lt 7, 3) := by decide +kernel
theorem dJ9_max_7cf53_5 : decode cJ9_max_7cf53 5 = .ok (.iload_n 0, 1) := by decide +kernel
theorem dJ9_max_7cf53_6 : decode cJ9_max_7cf53 6 = .ok (.goto 4, 3) := by decide +kernel
theorem dJ9_max_7cf53_9 : decode cJ9_max_7cf53 9 = .ok (.iload_n 1, 1) := by decide +kernel
theorem dJ9_max_7cf53_10 : decode cJ9_max_7cf53 10 = .ok (.ireturn, 1) := by decide +kernel
theorem dJ9_min_7cf53_0 : decode cJ9_min_7cf53 0 = .ok (.iload_n 0, 1) := by decide +kernel
theorem dJ9_min_7cf53_1 : decode cJ9_min_7cf53 1 = .ok (.iload_n 1, 1) := by decide +kernel
theorem dJ9_min_7cf53_2 : decode cJ9_min_7cf53 2 = .ok (.if_icmp .gt 7, 3) := by decide +kernel
theorem dJ9_min_7cf53_5 : decode cJ9_min_7cf53 5 = .ok (.iload_n 0, 1) := by decide +kernel
theorem dJ9_min_7cf53_6 : decode cJ9_min_7cf53 6 = .ok (.goto 4, 3) := by decide +kernel
theorem dJ9_min_7cf53_9 : decode cJ9_min_7cf53 9 = .ok (.iload_n 1, 1) := by decide +kernel
theorem dJ9_min_7cf53_10 : decode cJ9_min_7cf53 10 = .ok (.ireturn, 1) := by decide +kernel
theorem dL_below_0 : decode cL_below 0 = .ok (.iload_n 0, 1) := by decide +kernel
theorem dL_below_1 : decode cL_below 1 = .ok (.ldc 7, 2) := by decide +kernel
theorem dL_below_3 : decode cL_below 3 = .ok (.iand, 1) := by decide +kernel
theorem dL_below_4 : decode cL_below 4 = .ok (.iload_n 1, 1) := by decide +kernel
theorem dL_below_5 : decode cL_below 5 = .ok (.irem, 1) := by decide +kernel
theorem dL_below_6 : decode cL_below 6 = .ok (.ireturn, 1) := by decide +kernel
theorem dL_cell_0 : decode cL_cell 0 = .ok (.iload_n 1, 1) := by decide +kernel
theorem dL_cell_1 : decode cL_cell 1 = .ok (.aload_n 0, 1) := by decide +kernel
theorem dL_cell_2 : decode cL_cell 2 = .ok (.arraylength, 1) := by decide +kernel
theorem dL_cell_3 : decode cL_cell 3 = .ok (.if_icmp .ge 9, 3) := by decide +kernel
theorem dL_cell_6 : decode cL_cell 6 = .ok (.aload_n 0, 1) := by decide +kernel
theorem dL_cell_7 : decode cL_cell 7 = .ok (.iload_n 1, 1) := by decide +kernel
theorem dL_cell_8 : decode cL_cell 8 = .ok (.iaload, 1) := by decide +kernel
theorem dL_cell_9 : decode cL_cell 9 = .ok (.goto 9, 3) := by decide +kernel
theorem dL_cell_12 : decode cL_cell 12 = .ok (.ldc 8, 2) := by decide +kernel
theorem dL_cell_14 : decode cL_cell 14 = .ok (.iload_n 1, 1) := by decide +kernel
theorem dL_cell_15 : decode cL_cell 15 = .ok (.iconst 3, 1) := by decide +kernel
theorem dL_cell_16 : decode cL_cell 16 = .ok (.iadd, 1) := by decide +kernel
theorem dL_cell_17 : decode cL_cell 17 = .ok (.imul, 1) := by decide +kernel
theorem dL_cell_18 : decode cL_cell 18 = .ok (.ireturn, 1) := by decide +kernel
