theorem dX1_init_0 : decode cX1_init 0 = .ok (.aload_n 0, 1) := by decide +kernel
theorem dX1_init_1 : decode cX1_init 1 = .ok (.invokespecial 1, 3) := by decide +kernel
theorem dX1_init_4 : decode cX1_init 4 = .ok (.aload_n 0, 1) := by decide +kernel
theorem dX1_init_5 : decode cX1_init 5 = .ok (.iconst 4, 1) := by decide +kernel
theorem dX1_init_6 : decode cX1_init 6 = .ok (.newarray .int, 2) := by decide +kernel
theorem dX1_init_8 : decode cX1_init 8 = .ok (.putfield 9, 3) := by decide +kernel
theorem dX1_init_11 : decode cX1_init 11 = .ok (.aload_n 0, 1) := by decide +kernel
theorem dX1_init_12 : decode cX1_init 12 = .ok (.bipush 8, 2) := by decide +kernel
theorem dX1_init_14 : decode cX1_init 14 = .ok (.newarray .int, 2) := by decide +kernel
theorem dX1_init_16 : decode cX1_init 16 = .ok (.putfield 13, 3) := by decide +kernel
theorem dX1_init_19 : decode cX1_init 19 = .ok (.aload_n 0, 1) := by decide +kernel
theorem dX1_init_20 : decode cX1_init 20 = .ok (.bipush 8, 2) := by decide +kernel
theorem dX1_init_22 : decode cX1_init 22 = .ok (.newarray .int, 2) := by decide +kernel
theorem dX1_init_24 : decode cX1_init 24 = .ok (.putfield 16, 3) := by decide +kernel
theorem dX1_init_27 : decode cX1_init 27 = .ok (.aload_n 0, 1) := by decide +kernel
theorem dX1_init_28 : decode cX1_init 28 = .ok (.sipush 360, 3) := by decide +kernel
theorem dX1_init_31 : decode cX1_init 31 = .ok (.newarray .int, 2) := by decide +kernel
theorem dX1_init_33 : decode cX1_init 33 = .ok (.putfield 19, 3) := by decide +kernel
theorem dX1_init_36 : decode cX1_init 36 = .ok (.aload_n 0, 1) := by decide +kernel
theorem dX1_init_37 : decode cX1_init 37 = .ok (.bipush 6, 2) := by decide +kernel
theorem dX1_init_39 : decode cX1_init 39 = .ok (.newarray .int, 2) := by decide +kernel
theorem dX1_init_41 : decode cX1_init 41 = .ok (.putfield 22, 3) := by decide +kernel
theorem dX1_init_44 : decode cX1_init 44 = .ok (.aload_n 0, 1) := by decide +kernel
theorem dX1_init_45 : decode cX1_init 45 = .ok (.bipush 6, 2) := by decide +kernel
theorem dX1_init_47 : decode cX1_init 47 = .ok (.newarray .int, 2) := by decide +kernel
theorem dX1_init_49 : decode cX1_init 49 = .ok (.putfield 25, 3) := by decide +kernel
theorem dX1_init_52 : decode cX1_init 52 = .ok (.aload_n 0, 1) := by decide +kernel
theorem dX1_init_53 : decode cX1_init 53 = .ok (.bipush 20, 2) := by decide +kernel
theorem dX1_init_55 : decode cX1_init 55 = .ok (.putfield 28, 3) := by decide +kernel
theorem dX1_init_58 : decode cX1_init 58 = .ok (.aload_n 0, 1) := by decide +kernel
theorem dX1_init_59 : decode cX1_init 59 = .ok (.iconst 1, 1) := by decide +kernel
theorem dX1_init_60 : decode cX1_init 60 = .ok (.putfield 32, 3) := by decide +kernel
theorem dX1_init_63 : decode cX1_init 63 = .ok (.aload_n 0, 1) := by decide +kernel
theorem dX1_init_64 : decode cX1_init 64 = .ok (.iconst 3, 1) := by decide +kernel
theorem dX1_init_65 : decode cX1_init 65 = .ok (.putfield 35, 3) := by decide +kernel
theorem dX1_init_68 : decode cX1_init 68 = .ok (.return_, 1) := by decide +kernel
theorem dX1_thrown_0 : decode cX1_thrown 0 = .ok (.aload_n 0, 1) := by decide +kernel
theorem dX1_thrown_1 : decode cX1_thrown 1 = .ok (.getfield 38, 3) := by decide +kernel
theorem dX1_thrown_4 : decode cX1_thrown 4 = .ok (.ireturn, 1) := by decide +kernel
theorem dX1_no_0 : decode cX1_no 0 = .ok (.aload_n 0, 1) := by decide +kernel
theorem dX1_no_1 : decode cX1_no 1 = .ok (.iload_n 1, 1) := by decide +kernel
theorem dX1_no_2 : decode cX1_no 2 = .ok (.putfield 38, 3) := by decide +kernel
theorem dX1_no_5 : decode cX1_no 5 = .ok (.iconst 0, 1) := by decide +kernel
theorem dX1_no_6 : decode cX1_no 6 = .ok (.ireturn, 1) := by decide +kernel
theorem dX1_ok_0 : decode cX1_ok 0 = .ok (.aload_n 0, 1) := by decide +kernel
theorem dX1_ok_1 : decode cX1_ok 1 = .ok (.iconst 0, 1) := by decide +kernel
theorem dX1_ok_2 : decode cX1_ok 2 = .ok (.putfield 38, 3) := by decide +kernel
theorem dX1_ok_5 : decode cX1_ok 5 = .ok (.iload_n 1, 1) := by decide +kernel
theorem dX1_ok_6 : decode cX1_ok 6 = .ok (.ireturn, 1) := by decide +kernel
theorem dX1_isIn_0 : decode cX1_isIn 0 = .ok (.iload_n 0, 1) := by decide +kernel
theorem dX1_isIn_1 : decode cX1_isIn 1 = .ok (.iload_n 1, 1) := by decide +kernel
theorem dX1_isIn_2 : decode cX1_isIn 2 = .ok (.if_icmp .lt 12, 3) := by decide +kernel
theorem dX1_isIn_5 : decode cX1_isIn 5 = .ok (.iload_n 0, 1) := by decide +kernel
theorem dX1_isIn_6 : decode cX1_isIn 6 = .ok (.iload_n 2, 1) := by decide +kernel
theorem dX1_isIn_7 : decode cX1_isIn 7 = .ok (.if_icmp .gt 7, 3) := by decide +kernel
theorem dX1_isIn_10 : decode cX1_isIn 10 = .ok (.iconst 1, 1) := by decide +kernel
theorem dX1_isIn_11 : decode cX1_isIn 11 = .ok (.goto 4, 3) := by decide +kernel
theorem dX1_isIn_14 : decode cX1_isIn 14 = .ok (.iconst 0, 1) := by decide +kernel
theorem dX1_isIn_15 : decode cX1_isIn 15 = .ok (.ireturn, 1) := by decide +kernel
set_option maxRecDepth 20000 in
theorem ggX1_isStick_X1_isIn : GoodIn wsX1_isStick wsX1_isIn := goodIn_r _ [5] (by decide +kernel) (by decide +kernel)
set_option maxRecDepth 20000 in
theorem gX1_isStick_X1_isIn : GoodIn wsX1_isStick (va_wsS RX1 44 yX1_isIn wsX1_isIn) := goodIn_app (goodIn_of _ (by decide +kernel)) ggX1_isStick_X1_isIn
theorem dX1_isStick_0 : decode cX1_isStick 0 = .ok (.iload_n 1, 1) := by decide +kernel
theorem dX1_isStick_1 : decode cX1_isStick 1 = .ok (.iconst 0, 1) := by decide +kernel
theorem dX1_isStick_2 : decode cX1_isStick 2 = .ok (.aload_n 0, 1) := by decide +kernel
theorem dX1_isStick_3 : decode cX1_isStick 3 = .ok (.getfield 41, 3) := by decide +kernel
theorem dX1_isStick_6 : decode cX1_isStick 6 = .ok (.iconst 1, 1) := by decide +kernel
theorem dX1_isStick_7 : decode cX1_isStick 7 = .ok (.isub, 1) := by decide +kernel
theorem dX1_isStick_8 : decode cX1_isStick 8 = .ok (.invokestatic 44, 3) := by decide +kernel
theorem dX1_isStick_11 : decode cX1_isStick 11 = .ok (.ireturn, 1) := by decide +kernel
set_option maxRecDepth 20000 in
theorem ggX1_isNap_X1_isIn : GoodIn wsX1_isNap wsX1_isIn := goodIn_r _ [5] (by decide +kernel) (by decide +kernel)
set_option maxRecDepth 20000 in
theorem gX1_isNap_X1_isIn : GoodIn wsX1_isNap (va_wsS RX1 44 yX1_isIn wsX1_isIn) := goodIn_app (goodIn_of _ (by decide +kernel)) ggX1_isNap_X1_isIn
theorem dX1_isNap_0 : decode cX1_isNap 0 = .ok (.iload_n 1, 1) := by decide +kernel
theorem dX1_isNap_1 : decode cX1_isNap 1 = .ok (.iconst 0, 1) := by decide +kernel
theorem dX1_isNap_2 : decode cX1_isNap 2 = .ok (.aload_n 0, 1) := by decide +kernel
theorem dX1_isNap_3 : decode cX1_isNap 3 = .ok (.getfield 48, 3) := by decide +kernel
theorem dX1_isNap_6 : decode cX1_isNap 6 = .ok (.iconst 1, 1) := by decide +kernel
theorem dX1_isNap_7 : decode cX1_isNap 7 = .ok (.isub, 1) := by decide +kernel
theorem dX1_isNap_8 : decode cX1_isNap 8 = .ok (.invokestatic 44, 3) := by decide +kernel
theorem dX1_isNap_11 : decode cX1_isNap 11 = .ok (.ireturn, 1) := by decide +kernel
set_option maxRecDepth 20000 in
theorem ggX1_isBee_X1_isIn : GoodIn wsX1_isBee wsX1_isIn := goodIn_r _ [5] (by decide +kernel) (by decide +kernel)
set_option maxRecDepth 20000 in
theorem gX1_isBee_X1_isIn : GoodIn wsX1_isBee (va_wsS RX1 44 yX1_isIn wsX1_isIn) := goodIn_app (goodIn_of _ (by decide +kernel)) ggX1_isBee_X1_isIn
theorem dX1_isBee_0 : decode cX1_isBee 0 = .ok (.iload_n 1, 1) := by decide +kernel
theorem dX1_isBee_1 : decode cX1_isBee 1 = .ok (.iconst 0, 1) := by decide +kernel
theorem dX1_isBee_2 : decode cX1_isBee 2 = .ok (.aload_n 0, 1) := by decide +kernel
theorem dX1_isBee_3 : decode cX1_isBee 3 = .ok (.getfield 51, 3) := by decide +kernel
theorem dX1_isBee_6 : decode cX1_isBee 6 = .ok (.iconst 1, 1) := by decide +kernel
theorem dX1_isBee_7 : decode cX1_isBee 7 = .ok (.isub, 1) := by decide +kernel
theorem dX1_isBee_8 : decode cX1_isBee 8 = .ok (.invokestatic 44, 3) := by decide +kernel
theorem dX1_isBee_11 : decode cX1_isBee 11 = .ok (.ireturn, 1) := by decide +kernel
set_option maxRecDepth 20000 in
theorem ggX1_isMinute_X1_isIn : GoodIn wsX1_isMinute wsX1_isIn := goodIn_r _ [4] (by decide +kernel) (by decide +kernel)
set_option maxRecDepth 20000 in
theorem gX1_isMinute_X1_isIn : GoodIn wsX1_isMinute (va_wsS RX1 44 yX1_isIn wsX1_isIn) := goodIn_app (goodIn_of _ (by decide +kernel)) ggX1_isMinute_X1_isIn
theorem dX1_isMinute_0 : decode cX1_isMinute 0 = .ok (.iload_n 0, 1) := by decide +kernel
theorem dX1_isMinute_1 : decode cX1_isMinute 1 = .ok (.iconst 0, 1) := by decide +kernel
theorem dX1_isMinute_2 : decode cX1_isMinute 2 = .ok (.sipush 359, 3) := by decide +kernel
theorem dX1_isMinute_5 : decode cX1_isMinute 5 = .ok (.invokestatic 44, 3) := by decide +kernel
theorem dX1_isMinute_8 : decode cX1_isMinute 8 = .ok (.ireturn, 1) := by decide +kernel
theorem dX1_lay_0 : decode cX1_lay 0 = .ok (.aload_n 0, 1) := by decide +kernel
theorem dX1_lay_1 : decode cX1_lay 1 = .ok (.getfield 13, 3) := by decide +kernel
theorem dX1_lay_4 : decode cX1_lay 4 = .ok (.iload_n 1, 1) := by decide +kernel
theorem dX1_lay_5 : decode cX1_lay 5 = .ok (.iaload, 1) := by decide +kernel
theorem dX1_lay_6 : decode cX1_lay 6 = .ok (.istore_n 3, 1) := by decide +kernel
theorem dX1_lay_7 : decode cX1_lay 7 = .ok (.iload_n 3, 1) := by decide +kernel
theorem dX1_lay_8 : decode cX1_lay 8 = .ok (.aload_n 0, 1) := by decide +kernel
theorem dX1_lay_9 : decode cX1_lay 9 = .ok (.getfield 16, 3) := by decide +kernel
theorem dX1_lay_12 : decode cX1_lay 12 = .ok (.iload_n 1, 1) := by decide +kernel
theorem dX1_lay_13 : decode cX1_lay 13 = .ok (.iaload, 1) := by decide +kernel
theorem dX1_lay_14 : decode cX1_lay 14 = .ok (.if_icmp .ge 19, 3) := by decide +kernel
theorem dX1_lay_17 : decode cX1_lay 17 = .ok (.aload_n 0, 1) := by decide +kernel
theorem dX1_lay_18 : decode cX1_lay 18 = .ok (.getfield 19, 3) := by decide +kernel
theorem dX1_lay_21 : decode cX1_lay 21 = .ok (.iload_n 3, 1) := by decide +kernel
theorem dX1_lay_22 : decode cX1_lay 22 = .ok (.dup2, 1) := by decide +kernel
theorem dX1_lay_23 : decode cX1_lay 23 = .ok (.iaload, 1) := by decide +kernel
theorem dX1_lay_24 : decode cX1_lay 24 = .ok (.iload_n 2, 1) := by decide +kernel
theorem dX1_lay_25 : decode cX1_lay 25 = .ok (.iadd, 1) := by decide +kernel
theorem dX1_lay_26 : decode cX1_lay 26 = .ok (.iastore, 1) := by decide +kernel
theorem dX1_lay_27 : decode cX1_lay 27 = .ok (.iinc 3 1, 3) := by decide +kernel
theorem dX1_lay_30 : decode cX1_lay 30 = .ok (.goto (-23), 3) := by decide +kernel
theorem dX1_lay_33 : decode cX1_lay 33 = .ok (.return_, 1) := by decide +kernel
theorem dX1_isAwake_0 : decode cX1_isAwake 0 = .ok (.aload_n 0, 1) := by decide +kernel
theorem dX1_isAwake_1 : decode cX1_isAwake 1 = .ok (.getfield 19, 3) := by decide +kernel
theorem dX1_isAwake_4 : decode cX1_isAwake 4 = .ok (.iload_n 1, 1) := by decide +kernel
theorem dX1_isAwake_5 : decode cX1_isAwake 5 = .ok (.iaload, 1) := by decide +kernel
theorem dX1_isAwake_6 : decode cX1_isAwake 6 = .ok (.ifCond .ne 7, 3) := by decide +kernel
theorem dX1_isAwake_9 : decode cX1_isAwake 9 = .ok (.iconst 1, 1) := by decide +kernel
theorem dX1_isAwake_10 : decode cX1_isAwake 10 = .ok (.goto 4, 3) := by decide +kernel
theorem dX1_isAwake_13 : decode cX1_isAwake 13 = .ok (.iconst 0, 1) := by decide +kernel
theorem dX1_isAwake_14 : decode cX1_isAwake 14 = .ok (.ireturn, 1) := by decide +kernel
set_option maxRecDepth 20000 in
theorem ggX1_awake_X1_isAwake : GoodIn wsX1_awake wsX1_isAwake := goodIn_r _ [5, 6, 7, 8, 9, 10, 11, 12, 13, 14, 15, 16, 17, 18, 19, 20, 21, 22, 23] (by decide +kernel) (by decide +kernel)
set_option maxRecDepth 20000 in
theorem gX1_awake_X1_isAwake : GoodIn wsX1_awake (wsV RX1 54 RX1 yX1_isAwake wsX1_isAwake) := goodIn_app (goodIn_of _ (by decide +kernel)) ggX1_awake_X1_isAwake
theorem dX1_awake_0 : decode cX1_awake 0 = .ok (.iconst 0, 1) := by decide +kernel
theorem dX1_awake_1 : decode cX1_awake 1 = .ok (.istore_n 2, 1) := by decide +kernel
theorem dX1_awake_2 : decode cX1_awake 2 = .ok (.iconst 0, 1) := by decide +kernel
theorem dX1_awake_3 : decode cX1_awake 3 = .ok (.istore_n 3, 1) := by decide +kernel
theorem dX1_awake_4 : decode cX1_awake 4 = .ok (.iload_n 3, 1) := by decide +kernel
theorem dX1_awake_5 : decode cX1_awake 5 = .ok (.iload_n 1, 1) := by decide +kernel
theorem dX1_awake_6 : decode cX1_awake 6 = .ok (.if_icmp .ge 25, 3) := by decide +kernel
theorem dX1_awake_9 : decode cX1_awake 9 = .ok (.iload_n 2, 1) := by decide +kernel
theorem dX1_awake_10 : decode cX1_awake 10 = .ok (.aload_n 0, 1) := by decide +kernel
theorem dX1_awake_11 : decode cX1_awake 11 = .ok (.iload_n 3, 1) := by decide +kernel
theorem dX1_awake_12 : decode cX1_awake 12 = .ok (.invokevirtual 54, 3) := by decide +kernel
theorem dX1_awake_15 : decode cX1_awake 15 = .ok (.ifCond .eq 7, 3) := by decide +kernel
theorem dX1_awake_18 : decode cX1_awake 18 = .ok (.iconst 1, 1) := by decide +kernel
theorem dX1_awake_19 : decode cX1_awake 19 = .ok (.goto 4, 3) := by decide +kernel
theorem dX1_awake_22 : decode cX1_awake 22 = .ok (.iconst 0, 1) := by decide +kernel
theorem dX1_awake_23 : decode cX1_awake 23 = .ok (.iadd, 1) := by decide +kernel
theorem dX1_awake_24 : decode cX1_awake 24 = .ok (.istore_n 2, 1) := by decide +kernel
theorem dX1_awake_25 : decode cX1_awake 25 = .ok (.iinc 3 1, 3) := by decide +kernel
theorem dX1_awake_28 : decode cX1_awake 28 = .ok (.goto (-24), 3) := by decide +kernel
theorem dX1_awake_31 : decode cX1_awake 31 = .ok (.iload_n 2, 1) := by decide +kernel
theorem dX1_awake_32 : decode cX1_awake 32 = .ok (.ireturn, 1) := by decide +kernel
set_option maxRecDepth 20000 in
theorem ggX1_longest_X1_isAwake : GoodIn wsX1_longest wsX1_isAwake := goodIn_r _ [9, 10, 11, 12, 13, 14, 15, 16, 17, 18, 19, 20, 21, 22, 23, 24, 25, 26, 27] (by decide +kernel) (by decide +kernel)
set_option maxRecDepth 20000 in
theorem gX1_longest_X1_isAwake : GoodIn wsX1_longest (wsV RX1 54 RX1 yX1_isAwake wsX1_isAwake) := goodIn_app (goodIn_of _ (by decide +kernel)) ggX1_longest_X1_isAwake
theorem dX1_longest_0 : decode cX1_longest 0 = .ok (.iconst 0, 1) := by decide +kernel
theorem dX1_longest_1 : decode cX1_longest 1 = .ok (.istore_n 1, 1) := by decide +kernel
theorem dX1_longest_2 : decode cX1_longest 2 = .ok (.iconst 0, 1) := by decide +kernel
theorem dX1_longest_3 : decode cX1_longest 3 = .ok (.istore_n 2, 1) := by decide +kernel
theorem dX1_longest_4 : decode cX1_longest 4 = .ok (.iconst 0, 1) := by decide +kernel
theorem dX1_longest_5 : decode cX1_longest 5 = .ok (.istore_n 3, 1) := by decide +kernel
theorem dX1_longest_6 : decode cX1_longest 6 = .ok (.iload_n 3, 1) := by decide +kernel
theorem dX1_longest_7 : decode cX1_longest 7 = .ok (.sipush 360, 3) := by decide +kernel
theorem dX1_longest_10 : decode cX1_longest 10 = .ok (.if_icmp .ge 31, 3) := by decide +kernel
theorem dX1_longest_13 : decode cX1_longest 13 = .ok (.aload_n 0, 1) := by decide +kernel
theorem dX1_longest_14 : decode cX1_longest 14 = .ok (.iload_n 3, 1) := by decide +kernel
theorem dX1_longest_15 : decode cX1_longest 15 = .ok (.invokevirtual 54, 3) := by decide +kernel
theorem dX1_longest_18 : decode cX1_longest 18 = .ok (.ifCond .eq 9, 3) := by decide +kernel
theorem dX1_longest_21 : decode cX1_longest 21 = .ok (.iload_n 2, 1) := by decide +kernel
theorem dX1_longest_22 : decode cX1_longest 22 = .ok (.iconst 1, 1) := by decide +kernel
theorem dX1_longest_23 : decode cX1_longest 23 = .ok (.iadd, 1) := by decide +kernel
theorem dX1_longest_24 : decode cX1_longest 24 = .ok (.goto 4, 3) := by decide +kernel
theorem dX1_longest_27 : decode cX1_longest 27 = .ok (.iconst 0, 1) := by decide +kernel
theorem dX1_longest_28 : decode cX1_longest 28 = .ok (.istore_n 2, 1) := by decide +kernel
theorem dX1_longest_29 : decode cX1_longest 29 = .ok (.iload_n 1, 1) := by decide +kernel
theorem dX1_longest_30 : decode cX1_longest 30 = .ok (.iload_n 2, 1) := by decide +kernel
theorem dX1_longest_31 : decode cX1_longest 31 = .ok (.invokestatic 58, 3) := by decide +kernel
theorem dX1_longest_34 : decode cX1_longest 34 = .ok (.istore_n 1, 1) := by decide +kernel
theorem dX1_longest_35 : decode cX1_longest 35 = .ok (.iinc 3 1, 3) := by decide +kernel
theorem dX1_longest_38 : decode cX1_longest 38 = .ok (.goto (-32), 3) := by decide +kernel
theorem dX1_longest_41 : decode cX1_longest 41 = .ok (.iload_n 1, 1) := by decide +kernel
theorem dX1_longest_42 : decode cX1_longest 42 = .ok (.ireturn, 1) := by decide +kernel
theorem dX1_alone_0 : decode cX1_alone 0 = .ok (.iconst 0, 1) := by decide +kernel
theorem dX1_alone_1 : decode cX1_alone 1 = .ok (.istore_n 2, 1) := by decide +kernel
theorem dX1_alone_2 : decode cX1_alone 2 = .ok (.aload_n 0, 1) := by decide +kernel
theorem dX1_alone_3 : decode cX1_alone 3 = .ok (.getfield 13, 3) := by decide +kernel
theorem dX1_alone_6 : decode cX1_alone 6 = .ok (.iload_n 1, 1) := by decide +kernel
theorem dX1_alone_7 : decode cX1_alone 7 = .ok (.iaload, 1) := by decide +kernel
theorem dX1_alone_8 : decode cX1_alone 8 = .ok (.istore_n 3, 1) := by decide +kernel
theorem dX1_alone_9 : decode cX1_alone 9 = .ok (.iload_n 3, 1) := by decide +kernel
theorem dX1_alone_10 : decode cX1_alone 10 = .ok (.aload_n 0, 1) := by decide +kernel
theorem dX1_alone_11 : decode cX1_alone 11 = .ok (.getfield 16, 3) := by decide +kernel
theorem dX1_alone_14 : decode cX1_alone 14 = .ok (.iload_n 1, 1) := by decide +kernel
theorem dX1_alone_15 : decode cX1_alone 15 = .ok (.iaload, 1) := by decide +kernel
theorem dX1_alone_16 : decode cX1_alone 16 = .ok (.if_icmp .ge 27, 3) := by decide +kernel
theorem dX1_alone_19 : decode cX1_alone 19 = .ok (.iload_n 2, 1) := by decide +kernel
theorem dX1_alone_20 : decode cX1_alone 20 = .ok (.aload_n 0, 1) := by decide +kernel
theorem dX1_alone_21 : decode cX1_alone 21 = .ok (.getfield 19, 3) := by decide +kernel
theorem dX1_alone_24 : decode cX1_alone 24 = .ok (.iload_n 3, 1) := by decide +kernel
theorem dX1_alone_25 : decode cX1_alone 25 = .ok (.iaload, 1) := by decide +kernel
theorem dX1_alone_26 : decode cX1_alone 26 = .ok (.iconst 1, 1) := by decide +kernel
theorem dX1_alone_27 : decode cX1_alone 27 = .ok (.if_icmp .ne 7, 3) := by decide +kernel
theorem dX1_alone_30 : decode cX1_alone 30 = .ok (.iconst 1, 1) := by decide +kernel
theorem dX1_alone_31 : decode cX1_alone 31 = .ok (.goto 4, 3) := by decide +kernel
theorem dX1_alone_34 : decode cX1_alone 34 = .ok (.iconst 0, 1) := by decide +kernel
theorem dX1_alone_35 : decode cX1_alone 35 = .ok (.iadd, 1) := by decide +kernel
theorem dX1_alone_36 : decode cX1_alone 36 = .ok (.istore_n 2, 1) := by decide +kernel
theorem dX1_alone_37 : decode cX1_alone 37 = .ok (.iinc 3 1, 3) := by decide +kernel
theorem dX1_alone_40 : decode cX1_alone 40 = .ok (.goto (-31), 3) := by decide +kernel
theorem dX1_alone_43 : decode cX1_alone 43 = .ok (.iload_n 2, 1) := by decide +kernel
theorem dX1_alone_44 : decode cX1_alone 44 = .ok (.ireturn, 1) := by decide +kernel
set_option maxRecDepth 20000 in
theorem ggX1_ticks_X1_isAwake : GoodIn wsX1_ticks wsX1_isAwake := goodIn_r _ [7, 8, 9, 10, 11, 12, 13, 14, 15, 16, 17, 18, 19, 20, 21, 22, 23, 24, 25] (by decide +kernel) (by decide +kernel)
set_option maxRecDepth 20000 in
theorem gX1_ticks_X1_isAwake : GoodIn wsX1_ticks (wsV RX1 54 RX1 yX1_isAwake wsX1_isAwake) := goodIn_app (goodIn_of _ (by decide +kernel)) ggX1_ticks_X1_isAwake
theorem dX1_ticks_0 : decode cX1_ticks 0 = .ok (.aload_n 0, 1) := by decide +kernel
theorem dX1_ticks_1 : decode cX1_ticks 1 = .ok (.iload_n 2, 1) := by decide +kernel
theorem dX1_ticks_2 : decode cX1_ticks 2 = .ok (.invokevirtual 54, 3) := by decide +kernel
theorem dX1_ticks_5 : decode cX1_ticks 5 = .ok (.ifCond .eq 24, 3) := by decide +kernel
theorem dX1_ticks_8 : decode cX1_ticks 8 = .ok (.iload_n 2, 1) := by decide +kernel
theorem dX1_ticks_9 : decode cX1_ticks 9 = .ok (.aload_n 0, 1) := by decide +kernel
theorem dX1_ticks_10 : decode cX1_ticks 10 = .ok (.getfield 22, 3) := by decide +kernel
theorem dX1_ticks_13 : decode cX1_ticks 13 = .ok (.iload_n 1, 1) := by decide +kernel
theorem dX1_ticks_14 : decode cX1_ticks 14 = .ok (.iaload, 1) := by decide +kernel
theorem dX1_ticks_15 : decode cX1_ticks 15 = .ok (.irem, 1) := by decide +kernel
theorem dX1_ticks_16 : decode cX1_ticks 16 = .ok (.aload_n 0, 1) := by decide +kernel
theorem dX1_ticks_17 : decode cX1_ticks 17 = .ok (.getfield 25, 3) := by decide +kernel
theorem dX1_ticks_20 : decode cX1_ticks 20 = .ok (.iload_n 1, 1) := by decide +kernel
theorem dX1_ticks_21 : decode cX1_ticks 21 = .ok (.iaload, 1) := by decide +kernel
theorem dX1_ticks_22 : decode cX1_ticks 22 = .ok (.if_icmp .ne 7, 3) := by decide +kernel
theorem dX1_ticks_25 : decode cX1_ticks 25 = .ok (.iconst 1, 1) := by decide +kernel
theorem dX1_ticks_26 : decode cX1_ticks 26 = .ok (.goto 4, 3) := by decide +kernel
theorem dX1_ticks_29 : decode cX1_ticks 29 = .ok (.iconst 0, 1) := by decide +kernel
theorem dX1_ticks_30 : decode cX1_ticks 30 = .ok (.ireturn, 1) := by decide +kernel
set_option maxRecDepth 20000 in
theorem ggX1_ticked_X1_ticks : GoodIn wsX1_ticked wsX1_ticks := goodIn_r _ [6, 7, 8, 9, 10, 11, 5, 12, 13, 14, 15, 16, 17, 18, 19, 20, 21, 22, 23, 24, 25, 26, 27, 28, 29, 30] (by decide +kernel) (by decide +kernel)
set_option maxRecDepth 20000 in
theorem gX1_ticked_X1_ticks : GoodIn wsX1_ticked (wsV RX1 67 RX1 yX1_ticks wsX1_ticks) := goodIn_app (goodIn_of _ (by decide +kernel)) ggX1_ticked_X1_ticks
theorem dX1_ticked_0 : decode cX1_ticked 0 = .ok (.iconst 0, 1) := by decide +kernel
theorem dX1_ticked_1 : decode cX1_ticked 1 = .ok (.istore_n 2, 1) := by decide +kernel
theorem dX1_ticked_2 : decode cX1_ticked 2 = .ok (.iconst 0, 1) := by decide +kernel
theorem dX1_ticked_3 : decode cX1_ticked 3 = .ok (.istore_n 3, 1) := by decide +kernel
theorem dX1_ticked_4 : decode cX1_ticked 4 = .ok (.iload_n 3, 1) := by decide +kernel
theorem dX1_ticked_5 : decode cX1_ticked 5 = .ok (.aload_n 0, 1) := by decide +kernel
theorem dX1_ticked_6 : decode cX1_ticked 6 = .ok (.getfield 64, 3) := by decide +kernel
theorem dX1_ticked_9 : decode cX1_ticked 9 = .ok (.if_icmp .ge 26, 3) := by decide +kernel
theorem dX1_ticked_12 : decode cX1_ticked 12 = .ok (.iload_n 2, 1) := by decide +kernel
theorem dX1_ticked_13 : decode cX1_ticked 13 = .ok (.aload_n 0, 1) := by decide +kernel
theorem dX1_ticked_14 : decode cX1_ticked 14 = .ok (.iload_n 1, 1) := by decide +kernel
theorem dX1_ticked_15 : decode cX1_ticked 15 = .ok (.iload_n 3, 1) := by decide +kernel
theorem dX1_ticked_16 : decode cX1_ticked 16 = .ok (.invokevirtual 67, 3) := by decide +kernel
theorem dX1_ticked_19 : decode cX1_ticked 19 = .ok (.ifCond .eq 7, 3) := by decide +kernel
theorem dX1_ticked_22 : decode cX1_ticked 22 = .ok (.iconst 1, 1) := by decide +kernel
theorem dX1_ticked_23 : decode cX1_ticked 23 = .ok (.goto 4, 3) := by decide +kernel
theorem dX1_ticked_26 : decode cX1_ticked 26 = .ok (.iconst 0, 1) := by decide +kernel
theorem dX1_ticked_27 : decode cX1_ticked 27 = .ok (.iadd, 1) := by decide +kernel
theorem dX1_ticked_28 : decode cX1_ticked 28 = .ok (.istore_n 2, 1) := by decide +kernel
theorem dX1_ticked_29 : decode cX1_ticked 29 = .ok (.iinc 3 1, 3) := by decide +kernel
theorem dX1_ticked_32 : decode cX1_ticked 32 = .ok (.goto (-28), 3) := by decide +kernel
theorem dX1_ticked_35 : decode cX1_ticked 35 = .ok (.iload_n 2, 1) := by decide +kernel
theorem dX1_ticked_36 : decode cX1_ticked 36 = .ok (.ireturn, 1) := by decide +kernel
set_option maxRecDepth 20000 in
theorem ggX1_next_X1_ticks : GoodIn wsX1_next wsX1_ticks := goodIn_r _ [6, 7, 8, 9, 10, 11, 5, 12, 13, 14, 15, 16, 17, 18, 19, 20, 21, 22, 23, 24, 25, 26, 27, 28, 29, 30] (by decide +kernel) (by decide +kernel)
set_option maxRecDepth 20000 in
theorem gX1_next_X1_ticks : GoodIn wsX1_next (wsV RX1 67 RX1 yX1_ticks wsX1_ticks) := goodIn_app (goodIn_of _ (by decide +kernel)) ggX1_next_X1_ticks
theorem dX1_next_0 : decode cX1_next 0 = .ok (.aload_n 0, 1) := by decide +kernel
theorem dX1_next_1 : decode cX1_next 1 = .ok (.getfield 64, 3) := by decide +kernel
theorem dX1_next_4 : decode cX1_next 4 = .ok (.istore_n 2, 1) := by decide +kernel
theorem dX1_next_5 : decode cX1_next 5 = .ok (.iload_n 2, 1) := by decide +kernel
theorem dX1_next_6 : decode cX1_next 6 = .ok (.sipush 360, 3) := by decide +kernel
theorem dX1_next_9 : decode cX1_next 9 = .ok (.if_icmp .ge 20, 3) := by decide +kernel
theorem dX1_next_12 : decode cX1_next 12 = .ok (.aload_n 0, 1) := by decide +kernel
theorem dX1_next_13 : decode cX1_next 13 = .ok (.iload_n 1, 1) := by decide +kernel
theorem dX1_next_14 : decode cX1_next 14 = .ok (.iload_n 2, 1) := by decide +kernel
theorem dX1_next_15 : decode cX1_next 15 = .ok (.invokevirtual 67, 3) := by decide +kernel
theorem dX1_next_18 : decode cX1_next 18 = .ok (.ifCond .eq 5, 3) := by decide +kernel
theorem dX1_next_21 : decode cX1_next 21 = .ok (.iload_n 2, 1) := by decide +kernel
theorem dX1_next_22 : decode cX1_next 22 = .ok (.ireturn, 1) := by decide +kernel
theorem dX1_next_23 : decode cX1_next 23 = .ok (.iinc 2 1, 3) := by decide +kernel
theorem dX1_next_26 : decode cX1_next 26 = .ok (.goto (-21), 3) := by decide +kernel
theorem dX1_next_29 : decode cX1_next 29 = .ok (.iconst (-1), 1) := by decide +kernel
theorem dX1_next_30 : decode cX1_next 30 = .ok (.ireturn, 1) := by decide +kernel
set_option maxRecDepth 20000 in
theorem ggX1_error_X1_ticked : GoodIn wsX1_error wsX1_ticked := goodIn_r _ [7, 2, 8, 9, 10, 6, 11, 1, 12, 13, 14, 15, 16, 17, 22, 23, 24, 25, 26, 27, 28, 29, 30, 31, 32, 33, 34, 35, 36, 37, 38] (by decide +kernel) (by decide +kernel)
set_option maxRecDepth 20000 in
theorem gX1_error_X1_ticked : GoodIn wsX1_error (wsV RX1 71 RX1 yX1_ticked wsX1_ticked) := goodIn_app (goodIn_of _ (by decide +kernel)) ggX1_error_X1_ticked
set_option maxRecDepth 20000 in
theorem ggX1_error_X1_awake : GoodIn wsX1_error wsX1_awake := goodIn_r _ [21, 13, 14, 15, 6, 16, 17, 22, 23, 24, 25, 26, 27, 28, 29, 30, 31, 32, 33, 34, 35, 36, 37, 38] (by decide +kernel) (by decide +kernel)
set_option maxRecDepth 20000 in
theorem gX1_error_X1_awake : GoodIn wsX1_error (wsV RX1 75 RX1 yX1_awake wsX1_awake) := goodIn_app (goodIn_of _ (by decide +kernel)) ggX1_error_X1_awake
theorem dX1_error_0 : decode cX1_error 0 = .ok (.aload_n 0, 1) := by decide +kernel
theorem dX1_error_1 : decode cX1_error 1 = .ok (.iload_n 1, 1) := by decide +kernel
theorem dX1_error_2 : decode cX1_error 2 = .ok (.invokevirtual 71, 3) := by decide +kernel
theorem dX1_error_5 : decode cX1_error 5 = .ok (.aload_n 0, 1) := by decide +kernel
theorem dX1_error_6 : decode cX1_error 6 = .ok (.getfield 22, 3) := by decide +kernel
theorem dX1_error_9 : decode cX1_error 9 = .ok (.iload_n 1, 1) := by decide +kernel
theorem dX1_error_10 : decode cX1_error 10 = .ok (.iaload, 1) := by decide +kernel
theorem dX1_error_11 : decode cX1_error 11 = .ok (.imul, 1) := by decide +kernel
theorem dX1_error_12 : decode cX1_error 12 = .ok (.aload_n 0, 1) := by decide +kernel
theorem dX1_error_13 : decode cX1_error 13 = .ok (.aload_n 0, 1) := by decide +kernel
theorem dX1_error_14 : decode cX1_error 14 = .ok (.getfield 64, 3) := by decide +kernel
theorem dX1_error_17 : decode cX1_error 17 = .ok (.invokevirtual 75, 3) := by decide +kernel
theorem dX1_error_20 : decode cX1_error 20 = .ok (.isub, 1) := by decide +kernel
theorem dX1_error_21 : decode cX1_error 21 = .ok (.ireturn, 1) := by decide +kernel
set_option maxRecDepth 20000 in
theorem ggX1_best_X1_error : GoodIn wsX1_best wsX1_error := goodIn_r _ [10, 11, 12, 13, 14, 15, 9, 16, 17, 18, 19, 20, 21, 22, 23, 24, 25, 26, 27, 28, 29, 30, 31, 32, 33, 34, 35, 36, 37, 38, 39, 40, 41, 42, 43, 44, 45, 46, 47] (by decide +kernel) (by decide +kernel)
set_option maxRecDepth 20000 in
theorem gX1_best_X1_error : GoodIn wsX1_best (wsV RX1 78 RX1 yX1_error wsX1_error) := goodIn_app (goodIn_of _ (by decide +kernel)) ggX1_best_X1_error
theorem dX1_best_0 : decode cX1_best 0 = .ok (.iconst (-1), 1) := by decide +kernel
theorem dX1_best_1 : decode cX1_best 1 = .ok (.istore_n 1, 1) := by decide +kernel
theorem dX1_best_2 : decode cX1_best 2 = .ok (.iconst 0, 1) := by decide +kernel
theorem dX1_best_3 : decode cX1_best 3 = .ok (.istore_n 2, 1) := by decide +kernel
theorem dX1_best_4 : decode cX1_best 4 = .ok (.iload_n 2, 1) := by decide +kernel
theorem dX1_best_5 : decode cX1_best 5 = .ok (.aload_n 0, 1) := by decide +kernel
theorem dX1_best_6 : decode cX1_best 6 = .ok (.getfield 51, 3) := by decide +kernel
theorem dX1_best_9 : decode cX1_best 9 = .ok (.if_icmp .ge 35, 3) := by decide +kernel
theorem dX1_best_12 : decode cX1_best 12 = .ok (.iload_n 1, 1) := by decide +kernel
theorem dX1_best_13 : decode cX1_best 13 = .ok (.iconst (-1), 1) := by decide +kernel
theorem dX1_best_14 : decode cX1_best 14 = .ok (.if_icmp .eq 22, 3) := by decide +kernel
theorem dX1_best_17 : decode cX1_best 17 = .ok (.aload_n 0, 1) := by decide +kernel
theorem dX1_best_18 : decode cX1_best 18 = .ok (.iload_n 2, 1) := by decide +kernel
theorem dX1_best_19 : decode cX1_best 19 = .ok (.invokevirtual 78, 3) := by decide +kernel
theorem dX1_best_22 : decode cX1_best 22 = .ok (.invokestatic 81, 3) := by decide +kernel
theorem dX1_best_25 : decode cX1_best 25 = .ok (.aload_n 0, 1) := by decide +kernel
theorem dX1_best_26 : decode cX1_best 26 = .ok (.iload_n 1, 1) := by decide +kernel
theorem dX1_best_27 : decode cX1_best 27 = .ok (.invokevirtual 78, 3) := by decide +kernel
theorem dX1_best_30 : decode cX1_best 30 = .ok (.invokestatic 81, 3) := by decide +kernel
theorem dX1_best_33 : decode cX1_best 33 = .ok (.if_icmp .ge 5, 3) := by decide +kernel
theorem dX1_best_36 : decode cX1_best 36 = .ok (.iload_n 2, 1) := by decide +kernel
theorem dX1_best_37 : decode cX1_best 37 = .ok (.istore_n 1, 1) := by decide +kernel
theorem dX1_best_38 : decode cX1_best 38 = .ok (.iinc 2 1, 3) := by decide +kernel
theorem dX1_best_41 : decode cX1_best 41 = .ok (.goto (-37), 3) := by decide +kernel
theorem dX1_best_44 : decode cX1_best 44 = .ok (.iload_n 1, 1) := by decide +kernel
theorem dX1_best_45 : decode cX1_best 45 = .ok (.ireturn, 1) := by decide +kernel
set_option maxRecDepth 20000 in
theorem ggX1_poured_X1_isAwake : GoodIn wsX1_poured wsX1_isAwake := goodIn_r _ [11, 12, 19, 20, 21, 22, 23, 24, 25, 26, 27, 28, 29, 30, 31, 32, 33, 34, 35] (by decide +kernel) (by decide +kernel)
set_option maxRecDepth 20000 in
theorem gX1_poured_X1_isAwake : GoodIn wsX1_poured (wsV RX1 54 RX1 yX1_isAwake wsX1_isAwake) := goodIn_app (goodIn_of _ (by decide +kernel)) ggX1_poured_X1_isAwake
set_option maxRecDepth 20000 in
theorem ggX1_poured_X1_ticks : GoodIn wsX1_poured wsX1_ticks := goodIn_r _ [16, 17, 18, 7, 8, 9, 10, 11, 12, 19, 20, 21, 22, 23, 24, 25, 26, 27, 28, 29, 30, 31, 32, 33, 34, 35] (by decide +kernel) (by decide +kernel)
set_option maxRecDepth 20000 in
theorem gX1_poured_X1_ticks : GoodIn wsX1_poured (wsV RX1 67 RX1 yX1_ticks wsX1_ticks) := goodIn_app (goodIn_of _ (by decide +kernel)) ggX1_poured_X1_ticks
theorem dX1_poured_0 : decode cX1_poured 0 = .ok (.aload_n 0, 1) := by decide +kernel
theorem dX1_poured_1 : decode cX1_poured 1 = .ok (.iload_n 1, 1) := by decide +kernel
theorem dX1_poured_2 : decode cX1_poured 2 = .ok (.invokevirtual 54, 3) := by decide +kernel
theorem dX1_poured_5 : decode cX1_poured 5 = .ok (.ifCond .ne 5, 3) := by decide +kernel
theorem dX1_poured_8 : decode cX1_poured 8 = .ok (.iload_n 2, 1) := by decide +kernel
theorem dX1_poured_9 : decode cX1_poured 9 = .ok (.ireturn, 1) := by decide +kernel
theorem dX1_poured_10 : decode cX1_poured 10 = .ok (.iload_n 2, 1) := by decide +kernel
theorem dX1_poured_11 : decode cX1_poured 11 = .ok (.iload_n 3, 1) := by decide +kernel
theorem dX1_poured_12 : decode cX1_poured 12 = .ok (.iadd, 1) := by decide +kernel
theorem dX1_poured_13 : decode cX1_poured 13 = .ok (.istore 4, 2) := by decide +kernel
theorem dX1_poured_15 : decode cX1_poured 15 = .ok (.iconst 0, 1) := by decide +kernel
theorem dX1_poured_16 : decode cX1_poured 16 = .ok (.istore 5, 2) := by decide +kernel
theorem dX1_poured_18 : decode cX1_poured 18 = .ok (.iload 5, 2) := by decide +kernel
theorem dX1_poured_20 : decode cX1_poured 20 = .ok (.aload_n 0, 1) := by decide +kernel
theorem dX1_poured_21 : decode cX1_poured 21 = .ok (.getfield 51, 3) := by decide +kernel
theorem dX1_poured_24 : decode cX1_poured 24 = .ok (.if_icmp .ge 33, 3) := by decide +kernel
theorem dX1_poured_27 : decode cX1_poured 27 = .ok (.aload_n 0, 1) := by decide +kernel
theorem dX1_poured_28 : decode cX1_poured 28 = .ok (.iload 5, 2) := by decide +kernel
theorem dX1_poured_30 : decode cX1_poured 30 = .ok (.iload_n 1, 1) := by decide +kernel
theorem dX1_poured_31 : decode cX1_poured 31 = .ok (.invokevirtual 67, 3) := by decide +kernel
theorem dX1_poured_34 : decode cX1_poured 34 = .ok (.ifCond .eq 17, 3) := by decide +kernel
theorem dX1_poured_37 : decode cX1_poured 37 = .ok (.iload 4, 2) := by decide +kernel
theorem dX1_poured_39 : decode cX1_poured 39 = .ok (.iload 4, 2) := by decide +kernel
theorem dX1_poured_41 : decode cX1_poured 41 = .ok (.aload_n 0, 1) := by decide +kernel
theorem dX1_poured_42 : decode cX1_poured 42 = .ok (.getfield 35, 3) := by decide +kernel
theorem dX1_poured_45 : decode cX1_poured 45 = .ok (.invokestatic 84, 3) := by decide +kernel
theorem dX1_poured_48 : decode cX1_poured 48 = .ok (.isub, 1) := by decide +kernel
theorem dX1_poured_49 : decode cX1_poured 49 = .ok (.istore 4, 2) := by decide +kernel
theorem dX1_poured_51 : decode cX1_poured 51 = .ok (.iinc 5 1, 3) := by decide +kernel
theorem dX1_poured_54 : decode cX1_poured 54 = .ok (.goto (-36), 3) := by decide +kernel
theorem dX1_poured_57 : decode cX1_poured 57 = .ok (.iload 4, 2) := by decide +kernel
theorem dX1_poured_59 : decode cX1_poured 59 = .ok (.ireturn, 1) := by decide +kernel
set_option maxRecDepth 20000 in
theorem ggX1_go_X1_poured : GoodIn wsX1_go wsX1_poured := goodIn_r _ [14, 15, 16, 5, 6, 7, 8, 17, 18, 19, 13, 20, 21, 22, 23, 24, 25, 26, 27, 28, 29, 30, 31, 32, 33, 34, 35, 36, 37, 38, 39, 40, 41, 42, 43, 44] (by decide +kernel) (by decide +kernel)
set_option maxRecDepth 20000 in
theorem gX1_go_X1_poured : GoodIn wsX1_go (wsV RX1 90 RX1 yX1_poured wsX1_poured) := goodIn_app (goodIn_of _ (by decide +kernel)) ggX1_go_X1_poured
theorem dX1_go_0 : decode cX1_go 0 = .ok (.iconst 0, 1) := by decide +kernel
theorem dX1_go_1 : decode cX1_go 1 = .ok (.istore_n 2, 1) := by decide +kernel
theorem dX1_go_2 : decode cX1_go 2 = .ok (.iconst 0, 1) := by decide +kernel
theorem dX1_go_3 : decode cX1_go 3 = .ok (.istore_n 3, 1) := by decide +kernel
theorem dX1_go_4 : decode cX1_go 4 = .ok (.iload_n 3, 1) := by decide +kernel
theorem dX1_go_5 : decode cX1_go 5 = .ok (.iload_n 1, 1) := by decide +kernel
theorem dX1_go_6 : decode cX1_go 6 = .ok (.if_icmp .ge 60, 3) := by decide +kernel
theorem dX1_go_9 : decode cX1_go 9 = .ok (.aload_n 0, 1) := by decide +kernel
theorem dX1_go_10 : decode cX1_go 10 = .ok (.aload_n 0, 1) := by decide +kernel
theorem dX1_go_11 : decode cX1_go 11 = .ok (.getfield 64, 3) := by decide +kernel
theorem dX1_go_14 : decode cX1_go 14 = .ok (.aload_n 0, 1) := by decide +kernel
theorem dX1_go_15 : decode cX1_go 15 = .ok (.getfield 87, 3) := by decide +kernel
theorem dX1_go_18 : decode cX1_go 18 = .ok (.aload_n 0, 1) := by decide +kernel
theorem dX1_go_19 : decode cX1_go 19 = .ok (.getfield 32, 3) := by decide +kernel
theorem dX1_go_22 : decode cX1_go 22 = .ok (.invokevirtual 90, 3) := by decide +kernel
theorem dX1_go_25 : decode cX1_go 25 = .ok (.istore 4, 2) := by decide +kernel
theorem dX1_go_27 : decode cX1_go 27 = .ok (.aload_n 0, 1) := by decide +kernel
theorem dX1_go_28 : decode cX1_go 28 = .ok (.aload_n 0, 1) := by decide +kernel
theorem dX1_go_29 : decode cX1_go 29 = .ok (.getfield 28, 3) := by decide +kernel
theorem dX1_go_32 : decode cX1_go 32 = .ok (.iload 4, 2) := by decide +kernel
theorem dX1_go_34 : decode cX1_go 34 = .ok (.invokestatic 84, 3) := by decide +kernel
theorem dX1_go_37 : decode cX1_go 37 = .ok (.putfield 87, 3) := by decide +kernel
theorem dX1_go_40 : decode cX1_go 40 = .ok (.iload_n 2, 1) := by decide +kernel
theorem dX1_go_41 : decode cX1_go 41 = .ok (.iload 4, 2) := by decide +kernel
theorem dX1_go_43 : decode cX1_go 43 = .ok (.aload_n 0, 1) := by decide +kernel
theorem dX1_go_44 : decode cX1_go 44 = .ok (.getfield 87, 3) := by decide +kernel
theorem dX1_go_47 : decode cX1_go 47 = .ok (.isub, 1) := by decide +kernel
theorem dX1_go_48 : decode cX1_go 48 = .ok (.iadd, 1) := by decide +kernel
theorem dX1_go_49 : decode cX1_go 49 = .ok (.istore_n 2, 1) := by decide +kernel
theorem dX1_go_50 : decode cX1_go 50 = .ok (.aload_n 0, 1) := by decide +kernel
theorem dX1_go_51 : decode cX1_go 51 = .ok (.dup, 1) := by decide +kernel
theorem dX1_go_52 : decode cX1_go 52 = .ok (.getfield 64, 3) := by decide +kernel
theorem dX1_go_55 : decode cX1_go 55 = .ok (.iconst 1, 1) := by decide +kernel
theorem dX1_go_56 : decode cX1_go 56 = .ok (.iadd, 1) := by decide +kernel
theorem dX1_go_57 : decode cX1_go 57 = .ok (.putfield 64, 3) := by decide +kernel
theorem dX1_go_60 : decode cX1_go 60 = .ok (.iinc 3 1, 3) := by decide +kernel
theorem dX1_go_63 : decode cX1_go 63 = .ok (.goto (-59), 3) := by decide +kernel
theorem dX1_go_66 : decode cX1_go 66 = .ok (.aload_n 0, 1) := by decide +kernel
theorem dX1_go_67 : decode cX1_go 67 = .ok (.dup, 1) := by decide +kernel
theorem dX1_go_68 : decode cX1_go 68 = .ok (.getfield 94, 3) := by decide +kernel
theorem dX1_go_71 : decode cX1_go 71 = .ok (.iload_n 2, 1) := by decide +kernel
theorem dX1_go_72 : decode cX1_go 72 = .ok (.iadd, 1) := by decide +kernel
theorem dX1_go_73 : decode cX1_go 73 = .ok (.putfield 94, 3) := by decide +kernel
theorem dX1_go_76 : decode cX1_go 76 = .ok (.iload_n 2, 1) := by decide +kernel
theorem dX1_go_77 : decode cX1_go 77 = .ok (.ireturn, 1) := by decide +kernel
set_option maxRecDepth 20000 in
theorem ggX1_spill_X1_poured : GoodIn wsX1_spill wsX1_poured := goodIn_r _ [8, 9, 10, 11, 12, 13, 14, 15, 16, 17, 7, 18, 19, 20, 21, 22, 23, 24, 25, 26, 27, 28, 29, 30, 31, 32, 33, 34, 35, 36, 37, 38, 39, 40, 41, 42] (by decide +kernel) (by decide +kernel)
set_option maxRecDepth 20000 in
theorem gX1_spill_X1_poured : GoodIn wsX1_spill (wsV RX1 90 RX1 yX1_poured wsX1_poured) := goodIn_app (goodIn_of _ (by decide +kernel)) ggX1_spill_X1_poured
theorem dX1_spill_0 : decode cX1_spill 0 = .ok (.aload_n 0, 1) := by decide +kernel
theorem dX1_spill_1 : decode cX1_spill 1 = .ok (.getfield 87, 3) := by decide +kernel
theorem dX1_spill_4 : decode cX1_spill 4 = .ok (.istore_n 2, 1) := by decide +kernel
theorem dX1_spill_5 : decode cX1_spill 5 = .ok (.aload_n 0, 1) := by decide +kernel
theorem dX1_spill_6 : decode cX1_spill 6 = .ok (.getfield 64, 3) := by decide +kernel
theorem dX1_spill_9 : decode cX1_spill 9 = .ok (.istore_n 3, 1) := by decide +kernel
theorem dX1_spill_10 : decode cX1_spill 10 = .ok (.iload_n 3, 1) := by decide +kernel
theorem dX1_spill_11 : decode cX1_spill 11 = .ok (.sipush 360, 3) := by decide +kernel
theorem dX1_spill_14 : decode cX1_spill 14 = .ok (.if_icmp .ge 27, 3) := by decide +kernel
theorem dX1_spill_17 : decode cX1_spill 17 = .ok (.aload_n 0, 1) := by decide +kernel
theorem dX1_spill_18 : decode cX1_spill 18 = .ok (.iload_n 3, 1) := by decide +kernel
theorem dX1_spill_19 : decode cX1_spill 19 = .ok (.iload_n 2, 1) := by decide +kernel
theorem dX1_spill_20 : decode cX1_spill 20 = .ok (.iload_n 1, 1) := by decide +kernel
theorem dX1_spill_21 : decode cX1_spill 21 = .ok (.invokevirtual 90, 3) := by decide +kernel
theorem dX1_spill_24 : decode cX1_spill 24 = .ok (.istore_n 2, 1) := by decide +kernel
theorem dX1_spill_25 : decode cX1_spill 25 = .ok (.iload_n 2, 1) := by decide +kernel
theorem dX1_spill_26 : decode cX1_spill 26 = .ok (.aload_n 0, 1) := by decide +kernel
theorem dX1_spill_27 : decode cX1_spill 27 = .ok (.getfield 28, 3) := by decide +kernel
theorem dX1_spill_30 : decode cX1_spill 30 = .ok (.if_icmp .le 5, 3) := by decide +kernel
theorem dX1_spill_33 : decode cX1_spill 33 = .ok (.iload_n 3, 1) := by decide +kernel
theorem dX1_spill_34 : decode cX1_spill 34 = .ok (.ireturn, 1) := by decide +kernel
theorem dX1_spill_35 : decode cX1_spill 35 = .ok (.iinc 3 1, 3) := by decide +kernel
theorem dX1_spill_38 : decode cX1_spill 38 = .ok (.goto (-28), 3) := by decide +kernel
theorem dX1_spill_41 : decode cX1_spill 41 = .ok (.iconst (-1), 1) := by decide +kernel
theorem dX1_spill_42 : decode cX1_spill 42 = .ok (.ireturn, 1) := by decide +kernel
set_option maxRecDepth 20000 in
theorem ggX1_atEnd_X1_poured : GoodIn wsX1_atEnd wsX1_poured := goodIn_r _ [14, 15, 16, 6, 7, 8, 9, 17, 18, 19, 13, 20, 21, 22, 23, 24, 25, 26, 27, 28, 29, 30, 31, 32, 33, 34, 35, 36, 37, 38, 39, 40, 41, 42, 43, 44] (by decide +kernel) (by decide +kernel)
set_option maxRecDepth 20000 in
theorem gX1_atEnd_X1_poured : GoodIn wsX1_atEnd (wsV RX1 90 RX1 yX1_poured wsX1_poured) := goodIn_app (goodIn_of _ (by decide +kernel)) ggX1_atEnd_X1_poured
theorem dX1_atEnd_0 : decode cX1_atEnd 0 = .ok (.aload_n 0, 1) := by decide +kernel
theorem dX1_atEnd_1 : decode cX1_atEnd 1 = .ok (.getfield 87, 3) := by decide +kernel
theorem dX1_atEnd_4 : decode cX1_atEnd 4 = .ok (.istore_n 1, 1) := by decide +kernel
theorem dX1_atEnd_5 : decode cX1_atEnd 5 = .ok (.aload_n 0, 1) := by decide +kernel
theorem dX1_atEnd_6 : decode cX1_atEnd 6 = .ok (.getfield 94, 3) := by decide +kernel
theorem dX1_atEnd_9 : decode cX1_atEnd 9 = .ok (.istore_n 2, 1) := by decide +kernel
theorem dX1_atEnd_10 : decode cX1_atEnd 10 = .ok (.aload_n 0, 1) := by decide +kernel
theorem dX1_atEnd_11 : decode cX1_atEnd 11 = .ok (.getfield 64, 3) := by decide +kernel
theorem dX1_atEnd_14 : decode cX1_atEnd 14 = .ok (.istore_n 3, 1) := by decide +kernel
theorem dX1_atEnd_15 : decode cX1_atEnd 15 = .ok (.iload_n 3, 1) := by decide +kernel
theorem dX1_atEnd_16 : decode cX1_atEnd 16 = .ok (.sipush 360, 3) := by decide +kernel
theorem dX1_atEnd_19 : decode cX1_atEnd 19 = .ok (.if_icmp .ge 38, 3) := by decide +kernel
theorem dX1_atEnd_22 : decode cX1_atEnd 22 = .ok (.aload_n 0, 1) := by decide +kernel
theorem dX1_atEnd_23 : decode cX1_atEnd 23 = .ok (.iload_n 3, 1) := by decide +kernel
theorem dX1_atEnd_24 : decode cX1_atEnd 24 = .ok (.iload_n 1, 1) := by decide +kernel
theorem dX1_atEnd_25 : decode cX1_atEnd 25 = .ok (.aload_n 0, 1) := by decide +kernel
theorem dX1_atEnd_26 : decode cX1_atEnd 26 = .ok (.getfield 32, 3) := by decide +kernel
theorem dX1_atEnd_29 : decode cX1_atEnd 29 = .ok (.invokevirtual 90, 3) := by decide +kernel
theorem dX1_atEnd_32 : decode cX1_atEnd 32 = .ok (.istore 4, 2) := by decide +kernel
theorem dX1_atEnd_34 : decode cX1_atEnd 34 = .ok (.aload_n 0, 1) := by decide +kernel
theorem dX1_atEnd_35 : decode cX1_atEnd 35 = .ok (.getfield 28, 3) := by decide +kernel
theorem dX1_atEnd_38 : decode cX1_atEnd 38 = .ok (.iload 4, 2) := by decide +kernel
theorem dX1_atEnd_40 : decode cX1_atEnd 40 = .ok (.invokestatic 84, 3) := by decide +kernel
theorem dX1_atEnd_43 : decode cX1_atEnd 43 = .ok (.istore_n 1, 1) := by decide +kernel
theorem dX1_atEnd_44 : decode cX1_atEnd 44 = .ok (.iload_n 2, 1) := by decide +kernel
theorem dX1_atEnd_45 : decode cX1_atEnd 45 = .ok (.iload 4, 2) := by decide +kernel
theorem dX1_atEnd_47 : decode cX1_atEnd 47 = .ok (.iload_n 1, 1) := by decide +kernel
theorem dX1_atEnd_48 : decode cX1_atEnd 48 = .ok (.isub, 1) := by decide +kernel
theorem dX1_atEnd_49 : decode cX1_atEnd 49 = .ok (.iadd, 1) := by decide +kernel
theorem dX1_atEnd_50 : decode cX1_atEnd 50 = .ok (.istore_n 2, 1) := by decide +kernel
theorem dX1_atEnd_51 : decode cX1_atEnd 51 = .ok (.iinc 3 1, 3) := by decide +kernel
theorem dX1_atEnd_54 : decode cX1_atEnd 54 = .ok (.goto (-39), 3) := by decide +kernel
theorem dX1_atEnd_57 : decode cX1_atEnd 57 = .ok (.iload_n 2, 1) := by decide +kernel
theorem dX1_atEnd_58 : decode cX1_atEnd 58 = .ok (.ireturn, 1) := by decide +kernel
set_option maxRecDepth 20000 in
theorem ggX1_safest_X1_spill : GoodIn wsX1_safest wsX1_spill := goodIn_r _ [5, 6, 7, 8, 9, 10, 11, 4, 12, 13, 14, 15, 16, 17, 18, 19, 20, 21, 22, 23, 24, 25, 26, 27, 28, 29, 30, 31, 32, 33, 34, 35, 36, 37, 38, 39, 40, 41, 42, 43, 44, 45, 46] (by decide +kernel) (by decide +kernel)
set_option maxRecDepth 20000 in
theorem gX1_safest_X1_spill : GoodIn wsX1_safest (wsV RX1 97 RX1 yX1_spill wsX1_spill) := goodIn_app (goodIn_of _ (by decide +kernel)) ggX1_safest_X1_spill
theorem dX1_safest_0 : decode cX1_safest 0 = .ok (.bipush 9, 2) := by decide +kernel
theorem dX1_safest_2 : decode cX1_safest 2 = .ok (.istore_n 1, 1) := by decide +kernel
theorem dX1_safest_3 : decode cX1_safest 3 = .ok (.iload_n 1, 1) := by decide +kernel
theorem dX1_safest_4 : decode cX1_safest 4 = .ok (.ifCond .le 18, 3) := by decide +kernel
theorem dX1_safest_7 : decode cX1_safest 7 = .ok (.aload_n 0, 1) := by decide +kernel
theorem dX1_safest_8 : decode cX1_safest 8 = .ok (.iload_n 1, 1) := by decide +kernel
theorem dX1_safest_9 : decode cX1_safest 9 = .ok (.invokevirtual 97, 3) := by decide +kernel
theorem dX1_safest_12 : decode cX1_safest 12 = .ok (.iconst (-1), 1) := by decide +kernel
theorem dX1_safest_13 : decode cX1_safest 13 = .ok (.if_icmp .eq 9, 3) := by decide +kernel
theorem dX1_safest_16 : decode cX1_safest 16 = .ok (.iinc 1 (-1), 3) := by decide +kernel
theorem dX1_safest_19 : decode cX1_safest 19 = .ok (.goto (-16), 3) := by decide +kernel
theorem dX1_safest_22 : decode cX1_safest 22 = .ok (.iload_n 1, 1) := by decide +kernel
theorem dX1_safest_23 : decode cX1_safest 23 = .ok (.ireturn, 1) := by decide +kernel
set_option maxRecDepth 20000 in
theorem ggX1_addStick_X1_isIn : GoodIn wsX1_addStick wsX1_isIn := goodIn_r _ [7] (by decide +kernel) (by decide +kernel)
set_option maxRecDepth 20000 in
theorem gX1_addStick_X1_isIn : GoodIn wsX1_addStick (va_wsS RX1 44 yX1_isIn wsX1_isIn) := goodIn_app (goodIn_of _ (by decide +kernel)) ggX1_addStick_X1_isIn
set_option maxRecDepth 20000 in
theorem ggX1_addStick_X1_no : GoodIn wsX1_addStick wsX1_no := goodIn_r _ [11, 1, 12, 13, 14, 15, 16, 17, 18, 19, 20, 21, 22, 23, 24, 25, 26, 27, 28] (by decide +kernel) (by decide +kernel)
set_option maxRecDepth 20000 in
theorem gX1_addStick_X1_no : GoodIn wsX1_addStick (wsV RX1 100 RX1 yX1_no wsX1_no) := goodIn_app (goodIn_of _ (by decide +kernel)) ggX1_addStick_X1_no
theorem dX1_addStick_0 : decode cX1_addStick 0 = .ok (.aload_n 0, 1) := by decide +kernel
theorem dX1_addStick_1 : decode cX1_addStick 1 = .ok (.iconst 0, 1) := by decide +kernel
theorem dX1_addStick_2 : decode cX1_addStick 2 = .ok (.putfield 38, 3) := by decide +kernel
theorem dX1_addStick_5 : decode cX1_addStick 5 = .ok (.iload_n 1, 1) := by decide +kernel
theorem dX1_addStick_6 : decode cX1_addStick 6 = .ok (.iconst 1, 1) := by decide +kernel
theorem dX1_addStick_7 : decode cX1_addStick 7 = .ok (.bipush 30, 2) := by decide +kernel
theorem dX1_addStick_9 : decode cX1_addStick 9 = .ok (.invokestatic 44, 3) := by decide +kernel
theorem dX1_addStick_12 : decode cX1_addStick 12 = .ok (.ifCond .ne 9, 3) := by decide +kernel
theorem dX1_addStick_15 : decode cX1_addStick 15 = .ok (.aload_n 0, 1) := by decide +kernel
theorem dX1_addStick_16 : decode cX1_addStick 16 = .ok (.iconst 1, 1) := by decide +kernel
theorem dX1_addStick_17 : decode cX1_addStick 17 = .ok (.invokevirtual 100, 3) := by decide +kernel
theorem dX1_addStick_20 : decode cX1_addStick 20 = .ok (.ireturn, 1) := by decide +kernel
theorem dX1_addStick_21 : decode cX1_addStick 21 = .ok (.aload_n 0, 1) := by decide +kernel
theorem dX1_addStick_22 : decode cX1_addStick 22 = .ok (.getfield 41, 3) := by decide +kernel
theorem dX1_addStick_25 : decode cX1_addStick 25 = .ok (.iconst 4, 1) := by decide +kernel
theorem dX1_addStick_26 : decode cX1_addStick 26 = .ok (.if_icmp .ne 9, 3) := by decide +kernel
theorem dX1_addStick_29 : decode cX1_addStick 29 = .ok (.aload_n 0, 1) := by decide +kernel
theorem dX1_addStick_30 : decode cX1_addStick 30 = .ok (.iconst 2, 1) := by decide +kernel
theorem dX1_addStick_31 : decode cX1_addStick 31 = .ok (.invokevirtual 100, 3) := by decide +kernel
theorem dX1_addStick_34 : decode cX1_addStick 34 = .ok (.ireturn, 1) := by decide +kernel
theorem dX1_addStick_35 : decode cX1_addStick 35 = .ok (.aload_n 0, 1) := by decide +kernel
theorem dX1_addStick_36 : decode cX1_addStick 36 = .ok (.getfield 9, 3) := by decide +kernel
theorem dX1_addStick_39 : decode cX1_addStick 39 = .ok (.aload_n 0, 1) := by decide +kernel
theorem dX1_addStick_40 : decode cX1_addStick 40 = .ok (.getfield 41, 3) := by decide +kernel
theorem dX1_addStick_43 : decode cX1_addStick 43 = .ok (.iload_n 1, 1) := by decide +kernel
theorem dX1_addStick_44 : decode cX1_addStick 44 = .ok (.iastore, 1) := by decide +kernel
theorem dX1_addStick_45 : decode cX1_addStick 45 = .ok (.aload_n 0, 1) := by decide +kernel
theorem dX1_addStick_46 : decode cX1_addStick 46 = .ok (.dup, 1) := by decide +kernel
theorem dX1_addStick_47 : decode cX1_addStick 47 = .ok (.getfield 41, 3) := by decide +kernel
theorem dX1_addStick_50 : decode cX1_addStick 50 = .ok (.iconst 1, 1) := by decide +kernel
theorem dX1_addStick_51 : decode cX1_addStick 51 = .ok (.iadd, 1) := by decide +kernel
theorem dX1_addStick_52 : decode cX1_addStick 52 = .ok (.putfield 41, 3) := by decide +kernel
theorem dX1_addStick_55 : decode cX1_addStick 55 = .ok (.aload_n 0, 1) := by decide +kernel
theorem dX1_addStick_56 : decode cX1_addStick 56 = .ok (.getfield 41, 3) := by decide +kernel
theorem dX1_addStick_59 : decode cX1_addStick 59 = .ok (.iconst 1, 1) := by decide +kernel
theorem dX1_addStick_60 : decode cX1_addStick 60 = .ok (.isub, 1) := by decide +kernel
theorem dX1_addStick_61 : decode cX1_addStick 61 = .ok (.ireturn, 1) := by decide +kernel
set_option maxRecDepth 20000 in
theorem ggX1_addNap_X1_no : GoodIn wsX1_addNap wsX1_no := goodIn_r _ [9, 1, 15, 16, 17, 18, 19, 20, 21, 22, 23, 24, 25, 26, 27, 28, 29, 30, 31] (by decide +kernel) (by decide +kernel)
set_option maxRecDepth 20000 in
theorem gX1_addNap_X1_no : GoodIn wsX1_addNap (wsV RX1 100 RX1 yX1_no wsX1_no) := goodIn_app (goodIn_of _ (by decide +kernel)) ggX1_addNap_X1_no
set_option maxRecDepth 20000 in
theorem ggX1_addNap_X1_lay : GoodIn wsX1_addNap wsX1_lay := goodIn_r _ [13, 3, 4, 14, 15, 16, 17, 18, 19, 20, 21, 22, 23, 24, 25, 26, 27, 28, 29, 30, 31] (by decide +kernel) (by decide +kernel)
set_option maxRecDepth 20000 in
theorem gX1_addNap_X1_lay : GoodIn wsX1_addNap (wsV RX1 103 RX1 yX1_lay wsX1_lay) := goodIn_app (goodIn_of _ (by decide +kernel)) ggX1_addNap_X1_lay
theorem dX1_addNap_0 : decode cX1_addNap 0 = .ok (.aload_n 0, 1) := by decide +kernel
theorem dX1_addNap_1 : decode cX1_addNap 1 = .ok (.iconst 0, 1) := by decide +kernel
theorem dX1_addNap_2 : decode cX1_addNap 2 = .ok (.putfield 38, 3) := by decide +kernel
theorem dX1_addNap_5 : decode cX1_addNap 5 = .ok (.iload_n 1, 1) := by decide +kernel
theorem dX1_addNap_6 : decode cX1_addNap 6 = .ok (.ifCond .lt 15, 3) := by decide +kernel
theorem dX1_addNap_9 : decode cX1_addNap 9 = .ok (.iload_n 2, 1) := by decide +kernel
theorem dX1_addNap_10 : decode cX1_addNap 10 = .ok (.sipush 360, 3) := by decide +kernel
theorem dX1_addNap_13 : decode cX1_addNap 13 = .ok (.if_icmp .gt 8, 3) := by decide +kernel
theorem dX1_addNap_16 : decode cX1_addNap 16 = .ok (.iload_n 2, 1) := by decide +kernel
theorem dX1_addNap_17 : decode cX1_addNap 17 = .ok (.iload_n 1, 1) := by decide +kernel
theorem dX1_addNap_18 : decode cX1_addNap 18 = .ok (.if_icmp .gt 9, 3) := by decide +kernel
theorem dX1_addNap_21 : decode cX1_addNap 21 = .ok (.aload_n 0, 1) := by decide +kernel
theorem dX1_addNap_22 : decode cX1_addNap 22 = .ok (.iconst 1, 1) := by decide +kernel
theorem dX1_addNap_23 : decode cX1_addNap 23 = .ok (.invokevirtual 100, 3) := by decide +kernel
theorem dX1_addNap_26 : decode cX1_addNap 26 = .ok (.ireturn, 1) := by decide +kernel
theorem dX1_addNap_27 : decode cX1_addNap 27 = .ok (.aload_n 0, 1) := by decide +kernel
theorem dX1_addNap_28 : decode cX1_addNap 28 = .ok (.getfield 48, 3) := by decide +kernel
theorem dX1_addNap_31 : decode cX1_addNap 31 = .ok (.bipush 8, 2) := by decide +kernel
theorem dX1_addNap_33 : decode cX1_addNap 33 = .ok (.if_icmp .ne 9, 3) := by decide +kernel
theorem dX1_addNap_36 : decode cX1_addNap 36 = .ok (.aload_n 0, 1) := by decide +kernel
theorem dX1_addNap_37 : decode cX1_addNap 37 = .ok (.iconst 2, 1) := by decide +kernel
theorem dX1_addNap_38 : decode cX1_addNap 38 = .ok (.invokevirtual 100, 3) := by decide +kernel
theorem dX1_addNap_41 : decode cX1_addNap 41 = .ok (.ireturn, 1) := by decide +kernel
theorem dX1_addNap_42 : decode cX1_addNap 42 = .ok (.aload_n 0, 1) := by decide +kernel
theorem dX1_addNap_43 : decode cX1_addNap 43 = .ok (.getfield 13, 3) := by decide +kernel
theorem dX1_addNap_46 : decode cX1_addNap 46 = .ok (.aload_n 0, 1) := by decide +kernel
theorem dX1_addNap_47 : decode cX1_addNap 47 = .ok (.getfield 48, 3) := by decide +kernel
theorem dX1_addNap_50 : decode cX1_addNap 50 = .ok (.iload_n 1, 1) := by decide +kernel
theorem dX1_addNap_51 : decode cX1_addNap 51 = .ok (.iastore, 1) := by decide +kernel
theorem dX1_addNap_52 : decode cX1_addNap 52 = .ok (.aload_n 0, 1) := by decide +kernel
theorem dX1_addNap_53 : decode cX1_addNap 53 = .ok (.getfield 16, 3) := by decide +kernel
theorem dX1_addNap_56 : decode cX1_addNap 56 = .ok (.aload_n 0, 1) := by decide +kernel
theorem dX1_addNap_57 : decode cX1_addNap 57 = .ok (.getfield 48, 3) := by decide +kernel
theorem dX1_addNap_60 : decode cX1_addNap 60 = .ok (.iload_n 2, 1) := by decide +kernel
theorem dX1_addNap_61 : decode cX1_addNap 61 = .ok (.iastore, 1) := by decide +kernel
theorem dX1_addNap_62 : decode cX1_addNap 62 = .ok (.aload_n 0, 1) := by decide +kernel
theorem dX1_addNap_63 : decode cX1_addNap 63 = .ok (.aload_n 0, 1) := by decide +kernel
theorem dX1_addNap_64 : decode cX1_addNap 64 = .ok (.getfield 48, 3) := by decide +kernel
theorem dX1_addNap_67 : decode cX1_addNap 67 = .ok (.iconst 1, 1) := by decide +kernel
theorem dX1_addNap_68 : decode cX1_addNap 68 = .ok (.invokevirtual 103, 3) := by decide +kernel
theorem dX1_addNap_71 : decode cX1_addNap 71 = .ok (.aload_n 0, 1) := by decide +kernel
theorem dX1_addNap_72 : decode cX1_addNap 72 = .ok (.dup, 1) := by decide +kernel
theorem dX1_addNap_73 : decode cX1_addNap 73 = .ok (.getfield 48, 3) := by decide +kernel
theorem dX1_addNap_76 : decode cX1_addNap 76 = .ok (.iconst 1, 1) := by decide +kernel
theorem dX1_addNap_77 : decode cX1_addNap 77 = .ok (.iadd, 1) := by decide +kernel
theorem dX1_addNap_78 : decode cX1_addNap 78 = .ok (.putfield 48, 3) := by decide +kernel
theorem dX1_addNap_81 : decode cX1_addNap 81 = .ok (.aload_n 0, 1) := by decide +kernel
theorem dX1_addNap_82 : decode cX1_addNap 82 = .ok (.getfield 48, 3) := by decide +kernel
theorem dX1_addNap_85 : decode cX1_addNap 85 = .ok (.iconst 1, 1) := by decide +kernel
theorem dX1_addNap_86 : decode cX1_addNap 86 = .ok (.isub, 1) := by decide +kernel
theorem dX1_addNap_87 : decode cX1_addNap 87 = .ok (.ireturn, 1) := by decide +kernel
set_option maxRecDepth 20000 in
theorem ggX1_giveUp_X1_isNap : GoodIn wsX1_giveUp wsX1_isNap := goodIn_r _ [9, 2, 10, 11, 8, 12, 22, 23, 24, 25, 26, 27, 28, 29, 30, 31, 32, 33, 34, 35, 36, 37, 38] (by decide +kernel) (by decide +kernel)
set_option maxRecDepth 20000 in
theorem gX1_giveUp_X1_isNap : GoodIn wsX1_giveUp (wsV RX1 107 RX1 yX1_isNap wsX1_isNap) := goodIn_app (goodIn_of _ (by decide +kernel)) ggX1_giveUp_X1_isNap
set_option maxRecDepth 20000 in
theorem ggX1_giveUp_X1_no : GoodIn wsX1_giveUp wsX1_no := goodIn_r _ [16, 1, 22, 23, 24, 25, 26, 27, 28, 29, 30, 31, 32, 33, 34, 35, 36, 37, 38] (by decide +kernel) (by decide +kernel)
set_option maxRecDepth 20000 in
theorem gX1_giveUp_X1_no : GoodIn wsX1_giveUp (wsV RX1 100 RX1 yX1_no wsX1_no) := goodIn_app (goodIn_of _ (by decide +kernel)) ggX1_giveUp_X1_no
set_option maxRecDepth 20000 in
theorem ggX1_giveUp_X1_lay : GoodIn wsX1_giveUp wsX1_lay := goodIn_r _ [20, 3, 4, 21, 22, 23, 24, 25, 26, 27, 28, 29, 30, 31, 32, 33, 34, 35, 36, 37, 38] (by decide +kernel) (by decide +kernel)
set_option maxRecDepth 20000 in
theorem gX1_giveUp_X1_lay : GoodIn wsX1_giveUp (wsV RX1 103 RX1 yX1_lay wsX1_lay) := goodIn_app (goodIn_of _ (by decide +kernel)) ggX1_giveUp_X1_lay
theorem dX1_giveUp_0 : decode cX1_giveUp 0 = .ok (.aload_n 0, 1) := by decide +kernel
theorem dX1_giveUp_1 : decode cX1_giveUp 1 = .ok (.iconst 0, 1) := by decide +kernel
theorem dX1_giveUp_2 : decode cX1_giveUp 2 = .ok (.putfield 38, 3) := by decide +kernel
theorem dX1_giveUp_5 : decode cX1_giveUp 5 = .ok (.aload_n 0, 1) := by decide +kernel
theorem dX1_giveUp_6 : decode cX1_giveUp 6 = .ok (.iload_n 1, 1) := by decide +kernel
theorem dX1_giveUp_7 : decode cX1_giveUp 7 = .ok (.invokevirtual 107, 3) := by decide +kernel
theorem dX1_giveUp_10 : decode cX1_giveUp 10 = .ok (.ifCond .ne 9, 3) := by decide +kernel
theorem dX1_giveUp_13 : decode cX1_giveUp 13 = .ok (.aload_n 0, 1) := by decide +kernel
theorem dX1_giveUp_14 : decode cX1_giveUp 14 = .ok (.iconst 1, 1) := by decide +kernel
theorem dX1_giveUp_15 : decode cX1_giveUp 15 = .ok (.invokevirtual 100, 3) := by decide +kernel
theorem dX1_giveUp_18 : decode cX1_giveUp 18 = .ok (.ireturn, 1) := by decide +kernel
theorem dX1_giveUp_19 : decode cX1_giveUp 19 = .ok (.aload_n 0, 1) := by decide +kernel
theorem dX1_giveUp_20 : decode cX1_giveUp 20 = .ok (.iload_n 1, 1) := by decide +kernel
theorem dX1_giveUp_21 : decode cX1_giveUp 21 = .ok (.iconst (-1), 1) := by decide +kernel
theorem dX1_giveUp_22 : decode cX1_giveUp 22 = .ok (.invokevirtual 103, 3) := by decide +kernel
theorem dX1_giveUp_25 : decode cX1_giveUp 25 = .ok (.aload_n 0, 1) := by decide +kernel
theorem dX1_giveUp_26 : decode cX1_giveUp 26 = .ok (.dup, 1) := by decide +kernel
theorem dX1_giveUp_27 : decode cX1_giveUp 27 = .ok (.getfield 48, 3) := by decide +kernel
theorem dX1_giveUp_30 : decode cX1_giveUp 30 = .ok (.iconst 1, 1) := by decide +kernel
theorem dX1_giveUp_31 : decode cX1_giveUp 31 = .ok (.isub, 1) := by decide +kernel
theorem dX1_giveUp_32 : decode cX1_giveUp 32 = .ok (.putfield 48, 3) := by decide +kernel
theorem dX1_giveUp_35 : decode cX1_giveUp 35 = .ok (.iload_n 1, 1) := by decide +kernel
theorem dX1_giveUp_36 : decode cX1_giveUp 36 = .ok (.istore_n 2, 1) := by decide +kernel
theorem dX1_giveUp_37 : decode cX1_giveUp 37 = .ok (.iload_n 2, 1) := by decide +kernel
theorem dX1_giveUp_38 : decode cX1_giveUp 38 = .ok (.aload_n 0, 1) := by decide +kernel
theorem dX1_giveUp_39 : decode cX1_giveUp 39 = .ok (.getfield 48, 3) := by decide +kernel
theorem dX1_giveUp_42 : decode cX1_giveUp 42 = .ok (.if_icmp .ge 37, 3) := by decide +kernel
theorem dX1_giveUp_45 : decode cX1_giveUp 45 = .ok (.aload_n 0, 1) := by decide +kernel
theorem dX1_giveUp_46 : decode cX1_giveUp 46 = .ok (.getfield 13, 3) := by decide +kernel
theorem dX1_giveUp_49 : decode cX1_giveUp 49 = .ok (.iload_n 2, 1) := by decide +kernel
theorem dX1_giveUp_50 : decode cX1_giveUp 50 = .ok (.aload_n 0, 1) := by decide +kernel
theorem dX1_giveUp_51 : decode cX1_giveUp 51 = .ok (.getfield 13, 3) := by decide +kernel
theorem dX1_giveUp_54 : decode cX1_giveUp 54 = .ok (.iload_n 2, 1) := by decide +kernel
theorem dX1_giveUp_55 : decode cX1_giveUp 55 = .ok (.iconst 1, 1) := by decide +kernel
theorem dX1_giveUp_56 : decode cX1_giveUp 56 = .ok (.iadd, 1) := by decide +kernel
theorem dX1_giveUp_57 : decode cX1_giveUp 57 = .ok (.iaload, 1) := by decide +kernel
theorem dX1_giveUp_58 : decode cX1_giveUp 58 = .ok (.iastore, 1) := by decide +kernel
theorem dX1_giveUp_59 : decode cX1_giveUp 59 = .ok (.aload_n 0, 1) := by decide +kernel
theorem dX1_giveUp_60 : decode cX1_giveUp 60 = .ok (.getfield 16, 3) := by decide +kernel
theorem dX1_giveUp_63 : decode cX1_giveUp 63 = .ok (.iload_n 2, 1) := by decide +kernel
theorem dX1_giveUp_64 : decode cX1_giveUp 64 = .ok (.aload_n 0, 1) := by decide +kernel
theorem dX1_giveUp_65 : decode cX1_giveUp 65 = .ok (.getfield 16, 3) := by decide +kernel
theorem dX1_giveUp_68 : decode cX1_giveUp 68 = .ok (.iload_n 2, 1) := by decide +kernel
theorem dX1_giveUp_69 : decode cX1_giveUp 69 = .ok (.iconst 1, 1) := by decide +kernel
theorem dX1_giveUp_70 : decode cX1_giveUp 70 = .ok (.iadd, 1) := by decide +kernel
theorem dX1_giveUp_71 : decode cX1_giveUp 71 = .ok (.iaload, 1) := by decide +kernel
theorem dX1_giveUp_72 : decode cX1_giveUp 72 = .ok (.iastore, 1) := by decide +kernel
theorem dX1_giveUp_73 : decode cX1_giveUp 73 = .ok (.iinc 2 1, 3) := by decide +kernel
theorem dX1_giveUp_76 : decode cX1_giveUp 76 = .ok (.goto (-39), 3) := by decide +kernel
theorem dX1_giveUp_79 : decode cX1_giveUp 79 = .ok (.aload_n 0, 1) := by decide +kernel
theorem dX1_giveUp_80 : decode cX1_giveUp 80 = .ok (.getfield 48, 3) := by decide +kernel
theorem dX1_giveUp_83 : decode cX1_giveUp 83 = .ok (.ireturn, 1) := by decide +kernel
set_option maxRecDepth 20000 in
theorem ggX1_addBee_X1_isIn : GoodIn wsX1_addBee wsX1_isIn := goodIn_r _ [8] (by decide +kernel) (by decide +kernel)
set_option maxRecDepth 20000 in
theorem gX1_addBee_X1_isIn : GoodIn wsX1_addBee (va_wsS RX1 44 yX1_isIn wsX1_isIn) := goodIn_app (goodIn_of _ (by decide +kernel)) ggX1_addBee_X1_isIn
set_option maxRecDepth 20000 in
theorem ggX1_addBee_X1_no : GoodIn wsX1_addBee wsX1_no := goodIn_r _ [12, 1, 13, 14, 15, 16, 17, 18, 19, 20, 21, 22, 23, 24, 25, 26, 27, 28, 29] (by decide +kernel) (by decide +kernel)
set_option maxRecDepth 20000 in
theorem gX1_addBee_X1_no : GoodIn wsX1_addBee (wsV RX1 100 RX1 yX1_no wsX1_no) := goodIn_app (goodIn_of _ (by decide +kernel)) ggX1_addBee_X1_no
theorem dX1_addBee_0 : decode cX1_addBee 0 = .ok (.aload_n 0, 1) := by decide +kernel
theorem dX1_addBee_1 : decode cX1_addBee 1 = .ok (.iconst 0, 1) := by decide +kernel
theorem dX1_addBee_2 : decode cX1_addBee 2 = .ok (.putfield 38, 3) := by decide +kernel
theorem dX1_addBee_5 : decode cX1_addBee 5 = .ok (.iload_n 1, 1) := by decide +kernel
theorem dX1_addBee_6 : decode cX1_addBee 6 = .ok (.iconst 2, 1) := by decide +kernel
theorem dX1_addBee_7 : decode cX1_addBee 7 = .ok (.bipush 30, 2) := by decide +kernel
theorem dX1_addBee_9 : decode cX1_addBee 9 = .ok (.invokestatic 44, 3) := by decide +kernel
theorem dX1_addBee_12 : decode cX1_addBee 12 = .ok (.ifCond .eq 14, 3) := by decide +kernel
theorem dX1_addBee_15 : decode cX1_addBee 15 = .ok (.iload_n 2, 1) := by decide +kernel
theorem dX1_addBee_16 : decode cX1_addBee 16 = .ok (.iconst 0, 1) := by decide +kernel
theorem dX1_addBee_17 : decode cX1_addBee 17 = .ok (.iload_n 1, 1) := by decide +kernel
theorem dX1_addBee_18 : decode cX1_addBee 18 = .ok (.iconst 1, 1) := by decide +kernel
theorem dX1_addBee_19 : decode cX1_addBee 19 = .ok (.isub, 1) := by decide +kernel
theorem dX1_addBee_20 : decode cX1_addBee 20 = .ok (.invokestatic 44, 3) := by decide +kernel
theorem dX1_addBee_23 : decode cX1_addBee 23 = .ok (.ifCond .ne 9, 3) := by decide +kernel
theorem dX1_addBee_26 : decode cX1_addBee 26 = .ok (.aload_n 0, 1) := by decide +kernel
theorem dX1_addBee_27 : decode cX1_addBee 27 = .ok (.iconst 1, 1) := by decide +kernel
theorem dX1_addBee_28 : decode cX1_addBee 28 = .ok (.invokevirtual 100, 3) := by decide +kernel
theorem dX1_addBee_31 : decode cX1_addBee 31 = .ok (.ireturn, 1) := by decide +kernel
theorem dX1_addBee_32 : decode cX1_addBee 32 = .ok (.aload_n 0, 1) := by decide +kernel
theorem dX1_addBee_33 : decode cX1_addBee 33 = .ok (.getfield 51, 3) := by decide +kernel
theorem dX1_addBee_36 : decode cX1_addBee 36 = .ok (.bipush 6, 2) := by decide +kernel
theorem dX1_addBee_38 : decode cX1_addBee 38 = .ok (.if_icmp .ne 9, 3) := by decide +kernel
theorem dX1_addBee_41 : decode cX1_addBee 41 = .ok (.aload_n 0, 1) := by decide +kernel
theorem dX1_addBee_42 : decode cX1_addBee 42 = .ok (.iconst 2, 1) := by decide +kernel
theorem dX1_addBee_43 : decode cX1_addBee 43 = .ok (.invokevirtual 100, 3) := by decide +kernel
theorem dX1_addBee_46 : decode cX1_addBee 46 = .ok (.ireturn, 1) := by decide +kernel
theorem dX1_addBee_47 : decode cX1_addBee 47 = .ok (.aload_n 0, 1) := by decide +kernel
theorem dX1_addBee_48 : decode cX1_addBee 48 = .ok (.getfield 22, 3) := by decide +kernel
theorem dX1_addBee_51 : decode cX1_addBee 51 = .ok (.aload_n 0, 1) := by decide +kernel
theorem dX1_addBee_52 : decode cX1_addBee 52 = .ok (.getfield 51, 3) := by decide +kernel
theorem dX1_addBee_55 : decode cX1_addBee 55 = .ok (.iload_n 1, 1) := by decide +kernel
theorem dX1_addBee_56 : decode cX1_addBee 56 = .ok (.iastore, 1) := by decide +kernel
theorem dX1_addBee_57 : decode cX1_addBee 57 = .ok (.aload_n 0, 1) := by decide +kernel
theorem dX1_addBee_58 : decode cX1_addBee 58 = .ok (.getfield 25, 3) := by decide +kernel
theorem dX1_addBee_61 : decode cX1_addBee 61 = .ok (.aload_n 0, 1) := by decide +kernel
theorem dX1_addBee_62 : decode cX1_addBee 62 = .ok (.getfield 51, 3) := by decide +kernel
theorem dX1_addBee_65 : decode cX1_addBee 65 = .ok (.iload_n 2, 1) := by decide +kernel
theorem dX1_addBee_66 : decode cX1_addBee 66 = .ok (.iastore, 1) := by decide +kernel
theorem dX1_addBee_67 : decode cX1_addBee 67 = .ok (.aload_n 0, 1) := by decide +kernel
theorem dX1_addBee_68 : decode cX1_addBee 68 = .ok (.dup, 1) := by decide +kernel
theorem dX1_addBee_69 : decode cX1_addBee 69 = .ok (.getfield 51, 3) := by decide +kernel
theorem dX1_addBee_72 : decode cX1_addBee 72 = .ok (.iconst 1, 1) := by decide +kernel
theorem dX1_addBee_73 : decode cX1_addBee 73 = .ok (.iadd, 1) := by decide +kernel
theorem dX1_addBee_74 : decode cX1_addBee 74 = .ok (.putfield 51, 3) := by decide +kernel
theorem dX1_addBee_77 : decode cX1_addBee 77 = .ok (.aload_n 0, 1) := by decide +kernel
theorem dX1_addBee_78 : decode cX1_addBee 78 = .ok (.getfield 51, 3) := by decide +kernel
theorem dX1_addBee_81 : decode cX1_addBee 81 = .ok (.iconst 1, 1) := by decide +kernel
theorem dX1_addBee_82 : decode cX1_addBee 82 = .ok (.isub, 1) := by decide +kernel
theorem dX1_addBee_83 : decode cX1_addBee 83 = .ok (.ireturn, 1) := by decide +kernel
set_option maxRecDepth 20000 in
theorem ggX1_setTea_X1_isIn : GoodIn wsX1_setTea wsX1_isIn := goodIn_r _ [14] (by decide +kernel) (by decide +kernel)
set_option maxRecDepth 20000 in
theorem gX1_setTea_X1_isIn : GoodIn wsX1_setTea (va_wsS RX1 44 yX1_isIn wsX1_isIn) := goodIn_app (goodIn_of _ (by decide +kernel)) ggX1_setTea_X1_isIn
set_option maxRecDepth 20000 in
theorem ggX1_setTea_X1_no : GoodIn wsX1_setTea wsX1_no := goodIn_r _ [18, 1, 19, 20, 21, 22, 23, 24, 25, 26, 27, 28, 29, 30, 31, 32, 33, 34, 35] (by decide +kernel) (by decide +kernel)
set_option maxRecDepth 20000 in
theorem gX1_setTea_X1_no : GoodIn wsX1_setTea (wsV RX1 100 RX1 yX1_no wsX1_no) := goodIn_app (goodIn_of _ (by decide +kernel)) ggX1_setTea_X1_no
theorem dX1_setTea_0 : decode cX1_setTea 0 = .ok (.aload_n 0, 1) := by decide +kernel
theorem dX1_setTea_1 : decode cX1_setTea 1 = .ok (.iconst 0, 1) := by decide +kernel
theorem dX1_setTea_2 : decode cX1_setTea 2 = .ok (.putfield 38, 3) := by decide +kernel
theorem dX1_setTea_5 : decode cX1_setTea 5 = .ok (.iload_n 1, 1) := by decide +kernel
theorem dX1_setTea_6 : decode cX1_setTea 6 = .ok (.iconst 1, 1) := by decide +kernel
theorem dX1_setTea_7 : decode cX1_setTea 7 = .ok (.bipush 50, 2) := by decide +kernel
theorem dX1_setTea_9 : decode cX1_setTea 9 = .ok (.invokestatic 44, 3) := by decide +kernel
theorem dX1_setTea_12 : decode cX1_setTea 12 = .ok (.ifCond .eq 23, 3) := by decide +kernel
theorem dX1_setTea_15 : decode cX1_setTea 15 = .ok (.iload_n 2, 1) := by decide +kernel
theorem dX1_setTea_16 : decode cX1_setTea 16 = .ok (.iconst 0, 1) := by decide +kernel
theorem dX1_setTea_17 : decode cX1_setTea 17 = .ok (.bipush 9, 2) := by decide +kernel
theorem dX1_setTea_19 : decode cX1_setTea 19 = .ok (.invokestatic 44, 3) := by decide +kernel
theorem dX1_setTea_22 : decode cX1_setTea 22 = .ok (.ifCond .eq 13, 3) := by decide +kernel
theorem dX1_setTea_25 : decode cX1_setTea 25 = .ok (.iload_n 3, 1) := by decide +kernel
theorem dX1_setTea_26 : decode cX1_setTea 26 = .ok (.iconst 0, 1) := by decide +kernel
theorem dX1_setTea_27 : decode cX1_setTea 27 = .ok (.bipush 9, 2) := by decide +kernel
theorem dX1_setTea_29 : decode cX1_setTea 29 = .ok (.invokestatic 44, 3) := by decide +kernel
theorem dX1_setTea_32 : decode cX1_setTea 32 = .ok (.ifCond .ne 9, 3) := by decide +kernel
theorem dX1_setTea_35 : decode cX1_setTea 35 = .ok (.aload_n 0, 1) := by decide +kernel
theorem dX1_setTea_36 : decode cX1_setTea 36 = .ok (.iconst 1, 1) := by decide +kernel
theorem dX1_setTea_37 : decode cX1_setTea 37 = .ok (.invokevirtual 100, 3) := by decide +kernel
theorem dX1_setTea_40 : decode cX1_setTea 40 = .ok (.ireturn, 1) := by decide +kernel
theorem dX1_setTea_41 : decode cX1_setTea 41 = .ok (.aload_n 0, 1) := by decide +kernel
theorem dX1_setTea_42 : decode cX1_setTea 42 = .ok (.iload_n 1, 1) := by decide +kernel
theorem dX1_setTea_43 : decode cX1_setTea 43 = .ok (.putfield 28, 3) := by decide +kernel
theorem dX1_setTea_46 : decode cX1_setTea 46 = .ok (.aload_n 0, 1) := by decide +kernel
theorem dX1_setTea_47 : decode cX1_setTea 47 = .ok (.iload_n 2, 1) := by decide +kernel
theorem dX1_setTea_48 : decode cX1_setTea 48 = .ok (.putfield 32, 3) := by decide +kernel
theorem dX1_setTea_51 : decode cX1_setTea 51 = .ok (.aload_n 0, 1) := by decide +kernel
theorem dX1_setTea_52 : decode cX1_setTea 52 = .ok (.iload_n 3, 1) := by decide +kernel
theorem dX1_setTea_53 : decode cX1_setTea 53 = .ok (.putfield 35, 3) := by decide +kernel
theorem dX1_setTea_56 : decode cX1_setTea 56 = .ok (.iconst 0, 1) := by decide +kernel
theorem dX1_setTea_57 : decode cX1_setTea 57 = .ok (.aload_n 0, 1) := by decide +kernel
theorem dX1_setTea_58 : decode cX1_setTea 58 = .ok (.getfield 87, 3) := by decide +kernel
theorem dX1_setTea_61 : decode cX1_setTea 61 = .ok (.aload_n 0, 1) := by decide +kernel
theorem dX1_setTea_62 : decode cX1_setTea 62 = .ok (.getfield 28, 3) := by decide +kernel
theorem dX1_setTea_65 : decode cX1_setTea 65 = .ok (.isub, 1) := by decide +kernel
theorem dX1_setTea_66 : decode cX1_setTea 66 = .ok (.invokestatic 58, 3) := by decide +kernel
theorem dX1_setTea_69 : decode cX1_setTea 69 = .ok (.istore 4, 2) := by decide +kernel
theorem dX1_setTea_71 : decode cX1_setTea 71 = .ok (.aload_n 0, 1) := by decide +kernel
theorem dX1_setTea_72 : decode cX1_setTea 72 = .ok (.dup, 1) := by decide +kernel
theorem dX1_setTea_73 : decode cX1_setTea 73 = .ok (.getfield 87, 3) := by decide +kernel
theorem dX1_setTea_76 : decode cX1_setTea 76 = .ok (.iload 4, 2) := by decide +kernel
theorem dX1_setTea_78 : decode cX1_setTea 78 = .ok (.isub, 1) := by decide +kernel
theorem dX1_setTea_79 : decode cX1_setTea 79 = .ok (.putfield 87, 3) := by decide +kernel
theorem dX1_setTea_82 : decode cX1_setTea 82 = .ok (.aload_n 0, 1) := by decide +kernel
theorem dX1_setTea_83 : decode cX1_setTea 83 = .ok (.dup, 1) := by decide +kernel
theorem dX1_setTea_84 : decode cX1_setTea 84 = .ok (.getfield 94, 3) := by decide +kernel
theorem dX1_setTea_87 : decode cX1_setTea 87 = .ok (.iload 4, 2) := by decide +kernel
theorem dX1_setTea_89 : decode cX1_setTea 89 = .ok (.iadd, 1) := by decide +kernel
theorem dX1_setTea_90 : decode cX1_setTea 90 = .ok (.putfield 94, 3) := by decide +kernel
theorem dX1_setTea_93 : decode cX1_setTea 93 = .ok (.iload 4, 2) := by decide +kernel
theorem dX1_setTea_95 : decode cX1_setTea 95 = .ok (.ireturn, 1) := by decide +kernel
set_option maxRecDepth 20000 in
theorem ggX1_pass_X1_isIn : GoodIn wsX1_pass wsX1_isIn := goodIn_r _ [6] (by decide +kernel) (by decide +kernel)
set_option maxRecDepth 20000 in
theorem gX1_pass_X1_isIn : GoodIn wsX1_pass (va_wsS RX1 44 yX1_isIn wsX1_isIn) := goodIn_app (goodIn_of _ (by decide +kernel)) ggX1_pass_X1_isIn
set_option maxRecDepth 20000 in
theorem ggX1_pass_X1_no : GoodIn wsX1_pass wsX1_no := goodIn_r _ [10, 1, 40, 41, 42, 43, 44, 45, 46, 47, 48, 49, 50, 51, 52, 53, 54, 55, 56] (by decide +kernel) (by decide +kernel)
set_option maxRecDepth 20000 in
theorem gX1_pass_X1_no : GoodIn wsX1_pass (wsV RX1 100 RX1 yX1_no wsX1_no) := goodIn_app (goodIn_of _ (by decide +kernel)) ggX1_pass_X1_no
set_option maxRecDepth 20000 in
theorem ggX1_pass_X1_go : GoodIn wsX1_pass wsX1_go := goodIn_r _ [14, 2, 15, 16, 17, 18, 19, 20, 21, 22, 23, 24, 25, 5, 26, 27, 28, 29, 30, 31, 32, 33, 34, 35, 36, 37, 38, 39, 40, 41, 42, 43, 44, 45, 46, 47, 48, 49, 50, 51, 52, 53, 54, 55, 56] (by decide +kernel) (by decide +kernel)
set_option maxRecDepth 20000 in
theorem gX1_pass_X1_go : GoodIn wsX1_pass (wsV RX1 110 RX1 yX1_go wsX1_go) := goodIn_app (goodIn_of _ (by decide +kernel)) ggX1_pass_X1_go
theorem dX1_pass_0 : decode cX1_pass 0 = .ok (.aload_n 0, 1) := by decide +kernel
theorem dX1_pass_1 : decode cX1_pass 1 = .ok (.iconst 0, 1) := by decide +kernel
theorem dX1_pass_2 : decode cX1_pass 2 = .ok (.putfield 38, 3) := by decide +kernel
theorem dX1_pass_5 : decode cX1_pass 5 = .ok (.iload_n 1, 1) := by decide +kernel
theorem dX1_pass_6 : decode cX1_pass 6 = .ok (.iconst 1, 1) := by decide +kernel
theorem dX1_pass_7 : decode cX1_pass 7 = .ok (.sipush 360, 3) := by decide +kernel
theorem dX1_pass_10 : decode cX1_pass 10 = .ok (.invokestatic 44, 3) := by decide +kernel
theorem dX1_pass_13 : decode cX1_pass 13 = .ok (.ifCond .ne 9, 3) := by decide +kernel
theorem dX1_pass_16 : decode cX1_pass 16 = .ok (.aload_n 0, 1) := by decide +kernel
theorem dX1_pass_17 : decode cX1_pass 17 = .ok (.iconst 1, 1) := by decide +kernel
theorem dX1_pass_18 : decode cX1_pass 18 = .ok (.invokevirtual 100, 3) := by decide +kernel
theorem dX1_pass_21 : decode cX1_pass 21 = .ok (.ireturn, 1) := by decide +kernel
theorem dX1_pass_22 : decode cX1_pass 22 = .ok (.aload_n 0, 1) := by decide +kernel
theorem dX1_pass_23 : decode cX1_pass 23 = .ok (.getfield 64, 3) := by decide +kernel
theorem dX1_pass_26 : decode cX1_pass 26 = .ok (.iload_n 1, 1) := by decide +kernel
theorem dX1_pass_27 : decode cX1_pass 27 = .ok (.iadd, 1) := by decide +kernel
theorem dX1_pass_28 : decode cX1_pass 28 = .ok (.sipush 360, 3) := by decide +kernel
theorem dX1_pass_31 : decode cX1_pass 31 = .ok (.if_icmp .le 11, 3) := by decide +kernel
theorem dX1_pass_34 : decode cX1_pass 34 = .ok (.aload_n 0, 1) := by decide +kernel
theorem dX1_pass_35 : decode cX1_pass 35 = .ok (.iconst 2, 1) := by decide +kernel
theorem dX1_pass_36 : decode cX1_pass 36 = .ok (.invokevirtual 100, 3) := by decide +kernel
theorem dX1_pass_39 : decode cX1_pass 39 = .ok (.goto 8, 3) := by decide +kernel
theorem dX1_pass_42 : decode cX1_pass 42 = .ok (.aload_n 0, 1) := by decide +kernel
theorem dX1_pass_43 : decode cX1_pass 43 = .ok (.iload_n 1, 1) := by decide +kernel
theorem dX1_pass_44 : decode cX1_pass 44 = .ok (.invokevirtual 110, 3) := by decide +kernel
theorem dX1_pass_47 : decode cX1_pass 47 = .ok (.ireturn, 1) := by decide +kernel
theorem dX1_begin_0 : decode cX1_begin 0 = .ok (.aload_n 0, 1) := by decide +kernel
theorem dX1_begin_1 : decode cX1_begin 1 = .ok (.iconst 0, 1) := by decide +kernel
theorem dX1_begin_2 : decode cX1_begin 2 = .ok (.putfield 38, 3) := by decide +kernel
theorem dX1_begin_5 : decode cX1_begin 5 = .ok (.aload_n 0, 1) := by decide +kernel
theorem dX1_begin_6 : decode cX1_begin 6 = .ok (.dup, 1) := by decide +kernel
theorem dX1_begin_7 : decode cX1_begin 7 = .ok (.getfield 113, 3) := by decide +kernel
theorem dX1_begin_10 : decode cX1_begin 10 = .ok (.iconst 1, 1) := by decide +kernel
theorem dX1_begin_11 : decode cX1_begin 11 = .ok (.iadd, 1) := by decide +kernel
theorem dX1_begin_12 : decode cX1_begin 12 = .ok (.putfield 113, 3) := by decide +kernel
theorem dX1_begin_15 : decode cX1_begin 15 = .ok (.aload_n 0, 1) := by decide +kernel
theorem dX1_begin_16 : decode cX1_begin 16 = .ok (.iconst 0, 1) := by decide +kernel
theorem dX1_begin_17 : decode cX1_begin 17 = .ok (.putfield 64, 3) := by decide +kernel
theorem dX1_begin_20 : decode cX1_begin 20 = .ok (.aload_n 0, 1) := by decide +kernel
theorem dX1_begin_21 : decode cX1_begin 21 = .ok (.iconst 0, 1) := by decide +kernel
theorem dX1_begin_22 : decode cX1_begin 22 = .ok (.putfield 87, 3) := by decide +kernel
theorem dX1_begin_25 : decode cX1_begin 25 = .ok (.aload_n 0, 1) := by decide +kernel
theorem dX1_begin_26 : decode cX1_begin 26 = .ok (.iconst 0, 1) := by decide +kernel
theorem dX1_begin_27 : decode cX1_begin 27 = .ok (.putfield 94, 3) := by decide +kernel
theorem dX1_begin_30 : decode cX1_begin 30 = .ok (.aload_n 0, 1) := by decide +kernel
theorem dX1_begin_31 : decode cX1_begin 31 = .ok (.getfield 113, 3) := by decide +kernel
theorem dX1_begin_34 : decode cX1_begin 34 = .ok (.ireturn, 1) := by decide +kernel
set_option maxRecDepth 20000 in
theorem ggX1_afternoon_X1_ok : GoodIn wsX1_afternoon wsX1_ok := goodIn_r _ [6, 7, 8, 9, 10, 11, 12, 13, 14, 15, 16, 17, 18, 19, 20, 21, 22, 23, 24] (by decide +kernel) (by decide +kernel)
set_option maxRecDepth 20000 in
theorem gX1_afternoon_X1_ok : GoodIn wsX1_afternoon (wsV RX1 116 RX1 yX1_ok wsX1_ok) := goodIn_app (goodIn_of _ (by decide +kernel)) ggX1_afternoon_X1_ok
theorem dX1_afternoon_0 : decode cX1_afternoon 0 = .ok (.aload_n 0, 1) := by decide +kernel
theorem dX1_afternoon_1 : decode cX1_afternoon 1 = .ok (.aload_n 0, 1) := by decide +kernel
theorem dX1_afternoon_2 : decode cX1_afternoon 2 = .ok (.getfield 113, 3) := by decide +kernel
theorem dX1_afternoon_5 : decode cX1_afternoon 5 = .ok (.invokevirtual 116, 3) := by decide +kernel
theorem dX1_afternoon_8 : decode cX1_afternoon 8 = .ok (.ireturn, 1) := by decide +kernel
set_option maxRecDepth 20000 in
theorem ggX1_minute_X1_ok : GoodIn wsX1_minute wsX1_ok := goodIn_r _ [6, 7, 8, 9, 10, 11, 12, 13, 14, 15, 16, 17, 18, 19, 20, 21, 22, 23, 24] (by decide +kernel) (by decide +kernel)
set_option maxRecDepth 20000 in
theorem gX1_minute_X1_ok : GoodIn wsX1_minute (wsV RX1 116 RX1 yX1_ok wsX1_ok) := goodIn_app (goodIn_of _ (by decide +kernel)) ggX1_minute_X1_ok
theorem dX1_minute_0 : decode cX1_minute 0 = .ok (.aload_n 0, 1) := by decide +kernel
theorem dX1_minute_1 : decode cX1_minute 1 = .ok (.aload_n 0, 1) := by decide +kernel
theorem dX1_minute_2 : decode cX1_minute 2 = .ok (.getfield 64, 3) := by decide +kernel
theorem dX1_minute_5 : decode cX1_minute 5 = .ok (.invokevirtual 116, 3) := by decide +kernel
theorem dX1_minute_8 : decode cX1_minute 8 = .ok (.ireturn, 1) := by decide +kernel
set_option maxRecDepth 20000 in
theorem ggX1_isAsleep_X1_isMinute : GoodIn wsX1_isAsleep wsX1_isMinute := goodIn_r _ [5, 6, 7, 4, 8] (by decide +kernel) (by decide +kernel)
set_option maxRecDepth 20000 in
theorem gX1_isAsleep_X1_isMinute : GoodIn wsX1_isAsleep (va_wsS RX1 119 yX1_isMinute wsX1_isMinute) := goodIn_app (goodIn_of _ (by decide +kernel)) ggX1_isAsleep_X1_isMinute
set_option maxRecDepth 20000 in
theorem ggX1_isAsleep_X1_isAwake : GoodIn wsX1_isAsleep wsX1_isAwake := goodIn_r _ [12, 13, 14, 15, 16, 17, 18, 19, 20, 21, 22, 23, 24, 25, 26, 27, 28, 29, 30] (by decide +kernel) (by decide +kernel)
set_option maxRecDepth 20000 in
theorem gX1_isAsleep_X1_isAwake : GoodIn wsX1_isAsleep (wsV RX1 54 RX1 yX1_isAwake wsX1_isAwake) := goodIn_app (goodIn_of _ (by decide +kernel)) ggX1_isAsleep_X1_isAwake
theorem dX1_isAsleep_0 : decode cX1_isAsleep 0 = .ok (.aload_n 0, 1) := by decide +kernel
theorem dX1_isAsleep_1 : decode cX1_isAsleep 1 = .ok (.iload_n 1, 1) := by decide +kernel
theorem dX1_isAsleep_2 : decode cX1_isAsleep 2 = .ok (.invokestatic 119, 3) := by decide +kernel
theorem dX1_isAsleep_5 : decode cX1_isAsleep 5 = .ok (.ifCond .eq 7, 3) := by decide +kernel
theorem dX1_isAsleep_8 : decode cX1_isAsleep 8 = .ok (.iconst 0, 1) := by decide +kernel
theorem dX1_isAsleep_9 : decode cX1_isAsleep 9 = .ok (.goto 4, 3) := by decide +kernel
theorem dX1_isAsleep_12 : decode cX1_isAsleep 12 = .ok (.iconst 1, 1) := by decide +kernel
theorem dX1_isAsleep_13 : decode cX1_isAsleep 13 = .ok (.putfield 38, 3) := by decide +kernel
theorem dX1_isAsleep_16 : decode cX1_isAsleep 16 = .ok (.aload_n 0, 1) := by decide +kernel
theorem dX1_isAsleep_17 : decode cX1_isAsleep 17 = .ok (.getfield 38, 3) := by decide +kernel
theorem dX1_isAsleep_20 : decode cX1_isAsleep 20 = .ok (.ifCond .ne 15, 3) := by decide +kernel
theorem dX1_isAsleep_23 : decode cX1_isAsleep 23 = .ok (.aload_n 0, 1) := by decide +kernel
theorem dX1_isAsleep_24 : decode cX1_isAsleep 24 = .ok (.iload_n 1, 1) := by decide +kernel
theorem dX1_isAsleep_25 : decode cX1_isAsleep 25 = .ok (.invokevirtual 54, 3) := by decide +kernel
theorem dX1_isAsleep_28 : decode cX1_isAsleep 28 = .ok (.ifCond .ne 7, 3) := by decide +kernel
theorem dX1_isAsleep_31 : decode cX1_isAsleep 31 = .ok (.iconst 1, 1) := by decide +kernel
theorem dX1_isAsleep_32 : decode cX1_isAsleep 32 = .ok (.goto 4, 3) := by decide +kernel
theorem dX1_isAsleep_35 : decode cX1_isAsleep 35 = .ok (.iconst 0, 1) := by decide +kernel
theorem dX1_isAsleep_36 : decode cX1_isAsleep 36 = .ok (.ireturn, 1) := by decide +kernel
set_option maxRecDepth 20000 in
theorem ggX1_awakeMinutes_X1_awake : GoodIn wsX1_awakeMinutes wsX1_awake := goodIn_r _ [6, 7, 8, 9, 5, 10, 11, 17, 18, 19, 20, 21, 22, 23, 24, 25, 26, 27, 28, 29, 30, 31, 32, 33] (by decide +kernel) (by decide +kernel)
set_option maxRecDepth 20000 in
theorem gX1_awakeMinutes_X1_awake : GoodIn wsX1_awakeMinutes (wsV RX1 75 RX1 yX1_awake wsX1_awake) := goodIn_app (goodIn_of _ (by decide +kernel)) ggX1_awakeMinutes_X1_awake
set_option maxRecDepth 20000 in
theorem ggX1_awakeMinutes_X1_ok : GoodIn wsX1_awakeMinutes wsX1_ok := goodIn_r _ [15, 16, 17, 18, 19, 20, 21, 22, 23, 24, 25, 26, 27, 28, 29, 30, 31, 32, 33] (by decide +kernel) (by decide +kernel)
set_option maxRecDepth 20000 in
theorem gX1_awakeMinutes_X1_ok : GoodIn wsX1_awakeMinutes (wsV RX1 116 RX1 yX1_ok wsX1_ok) := goodIn_app (goodIn_of _ (by decide +kernel)) ggX1_awakeMinutes_X1_ok
theorem dX1_awakeMinutes_0 : decode cX1_awakeMinutes 0 = .ok (.aload_n 0, 1) := by decide +kernel
theorem dX1_awakeMinutes_1 : decode cX1_awakeMinutes 1 = .ok (.aload_n 0, 1) := by decide +kernel
theorem dX1_awakeMinutes_2 : decode cX1_awakeMinutes 2 = .ok (.aload_n 0, 1) := by decide +kernel
theorem dX1_awakeMinutes_3 : decode cX1_awakeMinutes 3 = .ok (.getfield 64, 3) := by decide +kernel
theorem dX1_awakeMinutes_6 : decode cX1_awakeMinutes 6 = .ok (.invokevirtual 75, 3) := by decide +kernel
theorem dX1_awakeMinutes_9 : decode cX1_awakeMinutes 9 = .ok (.invokevirtual 116, 3) := by decide +kernel
theorem dX1_awakeMinutes_12 : decode cX1_awakeMinutes 12 = .ok (.ireturn, 1) := by decide +kernel
set_option maxRecDepth 20000 in
theorem ggX1_sleptMinutes_X1_awake : GoodIn wsX1_sleptMinutes wsX1_awake := goodIn_r _ [6, 7, 8, 9, 5, 10, 11, 17, 18, 19, 20, 21, 22, 23, 24, 25, 26, 27, 28, 29, 30, 31, 32, 33] (by decide +kernel) (by decide +kernel)
set_option maxRecDepth 20000 in
theorem gX1_sleptMinutes_X1_awake : GoodIn wsX1_sleptMinutes (wsV RX1 75 RX1 yX1_awake wsX1_awake) := goodIn_app (goodIn_of _ (by decide +kernel)) ggX1_sleptMinutes_X1_awake
set_option maxRecDepth 20000 in
theorem ggX1_sleptMinutes_X1_ok : GoodIn wsX1_sleptMinutes wsX1_ok := goodIn_r _ [15, 16, 17, 18, 19, 20, 21, 22, 23, 24, 25, 26, 27, 28, 29, 30, 31, 32, 33] (by decide +kernel) (by decide +kernel)
set_option maxRecDepth 20000 in
theorem gX1_sleptMinutes_X1_ok : GoodIn wsX1_sleptMinutes (wsV RX1 116 RX1 yX1_ok wsX1_ok) := goodIn_app (goodIn_of _ (by decide +kernel)) ggX1_sleptMinutes_X1_ok
theorem dX1_sleptMinutes_0 : decode cX1_sleptMinutes 0 = .ok (.aload_n 0, 1) := by decide +kernel
theorem dX1_sleptMinutes_1 : decode cX1_sleptMinutes 1 = .ok (.aload_n 0, 1) := by decide +kernel
theorem dX1_sleptMinutes_2 : decode cX1_sleptMinutes 2 = .ok (.getfield 64, 3) := by decide +kernel
theorem dX1_sleptMinutes_5 : decode cX1_sleptMinutes 5 = .ok (.aload_n 0, 1) := by decide +kernel
theorem dX1_sleptMinutes_6 : decode cX1_sleptMinutes 6 = .ok (.aload_n 0, 1) := by decide +kernel
theorem dX1_sleptMinutes_7 : decode cX1_sleptMinutes 7 = .ok (.getfield 64, 3) := by decide +kernel
theorem dX1_sleptMinutes_10 : decode cX1_sleptMinutes 10 = .ok (.invokevirtual 75, 3) := by decide +kernel
theorem dX1_sleptMinutes_13 : decode cX1_sleptMinutes 13 = .ok (.isub, 1) := by decide +kernel
theorem dX1_sleptMinutes_14 : decode cX1_sleptMinutes 14 = .ok (.invokevirtual 116, 3) := by decide +kernel
theorem dX1_sleptMinutes_17 : decode cX1_sleptMinutes 17 = .ok (.ireturn, 1) := by decide +kernel
set_option maxRecDepth 20000 in
theorem ggX1_longestAwake_X1_longest : GoodIn wsX1_longestAwake wsX1_longest := goodIn_r _ [5, 6, 7, 8, 9, 10, 11, 12, 4, 13, 14, 20, 21, 22, 23, 24, 25, 26, 27, 28, 29, 30, 31, 32, 33, 34, 35, 36] (by decide +kernel) (by decide +kernel)
set_option maxRecDepth 20000 in
theorem gX1_longestAwake_X1_longest : GoodIn wsX1_longestAwake (wsV RX1 122 RX1 yX1_longest wsX1_longest) := goodIn_app (goodIn_of _ (by decide +kernel)) ggX1_longestAwake_X1_longest
set_option maxRecDepth 20000 in
theorem ggX1_longestAwake_X1_ok : GoodIn wsX1_longestAwake wsX1_ok := goodIn_r _ [18, 19, 20, 21, 22, 23, 24, 25, 26, 27, 28, 29, 30, 31, 32, 33, 34, 35, 36] (by decide +kernel) (by decide +kernel)
set_option maxRecDepth 20000 in
theorem gX1_longestAwake_X1_ok : GoodIn wsX1_longestAwake (wsV RX1 116 RX1 yX1_ok wsX1_ok) := goodIn_app (goodIn_of _ (by decide +kernel)) ggX1_longestAwake_X1_ok
theorem dX1_longestAwake_0 : decode cX1_longestAwake 0 = .ok (.aload_n 0, 1) := by decide +kernel
theorem dX1_longestAwake_1 : decode cX1_longestAwake 1 = .ok (.aload_n 0, 1) := by decide +kernel
theorem dX1_longestAwake_2 : decode cX1_longestAwake 2 = .ok (.invokevirtual 122, 3) := by decide +kernel
theorem dX1_longestAwake_5 : decode cX1_longestAwake 5 = .ok (.invokevirtual 116, 3) := by decide +kernel
theorem dX1_longestAwake_8 : decode cX1_longestAwake 8 = .ok (.ireturn, 1) := by decide +kernel
theorem dX1_shadow_0 : decode cX1_shadow 0 = .ok (.aload_n 0, 1) := by decide +kernel
theorem dX1_shadow_1 : decode cX1_shadow 1 = .ok (.getfield 9, 3) := by decide +kernel
theorem dX1_shadow_4 : decode cX1_shadow 4 = .ok (.iload_n 1, 1) := by decide +kernel
theorem dX1_shadow_5 : decode cX1_shadow 5 = .ok (.iaload, 1) := by decide +kernel
theorem dX1_shadow_6 : decode cX1_shadow 6 = .ok (.bipush 60, 2) := by decide +kernel
theorem dX1_shadow_8 : decode cX1_shadow 8 = .ok (.iload_n 2, 1) := by decide +kernel
theorem dX1_shadow_9 : decode cX1_shadow 9 = .ok (.iadd, 1) := by decide +kernel
theorem dX1_shadow_10 : decode cX1_shadow 10 = .ok (.imul, 1) := by decide +kernel
theorem dX1_shadow_11 : decode cX1_shadow 11 = .ok (.bipush 120, 2) := by decide +kernel
theorem dX1_shadow_13 : decode cX1_shadow 13 = .ok (.idiv, 1) := by decide +kernel
theorem dX1_shadow_14 : decode cX1_shadow 14 = .ok (.ireturn, 1) := by decide +kernel
set_option maxRecDepth 20000 in
theorem ggX1_sticks_X1_ok : GoodIn wsX1_sticks wsX1_ok := goodIn_r _ [6, 7, 8, 9, 10, 11, 12, 13, 14, 15, 16, 17, 18, 19, 20, 21, 22, 23, 24] (by decide +kernel) (by decide +kernel)
set_option maxRecDepth 20000 in
theorem gX1_sticks_X1_ok : GoodIn wsX1_sticks (wsV RX1 116 RX1 yX1_ok wsX1_ok) := goodIn_app (goodIn_of _ (by decide +kernel)) ggX1_sticks_X1_ok
theorem dX1_sticks_0 : decode cX1_sticks 0 = .ok (.aload_n 0, 1) := by decide +kernel
theorem dX1_sticks_1 : decode cX1_sticks 1 = .ok (.aload_n 0, 1) := by decide +kernel
theorem dX1_sticks_2 : decode cX1_sticks 2 = .ok (.getfield 41, 3) := by decide +kernel
theorem dX1_sticks_5 : decode cX1_sticks 5 = .ok (.invokevirtual 116, 3) := by decide +kernel
theorem dX1_sticks_8 : decode cX1_sticks 8 = .ok (.ireturn, 1) := by decide +kernel
set_option maxRecDepth 20000 in
theorem ggX1_shadowAt_X1_isStick : GoodIn wsX1_shadowAt wsX1_isStick := goodIn_r _ [6, 7, 8, 9, 5, 10, 23, 24, 25, 26, 27, 28, 29, 30, 31, 32, 33, 34, 35, 36, 37, 38, 39] (by decide +kernel) (by decide +kernel)
set_option maxRecDepth 20000 in
theorem gX1_shadowAt_X1_isStick : GoodIn wsX1_shadowAt (wsV RX1 126 RX1 yX1_isStick wsX1_isStick) := goodIn_app (goodIn_of _ (by decide +kernel)) ggX1_shadowAt_X1_isStick
set_option maxRecDepth 20000 in
theorem ggX1_shadowAt_X1_no : GoodIn wsX1_shadowAt wsX1_no := goodIn_r _ [14, 1, 23, 24, 25, 26, 27, 28, 29, 30, 31, 32, 33, 34, 35, 36, 37, 38, 39] (by decide +kernel) (by decide +kernel)
set_option maxRecDepth 20000 in
theorem gX1_shadowAt_X1_no : GoodIn wsX1_shadowAt (wsV RX1 100 RX1 yX1_no wsX1_no) := goodIn_app (goodIn_of _ (by decide +kernel)) ggX1_shadowAt_X1_no
set_option maxRecDepth 20000 in
theorem ggX1_shadowAt_X1_isMinute : GoodIn wsX1_shadowAt wsX1_isMinute := goodIn_r _ [17, 8, 9, 5, 10] (by decide +kernel) (by decide +kernel)
set_option maxRecDepth 20000 in
theorem gX1_shadowAt_X1_isMinute : GoodIn wsX1_shadowAt (va_wsS RX1 119 yX1_isMinute wsX1_isMinute) := goodIn_app (goodIn_of _ (by decide +kernel)) ggX1_shadowAt_X1_isMinute
set_option maxRecDepth 20000 in
theorem ggX1_shadowAt_X1_shadow : GoodIn wsX1_shadowAt wsX1_shadow := goodIn_r _ [21, 22, 23, 24, 25, 26, 27, 28, 29, 30, 31, 32, 33, 34, 35, 36, 37, 38, 39] (by decide +kernel) (by decide +kernel)
set_option maxRecDepth 20000 in
theorem gX1_shadowAt_X1_shadow : GoodIn wsX1_shadowAt (wsV RX1 129 RX1 yX1_shadow wsX1_shadow) := goodIn_app (goodIn_of _ (by decide +kernel)) ggX1_shadowAt_X1_shadow
theorem dX1_shadowAt_0 : decode cX1_shadowAt 0 = .ok (.aload_n 0, 1) := by decide +kernel
theorem dX1_shadowAt_1 : decode cX1_shadowAt 1 = .ok (.iconst 0, 1) := by decide +kernel
theorem dX1_shadowAt_2 : decode cX1_shadowAt 2 = .ok (.putfield 38, 3) := by decide +kernel
theorem dX1_shadowAt_5 : decode cX1_shadowAt 5 = .ok (.aload_n 0, 1) := by decide +kernel
theorem dX1_shadowAt_6 : decode cX1_shadowAt 6 = .ok (.iload_n 1, 1) := by decide +kernel
theorem dX1_shadowAt_7 : decode cX1_shadowAt 7 = .ok (.invokevirtual 126, 3) := by decide +kernel
theorem dX1_shadowAt_10 : decode cX1_shadowAt 10 = .ok (.ifCond .ne 9, 3) := by decide +kernel
theorem dX1_shadowAt_13 : decode cX1_shadowAt 13 = .ok (.aload_n 0, 1) := by decide +kernel
theorem dX1_shadowAt_14 : decode cX1_shadowAt 14 = .ok (.iconst 1, 1) := by decide +kernel
theorem dX1_shadowAt_15 : decode cX1_shadowAt 15 = .ok (.invokevirtual 100, 3) := by decide +kernel
theorem dX1_shadowAt_18 : decode cX1_shadowAt 18 = .ok (.ireturn, 1) := by decide +kernel
theorem dX1_shadowAt_19 : decode cX1_shadowAt 19 = .ok (.iload_n 2, 1) := by decide +kernel
theorem dX1_shadowAt_20 : decode cX1_shadowAt 20 = .ok (.invokestatic 119, 3) := by decide +kernel
theorem dX1_shadowAt_23 : decode cX1_shadowAt 23 = .ok (.ifCond .eq 12, 3) := by decide +kernel
theorem dX1_shadowAt_26 : decode cX1_shadowAt 26 = .ok (.aload_n 0, 1) := by decide +kernel
theorem dX1_shadowAt_27 : decode cX1_shadowAt 27 = .ok (.iload_n 1, 1) := by decide +kernel
theorem dX1_shadowAt_28 : decode cX1_shadowAt 28 = .ok (.iload_n 2, 1) := by decide +kernel
theorem dX1_shadowAt_29 : decode cX1_shadowAt 29 = .ok (.invokevirtual 129, 3) := by decide +kernel
theorem dX1_shadowAt_32 : decode cX1_shadowAt 32 = .ok (.goto 8, 3) := by decide +kernel
theorem dX1_shadowAt_35 : decode cX1_shadowAt 35 = .ok (.aload_n 0, 1) := by decide +kernel
theorem dX1_shadowAt_36 : decode cX1_shadowAt 36 = .ok (.iconst 2, 1) := by decide +kernel
theorem dX1_shadowAt_37 : decode cX1_shadowAt 37 = .ok (.invokevirtual 100, 3) := by decide +kernel
theorem dX1_shadowAt_40 : decode cX1_shadowAt 40 = .ok (.ireturn, 1) := by decide +kernel
set_option maxRecDepth 20000 in
theorem ggX1_minuteOfShadow_X1_isStick : GoodIn wsX1_minuteOfShadow wsX1_isStick := goodIn_r _ [6, 7, 8, 9, 5, 10, 20, 21, 22, 23, 24, 25, 26, 27, 28, 29, 30, 31, 32, 33, 34, 35, 36] (by decide +kernel) (by decide +kernel)
set_option maxRecDepth 20000 in
theorem gX1_minuteOfShadow_X1_isStick : GoodIn wsX1_minuteOfShadow (wsV RX1 126 RX1 yX1_isStick wsX1_isStick) := goodIn_app (goodIn_of _ (by decide +kernel)) ggX1_minuteOfShadow_X1_isStick
set_option maxRecDepth 20000 in
theorem ggX1_minuteOfShadow_X1_no : GoodIn wsX1_minuteOfShadow wsX1_no := goodIn_r _ [14, 1, 20, 21, 22, 23, 24, 25, 26, 27, 28, 29, 30, 31, 32, 33, 34, 35, 36] (by decide +kernel) (by decide +kernel)
set_option maxRecDepth 20000 in
theorem gX1_minuteOfShadow_X1_no : GoodIn wsX1_minuteOfShadow (wsV RX1 100 RX1 yX1_no wsX1_no) := goodIn_app (goodIn_of _ (by decide +kernel)) ggX1_minuteOfShadow_X1_no
set_option maxRecDepth 20000 in
theorem ggX1_minuteOfShadow_X1_shadow : GoodIn wsX1_minuteOfShadow wsX1_shadow := goodIn_r _ [18, 19, 20, 21, 22, 23, 24, 25, 26, 27, 28, 29, 30, 31, 32, 33, 34, 35, 36] (by decide +kernel) (by decide +kernel)
set_option maxRecDepth 20000 in
theorem gX1_minuteOfShadow_X1_shadow : GoodIn wsX1_minuteOfShadow (wsV RX1 129 RX1 yX1_shadow wsX1_shadow) := goodIn_app (goodIn_of _ (by decide +kernel)) ggX1_minuteOfShadow_X1_shadow
theorem dX1_minuteOfShadow_0 : decode cX1_minuteOfShadow 0 = .ok (.aload_n 0, 1) := by decide +kernel
theorem dX1_minuteOfShadow_1 : decode cX1_minuteOfShadow 1 = .ok (.iconst 0, 1) := by decide +kernel
theorem dX1_minuteOfShadow_2 : decode cX1_minuteOfShadow 2 = .ok (.putfield 38, 3) := by decide +kernel
theorem dX1_minuteOfShadow_5 : decode cX1_minuteOfShadow 5 = .ok (.aload_n 0, 1) := by decide +kernel
theorem dX1_minuteOfShadow_6 : decode cX1_minuteOfShadow 6 = .ok (.iload_n 1, 1) := by decide +kernel
theorem dX1_minuteOfShadow_7 : decode cX1_minuteOfShadow 7 = .ok (.invokevirtual 126, 3) := by decide +kernel
theorem dX1_minuteOfShadow_10 : decode cX1_minuteOfShadow 10 = .ok (.ifCond .ne 9, 3) := by decide +kernel
theorem dX1_minuteOfShadow_13 : decode cX1_minuteOfShadow 13 = .ok (.aload_n 0, 1) := by decide +kernel
theorem dX1_minuteOfShadow_14 : decode cX1_minuteOfShadow 14 = .ok (.iconst 1, 1) := by decide +kernel
theorem dX1_minuteOfShadow_15 : decode cX1_minuteOfShadow 15 = .ok (.invokevirtual 100, 3) := by decide +kernel
theorem dX1_minuteOfShadow_18 : decode cX1_minuteOfShadow 18 = .ok (.ireturn, 1) := by decide +kernel
theorem dX1_minuteOfShadow_19 : decode cX1_minuteOfShadow 19 = .ok (.iconst 0, 1) := by decide +kernel
theorem dX1_minuteOfShadow_20 : decode cX1_minuteOfShadow 20 = .ok (.istore_n 3, 1) := by decide +kernel
theorem dX1_minuteOfShadow_21 : decode cX1_minuteOfShadow 21 = .ok (.iload_n 3, 1) := by decide +kernel
theorem dX1_minuteOfShadow_22 : decode cX1_minuteOfShadow 22 = .ok (.sipush 360, 3) := by decide +kernel
theorem dX1_minuteOfShadow_25 : decode cX1_minuteOfShadow 25 = .ok (.if_icmp .ge 21, 3) := by decide +kernel
theorem dX1_minuteOfShadow_28 : decode cX1_minuteOfShadow 28 = .ok (.aload_n 0, 1) := by decide +kernel
theorem dX1_minuteOfShadow_29 : decode cX1_minuteOfShadow 29 = .ok (.iload_n 1, 1) := by decide +kernel
theorem dX1_minuteOfShadow_30 : decode cX1_minuteOfShadow 30 = .ok (.iload_n 3, 1) := by decide +kernel
theorem dX1_minuteOfShadow_31 : decode cX1_minuteOfShadow 31 = .ok (.invokevirtual 129, 3) := by decide +kernel
theorem dX1_minuteOfShadow_34 : decode cX1_minuteOfShadow 34 = .ok (.iload_n 2, 1) := by decide +kernel
theorem dX1_minuteOfShadow_35 : decode cX1_minuteOfShadow 35 = .ok (.if_icmp .lt 5, 3) := by decide +kernel
theorem dX1_minuteOfShadow_38 : decode cX1_minuteOfShadow 38 = .ok (.iload_n 3, 1) := by decide +kernel
theorem dX1_minuteOfShadow_39 : decode cX1_minuteOfShadow 39 = .ok (.ireturn, 1) := by decide +kernel
theorem dX1_minuteOfShadow_40 : decode cX1_minuteOfShadow 40 = .ok (.iinc 3 1, 3) := by decide +kernel
theorem dX1_minuteOfShadow_43 : decode cX1_minuteOfShadow 43 = .ok (.goto (-22), 3) := by decide +kernel
theorem dX1_minuteOfShadow_46 : decode cX1_minuteOfShadow 46 = .ok (.iconst (-1), 1) := by decide +kernel
theorem dX1_minuteOfShadow_47 : decode cX1_minuteOfShadow 47 = .ok (.ireturn, 1) := by decide +kernel
set_option maxRecDepth 20000 in
theorem ggX1_allShadows_X1_isMinute : GoodIn wsX1_allShadows wsX1_isMinute := goodIn_r _ [6, 7, 8, 5, 9] (by decide +kernel) (by decide +kernel)
set_option maxRecDepth 20000 in
theorem gX1_allShadows_X1_isMinute : GoodIn wsX1_allShadows (va_wsS RX1 119 yX1_isMinute wsX1_isMinute) := goodIn_app (goodIn_of _ (by decide +kernel)) ggX1_allShadows_X1_isMinute
set_option maxRecDepth 20000 in
theorem ggX1_allShadows_X1_no : GoodIn wsX1_allShadows wsX1_no := goodIn_r _ [13, 1, 19, 20, 21, 22, 23, 24, 25, 26, 27, 28, 29, 30, 31, 32, 33, 34, 35] (by decide +kernel) (by decide +kernel)
set_option maxRecDepth 20000 in
theorem gX1_allShadows_X1_no : GoodIn wsX1_allShadows (wsV RX1 100 RX1 yX1_no wsX1_no) := goodIn_app (goodIn_of _ (by decide +kernel)) ggX1_allShadows_X1_no
set_option maxRecDepth 20000 in
theorem ggX1_allShadows_X1_shadow : GoodIn wsX1_allShadows wsX1_shadow := goodIn_r _ [17, 18, 19, 20, 21, 22, 23, 24, 25, 26, 27, 28, 29, 30, 31, 32, 33, 34, 35] (by decide +kernel) (by decide +kernel)
set_option maxRecDepth 20000 in
theorem gX1_allShadows_X1_shadow : GoodIn wsX1_allShadows (wsV RX1 129 RX1 yX1_shadow wsX1_shadow) := goodIn_app (goodIn_of _ (by decide +kernel)) ggX1_allShadows_X1_shadow
theorem dX1_allShadows_0 : decode cX1_allShadows 0 = .ok (.aload_n 0, 1) := by decide +kernel
theorem dX1_allShadows_1 : decode cX1_allShadows 1 = .ok (.iconst 0, 1) := by decide +kernel
theorem dX1_allShadows_2 : decode cX1_allShadows 2 = .ok (.putfield 38, 3) := by decide +kernel
theorem dX1_allShadows_5 : decode cX1_allShadows 5 = .ok (.iload_n 1, 1) := by decide +kernel
theorem dX1_allShadows_6 : decode cX1_allShadows 6 = .ok (.invokestatic 119, 3) := by decide +kernel
theorem dX1_allShadows_9 : decode cX1_allShadows 9 = .ok (.ifCond .ne 9, 3) := by decide +kernel
theorem dX1_allShadows_12 : decode cX1_allShadows 12 = .ok (.aload_n 0, 1) := by decide +kernel
theorem dX1_allShadows_13 : decode cX1_allShadows 13 = .ok (.iconst 1, 1) := by decide +kernel
theorem dX1_allShadows_14 : decode cX1_allShadows 14 = .ok (.invokevirtual 100, 3) := by decide +kernel
theorem dX1_allShadows_17 : decode cX1_allShadows 17 = .ok (.ireturn, 1) := by decide +kernel
theorem dX1_allShadows_18 : decode cX1_allShadows 18 = .ok (.iconst 0, 1) := by decide +kernel
theorem dX1_allShadows_19 : decode cX1_allShadows 19 = .ok (.istore_n 2, 1) := by decide +kernel
theorem dX1_allShadows_20 : decode cX1_allShadows 20 = .ok (.iconst 0, 1) := by decide +kernel
theorem dX1_allShadows_21 : decode cX1_allShadows 21 = .ok (.istore_n 3, 1) := by decide +kernel
theorem dX1_allShadows_22 : decode cX1_allShadows 22 = .ok (.iload_n 3, 1) := by decide +kernel
theorem dX1_allShadows_23 : decode cX1_allShadows 23 = .ok (.aload_n 0, 1) := by decide +kernel
theorem dX1_allShadows_24 : decode cX1_allShadows 24 = .ok (.getfield 41, 3) := by decide +kernel
theorem dX1_allShadows_27 : decode cX1_allShadows 27 = .ok (.if_icmp .ge 18, 3) := by decide +kernel
theorem dX1_allShadows_30 : decode cX1_allShadows 30 = .ok (.iload_n 2, 1) := by decide +kernel
theorem dX1_allShadows_31 : decode cX1_allShadows 31 = .ok (.aload_n 0, 1) := by decide +kernel
theorem dX1_allShadows_32 : decode cX1_allShadows 32 = .ok (.iload_n 3, 1) := by decide +kernel
theorem dX1_allShadows_33 : decode cX1_allShadows 33 = .ok (.iload_n 1, 1) := by decide +kernel
theorem dX1_allShadows_34 : decode cX1_allShadows 34 = .ok (.invokevirtual 129, 3) := by decide +kernel
theorem dX1_allShadows_37 : decode cX1_allShadows 37 = .ok (.iadd, 1) := by decide +kernel
theorem dX1_allShadows_38 : decode cX1_allShadows 38 = .ok (.istore_n 2, 1) := by decide +kernel
theorem dX1_allShadows_39 : decode cX1_allShadows 39 = .ok (.iinc 3 1, 3) := by decide +kernel
theorem dX1_allShadows_42 : decode cX1_allShadows 42 = .ok (.goto (-20), 3) := by decide +kernel
theorem dX1_allShadows_45 : decode cX1_allShadows 45 = .ok (.iload_n 2, 1) := by decide +kernel
theorem dX1_allShadows_46 : decode cX1_allShadows 46 = .ok (.ireturn, 1) := by decide +kernel
set_option maxRecDepth 20000 in
theorem ggX1_naps_X1_ok : GoodIn wsX1_naps wsX1_ok := goodIn_r _ [6, 7, 8, 9, 10, 11, 12, 13, 14, 15, 16, 17, 18, 19, 20, 21, 22, 23, 24] (by decide +kernel) (by decide +kernel)
set_option maxRecDepth 20000 in
theorem gX1_naps_X1_ok : GoodIn wsX1_naps (wsV RX1 116 RX1 yX1_ok wsX1_ok) := goodIn_app (goodIn_of _ (by decide +kernel)) ggX1_naps_X1_ok
theorem dX1_naps_0 : decode cX1_naps 0 = .ok (.aload_n 0, 1) := by decide +kernel
theorem dX1_naps_1 : decode cX1_naps 1 = .ok (.aload_n 0, 1) := by decide +kernel
theorem dX1_naps_2 : decode cX1_naps 2 = .ok (.getfield 48, 3) := by decide +kernel
theorem dX1_naps_5 : decode cX1_naps 5 = .ok (.invokevirtual 116, 3) := by decide +kernel
theorem dX1_naps_8 : decode cX1_naps 8 = .ok (.ireturn, 1) := by decide +kernel
set_option maxRecDepth 20000 in
theorem ggX1_startOf_X1_isNap : GoodIn wsX1_startOf wsX1_isNap := goodIn_r _ [7, 8, 9, 10, 6, 11, 16, 17, 18, 19, 20, 21, 22, 23, 24, 25, 26, 27, 28, 29, 30, 31, 32] (by decide +kernel) (by decide +kernel)
set_option maxRecDepth 20000 in
theorem gX1_startOf_X1_isNap : GoodIn wsX1_startOf (wsV RX1 107 RX1 yX1_isNap wsX1_isNap) := goodIn_app (goodIn_of _ (by decide +kernel)) ggX1_startOf_X1_isNap
set_option maxRecDepth 20000 in
theorem ggX1_startOf_X1_no : GoodIn wsX1_startOf wsX1_no := goodIn_r _ [15, 1, 16, 17, 18, 19, 20, 21, 22, 23, 24, 25, 26, 27, 28, 29, 30, 31, 32] (by decide +kernel) (by decide +kernel)
set_option maxRecDepth 20000 in
theorem gX1_startOf_X1_no : GoodIn wsX1_startOf (wsV RX1 100 RX1 yX1_no wsX1_no) := goodIn_app (goodIn_of _ (by decide +kernel)) ggX1_startOf_X1_no
theorem dX1_startOf_0 : decode cX1_startOf 0 = .ok (.aload_n 0, 1) := by decide +kernel
theorem dX1_startOf_1 : decode cX1_startOf 1 = .ok (.iconst 0, 1) := by decide +kernel
theorem dX1_startOf_2 : decode cX1_startOf 2 = .ok (.putfield 38, 3) := by decide +kernel
theorem dX1_startOf_5 : decode cX1_startOf 5 = .ok (.aload_n 0, 1) := by decide +kernel
theorem dX1_startOf_6 : decode cX1_startOf 6 = .ok (.iload_n 1, 1) := by decide +kernel
theorem dX1_startOf_7 : decode cX1_startOf 7 = .ok (.invokevirtual 107, 3) := by decide +kernel
theorem dX1_startOf_10 : decode cX1_startOf 10 = .ok (.ifCond .eq 12, 3) := by decide +kernel
theorem dX1_startOf_13 : decode cX1_startOf 13 = .ok (.aload_n 0, 1) := by decide +kernel
theorem dX1_startOf_14 : decode cX1_startOf 14 = .ok (.getfield 13, 3) := by decide +kernel
theorem dX1_startOf_17 : decode cX1_startOf 17 = .ok (.iload_n 1, 1) := by decide +kernel
theorem dX1_startOf_18 : decode cX1_startOf 18 = .ok (.iaload, 1) := by decide +kernel
theorem dX1_startOf_19 : decode cX1_startOf 19 = .ok (.goto 8, 3) := by decide +kernel
theorem dX1_startOf_22 : decode cX1_startOf 22 = .ok (.aload_n 0, 1) := by decide +kernel
theorem dX1_startOf_23 : decode cX1_startOf 23 = .ok (.iconst 1, 1) := by decide +kernel
theorem dX1_startOf_24 : decode cX1_startOf 24 = .ok (.invokevirtual 100, 3) := by decide +kernel
theorem dX1_startOf_27 : decode cX1_startOf 27 = .ok (.ireturn, 1) := by decide +kernel
set_option maxRecDepth 20000 in
theorem ggX1_lengthOf_X1_isNap : GoodIn wsX1_lengthOf wsX1_isNap := goodIn_r _ [8, 9, 10, 11, 7, 12, 17, 18, 19, 20, 21, 22, 23, 24, 25, 26, 27, 28, 29, 30, 31, 32, 33] (by decide +kernel) (by decide +kernel)
set_option maxRecDepth 20000 in
theorem gX1_lengthOf_X1_isNap : GoodIn wsX1_lengthOf (wsV RX1 107 RX1 yX1_isNap wsX1_isNap) := goodIn_app (goodIn_of _ (by decide +kernel)) ggX1_lengthOf_X1_isNap
set_option maxRecDepth 20000 in
theorem ggX1_lengthOf_X1_no : GoodIn wsX1_lengthOf wsX1_no := goodIn_r _ [16, 1, 17, 18, 19, 20, 21, 22, 23, 24, 25, 26, 27, 28, 29, 30, 31, 32, 33] (by decide +kernel) (by decide +kernel)
set_option maxRecDepth 20000 in
theorem gX1_lengthOf_X1_no : GoodIn wsX1_lengthOf (wsV RX1 100 RX1 yX1_no wsX1_no) := goodIn_app (goodIn_of _ (by decide +kernel)) ggX1_lengthOf_X1_no
theorem dX1_lengthOf_0 : decode cX1_lengthOf 0 = .ok (.aload_n 0, 1) := by decide +kernel
theorem dX1_lengthOf_1 : decode cX1_lengthOf 1 = .ok (.iconst 0, 1) := by decide +kernel
theorem dX1_lengthOf_2 : decode cX1_lengthOf 2 = .ok (.putfield 38, 3) := by decide +kernel
theorem dX1_lengthOf_5 : decode cX1_lengthOf 5 = .ok (.aload_n 0, 1) := by decide +kernel
theorem dX1_lengthOf_6 : decode cX1_lengthOf 6 = .ok (.iload_n 1, 1) := by decide +kernel
theorem dX1_lengthOf_7 : decode cX1_lengthOf 7 = .ok (.invokevirtual 107, 3) := by decide +kernel
theorem dX1_lengthOf_10 : decode cX1_lengthOf 10 = .ok (.ifCond .eq 19, 3) := by decide +kernel
theorem dX1_lengthOf_13 : decode cX1_lengthOf 13 = .ok (.aload_n 0, 1) := by decide +kernel
theorem dX1_lengthOf_14 : decode cX1_lengthOf 14 = .ok (.getfield 16, 3) := by decide +kernel
theorem dX1_lengthOf_17 : decode cX1_lengthOf 17 = .ok (.iload_n 1, 1) := by decide +kernel
theorem dX1_lengthOf_18 : decode cX1_lengthOf 18 = .ok (.iaload, 1) := by decide +kernel
theorem dX1_lengthOf_19 : decode cX1_lengthOf 19 = .ok (.aload_n 0, 1) := by decide +kernel
theorem dX1_lengthOf_20 : decode cX1_lengthOf 20 = .ok (.getfield 13, 3) := by decide +kernel
theorem dX1_lengthOf_23 : decode cX1_lengthOf 23 = .ok (.iload_n 1, 1) := by decide +kernel
theorem dX1_lengthOf_24 : decode cX1_lengthOf 24 = .ok (.iaload, 1) := by decide +kernel
theorem dX1_lengthOf_25 : decode cX1_lengthOf 25 = .ok (.isub, 1) := by decide +kernel
theorem dX1_lengthOf_26 : decode cX1_lengthOf 26 = .ok (.goto 8, 3) := by decide +kernel
theorem dX1_lengthOf_29 : decode cX1_lengthOf 29 = .ok (.aload_n 0, 1) := by decide +kernel
theorem dX1_lengthOf_30 : decode cX1_lengthOf 30 = .ok (.iconst 1, 1) := by decide +kernel
theorem dX1_lengthOf_31 : decode cX1_lengthOf 31 = .ok (.invokevirtual 100, 3) := by decide +kernel
theorem dX1_lengthOf_34 : decode cX1_lengthOf 34 = .ok (.ireturn, 1) := by decide +kernel
set_option maxRecDepth 20000 in
theorem ggX1_napsAt_X1_isMinute : GoodIn wsX1_napsAt wsX1_isMinute := goodIn_r _ [6, 7, 8, 5, 9] (by decide +kernel) (by decide +kernel)
set_option maxRecDepth 20000 in
theorem gX1_napsAt_X1_isMinute : GoodIn wsX1_napsAt (va_wsS RX1 119 yX1_isMinute wsX1_isMinute) := goodIn_app (goodIn_of _ (by decide +kernel)) ggX1_napsAt_X1_isMinute
set_option maxRecDepth 20000 in
theorem ggX1_napsAt_X1_no : GoodIn wsX1_napsAt wsX1_no := goodIn_r _ [13, 1, 14, 15, 16, 17, 18, 19, 20, 21, 22, 23, 24, 25, 26, 27, 28, 29, 30] (by decide +kernel) (by decide +kernel)
set_option maxRecDepth 20000 in
theorem gX1_napsAt_X1_no : GoodIn wsX1_napsAt (wsV RX1 100 RX1 yX1_no wsX1_no) := goodIn_app (goodIn_of _ (by decide +kernel)) ggX1_napsAt_X1_no
theorem dX1_napsAt_0 : decode cX1_napsAt 0 = .ok (.aload_n 0, 1) := by decide +kernel
theorem dX1_napsAt_1 : decode cX1_napsAt 1 = .ok (.iconst 0, 1) := by decide +kernel
theorem dX1_napsAt_2 : decode cX1_napsAt 2 = .ok (.putfield 38, 3) := by decide +kernel
theorem dX1_napsAt_5 : decode cX1_napsAt 5 = .ok (.iload_n 1, 1) := by decide +kernel
theorem dX1_napsAt_6 : decode cX1_napsAt 6 = .ok (.invokestatic 119, 3) := by decide +kernel
theorem dX1_napsAt_9 : decode cX1_napsAt 9 = .ok (.ifCond .eq 12, 3) := by decide +kernel
theorem dX1_napsAt_12 : decode cX1_napsAt 12 = .ok (.aload_n 0, 1) := by decide +kernel
theorem dX1_napsAt_13 : decode cX1_napsAt 13 = .ok (.getfield 19, 3) := by decide +kernel
theorem dX1_napsAt_16 : decode cX1_napsAt 16 = .ok (.iload_n 1, 1) := by decide +kernel
theorem dX1_napsAt_17 : decode cX1_napsAt 17 = .ok (.iaload, 1) := by decide +kernel
theorem dX1_napsAt_18 : decode cX1_napsAt 18 = .ok (.goto 8, 3) := by decide +kernel
theorem dX1_napsAt_21 : decode cX1_napsAt 21 = .ok (.aload_n 0, 1) := by decide +kernel
theorem dX1_napsAt_22 : decode cX1_napsAt 22 = .ok (.iconst 1, 1) := by decide +kernel
theorem dX1_napsAt_23 : decode cX1_napsAt 23 = .ok (.invokevirtual 100, 3) := by decide +kernel
theorem dX1_napsAt_26 : decode cX1_napsAt 26 = .ok (.ireturn, 1) := by decide +kernel
set_option maxRecDepth 20000 in
theorem ggX1_minutesAlone_X1_isNap : GoodIn wsX1_minutesAlone wsX1_isNap := goodIn_r _ [6, 7, 8, 9, 5, 10, 22, 23, 24, 25, 26, 27, 28, 29, 30, 31, 32, 33, 34, 35, 36, 37, 38] (by decide +kernel) (by decide +kernel)
set_option maxRecDepth 20000 in
theorem gX1_minutesAlone_X1_isNap : GoodIn wsX1_minutesAlone (wsV RX1 107 RX1 yX1_isNap wsX1_isNap) := goodIn_app (goodIn_of _ (by decide +kernel)) ggX1_minutesAlone_X1_isNap
set_option maxRecDepth 20000 in
theorem ggX1_minutesAlone_X1_alone : GoodIn wsX1_minutesAlone wsX1_alone := goodIn_r _ [14, 15, 16, 17, 22, 23, 24, 25, 26, 27, 28, 29, 30, 31, 32, 33, 34, 35, 36, 37, 38] (by decide +kernel) (by decide +kernel)
set_option maxRecDepth 20000 in
theorem gX1_minutesAlone_X1_alone : GoodIn wsX1_minutesAlone (wsV RX1 132 RX1 yX1_alone wsX1_alone) := goodIn_app (goodIn_of _ (by decide +kernel)) ggX1_minutesAlone_X1_alone
set_option maxRecDepth 20000 in
theorem ggX1_minutesAlone_X1_no : GoodIn wsX1_minutesAlone wsX1_no := goodIn_r _ [21, 1, 22, 23, 24, 25, 26, 27, 28, 29, 30, 31, 32, 33, 34, 35, 36, 37, 38] (by decide +kernel) (by decide +kernel)
set_option maxRecDepth 20000 in
theorem gX1_minutesAlone_X1_no : GoodIn wsX1_minutesAlone (wsV RX1 100 RX1 yX1_no wsX1_no) := goodIn_app (goodIn_of _ (by decide +kernel)) ggX1_minutesAlone_X1_no
theorem dX1_minutesAlone_0 : decode cX1_minutesAlone 0 = .ok (.aload_n 0, 1) := by decide +kernel
theorem dX1_minutesAlone_1 : decode cX1_minutesAlone 1 = .ok (.iconst 0, 1) := by decide +kernel
theorem dX1_minutesAlone_2 : decode cX1_minutesAlone 2 = .ok (.putfield 38, 3) := by decide +kernel
theorem dX1_minutesAlone_5 : decode cX1_minutesAlone 5 = .ok (.aload_n 0, 1) := by decide +kernel
theorem dX1_minutesAlone_6 : decode cX1_minutesAlone 6 = .ok (.iload_n 1, 1) := by decide +kernel
theorem dX1_minutesAlone_7 : decode cX1_minutesAlone 7 = .ok (.invokevirtual 107, 3) := by decide +kernel
theorem dX1_minutesAlone_10 : decode cX1_minutesAlone 10 = .ok (.ifCond .eq 11, 3) := by decide +kernel
theorem dX1_minutesAlone_13 : decode cX1_minutesAlone 13 = .ok (.aload_n 0, 1) := by decide +kernel
theorem dX1_minutesAlone_14 : decode cX1_minutesAlone 14 = .ok (.iload_n 1, 1) := by decide +kernel
theorem dX1_minutesAlone_15 : decode cX1_minutesAlone 15 = .ok (.invokevirtual 132, 3) := by decide +kernel
theorem dX1_minutesAlone_18 : decode cX1_minutesAlone 18 = .ok (.goto 8, 3) := by decide +kernel
theorem dX1_minutesAlone_21 : decode cX1_minutesAlone 21 = .ok (.aload_n 0, 1) := by decide +kernel
theorem dX1_minutesAlone_22 : decode cX1_minutesAlone 22 = .ok (.iconst 1, 1) := by decide +kernel
theorem dX1_minutesAlone_23 : decode cX1_minutesAlone 23 = .ok (.invokevirtual 100, 3) := by decide +kernel
theorem dX1_minutesAlone_26 : decode cX1_minutesAlone 26 = .ok (.ireturn, 1) := by decide +kernel
set_option maxRecDepth 20000 in
theorem ggX1_bees_X1_ok : GoodIn wsX1_bees wsX1_ok := goodIn_r _ [6, 7, 8, 9, 10, 11, 12, 13, 14, 15, 16, 17, 18, 19, 20, 21, 22, 23, 24] (by decide +kernel) (by decide +kernel)
set_option maxRecDepth 20000 in
theorem gX1_bees_X1_ok : GoodIn wsX1_bees (wsV RX1 116 RX1 yX1_ok wsX1_ok) := goodIn_app (goodIn_of _ (by decide +kernel)) ggX1_bees_X1_ok
theorem dX1_bees_0 : decode cX1_bees 0 = .ok (.aload_n 0, 1) := by decide +kernel
theorem dX1_bees_1 : decode cX1_bees 1 = .ok (.aload_n 0, 1) := by decide +kernel
theorem dX1_bees_2 : decode cX1_bees 2 = .ok (.getfield 51, 3) := by decide +kernel
theorem dX1_bees_5 : decode cX1_bees 5 = .ok (.invokevirtual 116, 3) := by decide +kernel
theorem dX1_bees_8 : decode cX1_bees 8 = .ok (.ireturn, 1) := by decide +kernel
set_option maxRecDepth 20000 in
theorem ggX1_ticksOf_X1_isBee : GoodIn wsX1_ticksOf wsX1_isBee := goodIn_r _ [6, 7, 8, 9, 5, 10, 31, 32, 33, 34, 35, 36, 37, 38, 39, 40, 41, 42, 43, 44, 45, 46, 47] (by decide +kernel) (by decide +kernel)
set_option maxRecDepth 20000 in
theorem gX1_ticksOf_X1_isBee : GoodIn wsX1_ticksOf (wsV RX1 135 RX1 yX1_isBee wsX1_isBee) := goodIn_app (goodIn_of _ (by decide +kernel)) ggX1_ticksOf_X1_isBee
set_option maxRecDepth 20000 in
theorem ggX1_ticksOf_X1_ticked : GoodIn wsX1_ticksOf wsX1_ticked := goodIn_r _ [14, 15, 16, 17, 18, 5, 19, 20, 21, 22, 23, 24, 25, 26, 31, 32, 33, 34, 35, 36, 37, 38, 39, 40, 41, 42, 43, 44, 45, 46, 47] (by decide +kernel) (by decide +kernel)
set_option maxRecDepth 20000 in
theorem gX1_ticksOf_X1_ticked : GoodIn wsX1_ticksOf (wsV RX1 71 RX1 yX1_ticked wsX1_ticked) := goodIn_app (goodIn_of _ (by decide +kernel)) ggX1_ticksOf_X1_ticked
set_option maxRecDepth 20000 in
theorem ggX1_ticksOf_X1_no : GoodIn wsX1_ticksOf wsX1_no := goodIn_r _ [30, 1, 31, 32, 33, 34, 35, 36, 37, 38, 39, 40, 41, 42, 43, 44, 45, 46, 47] (by decide +kernel) (by decide +kernel)
set_option maxRecDepth 20000 in
theorem gX1_ticksOf_X1_no : GoodIn wsX1_ticksOf (wsV RX1 100 RX1 yX1_no wsX1_no) := goodIn_app (goodIn_of _ (by decide +kernel)) ggX1_ticksOf_X1_no
theorem dX1_ticksOf_0 : decode cX1_ticksOf 0 = .ok (.aload_n 0, 1) := by decide +kernel
theorem dX1_ticksOf_1 : decode cX1_ticksOf 1 = .ok (.iconst 0, 1) := by decide +kernel
theorem dX1_ticksOf_2 : decode cX1_ticksOf 2 = .ok (.putfield 38, 3) := by decide +kernel
theorem dX1_ticksOf_5 : decode cX1_ticksOf 5 = .ok (.aload_n 0, 1) := by decide +kernel
theorem dX1_ticksOf_6 : decode cX1_ticksOf 6 = .ok (.iload_n 1, 1) := by decide +kernel
theorem dX1_ticksOf_7 : decode cX1_ticksOf 7 = .ok (.invokevirtual 135, 3) := by decide +kernel
theorem dX1_ticksOf_10 : decode cX1_ticksOf 10 = .ok (.ifCond .eq 11, 3) := by decide +kernel
theorem dX1_ticksOf_13 : decode cX1_ticksOf 13 = .ok (.aload_n 0, 1) := by decide +kernel
theorem dX1_ticksOf_14 : decode cX1_ticksOf 14 = .ok (.iload_n 1, 1) := by decide +kernel
theorem dX1_ticksOf_15 : decode cX1_ticksOf 15 = .ok (.invokevirtual 71, 3) := by decide +kernel
theorem dX1_ticksOf_18 : decode cX1_ticksOf 18 = .ok (.goto 8, 3) := by decide +kernel
theorem dX1_ticksOf_21 : decode cX1_ticksOf 21 = .ok (.aload_n 0, 1) := by decide +kernel
theorem dX1_ticksOf_22 : decode cX1_ticksOf 22 = .ok (.iconst 1, 1) := by decide +kernel
theorem dX1_ticksOf_23 : decode cX1_ticksOf 23 = .ok (.invokevirtual 100, 3) := by decide +kernel
theorem dX1_ticksOf_26 : decode cX1_ticksOf 26 = .ok (.ireturn, 1) := by decide +kernel
set_option maxRecDepth 20000 in
theorem ggX1_measuredBy_X1_isBee : GoodIn wsX1_measuredBy wsX1_isBee := goodIn_r _ [7, 8, 9, 10, 6, 11, 31, 32, 33, 34, 35, 36, 37, 38, 39, 40, 41, 42, 43, 44, 45, 46, 47] (by decide +kernel) (by decide +kernel)
set_option maxRecDepth 20000 in
theorem gX1_measuredBy_X1_isBee : GoodIn wsX1_measuredBy (wsV RX1 135 RX1 yX1_isBee wsX1_isBee) := goodIn_app (goodIn_of _ (by decide +kernel)) ggX1_measuredBy_X1_isBee
set_option maxRecDepth 20000 in
theorem ggX1_measuredBy_X1_ticked : GoodIn wsX1_measuredBy wsX1_ticked := goodIn_r _ [15, 16, 17, 18, 19, 6, 20, 2, 21, 22, 23, 24, 25, 26, 31, 32, 33, 34, 35, 36, 37, 38, 39, 40, 41, 42, 43, 44, 45, 46, 47] (by decide +kernel) (by decide +kernel)
set_option maxRecDepth 20000 in
theorem gX1_measuredBy_X1_ticked : GoodIn wsX1_measuredBy (wsV RX1 71 RX1 yX1_ticked wsX1_ticked) := goodIn_app (goodIn_of _ (by decide +kernel)) ggX1_measuredBy_X1_ticked
set_option maxRecDepth 20000 in
theorem ggX1_measuredBy_X1_no : GoodIn wsX1_measuredBy wsX1_no := goodIn_r _ [30, 1, 31, 32, 33, 34, 35, 36, 37, 38, 39, 40, 41, 42, 43, 44, 45, 46, 47] (by decide +kernel) (by decide +kernel)
set_option maxRecDepth 20000 in
theorem gX1_measuredBy_X1_no : GoodIn wsX1_measuredBy (wsV RX1 100 RX1 yX1_no wsX1_no) := goodIn_app (goodIn_of _ (by decide +kernel)) ggX1_measuredBy_X1_no
theorem dX1_measuredBy_0 : decode cX1_measuredBy 0 = .ok (.aload_n 0, 1) := by decide +kernel
theorem dX1_measuredBy_1 : decode cX1_measuredBy 1 = .ok (.iconst 0, 1) := by decide +kernel
theorem dX1_measuredBy_2 : decode cX1_measuredBy 2 = .ok (.putfield 38, 3) := by decide +kernel
theorem dX1_measuredBy_5 : decode cX1_measuredBy 5 = .ok (.aload_n 0, 1) := by decide +kernel
theorem dX1_measuredBy_6 : decode cX1_measuredBy 6 = .ok (.iload_n 1, 1) := by decide +kernel
theorem dX1_measuredBy_7 : decode cX1_measuredBy 7 = .ok (.invokevirtual 135, 3) := by decide +kernel
theorem dX1_measuredBy_10 : decode cX1_measuredBy 10 = .ok (.ifCond .eq 18, 3) := by decide +kernel
theorem dX1_measuredBy_13 : decode cX1_measuredBy 13 = .ok (.aload_n 0, 1) := by decide +kernel
theorem dX1_measuredBy_14 : decode cX1_measuredBy 14 = .ok (.iload_n 1, 1) := by decide +kernel
theorem dX1_measuredBy_15 : decode cX1_measuredBy 15 = .ok (.invokevirtual 71, 3) := by decide +kernel
theorem dX1_measuredBy_18 : decode cX1_measuredBy 18 = .ok (.aload_n 0, 1) := by decide +kernel
theorem dX1_measuredBy_19 : decode cX1_measuredBy 19 = .ok (.getfield 22, 3) := by decide +kernel
theorem dX1_measuredBy_22 : decode cX1_measuredBy 22 = .ok (.iload_n 1, 1) := by decide +kernel
theorem dX1_measuredBy_23 : decode cX1_measuredBy 23 = .ok (.iaload, 1) := by decide +kernel
theorem dX1_measuredBy_24 : decode cX1_measuredBy 24 = .ok (.imul, 1) := by decide +kernel
theorem dX1_measuredBy_25 : decode cX1_measuredBy 25 = .ok (.goto 8, 3) := by decide +kernel
theorem dX1_measuredBy_28 : decode cX1_measuredBy 28 = .ok (.aload_n 0, 1) := by decide +kernel
theorem dX1_measuredBy_29 : decode cX1_measuredBy 29 = .ok (.iconst 1, 1) := by decide +kernel
theorem dX1_measuredBy_30 : decode cX1_measuredBy 30 = .ok (.invokevirtual 100, 3) := by decide +kernel
theorem dX1_measuredBy_33 : decode cX1_measuredBy 33 = .ok (.ireturn, 1) := by decide +kernel
set_option maxRecDepth 20000 in
theorem ggX1_errorOf_X1_isBee : GoodIn wsX1_errorOf wsX1_isBee := goodIn_r _ [6, 7, 8, 9, 5, 10, 39, 40, 41, 42, 43, 44, 45, 46, 47, 48, 49, 50, 51, 52, 53, 54, 55] (by decide +kernel) (by decide +kernel)
set_option maxRecDepth 20000 in
theorem gX1_errorOf_X1_isBee : GoodIn wsX1_errorOf (wsV RX1 135 RX1 yX1_isBee wsX1_isBee) := goodIn_app (goodIn_of _ (by decide +kernel)) ggX1_errorOf_X1_isBee
set_option maxRecDepth 20000 in
theorem ggX1_errorOf_X1_error : GoodIn wsX1_errorOf wsX1_error := goodIn_r _ [14, 15, 16, 17, 18, 19, 5, 20, 21, 22, 23, 24, 25, 26, 27, 28, 29, 30, 31, 32, 33, 34, 39, 40, 41, 42, 43, 44, 45, 46, 47, 48, 49, 50, 51, 52, 53, 54, 55] (by decide +kernel) (by decide +kernel)
set_option maxRecDepth 20000 in
theorem gX1_errorOf_X1_error : GoodIn wsX1_errorOf (wsV RX1 78 RX1 yX1_error wsX1_error) := goodIn_app (goodIn_of _ (by decide +kernel)) ggX1_errorOf_X1_error
set_option maxRecDepth 20000 in
theorem ggX1_errorOf_X1_no : GoodIn wsX1_errorOf wsX1_no := goodIn_r _ [38, 1, 39, 40, 41, 42, 43, 44, 45, 46, 47, 48, 49, 50, 51, 52, 53, 54, 55] (by decide +kernel) (by decide +kernel)
set_option maxRecDepth 20000 in
theorem gX1_errorOf_X1_no : GoodIn wsX1_errorOf (wsV RX1 100 RX1 yX1_no wsX1_no) := goodIn_app (goodIn_of _ (by decide +kernel)) ggX1_errorOf_X1_no
theorem dX1_errorOf_0 : decode cX1_errorOf 0 = .ok (.aload_n 0, 1) := by decide +kernel
theorem dX1_errorOf_1 : decode cX1_errorOf 1 = .ok (.iconst 0, 1) := by decide +kernel
theorem dX1_errorOf_2 : decode cX1_errorOf 2 = .ok (.putfield 38, 3) := by decide +kernel
theorem dX1_errorOf_5 : decode cX1_errorOf 5 = .ok (.aload_n 0, 1) := by decide +kernel
theorem dX1_errorOf_6 : decode cX1_errorOf 6 = .ok (.iload_n 1, 1) := by decide +kernel
theorem dX1_errorOf_7 : decode cX1_errorOf 7 = .ok (.invokevirtual 135, 3) := by decide +kernel
theorem dX1_errorOf_10 : decode cX1_errorOf 10 = .ok (.ifCond .eq 11, 3) := by decide +kernel
theorem dX1_errorOf_13 : decode cX1_errorOf 13 = .ok (.aload_n 0, 1) := by decide +kernel
theorem dX1_errorOf_14 : decode cX1_errorOf 14 = .ok (.iload_n 1, 1) := by decide +kernel
theorem dX1_errorOf_15 : decode cX1_errorOf 15 = .ok (.invokevirtual 78, 3) := by decide +kernel
theorem dX1_errorOf_18 : decode cX1_errorOf 18 = .ok (.goto 8, 3) := by decide +kernel
theorem dX1_errorOf_21 : decode cX1_errorOf 21 = .ok (.aload_n 0, 1) := by decide +kernel
theorem dX1_errorOf_22 : decode cX1_errorOf 22 = .ok (.iconst 1, 1) := by decide +kernel
theorem dX1_errorOf_23 : decode cX1_errorOf 23 = .ok (.invokevirtual 100, 3) := by decide +kernel
theorem dX1_errorOf_26 : decode cX1_errorOf 26 = .ok (.ireturn, 1) := by decide +kernel
set_option maxRecDepth 20000 in
theorem ggX1_bestBee_X1_best : GoodIn wsX1_bestBee wsX1_best := goodIn_r _ [5, 6, 7, 8, 9, 10, 11, 12, 13, 4, 14, 15, 16, 17, 18, 19, 20, 21, 22, 23, 24, 25, 26, 27, 28, 29, 30, 31, 32, 33, 34, 40, 41, 42, 43, 44, 45, 46, 47, 48, 49, 50, 51, 52, 53, 54, 55, 56] (by decide +kernel) (by decide +kernel)
set_option maxRecDepth 20000 in
theorem gX1_bestBee_X1_best : GoodIn wsX1_bestBee (wsV RX1 138 RX1 yX1_best wsX1_best) := goodIn_app (goodIn_of _ (by decide +kernel)) ggX1_bestBee_X1_best
set_option maxRecDepth 20000 in
theorem ggX1_bestBee_X1_ok : GoodIn wsX1_bestBee wsX1_ok := goodIn_r _ [38, 39, 40, 41, 42, 43, 44, 45, 46, 47, 48, 49, 50, 51, 52, 53, 54, 55, 56] (by decide +kernel) (by decide +kernel)
set_option maxRecDepth 20000 in
theorem gX1_bestBee_X1_ok : GoodIn wsX1_bestBee (wsV RX1 116 RX1 yX1_ok wsX1_ok) := goodIn_app (goodIn_of _ (by decide +kernel)) ggX1_bestBee_X1_ok
theorem dX1_bestBee_0 : decode cX1_bestBee 0 = .ok (.aload_n 0, 1) := by decide +kernel
theorem dX1_bestBee_1 : decode cX1_bestBee 1 = .ok (.aload_n 0, 1) := by decide +kernel
theorem dX1_bestBee_2 : decode cX1_bestBee 2 = .ok (.invokevirtual 138, 3) := by decide +kernel
theorem dX1_bestBee_5 : decode cX1_bestBee 5 = .ok (.invokevirtual 116, 3) := by decide +kernel
theorem dX1_bestBee_8 : decode cX1_bestBee 8 = .ok (.ireturn, 1) := by decide +kernel
set_option maxRecDepth 20000 in
theorem ggX1_nextTick_X1_isBee : GoodIn wsX1_nextTick wsX1_isBee := goodIn_r _ [6, 7, 8, 9, 5, 10, 31, 32, 33, 34, 35, 36, 37, 38, 39, 40, 41, 42, 43, 44, 45, 46, 47] (by decide +kernel) (by decide +kernel)
set_option maxRecDepth 20000 in
theorem gX1_nextTick_X1_isBee : GoodIn wsX1_nextTick (wsV RX1 135 RX1 yX1_isBee wsX1_isBee) := goodIn_app (goodIn_of _ (by decide +kernel)) ggX1_nextTick_X1_isBee
set_option maxRecDepth 20000 in
theorem ggX1_nextTick_X1_next : GoodIn wsX1_nextTick wsX1_next := goodIn_r _ [14, 15, 16, 17, 18, 5, 19, 20, 21, 22, 23, 24, 25, 26, 31, 32, 33, 34, 35, 36, 37, 38, 39, 40, 41, 42, 43, 44, 45, 46, 47] (by decide +kernel) (by decide +kernel)
set_option maxRecDepth 20000 in
theorem gX1_nextTick_X1_next : GoodIn wsX1_nextTick (wsV RX1 141 RX1 yX1_next wsX1_next) := goodIn_app (goodIn_of _ (by decide +kernel)) ggX1_nextTick_X1_next
set_option maxRecDepth 20000 in
theorem ggX1_nextTick_X1_no : GoodIn wsX1_nextTick wsX1_no := goodIn_r _ [30, 1, 31, 32, 33, 34, 35, 36, 37, 38, 39, 40, 41, 42, 43, 44, 45, 46, 47] (by decide +kernel) (by decide +kernel)
set_option maxRecDepth 20000 in
theorem gX1_nextTick_X1_no : GoodIn wsX1_nextTick (wsV RX1 100 RX1 yX1_no wsX1_no) := goodIn_app (goodIn_of _ (by decide +kernel)) ggX1_nextTick_X1_no
theorem dX1_nextTick_0 : decode cX1_nextTick 0 = .ok (.aload_n 0, 1) := by decide +kernel
theorem dX1_nextTick_1 : decode cX1_nextTick 1 = .ok (.iconst 0, 1) := by decide +kernel
theorem dX1_nextTick_2 : decode cX1_nextTick 2 = .ok (.putfield 38, 3) := by decide +kernel
theorem dX1_nextTick_5 : decode cX1_nextTick 5 = .ok (.aload_n 0, 1) := by decide +kernel
theorem dX1_nextTick_6 : decode cX1_nextTick 6 = .ok (.iload_n 1, 1) := by decide +kernel
theorem dX1_nextTick_7 : decode cX1_nextTick 7 = .ok (.invokevirtual 135, 3) := by decide +kernel
theorem dX1_nextTick_10 : decode cX1_nextTick 10 = .ok (.ifCond .eq 11, 3) := by decide +kernel
theorem dX1_nextTick_13 : decode cX1_nextTick 13 = .ok (.aload_n 0, 1) := by decide +kernel
theorem dX1_nextTick_14 : decode cX1_nextTick 14 = .ok (.iload_n 1, 1) := by decide +kernel
theorem dX1_nextTick_15 : decode cX1_nextTick 15 = .ok (.invokevirtual 141, 3) := by decide +kernel
theorem dX1_nextTick_18 : decode cX1_nextTick 18 = .ok (.goto 8, 3) := by decide +kernel
theorem dX1_nextTick_21 : decode cX1_nextTick 21 = .ok (.aload_n 0, 1) := by decide +kernel
theorem dX1_nextTick_22 : decode cX1_nextTick 22 = .ok (.iconst 1, 1) := by decide +kernel
theorem dX1_nextTick_23 : decode cX1_nextTick 23 = .ok (.invokevirtual 100, 3) := by decide +kernel
theorem dX1_nextTick_26 : decode cX1_nextTick 26 = .ok (.ireturn, 1) := by decide +kernel
set_option maxRecDepth 20000 in
theorem ggX1_tea_X1_ok : GoodIn wsX1_tea wsX1_ok := goodIn_r _ [6, 7, 8, 9, 10, 11, 12, 13, 14, 15, 16, 17, 18, 19, 20, 21, 22, 23, 24] (by decide +kernel) (by decide +kernel)
set_option maxRecDepth 20000 in
theorem gX1_tea_X1_ok : GoodIn wsX1_tea (wsV RX1 116 RX1 yX1_ok wsX1_ok) := goodIn_app (goodIn_of _ (by decide +kernel)) ggX1_tea_X1_ok
theorem dX1_tea_0 : decode cX1_tea 0 = .ok (.aload_n 0, 1) := by decide +kernel
theorem dX1_tea_1 : decode cX1_tea 1 = .ok (.aload_n 0, 1) := by decide +kernel
theorem dX1_tea_2 : decode cX1_tea 2 = .ok (.getfield 87, 3) := by decide +kernel
theorem dX1_tea_5 : decode cX1_tea 5 = .ok (.invokevirtual 116, 3) := by decide +kernel
theorem dX1_tea_8 : decode cX1_tea 8 = .ok (.ireturn, 1) := by decide +kernel
set_option maxRecDepth 20000 in
theorem ggX1_spilt_X1_ok : GoodIn wsX1_spilt wsX1_ok := goodIn_r _ [6, 7, 8, 9, 10, 11, 12, 13, 14, 15, 16, 17, 18, 19, 20, 21, 22, 23, 24] (by decide +kernel) (by decide +kernel)
set_option maxRecDepth 20000 in
theorem gX1_spilt_X1_ok : GoodIn wsX1_spilt (wsV RX1 116 RX1 yX1_ok wsX1_ok) := goodIn_app (goodIn_of _ (by decide +kernel)) ggX1_spilt_X1_ok
theorem dX1_spilt_0 : decode cX1_spilt 0 = .ok (.aload_n 0, 1) := by decide +kernel
theorem dX1_spilt_1 : decode cX1_spilt 1 = .ok (.aload_n 0, 1) := by decide +kernel
theorem dX1_spilt_2 : decode cX1_spilt 2 = .ok (.getfield 94, 3) := by decide +kernel
theorem dX1_spilt_5 : decode cX1_spilt 5 = .ok (.invokevirtual 116, 3) := by decide +kernel
theorem dX1_spilt_8 : decode cX1_spilt 8 = .ok (.ireturn, 1) := by decide +kernel
set_option maxRecDepth 20000 in
theorem ggX1_spiltAtEnd_X1_atEnd : GoodIn wsX1_spiltAtEnd wsX1_atEnd := goodIn_r _ [5, 6, 7, 8, 9, 10, 11, 12, 13, 14, 15, 16, 17, 4, 18, 19, 20, 21, 22, 23, 24, 25, 26, 27, 28, 29, 30, 31, 37, 38, 39, 40, 41, 42, 43, 44, 45, 46, 47, 48, 49, 50, 51, 52, 53] (by decide +kernel) (by decide +kernel)
set_option maxRecDepth 20000 in
theorem gX1_spiltAtEnd_X1_atEnd : GoodIn wsX1_spiltAtEnd (wsV RX1 144 RX1 yX1_atEnd wsX1_atEnd) := goodIn_app (goodIn_of _ (by decide +kernel)) ggX1_spiltAtEnd_X1_atEnd
set_option maxRecDepth 20000 in
theorem ggX1_spiltAtEnd_X1_ok : GoodIn wsX1_spiltAtEnd wsX1_ok := goodIn_r _ [35, 36, 37, 38, 39, 40, 41, 42, 43, 44, 45, 46, 47, 48, 49, 50, 51, 52, 53] (by decide +kernel) (by decide +kernel)
set_option maxRecDepth 20000 in
theorem gX1_spiltAtEnd_X1_ok : GoodIn wsX1_spiltAtEnd (wsV RX1 116 RX1 yX1_ok wsX1_ok) := goodIn_app (goodIn_of _ (by decide +kernel)) ggX1_spiltAtEnd_X1_ok
theorem dX1_spiltAtEnd_0 : decode cX1_spiltAtEnd 0 = .ok (.aload_n 0, 1) := by decide +kernel
theorem dX1_spiltAtEnd_1 : decode cX1_spiltAtEnd 1 = .ok (.aload_n 0, 1) := by decide +kernel
theorem dX1_spiltAtEnd_2 : decode cX1_spiltAtEnd 2 = .ok (.invokevirtual 144, 3) := by decide +kernel
theorem dX1_spiltAtEnd_5 : decode cX1_spiltAtEnd 5 = .ok (.invokevirtual 116, 3) := by decide +kernel
theorem dX1_spiltAtEnd_8 : decode cX1_spiltAtEnd 8 = .ok (.ireturn, 1) := by decide +kernel
set_option maxRecDepth 20000 in
theorem ggX1_minuteOfSpill_X1_spill : GoodIn wsX1_minuteOfSpill wsX1_spill := goodIn_r _ [6, 7, 8, 9, 10, 11, 12, 5, 13, 14, 15, 16, 17, 18, 19, 20, 21, 22, 23, 24, 25, 26, 27, 28, 29, 30, 36, 37, 38, 39, 40, 41, 42, 43, 44, 45, 46, 47, 48, 49, 50, 51, 52] (by decide +kernel) (by decide +kernel)
set_option maxRecDepth 20000 in
theorem gX1_minuteOfSpill_X1_spill : GoodIn wsX1_minuteOfSpill (wsV RX1 97 RX1 yX1_spill wsX1_spill) := goodIn_app (goodIn_of _ (by decide +kernel)) ggX1_minuteOfSpill_X1_spill
set_option maxRecDepth 20000 in
theorem ggX1_minuteOfSpill_X1_ok : GoodIn wsX1_minuteOfSpill wsX1_ok := goodIn_r _ [34, 35, 36, 37, 38, 39, 40, 41, 42, 43, 44, 45, 46, 47, 48, 49, 50, 51, 52] (by decide +kernel) (by decide +kernel)
set_option maxRecDepth 20000 in
theorem gX1_minuteOfSpill_X1_ok : GoodIn wsX1_minuteOfSpill (wsV RX1 116 RX1 yX1_ok wsX1_ok) := goodIn_app (goodIn_of _ (by decide +kernel)) ggX1_minuteOfSpill_X1_ok
theorem dX1_minuteOfSpill_0 : decode cX1_minuteOfSpill 0 = .ok (.aload_n 0, 1) := by decide +kernel
theorem dX1_minuteOfSpill_1 : decode cX1_minuteOfSpill 1 = .ok (.aload_n 0, 1) := by decide +kernel
theorem dX1_minuteOfSpill_2 : decode cX1_minuteOfSpill 2 = .ok (.aload_n 0, 1) := by decide +kernel
theorem dX1_minuteOfSpill_3 : decode cX1_minuteOfSpill 3 = .ok (.getfield 32, 3) := by decide +kernel
theorem dX1_minuteOfSpill_6 : decode cX1_minuteOfSpill 6 = .ok (.invokevirtual 97, 3) := by decide +kernel
theorem dX1_minuteOfSpill_9 : decode cX1_minuteOfSpill 9 = .ok (.invokevirtual 116, 3) := by decide +kernel
theorem dX1_minuteOfSpill_12 : decode cX1_minuteOfSpill 12 = .ok (.ireturn, 1) := by decide +kernel
set_option maxRecDepth 20000 in
theorem ggX1_safeRate_X1_safest : GoodIn wsX1_safeRate wsX1_safest := goodIn_r _ [5, 6, 7, 8, 4, 9, 10, 11, 12, 13, 14, 15, 16, 17, 18, 19, 20, 21, 22, 23, 24, 25, 26, 27, 28, 29, 30, 31, 32, 33, 39, 40, 41, 42, 43, 44, 45, 46, 47, 48, 49, 50, 51, 52, 53, 54, 55] (by decide +kernel) (by decide +kernel)
set_option maxRecDepth 20000 in
theorem gX1_safeRate_X1_safest : GoodIn wsX1_safeRate (wsV RX1 147 RX1 yX1_safest wsX1_safest) := goodIn_app (goodIn_of _ (by decide +kernel)) ggX1_safeRate_X1_safest
set_option maxRecDepth 20000 in
theorem ggX1_safeRate_X1_ok : GoodIn wsX1_safeRate wsX1_ok := goodIn_r _ [37, 38, 39, 40, 41, 42, 43, 44, 45, 46, 47, 48, 49, 50, 51, 52, 53, 54, 55] (by decide +kernel) (by decide +kernel)
set_option maxRecDepth 20000 in
theorem gX1_safeRate_X1_ok : GoodIn wsX1_safeRate (wsV RX1 116 RX1 yX1_ok wsX1_ok) := goodIn_app (goodIn_of _ (by decide +kernel)) ggX1_safeRate_X1_ok
theorem dX1_safeRate_0 : decode cX1_safeRate 0 = .ok (.aload_n 0, 1) := by decide +kernel
theorem dX1_safeRate_1 : decode cX1_safeRate 1 = .ok (.aload_n 0, 1) := by decide +kernel
theorem dX1_safeRate_2 : decode cX1_safeRate 2 = .ok (.invokevirtual 147, 3) := by decide +kernel
theorem dX1_safeRate_5 : decode cX1_safeRate 5 = .ok (.invokevirtual 116, 3) := by decide +kernel
theorem dX1_safeRate_8 : decode cX1_safeRate 8 = .ok (.ireturn, 1) := by decide +kernel
set_option maxRecDepth 20000 in
theorem ggX1_worst_X1_alone : GoodIn wsX1_worst wsX1_alone := goodIn_r _ [6, 7, 8, 9, 10, 11, 12, 13, 14, 15, 16, 17, 18, 19, 20, 21, 22, 23, 24, 25, 26] (by decide +kernel) (by decide +kernel)
set_option maxRecDepth 20000 in
theorem gX1_worst_X1_alone : GoodIn wsX1_worst (wsV RX1 132 RX1 yX1_alone wsX1_alone) := goodIn_app (goodIn_of _ (by decide +kernel)) ggX1_worst_X1_alone
theorem dX1_worst_0 : decode cX1_worst 0 = .ok (.iconst (-1), 1) := by decide +kernel
theorem dX1_worst_1 : decode cX1_worst 1 = .ok (.istore_n 1, 1) := by decide +kernel
theorem dX1_worst_2 : decode cX1_worst 2 = .ok (.iconst 0, 1) := by decide +kernel
theorem dX1_worst_3 : decode cX1_worst 3 = .ok (.istore_n 2, 1) := by decide +kernel
theorem dX1_worst_4 : decode cX1_worst 4 = .ok (.iload_n 2, 1) := by decide +kernel
theorem dX1_worst_5 : decode cX1_worst 5 = .ok (.aload_n 0, 1) := by decide +kernel
theorem dX1_worst_6 : decode cX1_worst 6 = .ok (.getfield 48, 3) := by decide +kernel
theorem dX1_worst_9 : decode cX1_worst 9 = .ok (.if_icmp .ge 29, 3) := by decide +kernel
theorem dX1_worst_12 : decode cX1_worst 12 = .ok (.iload_n 1, 1) := by decide +kernel
theorem dX1_worst_13 : decode cX1_worst 13 = .ok (.iconst (-1), 1) := by decide +kernel
theorem dX1_worst_14 : decode cX1_worst 14 = .ok (.if_icmp .eq 16, 3) := by decide +kernel
theorem dX1_worst_17 : decode cX1_worst 17 = .ok (.aload_n 0, 1) := by decide +kernel
theorem dX1_worst_18 : decode cX1_worst 18 = .ok (.iload_n 2, 1) := by decide +kernel
theorem dX1_worst_19 : decode cX1_worst 19 = .ok (.invokevirtual 132, 3) := by decide +kernel
theorem dX1_worst_22 : decode cX1_worst 22 = .ok (.aload_n 0, 1) := by decide +kernel
theorem dX1_worst_23 : decode cX1_worst 23 = .ok (.iload_n 1, 1) := by decide +kernel
theorem dX1_worst_24 : decode cX1_worst 24 = .ok (.invokevirtual 132, 3) := by decide +kernel
theorem dX1_worst_27 : decode cX1_worst 27 = .ok (.if_icmp .le 5, 3) := by decide +kernel
theorem dX1_worst_30 : decode cX1_worst 30 = .ok (.iload_n 2, 1) := by decide +kernel
theorem dX1_worst_31 : decode cX1_worst 31 = .ok (.istore_n 1, 1) := by decide +kernel
theorem dX1_worst_32 : decode cX1_worst 32 = .ok (.iinc 2 1, 3) := by decide +kernel
theorem dX1_worst_35 : decode cX1_worst 35 = .ok (.goto (-31), 3) := by decide +kernel
theorem dX1_worst_38 : decode cX1_worst 38 = .ok (.iload_n 1, 1) := by decide +kernel
theorem dX1_worst_39 : decode cX1_worst 39 = .ok (.ireturn, 1) := by decide +kernel
set_option maxRecDepth 20000 in
theorem ggX1_bestToGiveUp_X1_worst : GoodIn wsX1_bestToGiveUp wsX1_worst := goodIn_r _ [5, 6, 7, 8, 9, 4, 10, 11, 12, 13, 19, 20, 21, 22, 23, 24, 25, 26, 27, 28, 29, 30, 31, 32, 33, 34, 35] (by decide +kernel) (by decide +kernel)
set_option maxRecDepth 20000 in
theorem gX1_bestToGiveUp_X1_worst : GoodIn wsX1_bestToGiveUp (wsV RX1 150 RX1 yX1_worst wsX1_worst) := goodIn_app (goodIn_of _ (by decide +kernel)) ggX1_bestToGiveUp_X1_worst
set_option maxRecDepth 20000 in
theorem ggX1_bestToGiveUp_X1_ok : GoodIn wsX1_bestToGiveUp wsX1_ok := goodIn_r _ [17, 18, 19, 20, 21, 22, 23, 24, 25, 26, 27, 28, 29, 30, 31, 32, 33, 34, 35] (by decide +kernel) (by decide +kernel)
set_option maxRecDepth 20000 in
theorem gX1_bestToGiveUp_X1_ok : GoodIn wsX1_bestToGiveUp (wsV RX1 116 RX1 yX1_ok wsX1_ok) := goodIn_app (goodIn_of _ (by decide +kernel)) ggX1_bestToGiveUp_X1_ok
theorem dX1_bestToGiveUp_0 : decode cX1_bestToGiveUp 0 = .ok (.aload_n 0, 1) := by decide +kernel
theorem dX1_bestToGiveUp_1 : decode cX1_bestToGiveUp 1 = .ok (.aload_n 0, 1) := by decide +kernel
theorem dX1_bestToGiveUp_2 : decode cX1_bestToGiveUp 2 = .ok (.invokevirtual 150, 3) := by decide +kernel
theorem dX1_bestToGiveUp_5 : decode cX1_bestToGiveUp 5 = .ok (.invokevirtual 116, 3) := by decide +kernel
theorem dX1_bestToGiveUp_8 : decode cX1_bestToGiveUp 8 = .ok (.ireturn, 1) := by decide +kernel
set_option maxRecDepth 20000 in
theorem ggX1_meanLastShadow_X1_shadow : GoodIn wsX1_meanLastShadow wsX1_shadow := goodIn_r _ [7, 8, 9, 10, 11, 12, 13, 14, 15, 16, 17, 18, 19, 20, 21, 22, 23, 24, 25] (by decide +kernel) (by decide +kernel)
set_option maxRecDepth 20000 in
theorem gX1_meanLastShadow_X1_shadow : GoodIn wsX1_meanLastShadow (wsV RX1 129 RX1 yX1_shadow wsX1_shadow) := goodIn_app (goodIn_of _ (by decide +kernel)) ggX1_meanLastShadow_X1_shadow
theorem dX1_meanLastShadow_0 : decode cX1_meanLastShadow 0 = .ok (.aload_n 0, 1) := by decide +kernel
theorem dX1_meanLastShadow_1 : decode cX1_meanLastShadow 1 = .ok (.iconst 0, 1) := by decide +kernel
theorem dX1_meanLastShadow_2 : decode cX1_meanLastShadow 2 = .ok (.putfield 38, 3) := by decide +kernel
theorem dX1_meanLastShadow_5 : decode cX1_meanLastShadow 5 = .ok (.iconst 0, 1) := by decide +kernel
theorem dX1_meanLastShadow_6 : decode cX1_meanLastShadow 6 = .ok (.istore_n 1, 1) := by decide +kernel
theorem dX1_meanLastShadow_7 : decode cX1_meanLastShadow 7 = .ok (.iconst 0, 1) := by decide +kernel
theorem dX1_meanLastShadow_8 : decode cX1_meanLastShadow 8 = .ok (.istore_n 2, 1) := by decide +kernel
theorem dX1_meanLastShadow_9 : decode cX1_meanLastShadow 9 = .ok (.iload_n 2, 1) := by decide +kernel
theorem dX1_meanLastShadow_10 : decode cX1_meanLastShadow 10 = .ok (.aload_n 0, 1) := by decide +kernel
theorem dX1_meanLastShadow_11 : decode cX1_meanLastShadow 11 = .ok (.getfield 41, 3) := by decide +kernel
theorem dX1_meanLastShadow_14 : decode cX1_meanLastShadow 14 = .ok (.if_icmp .ge 20, 3) := by decide +kernel
theorem dX1_meanLastShadow_17 : decode cX1_meanLastShadow 17 = .ok (.iload_n 1, 1) := by decide +kernel
theorem dX1_meanLastShadow_18 : decode cX1_meanLastShadow 18 = .ok (.aload_n 0, 1) := by decide +kernel
theorem dX1_meanLastShadow_19 : decode cX1_meanLastShadow 19 = .ok (.iload_n 2, 1) := by decide +kernel
theorem dX1_meanLastShadow_20 : decode cX1_meanLastShadow 20 = .ok (.sipush 359, 3) := by decide +kernel
theorem dX1_meanLastShadow_23 : decode cX1_meanLastShadow 23 = .ok (.invokevirtual 129, 3) := by decide +kernel
theorem dX1_meanLastShadow_26 : decode cX1_meanLastShadow 26 = .ok (.iadd, 1) := by decide +kernel
theorem dX1_meanLastShadow_27 : decode cX1_meanLastShadow 27 = .ok (.istore_n 1, 1) := by decide +kernel
theorem dX1_meanLastShadow_28 : decode cX1_meanLastShadow 28 = .ok (.iinc 2 1, 3) := by decide +kernel
theorem dX1_meanLastShadow_31 : decode cX1_meanLastShadow 31 = .ok (.goto (-22), 3) := by decide +kernel
theorem dX1_meanLastShadow_34 : decode cX1_meanLastShadow 34 = .ok (.aload_n 0, 1) := by decide +kernel
theorem dX1_meanLastShadow_35 : decode cX1_meanLastShadow 35 = .ok (.getfield 41, 3) := by decide +kernel
theorem dX1_meanLastShadow_38 : decode cX1_meanLastShadow 38 = .ok (.ifCond .ne 7, 3) := by decide +kernel
theorem dX1_meanLastShadow_41 : decode cX1_meanLastShadow 41 = .ok (.dconst 0, 1) := by decide +kernel
theorem dX1_meanLastShadow_42 : decode cX1_meanLastShadow 42 = .ok (.goto 11, 3) := by decide +kernel
theorem dX1_meanLastShadow_45 : decode cX1_meanLastShadow 45 = .ok (.iload_n 1, 1) := by decide +kernel
theorem dX1_meanLastShadow_46 : decode cX1_meanLastShadow 46 = .ok (.i2d, 1) := by decide +kernel
theorem dX1_meanLastShadow_47 : decode cX1_meanLastShadow 47 = .ok (.aload_n 0, 1) := by decide +kernel
theorem dX1_meanLastShadow_48 : decode cX1_meanLastShadow 48 = .ok (.getfield 41, 3) := by decide +kernel
theorem dX1_meanLastShadow_51 : decode cX1_meanLastShadow 51 = .ok (.i2d, 1) := by decide +kernel
theorem dX1_meanLastShadow_52 : decode cX1_meanLastShadow 52 = .ok (.ddiv, 1) := by decide +kernel
theorem dX1_meanLastShadow_53 : decode cX1_meanLastShadow 53 = .ok (.dreturn, 1) := by decide +kernel
set_option maxRecDepth 20000 in
theorem ggX1_digest_X1_awake : GoodIn wsX1_digest wsX1_awake := goodIn_r _ [19, 20, 21, 22, 18, 23, 24, 92, 93, 94, 95, 96, 97, 98, 99, 100, 101, 102, 103, 104, 105, 106, 107, 108] (by decide +kernel) (by decide +kernel)
set_option maxRecDepth 20000 in
theorem gX1_digest_X1_awake : GoodIn wsX1_digest (wsV RX1 75 RX1 yX1_awake wsX1_awake) := goodIn_app (goodIn_of _ (by decide +kernel)) ggX1_digest_X1_awake
set_option maxRecDepth 20000 in
theorem ggX1_digest_X1_longest : GoodIn wsX1_digest wsX1_longest := goodIn_r _ [28, 29, 30, 31, 32, 20, 21, 22, 18, 23, 24, 92, 93, 94, 95, 96, 97, 98, 99, 100, 101, 102, 103, 104, 105, 106, 107, 108] (by decide +kernel) (by decide +kernel)
set_option maxRecDepth 20000 in
theorem gX1_digest_X1_longest : GoodIn wsX1_digest (wsV RX1 122 RX1 yX1_longest wsX1_longest) := goodIn_app (goodIn_of _ (by decide +kernel)) ggX1_digest_X1_longest
set_option maxRecDepth 20000 in
theorem ggX1_digest_X1_atEnd : GoodIn wsX1_digest wsX1_atEnd := goodIn_r _ [36, 8, 9, 4, 37, 38, 39, 40, 31, 41, 42, 43, 44, 18, 45, 7, 46, 20, 21, 22, 23, 24, 47, 48, 49, 50, 14, 51, 92, 93, 94, 95, 96, 97, 98, 99, 100, 101, 102, 103, 104, 105, 106, 107, 108] (by decide +kernel) (by decide +kernel)
set_option maxRecDepth 20000 in
theorem gX1_digest_X1_atEnd : GoodIn wsX1_digest (wsV RX1 144 RX1 yX1_atEnd wsX1_atEnd) := goodIn_app (goodIn_of _ (by decide +kernel)) ggX1_digest_X1_atEnd
set_option maxRecDepth 20000 in
theorem ggX1_digest_X1_safest : GoodIn wsX1_digest wsX1_safest := goodIn_r _ [55, 56, 57, 58, 18, 59, 8, 4, 38, 42, 43, 44, 45, 7, 46, 39, 40, 31, 41, 20, 21, 22, 23, 24, 47, 48, 49, 50, 14, 51, 92, 93, 94, 95, 96, 97, 98, 99, 100, 101, 102, 103, 104, 105, 106, 107, 108] (by decide +kernel) (by decide +kernel)
set_option maxRecDepth 20000 in
theorem gX1_digest_X1_safest : GoodIn wsX1_digest (wsV RX1 147 RX1 yX1_safest wsX1_safest) := goodIn_app (goodIn_of _ (by decide +kernel)) ggX1_digest_X1_safest
set_option maxRecDepth 20000 in
theorem ggX1_digest_X1_worst : GoodIn wsX1_digest wsX1_worst := goodIn_r _ [63, 6, 64, 65, 66, 18, 67, 12, 13, 24, 92, 93, 94, 95, 96, 97, 98, 99, 100, 101, 102, 103, 104, 105, 106, 107, 108] (by decide +kernel) (by decide +kernel)
set_option maxRecDepth 20000 in
theorem gX1_digest_X1_worst : GoodIn wsX1_digest (wsV RX1 150 RX1 yX1_worst wsX1_worst) := goodIn_app (goodIn_of _ (by decide +kernel)) ggX1_digest_X1_worst
set_option maxRecDepth 20000 in
theorem ggX1_digest_X1_best : GoodIn wsX1_digest wsX1_best := goodIn_r _ [71, 7, 72, 73, 31, 74, 75, 76, 77, 18, 78, 14, 4, 79, 80, 81, 82, 47, 48, 49, 50, 51, 20, 21, 22, 23, 24, 15, 16, 17, 19, 92, 93, 94, 95, 96, 97, 98, 99, 100, 101, 102, 103, 104, 105, 106, 107, 108] (by decide +kernel) (by decide +kernel)
set_option maxRecDepth 20000 in
theorem gX1_digest_X1_best : GoodIn wsX1_digest (wsV RX1 138 RX1 yX1_best wsX1_best) := goodIn_app (goodIn_of _ (by decide +kernel)) ggX1_digest_X1_best
set_option maxRecDepth 20000 in
theorem ggX1_digest_X1_shadow : GoodIn wsX1_digest wsX1_shadow := goodIn_r _ [86, 87, 92, 93, 94, 95, 96, 97, 98, 99, 100, 101, 102, 103, 104, 105, 106, 107, 108] (by decide +kernel) (by decide +kernel)
set_option maxRecDepth 20000 in
theorem gX1_digest_X1_shadow : GoodIn wsX1_digest (wsV RX1 129 RX1 yX1_shadow wsX1_shadow) := goodIn_app (goodIn_of _ (by decide +kernel)) ggX1_digest_X1_shadow
set_option maxRecDepth 20000 in
theorem ggX1_digest_X1_alone : GoodIn wsX1_digest wsX1_alone := goodIn_r _ [67, 12, 13, 24, 92, 93, 94, 95, 96, 97, 98, 99, 100, 101, 102, 103, 104, 105, 106, 107, 108] (by decide +kernel) (by decide +kernel)
set_option maxRecDepth 20000 in
theorem gX1_digest_X1_alone : GoodIn wsX1_digest (wsV RX1 132 RX1 yX1_alone wsX1_alone) := goodIn_app (goodIn_of _ (by decide +kernel)) ggX1_digest_X1_alone
set_option maxRecDepth 20000 in
theorem ggX1_digest_X1_ticked : GoodIn wsX1_digest wsX1_ticked := goodIn_r _ [82, 4, 47, 48, 49, 18, 50, 14, 51, 20, 21, 22, 23, 24, 92, 93, 94, 95, 96, 97, 98, 99, 100, 101, 102, 103, 104, 105, 106, 107, 108] (by decide +kernel) (by decide +kernel)
set_option maxRecDepth 20000 in
theorem gX1_digest_X1_ticked : GoodIn wsX1_digest (wsV RX1 71 RX1 yX1_ticked wsX1_ticked) := goodIn_app (goodIn_of _ (by decide +kernel)) ggX1_digest_X1_ticked
set_option maxRecDepth 20000 in
theorem ggX1_digest_X1_next : GoodIn wsX1_digest wsX1_next := goodIn_r _ [91, 4, 47, 48, 49, 18, 50, 14, 51, 20, 21, 22, 23, 24, 92, 93, 94, 95, 96, 97, 98, 99, 100, 101, 102, 103, 104, 105, 106, 107, 108] (by decide +kernel) (by decide +kernel)
set_option maxRecDepth 20000 in
theorem gX1_digest_X1_next : GoodIn wsX1_digest (wsV RX1 141 RX1 yX1_next wsX1_next) := goodIn_app (goodIn_of _ (by decide +kernel)) ggX1_digest_X1_next
theorem dX1_digest_0 : decode cX1_digest 0 = .ok (.aload_n 0, 1) := by decide +kernel
theorem dX1_digest_1 : decode cX1_digest 1 = .ok (.iconst 0, 1) := by decide +kernel
theorem dX1_digest_2 : decode cX1_digest 2 = .ok (.putfield 38, 3) := by decide +kernel
theorem dX1_digest_5 : decode cX1_digest 5 = .ok (.bipush 13, 2) := by decide +kernel
theorem dX1_digest_7 : decode cX1_digest 7 = .ok (.newarray .int, 2) := by decide +kernel
theorem dX1_digest_9 : decode cX1_digest 9 = .ok (.dup, 1) := by decide +kernel
theorem dX1_digest_10 : decode cX1_digest 10 = .ok (.iconst 0, 1) := by decide +kernel
theorem dX1_digest_11 : decode cX1_digest 11 = .ok (.aload_n 0, 1) := by decide +kernel
theorem dX1_digest_12 : decode cX1_digest 12 = .ok (.getfield 113, 3) := by decide +kernel
theorem dX1_digest_15 : decode cX1_digest 15 = .ok (.iastore, 1) := by decide +kernel
theorem dX1_digest_16 : decode cX1_digest 16 = .ok (.dup, 1) := by decide +kernel
theorem dX1_digest_17 : decode cX1_digest 17 = .ok (.iconst 1, 1) := by decide +kernel
theorem dX1_digest_18 : decode cX1_digest 18 = .ok (.aload_n 0, 1) := by decide +kernel
theorem dX1_digest_19 : decode cX1_digest 19 = .ok (.getfield 64, 3) := by decide +kernel
theorem dX1_digest_22 : decode cX1_digest 22 = .ok (.iastore, 1) := by decide +kernel
theorem dX1_digest_23 : decode cX1_digest 23 = .ok (.dup, 1) := by decide +kernel
theorem dX1_digest_24 : decode cX1_digest 24 = .ok (.iconst 2, 1) := by decide +kernel
theorem dX1_digest_25 : decode cX1_digest 25 = .ok (.aload_n 0, 1) := by decide +kernel
theorem dX1_digest_26 : decode cX1_digest 26 = .ok (.aload_n 0, 1) := by decide +kernel
theorem dX1_digest_27 : decode cX1_digest 27 = .ok (.getfield 64, 3) := by decide +kernel
theorem dX1_digest_30 : decode cX1_digest 30 = .ok (.invokevirtual 75, 3) := by decide +kernel
theorem dX1_digest_33 : decode cX1_digest 33 = .ok (.iastore, 1) := by decide +kernel
theorem dX1_digest_34 : decode cX1_digest 34 = .ok (.dup, 1) := by decide +kernel
theorem dX1_digest_35 : decode cX1_digest 35 = .ok (.iconst 3, 1) := by decide +kernel
theorem dX1_digest_36 : decode cX1_digest 36 = .ok (.aload_n 0, 1) := by decide +kernel
theorem dX1_digest_37 : decode cX1_digest 37 = .ok (.invokevirtual 122, 3) := by decide +kernel
theorem dX1_digest_40 : decode cX1_digest 40 = .ok (.iastore, 1) := by decide +kernel
theorem dX1_digest_41 : decode cX1_digest 41 = .ok (.dup, 1) := by decide +kernel
theorem dX1_digest_42 : decode cX1_digest 42 = .ok (.iconst 4, 1) := by decide +kernel
theorem dX1_digest_43 : decode cX1_digest 43 = .ok (.aload_n 0, 1) := by decide +kernel
theorem dX1_digest_44 : decode cX1_digest 44 = .ok (.getfield 41, 3) := by decide +kernel
theorem dX1_digest_47 : decode cX1_digest 47 = .ok (.iastore, 1) := by decide +kernel
theorem dX1_digest_48 : decode cX1_digest 48 = .ok (.dup, 1) := by decide +kernel
theorem dX1_digest_49 : decode cX1_digest 49 = .ok (.iconst 5, 1) := by decide +kernel
theorem dX1_digest_50 : decode cX1_digest 50 = .ok (.aload_n 0, 1) := by decide +kernel
theorem dX1_digest_51 : decode cX1_digest 51 = .ok (.getfield 48, 3) := by decide +kernel
theorem dX1_digest_54 : decode cX1_digest 54 = .ok (.iastore, 1) := by decide +kernel
theorem dX1_digest_55 : decode cX1_digest 55 = .ok (.dup, 1) := by decide +kernel
theorem dX1_digest_56 : decode cX1_digest 56 = .ok (.bipush 6, 2) := by decide +kernel
theorem dX1_digest_58 : decode cX1_digest 58 = .ok (.aload_n 0, 1) := by decide +kernel
theorem dX1_digest_59 : decode cX1_digest 59 = .ok (.getfield 51, 3) := by decide +kernel
theorem dX1_digest_62 : decode cX1_digest 62 = .ok (.iastore, 1) := by decide +kernel
theorem dX1_digest_63 : decode cX1_digest 63 = .ok (.dup, 1) := by decide +kernel
theorem dX1_digest_64 : decode cX1_digest 64 = .ok (.bipush 7, 2) := by decide +kernel
theorem dX1_digest_66 : decode cX1_digest 66 = .ok (.aload_n 0, 1) := by decide +kernel
theorem dX1_digest_67 : decode cX1_digest 67 = .ok (.getfield 87, 3) := by decide +kernel
theorem dX1_digest_70 : decode cX1_digest 70 = .ok (.iastore, 1) := by decide +kernel
theorem dX1_digest_71 : decode cX1_digest 71 = .ok (.dup, 1) := by decide +kernel
theorem dX1_digest_72 : decode cX1_digest 72 = .ok (.bipush 8, 2) := by decide +kernel
theorem dX1_digest_74 : decode cX1_digest 74 = .ok (.aload_n 0, 1) := by decide +kernel
theorem dX1_digest_75 : decode cX1_digest 75 = .ok (.getfield 94, 3) := by decide +kernel
theorem dX1_digest_78 : decode cX1_digest 78 = .ok (.iastore, 1) := by decide +kernel
theorem dX1_digest_79 : decode cX1_digest 79 = .ok (.dup, 1) := by decide +kernel
theorem dX1_digest_80 : decode cX1_digest 80 = .ok (.bipush 9, 2) := by decide +kernel
theorem dX1_digest_82 : decode cX1_digest 82 = .ok (.aload_n 0, 1) := by decide +kernel
theorem dX1_digest_83 : decode cX1_digest 83 = .ok (.invokevirtual 144, 3) := by decide +kernel
theorem dX1_digest_86 : decode cX1_digest 86 = .ok (.iastore, 1) := by decide +kernel
theorem dX1_digest_87 : decode cX1_digest 87 = .ok (.dup, 1) := by decide +kernel
theorem dX1_digest_88 : decode cX1_digest 88 = .ok (.bipush 10, 2) := by decide +kernel
theorem dX1_digest_90 : decode cX1_digest 90 = .ok (.aload_n 0, 1) := by decide +kernel
theorem dX1_digest_91 : decode cX1_digest 91 = .ok (.invokevirtual 147, 3) := by decide +kernel
theorem dX1_digest_94 : decode cX1_digest 94 = .ok (.iastore, 1) := by decide +kernel
theorem dX1_digest_95 : decode cX1_digest 95 = .ok (.dup, 1) := by decide +kernel
theorem dX1_digest_96 : decode cX1_digest 96 = .ok (.bipush 11, 2) := by decide +kernel
theorem dX1_digest_98 : decode cX1_digest 98 = .ok (.aload_n 0, 1) := by decide +kernel
theorem dX1_digest_99 : decode cX1_digest 99 = .ok (.invokevirtual 150, 3) := by decide +kernel
theorem dX1_digest_102 : decode cX1_digest 102 = .ok (.iastore, 1) := by decide +kernel
theorem dX1_digest_103 : decode cX1_digest 103 = .ok (.dup, 1) := by decide +kernel
theorem dX1_digest_104 : decode cX1_digest 104 = .ok (.bipush 12, 2) := by decide +kernel
theorem dX1_digest_106 : decode cX1_digest 106 = .ok (.aload_n 0, 1) := by decide +kernel
theorem dX1_digest_107 : decode cX1_digest 107 = .ok (.invokevirtual 138, 3) := by decide +kernel
theorem dX1_digest_110 : decode cX1_digest 110 = .ok (.iastore, 1) := by decide +kernel
theorem dX1_digest_111 : decode cX1_digest 111 = .ok (.astore_n 1, 1) := by decide +kernel
theorem dX1_digest_112 : decode cX1_digest 112 = .ok (.ldc2_w 153, 3) := by decide +kernel
theorem dX1_digest_115 : decode cX1_digest 115 = .ok (.lstore_n 2, 1) := by decide +kernel
theorem dX1_digest_116 : decode cX1_digest 116 = .ok (.aload_n 1, 1) := by decide +kernel
theorem dX1_digest_117 : decode cX1_digest 117 = .ok (.astore 4, 2) := by decide +kernel
theorem dX1_digest_119 : decode cX1_digest 119 = .ok (.aload 4, 2) := by decide +kernel
theorem dX1_digest_121 : decode cX1_digest 121 = .ok (.arraylength, 1) := by decide +kernel
theorem dX1_digest_122 : decode cX1_digest 122 = .ok (.istore 5, 2) := by decide +kernel
theorem dX1_digest_124 : decode cX1_digest 124 = .ok (.iconst 0, 1) := by decide +kernel
theorem dX1_digest_125 : decode cX1_digest 125 = .ok (.istore 6, 2) := by decide +kernel
theorem dX1_digest_127 : decode cX1_digest 127 = .ok (.iload 6, 2) := by decide +kernel
theorem dX1_digest_129 : decode cX1_digest 129 = .ok (.iload 5, 2) := by decide +kernel
theorem dX1_digest_131 : decode cX1_digest 131 = .ok (.if_icmp .ge 26, 3) := by decide +kernel
theorem dX1_digest_134 : decode cX1_digest 134 = .ok (.aload 4, 2) := by decide +kernel
theorem dX1_digest_136 : decode cX1_digest 136 = .ok (.iload 6, 2) := by decide +kernel
theorem dX1_digest_138 : decode cX1_digest 138 = .ok (.iaload, 1) := by decide +kernel
theorem dX1_digest_139 : decode cX1_digest 139 = .ok (.istore 7, 2) := by decide +kernel
theorem dX1_digest_141 : decode cX1_digest 141 = .ok (.lload_n 2, 1) := by decide +kernel
theorem dX1_digest_142 : decode cX1_digest 142 = .ok (.ldc2_w 155, 3) := by decide +kernel
theorem dX1_digest_145 : decode cX1_digest 145 = .ok (.lmul, 1) := by decide +kernel
theorem dX1_digest_146 : decode cX1_digest 146 = .ok (.iload 7, 2) := by decide +kernel
theorem dX1_digest_148 : decode cX1_digest 148 = .ok (.i2l, 1) := by decide +kernel
theorem dX1_digest_149 : decode cX1_digest 149 = .ok (.ladd, 1) := by decide +kernel
theorem dX1_digest_150 : decode cX1_digest 150 = .ok (.lstore_n 2, 1) := by decide +kernel
theorem dX1_digest_151 : decode cX1_digest 151 = .ok (.iinc 6 1, 3) := by decide +kernel
theorem dX1_digest_154 : decode cX1_digest 154 = .ok (.goto (-27), 3) := by decide +kernel
theorem dX1_digest_157 : decode cX1_digest 157 = .ok (.iconst 0, 1) := by decide +kernel
theorem dX1_digest_158 : decode cX1_digest 158 = .ok (.istore 4, 2) := by decide +kernel
theorem dX1_digest_160 : decode cX1_digest 160 = .ok (.iload 4, 2) := by decide +kernel
theorem dX1_digest_162 : decode cX1_digest 162 = .ok (.aload_n 0, 1) := by decide +kernel
theorem dX1_digest_163 : decode cX1_digest 163 = .ok (.getfield 41, 3) := by decide +kernel
theorem dX1_digest_166 : decode cX1_digest 166 = .ok (.if_icmp .ge 25, 3) := by decide +kernel
theorem dX1_digest_169 : decode cX1_digest 169 = .ok (.lload_n 2, 1) := by decide +kernel
theorem dX1_digest_170 : decode cX1_digest 170 = .ok (.ldc2_w 155, 3) := by decide +kernel
theorem dX1_digest_173 : decode cX1_digest 173 = .ok (.lmul, 1) := by decide +kernel
theorem dX1_digest_174 : decode cX1_digest 174 = .ok (.aload_n 0, 1) := by decide +kernel
theorem dX1_digest_175 : decode cX1_digest 175 = .ok (.iload 4, 2) := by decide +kernel
theorem dX1_digest_177 : decode cX1_digest 177 = .ok (.bipush 100, 2) := by decide +kernel
theorem dX1_digest_179 : decode cX1_digest 179 = .ok (.invokevirtual 129, 3) := by decide +kernel
theorem dX1_digest_182 : decode cX1_digest 182 = .ok (.i2l, 1) := by decide +kernel
theorem dX1_digest_183 : decode cX1_digest 183 = .ok (.ladd, 1) := by decide +kernel
theorem dX1_digest_184 : decode cX1_digest 184 = .ok (.lstore_n 2, 1) := by decide +kernel
theorem dX1_digest_185 : decode cX1_digest 185 = .ok (.iinc 4 1, 3) := by decide +kernel
theorem dX1_digest_188 : decode cX1_digest 188 = .ok (.goto (-28), 3) := by decide +kernel
theorem dX1_digest_191 : decode cX1_digest 191 = .ok (.iconst 0, 1) := by decide +kernel
theorem dX1_digest_192 : decode cX1_digest 192 = .ok (.istore 4, 2) := by decide +kernel
theorem dX1_digest_194 : decode cX1_digest 194 = .ok (.iload 4, 2) := by decide +kernel
theorem dX1_digest_196 : decode cX1_digest 196 = .ok (.aload_n 0, 1) := by decide +kernel
theorem dX1_digest_197 : decode cX1_digest 197 = .ok (.getfield 48, 3) := by decide +kernel
theorem dX1_digest_200 : decode cX1_digest 200 = .ok (.if_icmp .ge 58, 3) := by decide +kernel
theorem dX1_digest_203 : decode cX1_digest 203 = .ok (.lload_n 2, 1) := by decide +kernel
theorem dX1_digest_204 : decode cX1_digest 204 = .ok (.ldc2_w 155, 3) := by decide +kernel
theorem dX1_digest_207 : decode cX1_digest 207 = .ok (.lmul, 1) := by decide +kernel
theorem dX1_digest_208 : decode cX1_digest 208 = .ok (.aload_n 0, 1) := by decide +kernel
theorem dX1_digest_209 : decode cX1_digest 209 = .ok (.getfield 13, 3) := by decide +kernel
theorem dX1_digest_212 : decode cX1_digest 212 = .ok (.iload 4, 2) := by decide +kernel
theorem dX1_digest_214 : decode cX1_digest 214 = .ok (.iaload, 1) := by decide +kernel
theorem dX1_digest_215 : decode cX1_digest 215 = .ok (.i2l, 1) := by decide +kernel
theorem dX1_digest_216 : decode cX1_digest 216 = .ok (.ladd, 1) := by decide +kernel
theorem dX1_digest_217 : decode cX1_digest 217 = .ok (.ldc2_w 155, 3) := by decide +kernel
theorem dX1_digest_220 : decode cX1_digest 220 = .ok (.lmul, 1) := by decide +kernel
theorem dX1_digest_221 : decode cX1_digest 221 = .ok (.aload_n 0, 1) := by decide +kernel
theorem dX1_digest_222 : decode cX1_digest 222 = .ok (.getfield 16, 3) := by decide +kernel
theorem dX1_digest_225 : decode cX1_digest 225 = .ok (.iload 4, 2) := by decide +kernel
theorem dX1_digest_227 : decode cX1_digest 227 = .ok (.iaload, 1) := by decide +kernel
theorem dX1_digest_228 : decode cX1_digest 228 = .ok (.i2l, 1) := by decide +kernel
theorem dX1_digest_229 : decode cX1_digest 229 = .ok (.ladd, 1) := by decide +kernel
theorem dX1_digest_230 : decode cX1_digest 230 = .ok (.aload_n 0, 1) := by decide +kernel
theorem dX1_digest_231 : decode cX1_digest 231 = .ok (.getfield 13, 3) := by decide +kernel
theorem dX1_digest_234 : decode cX1_digest 234 = .ok (.iload 4, 2) := by decide +kernel
theorem dX1_digest_236 : decode cX1_digest 236 = .ok (.iaload, 1) := by decide +kernel
theorem dX1_digest_237 : decode cX1_digest 237 = .ok (.i2l, 1) := by decide +kernel
theorem dX1_digest_238 : decode cX1_digest 238 = .ok (.lsub, 1) := by decide +kernel
theorem dX1_digest_239 : decode cX1_digest 239 = .ok (.ldc2_w 155, 3) := by decide +kernel
theorem dX1_digest_242 : decode cX1_digest 242 = .ok (.lmul, 1) := by decide +kernel
theorem dX1_digest_243 : decode cX1_digest 243 = .ok (.aload_n 0, 1) := by decide +kernel
theorem dX1_digest_244 : decode cX1_digest 244 = .ok (.iload 4, 2) := by decide +kernel
theorem dX1_digest_246 : decode cX1_digest 246 = .ok (.invokevirtual 132, 3) := by decide +kernel
theorem dX1_digest_249 : decode cX1_digest 249 = .ok (.i2l, 1) := by decide +kernel
theorem dX1_digest_250 : decode cX1_digest 250 = .ok (.ladd, 1) := by decide +kernel
theorem dX1_digest_251 : decode cX1_digest 251 = .ok (.lstore_n 2, 1) := by decide +kernel
theorem dX1_digest_252 : decode cX1_digest 252 = .ok (.iinc 4 1, 3) := by decide +kernel
theorem dX1_digest_255 : decode cX1_digest 255 = .ok (.goto (-61), 3) := by decide +kernel
theorem dX1_digest_258 : decode cX1_digest 258 = .ok (.iconst 0, 1) := by decide +kernel
theorem dX1_digest_259 : decode cX1_digest 259 = .ok (.istore 4, 2) := by decide +kernel
theorem dX1_digest_261 : decode cX1_digest 261 = .ok (.iload 4, 2) := by decide +kernel
theorem dX1_digest_263 : decode cX1_digest 263 = .ok (.aload_n 0, 1) := by decide +kernel
theorem dX1_digest_264 : decode cX1_digest 264 = .ok (.getfield 51, 3) := by decide +kernel
theorem dX1_digest_267 : decode cX1_digest 267 = .ok (.if_icmp .ge 55, 3) := by decide +kernel
theorem dX1_digest_270 : decode cX1_digest 270 = .ok (.lload_n 2, 1) := by decide +kernel
theorem dX1_digest_271 : decode cX1_digest 271 = .ok (.ldc2_w 155, 3) := by decide +kernel
theorem dX1_digest_274 : decode cX1_digest 274 = .ok (.lmul, 1) := by decide +kernel
theorem dX1_digest_275 : decode cX1_digest 275 = .ok (.aload_n 0, 1) := by decide +kernel
theorem dX1_digest_276 : decode cX1_digest 276 = .ok (.iload 4, 2) := by decide +kernel
theorem dX1_digest_278 : decode cX1_digest 278 = .ok (.invokevirtual 71, 3) := by decide +kernel
theorem dX1_digest_281 : decode cX1_digest 281 = .ok (.i2l, 1) := by decide +kernel
theorem dX1_digest_282 : decode cX1_digest 282 = .ok (.ladd, 1) := by decide +kernel
theorem dX1_digest_283 : decode cX1_digest 283 = .ok (.ldc2_w 155, 3) := by decide +kernel
theorem dX1_digest_286 : decode cX1_digest 286 = .ok (.lmul, 1) := by decide +kernel
theorem dX1_digest_287 : decode cX1_digest 287 = .ok (.aload_n 0, 1) := by decide +kernel
theorem dX1_digest_288 : decode cX1_digest 288 = .ok (.iload 4, 2) := by decide +kernel
theorem dX1_digest_290 : decode cX1_digest 290 = .ok (.invokevirtual 71, 3) := by decide +kernel
theorem dX1_digest_293 : decode cX1_digest 293 = .ok (.aload_n 0, 1) := by decide +kernel
theorem dX1_digest_294 : decode cX1_digest 294 = .ok (.getfield 22, 3) := by decide +kernel
theorem dX1_digest_297 : decode cX1_digest 297 = .ok (.iload 4, 2) := by decide +kernel
theorem dX1_digest_299 : decode cX1_digest 299 = .ok (.iaload, 1) := by decide +kernel
theorem dX1_digest_300 : decode cX1_digest 300 = .ok (.imul, 1) := by decide +kernel
theorem dX1_digest_301 : decode cX1_digest 301 = .ok (.i2l, 1) := by decide +kernel
theorem dX1_digest_302 : decode cX1_digest 302 = .ok (.ladd, 1) := by decide +kernel
theorem dX1_digest_303 : decode cX1_digest 303 = .ok (.ldc2_w 155, 3) := by decide +kernel
theorem dX1_digest_306 : decode cX1_digest 306 = .ok (.lmul, 1) := by decide +kernel
theorem dX1_digest_307 : decode cX1_digest 307 = .ok (.aload_n 0, 1) := by decide +kernel
theorem dX1_digest_308 : decode cX1_digest 308 = .ok (.iload 4, 2) := by decide +kernel
theorem dX1_digest_310 : decode cX1_digest 310 = .ok (.invokevirtual 141, 3) := by decide +kernel
theorem dX1_digest_313 : decode cX1_digest 313 = .ok (.i2l, 1) := by decide +kernel
theorem dX1_digest_314 : decode cX1_digest 314 = .ok (.ladd, 1) := by decide +kernel
theorem dX1_digest_315 : decode cX1_digest 315 = .ok (.lstore_n 2, 1) := by decide +kernel
theorem dX1_digest_316 : decode cX1_digest 316 = .ok (.iinc 4 1, 3) := by decide +kernel
theorem dX1_digest_319 : decode cX1_digest 319 = .ok (.goto (-58), 3) := by decide +kernel
theorem dX1_digest_322 : decode cX1_digest 322 = .ok (.lload_n 2, 1) := by decide +kernel
theorem dX1_digest_323 : decode cX1_digest 323 = .ok (.lreturn, 1) := by decide +kernel
theorem dJ9_abs_0f7a4_0 : decode cJ9_abs_0f7a4 0 = .ok (.iload_n 0, 1) := by decide +kernel
theorem dJ9_abs_0f7a4_1 : decode cJ9_abs_0f7a4 1 = .ok (.ifCond .ge 8, 3) := by decide +kernel
theorem dJ9_abs_0f7a4_4 : decode cJ9_abs_0f7a4 4 = .ok (.iload_n 0, 1) := by decide +kernel
theorem dJ9_abs_0f7a4_5 : decode cJ9_abs_0f7a4 5 = .ok (.ineg, 1) := by decide +kernel
theorem dJ9_abs_0f7a4_6 : decode cJ9_abs_0f7a4 6 = .ok (.goto 4, 3) := by decide +kernel
theorem dJ9_abs_0f7a4_9 : decode cJ9_abs_0f7a4 9 = .ok (.iload_n 0, 1) := by decide +kernel
theorem dJ9_abs_0f7a4_10 : decode cJ9_abs_0f7a4 10 = .ok (.ireturn, 1) := by decide +kernel
theorem dJ9_max_7cf53_0 : decode cJ9_max_7cf53 0 = .ok (.iload_n 0, 1) := by decide +kernel
theorem dJ9_max_7cf53_1 : decode cJ9_max_7cf53 1 = .ok (.iload_n 1, 1) := by decide +kernel
theorem dJ9_max_7cf53_2 : decode cJ9_max_7cf53 2 = .ok (.if_icmp .lt 7, 3) := by decide +kernel
theorem dJ9_max_7cf53_5 : decode cJ9_max_7cf53 5 = .ok (.iload_n 0, 1) := by decide +kernel
theorem dJ9_max_7cf53_6 : decode cJ9_max_7cf53 6 = .ok (.goto 4, 3) := by decide +kernel
theorem dJ9_max_7cf53_9 : decode cJ9_max_7cf53 9 = .ok (.iload_n 1, 1) := by decide +kernel
theorem dJ9_max_7cf53_10 : decode cJ9_max_7cf53 10 = .ok (.ireturn, 1) := by decide +kernel
theorem dJ9_min_7cf53_0 : decode cJ9_min_7cf53 0 = .ok (.iload_n 0, 1) := by decide +kernel
theorem dJ9_min_7cf53_1 : decode cJ9_min_7cf53 1 = .ok (.iload_n 1, 1) := by decide +kernel
theorem dJ9_min_7cf53_2 : decode cJ9_min_7cf53 2 = .ok (.if_icmp .gt 7, 3) := by decide +kernel
theorem dJ9_min_7cf53_5 : decode cJ9_min_7cf53 5 = .ok (.iload_n 0, 1) := by decide +kernel
theorem dJ9_min_7cf53_6 : decode cJ9_min_7cf53 6 = .ok (.goto 4, 3) := by decide +kernel
theorem dJ9_min_7cf53_9 : decode cJ9_min_7cf53 9 = .ok (.iload_n 1, 1) := by decide +kernel
theorem dJ9_min_7cf53_10 : decode cJ9_min_7cf53 10 = .ok (.ireturn, 1) := by decide +kernel
