theorem dX0_init_0 : decode cX0_init 0 = .ok (.aload_n 0, 1) := by decide +kernel
theorem dX0_init_1 : decode cX0_init 1 = .ok (.invokespecial 1, 3) := by decide +kernel
theorem dX0_init_4 : decode cX0_init 4 = .ok (.aload_n 0, 1) := by decide +kernel
theorem dX0_init_5 : decode cX0_init 5 = .ok (.iconst 4, 1) := by decide +kernel
theorem dX0_init_6 : decode cX0_init 6 = .ok (.newarray .int, 2) := by decide +kernel
theorem dX0_init_8 : decode cX0_init 8 = .ok (.putfield 9, 3) := by decide +kernel
theorem dX0_init_11 : decode cX0_init 11 = .ok (.aload_n 0, 1) := by decide +kernel
theorem dX0_init_12 : decode cX0_init 12 = .ok (.bipush 8, 2) := by decide +kernel
theorem dX0_init_14 : decode cX0_init 14 = .ok (.newarray .int, 2) := by decide +kernel
theorem dX0_init_16 : decode cX0_init 16 = .ok (.putfield 13, 3) := by decide +kernel
theorem dX0_init_19 : decode cX0_init 19 = .ok (.aload_n 0, 1) := by decide +kernel
theorem dX0_init_20 : decode cX0_init 20 = .ok (.bipush 8, 2) := by decide +kernel
theorem dX0_init_22 : decode cX0_init 22 = .ok (.newarray .int, 2) := by decide +kernel
theorem dX0_init_24 : decode cX0_init 24 = .ok (.putfield 16, 3) := by decide +kernel
theorem dX0_init_27 : decode cX0_init 27 = .ok (.aload_n 0, 1) := by decide +kernel
theorem dX0_init_28 : decode cX0_init 28 = .ok (.sipush 360, 3) := by decide +kernel
theorem dX0_init_31 : decode cX0_init 31 = .ok (.newarray .int, 2) := by decide +kernel
theorem dX0_init_33 : decode cX0_init 33 = .ok (.putfield 19, 3) := by decide +kernel
theorem dX0_init_36 : decode cX0_init 36 = .ok (.aload_n 0, 1) := by decide +kernel
theorem dX0_init_37 : decode cX0_init 37 = .ok (.bipush 6, 2) := by decide +kernel
theorem dX0_init_39 : decode cX0_init 39 = .ok (.newarray .int, 2) := by decide +kernel
theorem dX0_init_41 : decode cX0_init 41 = .ok (.putfield 22, 3) := by decide +kernel
theorem dX0_init_44 : decode cX0_init 44 = .ok (.aload_n 0, 1) := by decide +kernel
theorem dX0_init_45 : decode cX0_init 45 = .ok (.bipush 6, 2) := by decide +kernel
theorem dX0_init_47 : decode cX0_init 47 = .ok (.newarray .int, 2) := by decide +kernel
theorem dX0_init_49 : decode cX0_init 49 = .ok (.putfield 25, 3) := by decide +kernel
theorem dX0_init_52 : decode cX0_init 52 = .ok (.aload_n 0, 1) := by decide +kernel
theorem dX0_init_53 : decode cX0_init 53 = .ok (.sipush 360, 3) := by decide +kernel
theorem dX0_init_56 : decode cX0_init 56 = .ok (.newarray .int, 2) := by decide +kernel
theorem dX0_init_58 : decode cX0_init 58 = .ok (.putfield 28, 3) := by decide +kernel
theorem dX0_init_61 : decode cX0_init 61 = .ok (.aload_n 0, 1) := by decide +kernel
theorem dX0_init_62 : decode cX0_init 62 = .ok (.bipush 20, 2) := by decide +kernel
theorem dX0_init_64 : decode cX0_init 64 = .ok (.putfield 31, 3) := by decide +kernel
theorem dX0_init_67 : decode cX0_init 67 = .ok (.aload_n 0, 1) := by decide +kernel
theorem dX0_init_68 : decode cX0_init 68 = .ok (.iconst 1, 1) := by decide +kernel
theorem dX0_init_69 : decode cX0_init 69 = .ok (.putfield 35, 3) := by decide +kernel
theorem dX0_init_72 : decode cX0_init 72 = .ok (.aload_n 0, 1) := by decide +kernel
theorem dX0_init_73 : decode cX0_init 73 = .ok (.iconst 3, 1) := by decide +kernel
theorem dX0_init_74 : decode cX0_init 74 = .ok (.putfield 38, 3) := by decide +kernel
theorem dX0_init_77 : decode cX0_init 77 = .ok (.return_, 1) := by decide +kernel
theorem dX0_addStick_0 : decode cX0_addStick 0 = .ok (.iload_n 1, 1) := by decide +kernel
theorem dX0_addStick_1 : decode cX0_addStick 1 = .ok (.iconst 1, 1) := by decide +kernel
theorem dX0_addStick_2 : decode cX0_addStick 2 = .ok (.if_icmp .lt 9, 3) := by decide +kernel
theorem dX0_addStick_5 : decode cX0_addStick 5 = .ok (.iload_n 1, 1) := by decide +kernel
theorem dX0_addStick_6 : decode cX0_addStick 6 = .ok (.bipush 30, 2) := by decide +kernel
theorem dX0_addStick_8 : decode cX0_addStick 8 = .ok (.if_icmp .le 13, 3) := by decide +kernel
theorem dX0_addStick_11 : decode cX0_addStick 11 = .ok (.new 41, 3) := by decide +kernel
theorem dX0_addStick_14 : decode cX0_addStick 14 = .ok (.dup, 1) := by decide +kernel
theorem dX0_addStick_15 : decode cX0_addStick 15 = .ok (.ldc 43, 2) := by decide +kernel
theorem dX0_addStick_17 : decode cX0_addStick 17 = .ok (.invokespecial 45, 3) := by decide +kernel
theorem dX0_addStick_20 : decode cX0_addStick 20 = .ok (.athrow, 1) := by decide +kernel
theorem dX0_addStick_21 : decode cX0_addStick 21 = .ok (.aload_n 0, 1) := by decide +kernel
theorem dX0_addStick_22 : decode cX0_addStick 22 = .ok (.getfield 48, 3) := by decide +kernel
theorem dX0_addStick_25 : decode cX0_addStick 25 = .ok (.iconst 4, 1) := by decide +kernel
theorem dX0_addStick_26 : decode cX0_addStick 26 = .ok (.if_icmp .lt 13, 3) := by decide +kernel
theorem dX0_addStick_29 : decode cX0_addStick 29 = .ok (.new 51, 3) := by decide +kernel
theorem dX0_addStick_32 : decode cX0_addStick 32 = .ok (.dup, 1) := by decide +kernel
theorem dX0_addStick_33 : decode cX0_addStick 33 = .ok (.ldc 53, 2) := by decide +kernel
theorem dX0_addStick_35 : decode cX0_addStick 35 = .ok (.invokespecial 55, 3) := by decide +kernel
theorem dX0_addStick_38 : decode cX0_addStick 38 = .ok (.athrow, 1) := by decide +kernel
theorem dX0_addStick_39 : decode cX0_addStick 39 = .ok (.aload_n 0, 1) := by decide +kernel
theorem dX0_addStick_40 : decode cX0_addStick 40 = .ok (.getfield 48, 3) := by decide +kernel
theorem dX0_addStick_43 : decode cX0_addStick 43 = .ok (.istore_n 2, 1) := by decide +kernel
theorem dX0_addStick_44 : decode cX0_addStick 44 = .ok (.aload_n 0, 1) := by decide +kernel
theorem dX0_addStick_45 : decode cX0_addStick 45 = .ok (.getfield 9, 3) := by decide +kernel
theorem dX0_addStick_48 : decode cX0_addStick 48 = .ok (.iload_n 2, 1) := by decide +kernel
theorem dX0_addStick_49 : decode cX0_addStick 49 = .ok (.iload_n 1, 1) := by decide +kernel
theorem dX0_addStick_50 : decode cX0_addStick 50 = .ok (.iastore, 1) := by decide +kernel
theorem dX0_addStick_51 : decode cX0_addStick 51 = .ok (.aload_n 0, 1) := by decide +kernel
theorem dX0_addStick_52 : decode cX0_addStick 52 = .ok (.dup, 1) := by decide +kernel
theorem dX0_addStick_53 : decode cX0_addStick 53 = .ok (.getfield 48, 3) := by decide +kernel
theorem dX0_addStick_56 : decode cX0_addStick 56 = .ok (.iconst 1, 1) := by decide +kernel
theorem dX0_addStick_57 : decode cX0_addStick 57 = .ok (.iadd, 1) := by decide +kernel
theorem dX0_addStick_58 : decode cX0_addStick 58 = .ok (.putfield 48, 3) := by decide +kernel
theorem dX0_addStick_61 : decode cX0_addStick 61 = .ok (.iload_n 2, 1) := by decide +kernel
theorem dX0_addStick_62 : decode cX0_addStick 62 = .ok (.ireturn, 1) := by decide +kernel
set_option maxRecDepth 20000 in
theorem ggX0_addNap_X0_changeCover : GoodIn wsX0_addNap wsX0_changeCover := goodIn_r _ [12, 13, 14, 15, 16, 11, 17, 6, 7, 18, 19, 20, 21, 22, 23, 24, 25, 26, 27, 28, 29, 30, 31, 32, 33, 34] (by decide +kernel) (by decide +kernel)
set_option maxRecDepth 20000 in
theorem gX0_addNap_X0_changeCover : GoodIn wsX0_addNap (wsV RX0 63 RX0 yX0_changeCover wsX0_changeCover) := goodIn_app (goodIn_of _ (by decide +kernel)) ggX0_addNap_X0_changeCover
theorem dX0_addNap_0 : decode cX0_addNap 0 = .ok (.iload_n 1, 1) := by decide +kernel
theorem dX0_addNap_1 : decode cX0_addNap 1 = .ok (.ifCond .lt 15, 3) := by decide +kernel
theorem dX0_addNap_4 : decode cX0_addNap 4 = .ok (.iload_n 2, 1) := by decide +kernel
theorem dX0_addNap_5 : decode cX0_addNap 5 = .ok (.sipush 360, 3) := by decide +kernel
theorem dX0_addNap_8 : decode cX0_addNap 8 = .ok (.if_icmp .gt 8, 3) := by decide +kernel
theorem dX0_addNap_11 : decode cX0_addNap 11 = .ok (.iload_n 2, 1) := by decide +kernel
theorem dX0_addNap_12 : decode cX0_addNap 12 = .ok (.iload_n 1, 1) := by decide +kernel
theorem dX0_addNap_13 : decode cX0_addNap 13 = .ok (.if_icmp .gt 13, 3) := by decide +kernel
theorem dX0_addNap_16 : decode cX0_addNap 16 = .ok (.new 41, 3) := by decide +kernel
theorem dX0_addNap_19 : decode cX0_addNap 19 = .ok (.dup, 1) := by decide +kernel
theorem dX0_addNap_20 : decode cX0_addNap 20 = .ok (.ldc 56, 2) := by decide +kernel
theorem dX0_addNap_22 : decode cX0_addNap 22 = .ok (.invokespecial 45, 3) := by decide +kernel
theorem dX0_addNap_25 : decode cX0_addNap 25 = .ok (.athrow, 1) := by decide +kernel
theorem dX0_addNap_26 : decode cX0_addNap 26 = .ok (.aload_n 0, 1) := by decide +kernel
theorem dX0_addNap_27 : decode cX0_addNap 27 = .ok (.getfield 58, 3) := by decide +kernel
theorem dX0_addNap_30 : decode cX0_addNap 30 = .ok (.bipush 8, 2) := by decide +kernel
theorem dX0_addNap_32 : decode cX0_addNap 32 = .ok (.if_icmp .lt 13, 3) := by decide +kernel
theorem dX0_addNap_35 : decode cX0_addNap 35 = .ok (.new 51, 3) := by decide +kernel
theorem dX0_addNap_38 : decode cX0_addNap 38 = .ok (.dup, 1) := by decide +kernel
theorem dX0_addNap_39 : decode cX0_addNap 39 = .ok (.ldc 61, 2) := by decide +kernel
theorem dX0_addNap_41 : decode cX0_addNap 41 = .ok (.invokespecial 55, 3) := by decide +kernel
theorem dX0_addNap_44 : decode cX0_addNap 44 = .ok (.athrow, 1) := by decide +kernel
theorem dX0_addNap_45 : decode cX0_addNap 45 = .ok (.aload_n 0, 1) := by decide +kernel
theorem dX0_addNap_46 : decode cX0_addNap 46 = .ok (.getfield 58, 3) := by decide +kernel
theorem dX0_addNap_49 : decode cX0_addNap 49 = .ok (.istore_n 3, 1) := by decide +kernel
theorem dX0_addNap_50 : decode cX0_addNap 50 = .ok (.aload_n 0, 1) := by decide +kernel
theorem dX0_addNap_51 : decode cX0_addNap 51 = .ok (.getfield 13, 3) := by decide +kernel
theorem dX0_addNap_54 : decode cX0_addNap 54 = .ok (.iload_n 3, 1) := by decide +kernel
theorem dX0_addNap_55 : decode cX0_addNap 55 = .ok (.iload_n 1, 1) := by decide +kernel
theorem dX0_addNap_56 : decode cX0_addNap 56 = .ok (.iastore, 1) := by decide +kernel
theorem dX0_addNap_57 : decode cX0_addNap 57 = .ok (.aload_n 0, 1) := by decide +kernel
theorem dX0_addNap_58 : decode cX0_addNap 58 = .ok (.getfield 16, 3) := by decide +kernel
theorem dX0_addNap_61 : decode cX0_addNap 61 = .ok (.iload_n 3, 1) := by decide +kernel
theorem dX0_addNap_62 : decode cX0_addNap 62 = .ok (.iload_n 2, 1) := by decide +kernel
theorem dX0_addNap_63 : decode cX0_addNap 63 = .ok (.iastore, 1) := by decide +kernel
theorem dX0_addNap_64 : decode cX0_addNap 64 = .ok (.aload_n 0, 1) := by decide +kernel
theorem dX0_addNap_65 : decode cX0_addNap 65 = .ok (.dup, 1) := by decide +kernel
theorem dX0_addNap_66 : decode cX0_addNap 66 = .ok (.getfield 58, 3) := by decide +kernel
theorem dX0_addNap_69 : decode cX0_addNap 69 = .ok (.iconst 1, 1) := by decide +kernel
theorem dX0_addNap_70 : decode cX0_addNap 70 = .ok (.iadd, 1) := by decide +kernel
theorem dX0_addNap_71 : decode cX0_addNap 71 = .ok (.putfield 58, 3) := by decide +kernel
theorem dX0_addNap_74 : decode cX0_addNap 74 = .ok (.aload_n 0, 1) := by decide +kernel
theorem dX0_addNap_75 : decode cX0_addNap 75 = .ok (.iload_n 3, 1) := by decide +kernel
theorem dX0_addNap_76 : decode cX0_addNap 76 = .ok (.iconst 1, 1) := by decide +kernel
theorem dX0_addNap_77 : decode cX0_addNap 77 = .ok (.invokevirtual 63, 3) := by decide +kernel
theorem dX0_addNap_80 : decode cX0_addNap 80 = .ok (.iload_n 3, 1) := by decide +kernel
theorem dX0_addNap_81 : decode cX0_addNap 81 = .ok (.ireturn, 1) := by decide +kernel
set_option maxRecDepth 20000 in
theorem ggX0_giveUp_X0_checkNap : GoodIn wsX0_giveUp wsX0_checkNap := goodIn_ca (goodIn_r _ [8, 9, 10, 1, 20, 21, 22, 23, 24, 25, 26, 27, 28, 29, 30, 31, 32, 33, 34, 35, 36] (by decide +kernel) (by decide +kernel)) (goodIn_sub (fun _ h => List.mem_cons_of_mem _ (List.mem_append_right _ h)) (by decide +kernel))
set_option maxRecDepth 20000 in
theorem gX0_giveUp_X0_checkNap : GoodIn wsX0_giveUp (wsV RX0 67 RX0 yX0_checkNap wsX0_checkNap) := goodIn_app (goodIn_of _ (by decide +kernel)) ggX0_giveUp_X0_checkNap
set_option maxRecDepth 20000 in
theorem ggX0_giveUp_X0_changeCover : GoodIn wsX0_giveUp wsX0_changeCover := goodIn_r _ [14, 15, 16, 17, 18, 7, 19, 2, 3, 20, 21, 22, 23, 24, 25, 26, 27, 28, 29, 30, 31, 32, 33, 34, 35, 36] (by decide +kernel) (by decide +kernel)
set_option maxRecDepth 20000 in
theorem gX0_giveUp_X0_changeCover : GoodIn wsX0_giveUp (wsV RX0 63 RX0 yX0_changeCover wsX0_changeCover) := goodIn_app (goodIn_of _ (by decide +kernel)) ggX0_giveUp_X0_changeCover
theorem dX0_giveUp_0 : decode cX0_giveUp 0 = .ok (.aload_n 0, 1) := by decide +kernel
theorem dX0_giveUp_1 : decode cX0_giveUp 1 = .ok (.iload_n 1, 1) := by decide +kernel
theorem dX0_giveUp_2 : decode cX0_giveUp 2 = .ok (.invokevirtual 67, 3) := by decide +kernel
theorem dX0_giveUp_5 : decode cX0_giveUp 5 = .ok (.aload_n 0, 1) := by decide +kernel
theorem dX0_giveUp_6 : decode cX0_giveUp 6 = .ok (.iload_n 1, 1) := by decide +kernel
theorem dX0_giveUp_7 : decode cX0_giveUp 7 = .ok (.iconst (-1), 1) := by decide +kernel
theorem dX0_giveUp_8 : decode cX0_giveUp 8 = .ok (.invokevirtual 63, 3) := by decide +kernel
theorem dX0_giveUp_11 : decode cX0_giveUp 11 = .ok (.aload_n 0, 1) := by decide +kernel
theorem dX0_giveUp_12 : decode cX0_giveUp 12 = .ok (.dup, 1) := by decide +kernel
theorem dX0_giveUp_13 : decode cX0_giveUp 13 = .ok (.getfield 58, 3) := by decide +kernel
theorem dX0_giveUp_16 : decode cX0_giveUp 16 = .ok (.iconst 1, 1) := by decide +kernel
theorem dX0_giveUp_17 : decode cX0_giveUp 17 = .ok (.isub, 1) := by decide +kernel
theorem dX0_giveUp_18 : decode cX0_giveUp 18 = .ok (.putfield 58, 3) := by decide +kernel
theorem dX0_giveUp_21 : decode cX0_giveUp 21 = .ok (.iload_n 1, 1) := by decide +kernel
theorem dX0_giveUp_22 : decode cX0_giveUp 22 = .ok (.istore_n 2, 1) := by decide +kernel
theorem dX0_giveUp_23 : decode cX0_giveUp 23 = .ok (.iload_n 2, 1) := by decide +kernel
theorem dX0_giveUp_24 : decode cX0_giveUp 24 = .ok (.aload_n 0, 1) := by decide +kernel
theorem dX0_giveUp_25 : decode cX0_giveUp 25 = .ok (.getfield 58, 3) := by decide +kernel
theorem dX0_giveUp_28 : decode cX0_giveUp 28 = .ok (.if_icmp .ge 37, 3) := by decide +kernel
theorem dX0_giveUp_31 : decode cX0_giveUp 31 = .ok (.aload_n 0, 1) := by decide +kernel
theorem dX0_giveUp_32 : decode cX0_giveUp 32 = .ok (.getfield 13, 3) := by decide +kernel
theorem dX0_giveUp_35 : decode cX0_giveUp 35 = .ok (.iload_n 2, 1) := by decide +kernel
theorem dX0_giveUp_36 : decode cX0_giveUp 36 = .ok (.aload_n 0, 1) := by decide +kernel
theorem dX0_giveUp_37 : decode cX0_giveUp 37 = .ok (.getfield 13, 3) := by decide +kernel
theorem dX0_giveUp_40 : decode cX0_giveUp 40 = .ok (.iload_n 2, 1) := by decide +kernel
theorem dX0_giveUp_41 : decode cX0_giveUp 41 = .ok (.iconst 1, 1) := by decide +kernel
theorem dX0_giveUp_42 : decode cX0_giveUp 42 = .ok (.iadd, 1) := by decide +kernel
theorem dX0_giveUp_43 : decode cX0_giveUp 43 = .ok (.iaload, 1) := by decide +kernel
theorem dX0_giveUp_44 : decode cX0_giveUp 44 = .ok (.iastore, 1) := by decide +kernel
theorem dX0_giveUp_45 : decode cX0_giveUp 45 = .ok (.aload_n 0, 1) := by decide +kernel
theorem dX0_giveUp_46 : decode cX0_giveUp 46 = .ok (.getfield 16, 3) := by decide +kernel
theorem dX0_giveUp_49 : decode cX0_giveUp 49 = .ok (.iload_n 2, 1) := by decide +kernel
theorem dX0_giveUp_50 : decode cX0_giveUp 50 = .ok (.aload_n 0, 1) := by decide +kernel
theorem dX0_giveUp_51 : decode cX0_giveUp 51 = .ok (.getfield 16, 3) := by decide +kernel
theorem dX0_giveUp_54 : decode cX0_giveUp 54 = .ok (.iload_n 2, 1) := by decide +kernel
theorem dX0_giveUp_55 : decode cX0_giveUp 55 = .ok (.iconst 1, 1) := by decide +kernel
theorem dX0_giveUp_56 : decode cX0_giveUp 56 = .ok (.iadd, 1) := by decide +kernel
theorem dX0_giveUp_57 : decode cX0_giveUp 57 = .ok (.iaload, 1) := by decide +kernel
theorem dX0_giveUp_58 : decode cX0_giveUp 58 = .ok (.iastore, 1) := by decide +kernel
theorem dX0_giveUp_59 : decode cX0_giveUp 59 = .ok (.iinc 2 1, 3) := by decide +kernel
theorem dX0_giveUp_62 : decode cX0_giveUp 62 = .ok (.goto (-39), 3) := by decide +kernel
theorem dX0_giveUp_65 : decode cX0_giveUp 65 = .ok (.aload_n 0, 1) := by decide +kernel
theorem dX0_giveUp_66 : decode cX0_giveUp 66 = .ok (.getfield 58, 3) := by decide +kernel
theorem dX0_giveUp_69 : decode cX0_giveUp 69 = .ok (.ireturn, 1) := by decide +kernel
set_option maxRecDepth 20000 in
theorem ggX0_addBee_X0_hasBeatIn : GoodIn wsX0_addBee wsX0_hasBeatIn := goodIn_r _ [13, 6, 7, 14, 15, 16, 17, 18, 19, 20, 21, 22, 23, 24, 25, 26, 27, 28, 29, 30] (by decide +kernel) (by decide +kernel)
set_option maxRecDepth 20000 in
theorem gX0_addBee_X0_hasBeatIn : GoodIn wsX0_addBee (wsV RX0 78 RX0 yX0_hasBeatIn wsX0_hasBeatIn) := goodIn_app (goodIn_of _ (by decide +kernel)) ggX0_addBee_X0_hasBeatIn
theorem dX0_addBee_0 : decode cX0_addBee 0 = .ok (.iload_n 1, 1) := by decide +kernel
theorem dX0_addBee_1 : decode cX0_addBee 1 = .ok (.iconst 2, 1) := by decide +kernel
theorem dX0_addBee_2 : decode cX0_addBee 2 = .ok (.if_icmp .lt 18, 3) := by decide +kernel
theorem dX0_addBee_5 : decode cX0_addBee 5 = .ok (.iload_n 1, 1) := by decide +kernel
theorem dX0_addBee_6 : decode cX0_addBee 6 = .ok (.bipush 30, 2) := by decide +kernel
theorem dX0_addBee_8 : decode cX0_addBee 8 = .ok (.if_icmp .gt 12, 3) := by decide +kernel
theorem dX0_addBee_11 : decode cX0_addBee 11 = .ok (.iload_n 2, 1) := by decide +kernel
theorem dX0_addBee_12 : decode cX0_addBee 12 = .ok (.ifCond .lt 8, 3) := by decide +kernel
theorem dX0_addBee_15 : decode cX0_addBee 15 = .ok (.iload_n 2, 1) := by decide +kernel
theorem dX0_addBee_16 : decode cX0_addBee 16 = .ok (.iload_n 1, 1) := by decide +kernel
theorem dX0_addBee_17 : decode cX0_addBee 17 = .ok (.if_icmp .lt 13, 3) := by decide +kernel
theorem dX0_addBee_20 : decode cX0_addBee 20 = .ok (.new 41, 3) := by decide +kernel
theorem dX0_addBee_23 : decode cX0_addBee 23 = .ok (.dup, 1) := by decide +kernel
theorem dX0_addBee_24 : decode cX0_addBee 24 = .ok (.ldc 71, 2) := by decide +kernel
theorem dX0_addBee_26 : decode cX0_addBee 26 = .ok (.invokespecial 45, 3) := by decide +kernel
theorem dX0_addBee_29 : decode cX0_addBee 29 = .ok (.athrow, 1) := by decide +kernel
theorem dX0_addBee_30 : decode cX0_addBee 30 = .ok (.aload_n 0, 1) := by decide +kernel
theorem dX0_addBee_31 : decode cX0_addBee 31 = .ok (.getfield 73, 3) := by decide +kernel
theorem dX0_addBee_34 : decode cX0_addBee 34 = .ok (.bipush 6, 2) := by decide +kernel
theorem dX0_addBee_36 : decode cX0_addBee 36 = .ok (.if_icmp .lt 13, 3) := by decide +kernel
theorem dX0_addBee_39 : decode cX0_addBee 39 = .ok (.new 51, 3) := by decide +kernel
theorem dX0_addBee_42 : decode cX0_addBee 42 = .ok (.dup, 1) := by decide +kernel
theorem dX0_addBee_43 : decode cX0_addBee 43 = .ok (.ldc 76, 2) := by decide +kernel
theorem dX0_addBee_45 : decode cX0_addBee 45 = .ok (.invokespecial 55, 3) := by decide +kernel
theorem dX0_addBee_48 : decode cX0_addBee 48 = .ok (.athrow, 1) := by decide +kernel
theorem dX0_addBee_49 : decode cX0_addBee 49 = .ok (.aload_n 0, 1) := by decide +kernel
theorem dX0_addBee_50 : decode cX0_addBee 50 = .ok (.getfield 73, 3) := by decide +kernel
theorem dX0_addBee_53 : decode cX0_addBee 53 = .ok (.istore_n 3, 1) := by decide +kernel
theorem dX0_addBee_54 : decode cX0_addBee 54 = .ok (.aload_n 0, 1) := by decide +kernel
theorem dX0_addBee_55 : decode cX0_addBee 55 = .ok (.getfield 22, 3) := by decide +kernel
theorem dX0_addBee_58 : decode cX0_addBee 58 = .ok (.iload_n 3, 1) := by decide +kernel
theorem dX0_addBee_59 : decode cX0_addBee 59 = .ok (.iload_n 1, 1) := by decide +kernel
theorem dX0_addBee_60 : decode cX0_addBee 60 = .ok (.iastore, 1) := by decide +kernel
theorem dX0_addBee_61 : decode cX0_addBee 61 = .ok (.aload_n 0, 1) := by decide +kernel
theorem dX0_addBee_62 : decode cX0_addBee 62 = .ok (.getfield 25, 3) := by decide +kernel
theorem dX0_addBee_65 : decode cX0_addBee 65 = .ok (.iload_n 3, 1) := by decide +kernel
theorem dX0_addBee_66 : decode cX0_addBee 66 = .ok (.iload_n 2, 1) := by decide +kernel
theorem dX0_addBee_67 : decode cX0_addBee 67 = .ok (.iastore, 1) := by decide +kernel
theorem dX0_addBee_68 : decode cX0_addBee 68 = .ok (.aload_n 0, 1) := by decide +kernel
theorem dX0_addBee_69 : decode cX0_addBee 69 = .ok (.dup, 1) := by decide +kernel
theorem dX0_addBee_70 : decode cX0_addBee 70 = .ok (.getfield 73, 3) := by decide +kernel
theorem dX0_addBee_73 : decode cX0_addBee 73 = .ok (.iconst 1, 1) := by decide +kernel
theorem dX0_addBee_74 : decode cX0_addBee 74 = .ok (.iadd, 1) := by decide +kernel
theorem dX0_addBee_75 : decode cX0_addBee 75 = .ok (.putfield 73, 3) := by decide +kernel
theorem dX0_addBee_78 : decode cX0_addBee 78 = .ok (.iconst 0, 1) := by decide +kernel
theorem dX0_addBee_79 : decode cX0_addBee 79 = .ok (.istore 4, 2) := by decide +kernel
theorem dX0_addBee_81 : decode cX0_addBee 81 = .ok (.iload 4, 2) := by decide +kernel
theorem dX0_addBee_83 : decode cX0_addBee 83 = .ok (.sipush 360, 3) := by decide +kernel
theorem dX0_addBee_86 : decode cX0_addBee 86 = .ok (.if_icmp .ge 30, 3) := by decide +kernel
theorem dX0_addBee_89 : decode cX0_addBee 89 = .ok (.aload_n 0, 1) := by decide +kernel
theorem dX0_addBee_90 : decode cX0_addBee 90 = .ok (.iload_n 3, 1) := by decide +kernel
theorem dX0_addBee_91 : decode cX0_addBee 91 = .ok (.iload 4, 2) := by decide +kernel
theorem dX0_addBee_93 : decode cX0_addBee 93 = .ok (.invokevirtual 78, 3) := by decide +kernel
theorem dX0_addBee_96 : decode cX0_addBee 96 = .ok (.ifCond .eq 14, 3) := by decide +kernel
theorem dX0_addBee_99 : decode cX0_addBee 99 = .ok (.aload_n 0, 1) := by decide +kernel
theorem dX0_addBee_100 : decode cX0_addBee 100 = .ok (.getfield 28, 3) := by decide +kernel
theorem dX0_addBee_103 : decode cX0_addBee 103 = .ok (.iload 4, 2) := by decide +kernel
theorem dX0_addBee_105 : decode cX0_addBee 105 = .ok (.dup2, 1) := by decide +kernel
theorem dX0_addBee_106 : decode cX0_addBee 106 = .ok (.iaload, 1) := by decide +kernel
theorem dX0_addBee_107 : decode cX0_addBee 107 = .ok (.iconst 1, 1) := by decide +kernel
theorem dX0_addBee_108 : decode cX0_addBee 108 = .ok (.iadd, 1) := by decide +kernel
theorem dX0_addBee_109 : decode cX0_addBee 109 = .ok (.iastore, 1) := by decide +kernel
theorem dX0_addBee_110 : decode cX0_addBee 110 = .ok (.iinc 4 1, 3) := by decide +kernel
theorem dX0_addBee_113 : decode cX0_addBee 113 = .ok (.goto (-32), 3) := by decide +kernel
theorem dX0_addBee_116 : decode cX0_addBee 116 = .ok (.iload_n 3, 1) := by decide +kernel
theorem dX0_addBee_117 : decode cX0_addBee 117 = .ok (.ireturn, 1) := by decide +kernel
set_option maxRecDepth 20000 in
theorem ggX0_setTea_X0_pourInto : GoodIn wsX0_setTea wsX0_pourInto := goodIn_r _ [11, 6, 12, 13, 14, 15, 10, 16, 3, 17, 18, 19, 20, 21, 22, 23, 24, 25, 26, 27, 28, 29, 30, 31, 32, 33, 34, 35, 36, 37] (by decide +kernel) (by decide +kernel)
set_option maxRecDepth 20000 in
theorem gX0_setTea_X0_pourInto : GoodIn wsX0_setTea (wsV RX0 91 RX0 yX0_pourInto wsX0_pourInto) := goodIn_app (goodIn_of _ (by decide +kernel)) ggX0_setTea_X0_pourInto
theorem dX0_setTea_0 : decode cX0_setTea 0 = .ok (.iload_n 1, 1) := by decide +kernel
theorem dX0_setTea_1 : decode cX0_setTea 1 = .ok (.iconst 1, 1) := by decide +kernel
theorem dX0_setTea_2 : decode cX0_setTea 2 = .ok (.if_icmp .lt 9, 3) := by decide +kernel
theorem dX0_setTea_5 : decode cX0_setTea 5 = .ok (.iload_n 1, 1) := by decide +kernel
theorem dX0_setTea_6 : decode cX0_setTea 6 = .ok (.bipush 50, 2) := by decide +kernel
theorem dX0_setTea_8 : decode cX0_setTea 8 = .ok (.if_icmp .le 13, 3) := by decide +kernel
theorem dX0_setTea_11 : decode cX0_setTea 11 = .ok (.new 41, 3) := by decide +kernel
theorem dX0_setTea_14 : decode cX0_setTea 14 = .ok (.dup, 1) := by decide +kernel
theorem dX0_setTea_15 : decode cX0_setTea 15 = .ok (.ldc 82, 2) := by decide +kernel
theorem dX0_setTea_17 : decode cX0_setTea 17 = .ok (.invokespecial 45, 3) := by decide +kernel
theorem dX0_setTea_20 : decode cX0_setTea 20 = .ok (.athrow, 1) := by decide +kernel
theorem dX0_setTea_21 : decode cX0_setTea 21 = .ok (.iload_n 2, 1) := by decide +kernel
theorem dX0_setTea_22 : decode cX0_setTea 22 = .ok (.ifCond .lt 9, 3) := by decide +kernel
theorem dX0_setTea_25 : decode cX0_setTea 25 = .ok (.iload_n 2, 1) := by decide +kernel
theorem dX0_setTea_26 : decode cX0_setTea 26 = .ok (.bipush 9, 2) := by decide +kernel
theorem dX0_setTea_28 : decode cX0_setTea 28 = .ok (.if_icmp .le 13, 3) := by decide +kernel
theorem dX0_setTea_31 : decode cX0_setTea 31 = .ok (.new 41, 3) := by decide +kernel
theorem dX0_setTea_34 : decode cX0_setTea 34 = .ok (.dup, 1) := by decide +kernel
theorem dX0_setTea_35 : decode cX0_setTea 35 = .ok (.ldc 84, 2) := by decide +kernel
theorem dX0_setTea_37 : decode cX0_setTea 37 = .ok (.invokespecial 45, 3) := by decide +kernel
theorem dX0_setTea_40 : decode cX0_setTea 40 = .ok (.athrow, 1) := by decide +kernel
theorem dX0_setTea_41 : decode cX0_setTea 41 = .ok (.iload_n 3, 1) := by decide +kernel
theorem dX0_setTea_42 : decode cX0_setTea 42 = .ok (.ifCond .lt 9, 3) := by decide +kernel
theorem dX0_setTea_45 : decode cX0_setTea 45 = .ok (.iload_n 3, 1) := by decide +kernel
theorem dX0_setTea_46 : decode cX0_setTea 46 = .ok (.bipush 9, 2) := by decide +kernel
theorem dX0_setTea_48 : decode cX0_setTea 48 = .ok (.if_icmp .le 13, 3) := by decide +kernel
theorem dX0_setTea_51 : decode cX0_setTea 51 = .ok (.new 41, 3) := by decide +kernel
theorem dX0_setTea_54 : decode cX0_setTea 54 = .ok (.dup, 1) := by decide +kernel
theorem dX0_setTea_55 : decode cX0_setTea 55 = .ok (.ldc 86, 2) := by decide +kernel
theorem dX0_setTea_57 : decode cX0_setTea 57 = .ok (.invokespecial 45, 3) := by decide +kernel
theorem dX0_setTea_60 : decode cX0_setTea 60 = .ok (.athrow, 1) := by decide +kernel
theorem dX0_setTea_61 : decode cX0_setTea 61 = .ok (.aload_n 0, 1) := by decide +kernel
theorem dX0_setTea_62 : decode cX0_setTea 62 = .ok (.iload_n 1, 1) := by decide +kernel
theorem dX0_setTea_63 : decode cX0_setTea 63 = .ok (.putfield 31, 3) := by decide +kernel
theorem dX0_setTea_66 : decode cX0_setTea 66 = .ok (.aload_n 0, 1) := by decide +kernel
theorem dX0_setTea_67 : decode cX0_setTea 67 = .ok (.iload_n 2, 1) := by decide +kernel
theorem dX0_setTea_68 : decode cX0_setTea 68 = .ok (.putfield 35, 3) := by decide +kernel
theorem dX0_setTea_71 : decode cX0_setTea 71 = .ok (.aload_n 0, 1) := by decide +kernel
theorem dX0_setTea_72 : decode cX0_setTea 72 = .ok (.iload_n 3, 1) := by decide +kernel
theorem dX0_setTea_73 : decode cX0_setTea 73 = .ok (.putfield 38, 3) := by decide +kernel
theorem dX0_setTea_76 : decode cX0_setTea 76 = .ok (.aload_n 0, 1) := by decide +kernel
theorem dX0_setTea_77 : decode cX0_setTea 77 = .ok (.aload_n 0, 1) := by decide +kernel
theorem dX0_setTea_78 : decode cX0_setTea 78 = .ok (.getfield 88, 3) := by decide +kernel
theorem dX0_setTea_81 : decode cX0_setTea 81 = .ok (.invokevirtual 91, 3) := by decide +kernel
theorem dX0_setTea_84 : decode cX0_setTea 84 = .ok (.ireturn, 1) := by decide +kernel
set_option maxRecDepth 20000 in
theorem ggX0_pass_X0_contentAfter : GoodIn wsX0_pass wsX0_contentAfter := goodIn_r _ [12, 13, 14, 15, 16, 17, 18, 19, 30, 31, 32, 33, 34, 35, 36, 37, 38, 39, 40, 41, 42, 43, 44, 45, 46] (by decide +kernel) (by decide +kernel)
set_option maxRecDepth 20000 in
theorem gX0_pass_X0_contentAfter : GoodIn wsX0_pass (wsV RX0 102 RX0 yX0_contentAfter wsX0_contentAfter) := goodIn_app (goodIn_of _ (by decide +kernel)) ggX0_pass_X0_contentAfter
set_option maxRecDepth 20000 in
theorem ggX0_pass_X0_pourInto : GoodIn wsX0_pass wsX0_pourInto := goodIn_r _ [23, 6, 24, 25, 26, 27, 11, 28, 29, 16, 17, 18, 19, 30, 31, 32, 33, 34, 35, 36, 37, 38, 39, 40, 41, 42, 43, 44, 45, 46] (by decide +kernel) (by decide +kernel)
set_option maxRecDepth 20000 in
theorem gX0_pass_X0_pourInto : GoodIn wsX0_pass (wsV RX0 91 RX0 yX0_pourInto wsX0_pourInto) := goodIn_app (goodIn_of _ (by decide +kernel)) ggX0_pass_X0_pourInto
theorem dX0_pass_0 : decode cX0_pass 0 = .ok (.iload_n 1, 1) := by decide +kernel
theorem dX0_pass_1 : decode cX0_pass 1 = .ok (.iconst 1, 1) := by decide +kernel
theorem dX0_pass_2 : decode cX0_pass 2 = .ok (.if_icmp .lt 10, 3) := by decide +kernel
theorem dX0_pass_5 : decode cX0_pass 5 = .ok (.iload_n 1, 1) := by decide +kernel
theorem dX0_pass_6 : decode cX0_pass 6 = .ok (.sipush 360, 3) := by decide +kernel
theorem dX0_pass_9 : decode cX0_pass 9 = .ok (.if_icmp .le 13, 3) := by decide +kernel
theorem dX0_pass_12 : decode cX0_pass 12 = .ok (.new 41, 3) := by decide +kernel
theorem dX0_pass_15 : decode cX0_pass 15 = .ok (.dup, 1) := by decide +kernel
theorem dX0_pass_16 : decode cX0_pass 16 = .ok (.ldc 95, 2) := by decide +kernel
theorem dX0_pass_18 : decode cX0_pass 18 = .ok (.invokespecial 45, 3) := by decide +kernel
theorem dX0_pass_21 : decode cX0_pass 21 = .ok (.athrow, 1) := by decide +kernel
theorem dX0_pass_22 : decode cX0_pass 22 = .ok (.iload_n 1, 1) := by decide +kernel
theorem dX0_pass_23 : decode cX0_pass 23 = .ok (.sipush 360, 3) := by decide +kernel
theorem dX0_pass_26 : decode cX0_pass 26 = .ok (.aload_n 0, 1) := by decide +kernel
theorem dX0_pass_27 : decode cX0_pass 27 = .ok (.getfield 97, 3) := by decide +kernel
theorem dX0_pass_30 : decode cX0_pass 30 = .ok (.isub, 1) := by decide +kernel
theorem dX0_pass_31 : decode cX0_pass 31 = .ok (.if_icmp .le 13, 3) := by decide +kernel
theorem dX0_pass_34 : decode cX0_pass 34 = .ok (.new 51, 3) := by decide +kernel
theorem dX0_pass_37 : decode cX0_pass 37 = .ok (.dup, 1) := by decide +kernel
theorem dX0_pass_38 : decode cX0_pass 38 = .ok (.ldc 100, 2) := by decide +kernel
theorem dX0_pass_40 : decode cX0_pass 40 = .ok (.invokespecial 55, 3) := by decide +kernel
theorem dX0_pass_43 : decode cX0_pass 43 = .ok (.athrow, 1) := by decide +kernel
theorem dX0_pass_44 : decode cX0_pass 44 = .ok (.iconst 0, 1) := by decide +kernel
theorem dX0_pass_45 : decode cX0_pass 45 = .ok (.istore_n 2, 1) := by decide +kernel
theorem dX0_pass_46 : decode cX0_pass 46 = .ok (.aload_n 0, 1) := by decide +kernel
theorem dX0_pass_47 : decode cX0_pass 47 = .ok (.getfield 97, 3) := by decide +kernel
theorem dX0_pass_50 : decode cX0_pass 50 = .ok (.iload_n 1, 1) := by decide +kernel
theorem dX0_pass_51 : decode cX0_pass 51 = .ok (.iadd, 1) := by decide +kernel
theorem dX0_pass_52 : decode cX0_pass 52 = .ok (.istore_n 3, 1) := by decide +kernel
theorem dX0_pass_53 : decode cX0_pass 53 = .ok (.aload_n 0, 1) := by decide +kernel
theorem dX0_pass_54 : decode cX0_pass 54 = .ok (.getfield 97, 3) := by decide +kernel
theorem dX0_pass_57 : decode cX0_pass 57 = .ok (.iload_n 3, 1) := by decide +kernel
theorem dX0_pass_58 : decode cX0_pass 58 = .ok (.if_icmp .ge 39, 3) := by decide +kernel
theorem dX0_pass_61 : decode cX0_pass 61 = .ok (.iload_n 2, 1) := by decide +kernel
theorem dX0_pass_62 : decode cX0_pass 62 = .ok (.aload_n 0, 1) := by decide +kernel
theorem dX0_pass_63 : decode cX0_pass 63 = .ok (.aload_n 0, 1) := by decide +kernel
theorem dX0_pass_64 : decode cX0_pass 64 = .ok (.aload_n 0, 1) := by decide +kernel
theorem dX0_pass_65 : decode cX0_pass 65 = .ok (.getfield 97, 3) := by decide +kernel
theorem dX0_pass_68 : decode cX0_pass 68 = .ok (.aload_n 0, 1) := by decide +kernel
theorem dX0_pass_69 : decode cX0_pass 69 = .ok (.getfield 88, 3) := by decide +kernel
theorem dX0_pass_72 : decode cX0_pass 72 = .ok (.aload_n 0, 1) := by decide +kernel
theorem dX0_pass_73 : decode cX0_pass 73 = .ok (.getfield 35, 3) := by decide +kernel
theorem dX0_pass_76 : decode cX0_pass 76 = .ok (.invokevirtual 102, 3) := by decide +kernel
theorem dX0_pass_79 : decode cX0_pass 79 = .ok (.invokevirtual 91, 3) := by decide +kernel
theorem dX0_pass_82 : decode cX0_pass 82 = .ok (.iadd, 1) := by decide +kernel
theorem dX0_pass_83 : decode cX0_pass 83 = .ok (.istore_n 2, 1) := by decide +kernel
theorem dX0_pass_84 : decode cX0_pass 84 = .ok (.aload_n 0, 1) := by decide +kernel
theorem dX0_pass_85 : decode cX0_pass 85 = .ok (.dup, 1) := by decide +kernel
theorem dX0_pass_86 : decode cX0_pass 86 = .ok (.getfield 97, 3) := by decide +kernel
theorem dX0_pass_89 : decode cX0_pass 89 = .ok (.iconst 1, 1) := by decide +kernel
theorem dX0_pass_90 : decode cX0_pass 90 = .ok (.iadd, 1) := by decide +kernel
theorem dX0_pass_91 : decode cX0_pass 91 = .ok (.putfield 97, 3) := by decide +kernel
theorem dX0_pass_94 : decode cX0_pass 94 = .ok (.goto (-41), 3) := by decide +kernel
theorem dX0_pass_97 : decode cX0_pass 97 = .ok (.iload_n 2, 1) := by decide +kernel
theorem dX0_pass_98 : decode cX0_pass 98 = .ok (.ireturn, 1) := by decide +kernel
theorem dX0_begin_0 : decode cX0_begin 0 = .ok (.aload_n 0, 1) := by decide +kernel
theorem dX0_begin_1 : decode cX0_begin 1 = .ok (.iconst 0, 1) := by decide +kernel
theorem dX0_begin_2 : decode cX0_begin 2 = .ok (.putfield 97, 3) := by decide +kernel
theorem dX0_begin_5 : decode cX0_begin 5 = .ok (.aload_n 0, 1) := by decide +kernel
theorem dX0_begin_6 : decode cX0_begin 6 = .ok (.iconst 0, 1) := by decide +kernel
theorem dX0_begin_7 : decode cX0_begin 7 = .ok (.putfield 88, 3) := by decide +kernel
theorem dX0_begin_10 : decode cX0_begin 10 = .ok (.aload_n 0, 1) := by decide +kernel
theorem dX0_begin_11 : decode cX0_begin 11 = .ok (.iconst 0, 1) := by decide +kernel
theorem dX0_begin_12 : decode cX0_begin 12 = .ok (.putfield 106, 3) := by decide +kernel
theorem dX0_begin_15 : decode cX0_begin 15 = .ok (.aload_n 0, 1) := by decide +kernel
theorem dX0_begin_16 : decode cX0_begin 16 = .ok (.dup, 1) := by decide +kernel
theorem dX0_begin_17 : decode cX0_begin 17 = .ok (.getfield 109, 3) := by decide +kernel
theorem dX0_begin_20 : decode cX0_begin 20 = .ok (.iconst 1, 1) := by decide +kernel
theorem dX0_begin_21 : decode cX0_begin 21 = .ok (.iadd, 1) := by decide +kernel
theorem dX0_begin_22 : decode cX0_begin 22 = .ok (.putfield 109, 3) := by decide +kernel
theorem dX0_begin_25 : decode cX0_begin 25 = .ok (.aload_n 0, 1) := by decide +kernel
theorem dX0_begin_26 : decode cX0_begin 26 = .ok (.getfield 109, 3) := by decide +kernel
theorem dX0_begin_29 : decode cX0_begin 29 = .ok (.ireturn, 1) := by decide +kernel
theorem dX0_afternoon_0 : decode cX0_afternoon 0 = .ok (.aload_n 0, 1) := by decide +kernel
theorem dX0_afternoon_1 : decode cX0_afternoon 1 = .ok (.getfield 109, 3) := by decide +kernel
theorem dX0_afternoon_4 : decode cX0_afternoon 4 = .ok (.ireturn, 1) := by decide +kernel
theorem dX0_minute_0 : decode cX0_minute 0 = .ok (.aload_n 0, 1) := by decide +kernel
theorem dX0_minute_1 : decode cX0_minute 1 = .ok (.getfield 97, 3) := by decide +kernel
theorem dX0_minute_4 : decode cX0_minute 4 = .ok (.ireturn, 1) := by decide +kernel
set_option maxRecDepth 20000 in
theorem ggX0_isAsleep_X0_checkMinute : GoodIn wsX0_isAsleep wsX0_checkMinute := goodIn_ca (goodIn_r _ [6, 7, 8] (by decide +kernel) (by decide +kernel)) (goodIn_sub (fun _ h => List.mem_cons_of_mem _ (List.mem_append_right _ h)) (by decide +kernel))
set_option maxRecDepth 20000 in
theorem gX0_isAsleep_X0_checkMinute : GoodIn wsX0_isAsleep (wsV RX0 112 RX0 yX0_checkMinute wsX0_checkMinute) := goodIn_app (goodIn_of _ (by decide +kernel)) ggX0_isAsleep_X0_checkMinute
theorem dX0_isAsleep_0 : decode cX0_isAsleep 0 = .ok (.aload_n 0, 1) := by decide +kernel
theorem dX0_isAsleep_1 : decode cX0_isAsleep 1 = .ok (.iload_n 1, 1) := by decide +kernel
theorem dX0_isAsleep_2 : decode cX0_isAsleep 2 = .ok (.invokevirtual 112, 3) := by decide +kernel
theorem dX0_isAsleep_5 : decode cX0_isAsleep 5 = .ok (.aload_n 0, 1) := by decide +kernel
theorem dX0_isAsleep_6 : decode cX0_isAsleep 6 = .ok (.getfield 19, 3) := by decide +kernel
theorem dX0_isAsleep_9 : decode cX0_isAsleep 9 = .ok (.iload_n 1, 1) := by decide +kernel
theorem dX0_isAsleep_10 : decode cX0_isAsleep 10 = .ok (.iaload, 1) := by decide +kernel
theorem dX0_isAsleep_11 : decode cX0_isAsleep 11 = .ok (.ifCond .le 7, 3) := by decide +kernel
theorem dX0_isAsleep_14 : decode cX0_isAsleep 14 = .ok (.iconst 1, 1) := by decide +kernel
theorem dX0_isAsleep_15 : decode cX0_isAsleep 15 = .ok (.goto 4, 3) := by decide +kernel
theorem dX0_isAsleep_18 : decode cX0_isAsleep 18 = .ok (.iconst 0, 1) := by decide +kernel
theorem dX0_isAsleep_19 : decode cX0_isAsleep 19 = .ok (.ireturn, 1) := by decide +kernel
theorem dX0_awakeMinutes_0 : decode cX0_awakeMinutes 0 = .ok (.iconst 0, 1) := by decide +kernel
theorem dX0_awakeMinutes_1 : decode cX0_awakeMinutes 1 = .ok (.istore_n 1, 1) := by decide +kernel
theorem dX0_awakeMinutes_2 : decode cX0_awakeMinutes 2 = .ok (.iconst 0, 1) := by decide +kernel
theorem dX0_awakeMinutes_3 : decode cX0_awakeMinutes 3 = .ok (.istore_n 2, 1) := by decide +kernel
theorem dX0_awakeMinutes_4 : decode cX0_awakeMinutes 4 = .ok (.iload_n 2, 1) := by decide +kernel
theorem dX0_awakeMinutes_5 : decode cX0_awakeMinutes 5 = .ok (.aload_n 0, 1) := by decide +kernel
theorem dX0_awakeMinutes_6 : decode cX0_awakeMinutes 6 = .ok (.getfield 97, 3) := by decide +kernel
theorem dX0_awakeMinutes_9 : decode cX0_awakeMinutes 9 = .ok (.if_icmp .ge 21, 3) := by decide +kernel
theorem dX0_awakeMinutes_12 : decode cX0_awakeMinutes 12 = .ok (.aload_n 0, 1) := by decide +kernel
theorem dX0_awakeMinutes_13 : decode cX0_awakeMinutes 13 = .ok (.getfield 19, 3) := by decide +kernel
theorem dX0_awakeMinutes_16 : decode cX0_awakeMinutes 16 = .ok (.iload_n 2, 1) := by decide +kernel
theorem dX0_awakeMinutes_17 : decode cX0_awakeMinutes 17 = .ok (.iaload, 1) := by decide +kernel
theorem dX0_awakeMinutes_18 : decode cX0_awakeMinutes 18 = .ok (.ifCond .ne 6, 3) := by decide +kernel
theorem dX0_awakeMinutes_21 : decode cX0_awakeMinutes 21 = .ok (.iinc 1 1, 3) := by decide +kernel
theorem dX0_awakeMinutes_24 : decode cX0_awakeMinutes 24 = .ok (.iinc 2 1, 3) := by decide +kernel
theorem dX0_awakeMinutes_27 : decode cX0_awakeMinutes 27 = .ok (.goto (-23), 3) := by decide +kernel
theorem dX0_awakeMinutes_30 : decode cX0_awakeMinutes 30 = .ok (.iload_n 1, 1) := by decide +kernel
theorem dX0_awakeMinutes_31 : decode cX0_awakeMinutes 31 = .ok (.ireturn, 1) := by decide +kernel
set_option maxRecDepth 20000 in
theorem ggX0_sleptMinutes_X0_awakeMinutes : GoodIn wsX0_sleptMinutes wsX0_awakeMinutes := goodIn_r _ [6, 1, 7, 8, 9, 10, 11, 12, 13, 14, 15, 16, 17, 18, 19, 20, 21, 22, 23, 24] (by decide +kernel) (by decide +kernel)
set_option maxRecDepth 20000 in
theorem gX0_sleptMinutes_X0_awakeMinutes : GoodIn wsX0_sleptMinutes (wsV RX0 115 RX0 yX0_awakeMinutes wsX0_awakeMinutes) := goodIn_app (goodIn_of _ (by decide +kernel)) ggX0_sleptMinutes_X0_awakeMinutes
theorem dX0_sleptMinutes_0 : decode cX0_sleptMinutes 0 = .ok (.aload_n 0, 1) := by decide +kernel
theorem dX0_sleptMinutes_1 : decode cX0_sleptMinutes 1 = .ok (.getfield 97, 3) := by decide +kernel
theorem dX0_sleptMinutes_4 : decode cX0_sleptMinutes 4 = .ok (.aload_n 0, 1) := by decide +kernel
theorem dX0_sleptMinutes_5 : decode cX0_sleptMinutes 5 = .ok (.invokevirtual 115, 3) := by decide +kernel
theorem dX0_sleptMinutes_8 : decode cX0_sleptMinutes 8 = .ok (.isub, 1) := by decide +kernel
theorem dX0_sleptMinutes_9 : decode cX0_sleptMinutes 9 = .ok (.ireturn, 1) := by decide +kernel
theorem dX0_longestAwake_0 : decode cX0_longestAwake 0 = .ok (.iconst 0, 1) := by decide +kernel
theorem dX0_longestAwake_1 : decode cX0_longestAwake 1 = .ok (.istore_n 1, 1) := by decide +kernel
theorem dX0_longestAwake_2 : decode cX0_longestAwake 2 = .ok (.iconst 0, 1) := by decide +kernel
theorem dX0_longestAwake_3 : decode cX0_longestAwake 3 = .ok (.istore_n 2, 1) := by decide +kernel
theorem dX0_longestAwake_4 : decode cX0_longestAwake 4 = .ok (.iconst 0, 1) := by decide +kernel
theorem dX0_longestAwake_5 : decode cX0_longestAwake 5 = .ok (.istore_n 3, 1) := by decide +kernel
theorem dX0_longestAwake_6 : decode cX0_longestAwake 6 = .ok (.iload_n 3, 1) := by decide +kernel
theorem dX0_longestAwake_7 : decode cX0_longestAwake 7 = .ok (.sipush 360, 3) := by decide +kernel
theorem dX0_longestAwake_10 : decode cX0_longestAwake 10 = .ok (.if_icmp .ge 32, 3) := by decide +kernel
theorem dX0_longestAwake_13 : decode cX0_longestAwake 13 = .ok (.aload_n 0, 1) := by decide +kernel
theorem dX0_longestAwake_14 : decode cX0_longestAwake 14 = .ok (.getfield 19, 3) := by decide +kernel
theorem dX0_longestAwake_17 : decode cX0_longestAwake 17 = .ok (.iload_n 3, 1) := by decide +kernel
theorem dX0_longestAwake_18 : decode cX0_longestAwake 18 = .ok (.iaload, 1) := by decide +kernel
theorem dX0_longestAwake_19 : decode cX0_longestAwake 19 = .ok (.ifCond .ne 9, 3) := by decide +kernel
theorem dX0_longestAwake_22 : decode cX0_longestAwake 22 = .ok (.iload_n 2, 1) := by decide +kernel
theorem dX0_longestAwake_23 : decode cX0_longestAwake 23 = .ok (.iconst 1, 1) := by decide +kernel
theorem dX0_longestAwake_24 : decode cX0_longestAwake 24 = .ok (.iadd, 1) := by decide +kernel
theorem dX0_longestAwake_25 : decode cX0_longestAwake 25 = .ok (.goto 4, 3) := by decide +kernel
theorem dX0_longestAwake_28 : decode cX0_longestAwake 28 = .ok (.iconst 0, 1) := by decide +kernel
theorem dX0_longestAwake_29 : decode cX0_longestAwake 29 = .ok (.istore_n 2, 1) := by decide +kernel
theorem dX0_longestAwake_30 : decode cX0_longestAwake 30 = .ok (.iload_n 1, 1) := by decide +kernel
theorem dX0_longestAwake_31 : decode cX0_longestAwake 31 = .ok (.iload_n 2, 1) := by decide +kernel
theorem dX0_longestAwake_32 : decode cX0_longestAwake 32 = .ok (.invokestatic 119, 3) := by decide +kernel
theorem dX0_longestAwake_35 : decode cX0_longestAwake 35 = .ok (.istore_n 1, 1) := by decide +kernel
theorem dX0_longestAwake_36 : decode cX0_longestAwake 36 = .ok (.iinc 3 1, 3) := by decide +kernel
theorem dX0_longestAwake_39 : decode cX0_longestAwake 39 = .ok (.goto (-33), 3) := by decide +kernel
theorem dX0_longestAwake_42 : decode cX0_longestAwake 42 = .ok (.iload_n 1, 1) := by decide +kernel
theorem dX0_longestAwake_43 : decode cX0_longestAwake 43 = .ok (.ireturn, 1) := by decide +kernel
theorem dX0_sticks_0 : decode cX0_sticks 0 = .ok (.aload_n 0, 1) := by decide +kernel
theorem dX0_sticks_1 : decode cX0_sticks 1 = .ok (.getfield 48, 3) := by decide +kernel
theorem dX0_sticks_4 : decode cX0_sticks 4 = .ok (.ireturn, 1) := by decide +kernel
set_option maxRecDepth 20000 in
theorem ggX0_shadowAt_X0_checkStick : GoodIn wsX0_shadowAt wsX0_checkStick := goodIn_ca (goodIn_r _ [5, 6, 7, 8, 20, 21, 22, 23, 24, 25, 26, 27, 28, 29, 30, 31, 32, 33, 34, 35, 36] (by decide +kernel) (by decide +kernel)) (goodIn_sub (fun _ h => List.mem_cons_of_mem _ (List.mem_append_left _ (List.mem_append_right _ h))) (by decide +kernel))
set_option maxRecDepth 20000 in
theorem gX0_shadowAt_X0_checkStick : GoodIn wsX0_shadowAt (wsV RX0 125 RX0 yX0_checkStick wsX0_checkStick) := goodIn_app (goodIn_of _ (by decide +kernel)) ggX0_shadowAt_X0_checkStick
set_option maxRecDepth 20000 in
theorem ggX0_shadowAt_X0_checkMinute : GoodIn wsX0_shadowAt wsX0_checkMinute := goodIn_ca (goodIn_r _ [12, 13, 14] (by decide +kernel) (by decide +kernel)) (goodIn_sub (fun _ h => List.mem_cons_of_mem _ (List.mem_append_right _ h)) (by decide +kernel))
set_option maxRecDepth 20000 in
theorem gX0_shadowAt_X0_checkMinute : GoodIn wsX0_shadowAt (wsV RX0 112 RX0 yX0_checkMinute wsX0_checkMinute) := goodIn_app (goodIn_of _ (by decide +kernel)) ggX0_shadowAt_X0_checkMinute
set_option maxRecDepth 20000 in
theorem ggX0_shadowAt_X0_shadowOf : GoodIn wsX0_shadowAt wsX0_shadowOf := goodIn_r _ [18, 19, 20, 21, 22, 23, 24, 25, 26, 27, 28, 29, 30, 31, 32, 33, 34, 35, 36] (by decide +kernel) (by decide +kernel)
set_option maxRecDepth 20000 in
theorem gX0_shadowAt_X0_shadowOf : GoodIn wsX0_shadowAt (wsV RX0 128 RX0 yX0_shadowOf wsX0_shadowOf) := goodIn_app (goodIn_of _ (by decide +kernel)) ggX0_shadowAt_X0_shadowOf
theorem dX0_shadowAt_0 : decode cX0_shadowAt 0 = .ok (.aload_n 0, 1) := by decide +kernel
theorem dX0_shadowAt_1 : decode cX0_shadowAt 1 = .ok (.iload_n 1, 1) := by decide +kernel
theorem dX0_shadowAt_2 : decode cX0_shadowAt 2 = .ok (.invokevirtual 125, 3) := by decide +kernel
theorem dX0_shadowAt_5 : decode cX0_shadowAt 5 = .ok (.aload_n 0, 1) := by decide +kernel
theorem dX0_shadowAt_6 : decode cX0_shadowAt 6 = .ok (.iload_n 2, 1) := by decide +kernel
theorem dX0_shadowAt_7 : decode cX0_shadowAt 7 = .ok (.invokevirtual 112, 3) := by decide +kernel
theorem dX0_shadowAt_10 : decode cX0_shadowAt 10 = .ok (.aload_n 0, 1) := by decide +kernel
theorem dX0_shadowAt_11 : decode cX0_shadowAt 11 = .ok (.iload_n 1, 1) := by decide +kernel
theorem dX0_shadowAt_12 : decode cX0_shadowAt 12 = .ok (.iload_n 2, 1) := by decide +kernel
theorem dX0_shadowAt_13 : decode cX0_shadowAt 13 = .ok (.invokevirtual 128, 3) := by decide +kernel
theorem dX0_shadowAt_16 : decode cX0_shadowAt 16 = .ok (.ireturn, 1) := by decide +kernel
set_option maxRecDepth 20000 in
theorem ggX0_minuteOfShadow_X0_checkStick : GoodIn wsX0_minuteOfShadow wsX0_checkStick := goodIn_ca (goodIn_r _ [5, 6, 7, 8, 14, 15, 16, 17, 18, 19, 20, 21, 22, 23, 24, 25, 26, 27, 28, 29, 30] (by decide +kernel) (by decide +kernel)) (goodIn_sub (fun _ h => List.mem_cons_of_mem _ (List.mem_append_right _ h)) (by decide +kernel))
set_option maxRecDepth 20000 in
theorem gX0_minuteOfShadow_X0_checkStick : GoodIn wsX0_minuteOfShadow (wsV RX0 125 RX0 yX0_checkStick wsX0_checkStick) := goodIn_app (goodIn_of _ (by decide +kernel)) ggX0_minuteOfShadow_X0_checkStick
set_option maxRecDepth 20000 in
theorem ggX0_minuteOfShadow_X0_shadowOf : GoodIn wsX0_minuteOfShadow wsX0_shadowOf := goodIn_r _ [12, 13, 14, 15, 16, 17, 18, 19, 20, 21, 22, 23, 24, 25, 26, 27, 28, 29, 30] (by decide +kernel) (by decide +kernel)
set_option maxRecDepth 20000 in
theorem gX0_minuteOfShadow_X0_shadowOf : GoodIn wsX0_minuteOfShadow (wsV RX0 128 RX0 yX0_shadowOf wsX0_shadowOf) := goodIn_app (goodIn_of _ (by decide +kernel)) ggX0_minuteOfShadow_X0_shadowOf
theorem dX0_minuteOfShadow_0 : decode cX0_minuteOfShadow 0 = .ok (.aload_n 0, 1) := by decide +kernel
theorem dX0_minuteOfShadow_1 : decode cX0_minuteOfShadow 1 = .ok (.iload_n 1, 1) := by decide +kernel
theorem dX0_minuteOfShadow_2 : decode cX0_minuteOfShadow 2 = .ok (.invokevirtual 125, 3) := by decide +kernel
theorem dX0_minuteOfShadow_5 : decode cX0_minuteOfShadow 5 = .ok (.iconst 0, 1) := by decide +kernel
theorem dX0_minuteOfShadow_6 : decode cX0_minuteOfShadow 6 = .ok (.istore_n 3, 1) := by decide +kernel
theorem dX0_minuteOfShadow_7 : decode cX0_minuteOfShadow 7 = .ok (.iload_n 3, 1) := by decide +kernel
theorem dX0_minuteOfShadow_8 : decode cX0_minuteOfShadow 8 = .ok (.sipush 360, 3) := by decide +kernel
theorem dX0_minuteOfShadow_11 : decode cX0_minuteOfShadow 11 = .ok (.if_icmp .ge 21, 3) := by decide +kernel
theorem dX0_minuteOfShadow_14 : decode cX0_minuteOfShadow 14 = .ok (.aload_n 0, 1) := by decide +kernel
theorem dX0_minuteOfShadow_15 : decode cX0_minuteOfShadow 15 = .ok (.iload_n 1, 1) := by decide +kernel
theorem dX0_minuteOfShadow_16 : decode cX0_minuteOfShadow 16 = .ok (.iload_n 3, 1) := by decide +kernel
theorem dX0_minuteOfShadow_17 : decode cX0_minuteOfShadow 17 = .ok (.invokevirtual 128, 3) := by decide +kernel
theorem dX0_minuteOfShadow_20 : decode cX0_minuteOfShadow 20 = .ok (.iload_n 2, 1) := by decide +kernel
theorem dX0_minuteOfShadow_21 : decode cX0_minuteOfShadow 21 = .ok (.if_icmp .lt 5, 3) := by decide +kernel
theorem dX0_minuteOfShadow_24 : decode cX0_minuteOfShadow 24 = .ok (.iload_n 3, 1) := by decide +kernel
theorem dX0_minuteOfShadow_25 : decode cX0_minuteOfShadow 25 = .ok (.ireturn, 1) := by decide +kernel
theorem dX0_minuteOfShadow_26 : decode cX0_minuteOfShadow 26 = .ok (.iinc 3 1, 3) := by decide +kernel
theorem dX0_minuteOfShadow_29 : decode cX0_minuteOfShadow 29 = .ok (.goto (-22), 3) := by decide +kernel
theorem dX0_minuteOfShadow_32 : decode cX0_minuteOfShadow 32 = .ok (.iconst (-1), 1) := by decide +kernel
theorem dX0_minuteOfShadow_33 : decode cX0_minuteOfShadow 33 = .ok (.ireturn, 1) := by decide +kernel
set_option maxRecDepth 20000 in
theorem ggX0_allShadows_X0_checkMinute : GoodIn wsX0_allShadows wsX0_checkMinute := goodIn_ca (goodIn_r _ [5, 6, 7] (by decide +kernel) (by decide +kernel)) (goodIn_sub (fun _ h => List.mem_cons_of_mem _ (List.mem_append_right _ h)) (by decide +kernel))
set_option maxRecDepth 20000 in
theorem gX0_allShadows_X0_checkMinute : GoodIn wsX0_allShadows (wsV RX0 112 RX0 yX0_checkMinute wsX0_checkMinute) := goodIn_app (goodIn_of _ (by decide +kernel)) ggX0_allShadows_X0_checkMinute
set_option maxRecDepth 20000 in
theorem ggX0_allShadows_X0_sumOfShadows : GoodIn wsX0_allShadows wsX0_sumOfShadows := goodIn_r _ [11, 12, 13, 14, 15, 4, 16, 17, 18, 19, 20, 21, 22, 23, 24, 25, 26, 27, 28, 29, 30, 31, 32, 33, 34] (by decide +kernel) (by decide +kernel)
set_option maxRecDepth 20000 in
theorem gX0_allShadows_X0_sumOfShadows : GoodIn wsX0_allShadows (wsV RX0 131 RX0 yX0_sumOfShadows wsX0_sumOfShadows) := goodIn_app (goodIn_of _ (by decide +kernel)) ggX0_allShadows_X0_sumOfShadows
theorem dX0_allShadows_0 : decode cX0_allShadows 0 = .ok (.aload_n 0, 1) := by decide +kernel
theorem dX0_allShadows_1 : decode cX0_allShadows 1 = .ok (.iload_n 1, 1) := by decide +kernel
theorem dX0_allShadows_2 : decode cX0_allShadows 2 = .ok (.invokevirtual 112, 3) := by decide +kernel
theorem dX0_allShadows_5 : decode cX0_allShadows 5 = .ok (.aload_n 0, 1) := by decide +kernel
theorem dX0_allShadows_6 : decode cX0_allShadows 6 = .ok (.iload_n 1, 1) := by decide +kernel
theorem dX0_allShadows_7 : decode cX0_allShadows 7 = .ok (.invokevirtual 131, 3) := by decide +kernel
theorem dX0_allShadows_10 : decode cX0_allShadows 10 = .ok (.ireturn, 1) := by decide +kernel
theorem dX0_naps_0 : decode cX0_naps 0 = .ok (.aload_n 0, 1) := by decide +kernel
theorem dX0_naps_1 : decode cX0_naps 1 = .ok (.getfield 58, 3) := by decide +kernel
theorem dX0_naps_4 : decode cX0_naps 4 = .ok (.ireturn, 1) := by decide +kernel
set_option maxRecDepth 20000 in
theorem ggX0_startOf_X0_checkNap : GoodIn wsX0_startOf wsX0_checkNap := goodIn_ca (goodIn_r _ [6, 7, 8, 9, 10, 11, 12, 13, 14, 15, 16, 17, 18, 19, 20, 21, 22, 23, 24, 25, 26] (by decide +kernel) (by decide +kernel)) (goodIn_sub (fun _ h => List.mem_cons_of_mem _ (List.mem_append_right _ h)) (by decide +kernel))
set_option maxRecDepth 20000 in
theorem gX0_startOf_X0_checkNap : GoodIn wsX0_startOf (wsV RX0 67 RX0 yX0_checkNap wsX0_checkNap) := goodIn_app (goodIn_of _ (by decide +kernel)) ggX0_startOf_X0_checkNap
theorem dX0_startOf_0 : decode cX0_startOf 0 = .ok (.aload_n 0, 1) := by decide +kernel
theorem dX0_startOf_1 : decode cX0_startOf 1 = .ok (.iload_n 1, 1) := by decide +kernel
theorem dX0_startOf_2 : decode cX0_startOf 2 = .ok (.invokevirtual 67, 3) := by decide +kernel
theorem dX0_startOf_5 : decode cX0_startOf 5 = .ok (.aload_n 0, 1) := by decide +kernel
theorem dX0_startOf_6 : decode cX0_startOf 6 = .ok (.getfield 13, 3) := by decide +kernel
theorem dX0_startOf_9 : decode cX0_startOf 9 = .ok (.iload_n 1, 1) := by decide +kernel
theorem dX0_startOf_10 : decode cX0_startOf 10 = .ok (.iaload, 1) := by decide +kernel
theorem dX0_startOf_11 : decode cX0_startOf 11 = .ok (.ireturn, 1) := by decide +kernel
set_option maxRecDepth 20000 in
theorem ggX0_lengthOf_X0_checkNap : GoodIn wsX0_lengthOf wsX0_checkNap := goodIn_ca (goodIn_r _ [7, 8, 9, 10, 11, 12, 13, 14, 15, 16, 17, 18, 19, 20, 21, 22, 23, 24, 25, 26, 27] (by decide +kernel) (by decide +kernel)) (goodIn_sub (fun _ h => List.mem_cons_of_mem _ (List.mem_append_right _ h)) (by decide +kernel))
set_option maxRecDepth 20000 in
theorem gX0_lengthOf_X0_checkNap : GoodIn wsX0_lengthOf (wsV RX0 67 RX0 yX0_checkNap wsX0_checkNap) := goodIn_app (goodIn_of _ (by decide +kernel)) ggX0_lengthOf_X0_checkNap
theorem dX0_lengthOf_0 : decode cX0_lengthOf 0 = .ok (.aload_n 0, 1) := by decide +kernel
theorem dX0_lengthOf_1 : decode cX0_lengthOf 1 = .ok (.iload_n 1, 1) := by decide +kernel
theorem dX0_lengthOf_2 : decode cX0_lengthOf 2 = .ok (.invokevirtual 67, 3) := by decide +kernel
theorem dX0_lengthOf_5 : decode cX0_lengthOf 5 = .ok (.aload_n 0, 1) := by decide +kernel
theorem dX0_lengthOf_6 : decode cX0_lengthOf 6 = .ok (.getfield 16, 3) := by decide +kernel
theorem dX0_lengthOf_9 : decode cX0_lengthOf 9 = .ok (.iload_n 1, 1) := by decide +kernel
theorem dX0_lengthOf_10 : decode cX0_lengthOf 10 = .ok (.iaload, 1) := by decide +kernel
theorem dX0_lengthOf_11 : decode cX0_lengthOf 11 = .ok (.aload_n 0, 1) := by decide +kernel
theorem dX0_lengthOf_12 : decode cX0_lengthOf 12 = .ok (.getfield 13, 3) := by decide +kernel
theorem dX0_lengthOf_15 : decode cX0_lengthOf 15 = .ok (.iload_n 1, 1) := by decide +kernel
theorem dX0_lengthOf_16 : decode cX0_lengthOf 16 = .ok (.iaload, 1) := by decide +kernel
theorem dX0_lengthOf_17 : decode cX0_lengthOf 17 = .ok (.isub, 1) := by decide +kernel
theorem dX0_lengthOf_18 : decode cX0_lengthOf 18 = .ok (.ireturn, 1) := by decide +kernel
set_option maxRecDepth 20000 in
theorem ggX0_napsAt_X0_checkMinute : GoodIn wsX0_napsAt wsX0_checkMinute := goodIn_ca (goodIn_r _ [6, 7, 8] (by decide +kernel) (by decide +kernel)) (goodIn_sub (fun _ h => List.mem_cons_of_mem _ (List.mem_append_right _ h)) (by decide +kernel))
set_option maxRecDepth 20000 in
theorem gX0_napsAt_X0_checkMinute : GoodIn wsX0_napsAt (wsV RX0 112 RX0 yX0_checkMinute wsX0_checkMinute) := goodIn_app (goodIn_of _ (by decide +kernel)) ggX0_napsAt_X0_checkMinute
theorem dX0_napsAt_0 : decode cX0_napsAt 0 = .ok (.aload_n 0, 1) := by decide +kernel
theorem dX0_napsAt_1 : decode cX0_napsAt 1 = .ok (.iload_n 1, 1) := by decide +kernel
theorem dX0_napsAt_2 : decode cX0_napsAt 2 = .ok (.invokevirtual 112, 3) := by decide +kernel
theorem dX0_napsAt_5 : decode cX0_napsAt 5 = .ok (.aload_n 0, 1) := by decide +kernel
theorem dX0_napsAt_6 : decode cX0_napsAt 6 = .ok (.getfield 19, 3) := by decide +kernel
theorem dX0_napsAt_9 : decode cX0_napsAt 9 = .ok (.iload_n 1, 1) := by decide +kernel
theorem dX0_napsAt_10 : decode cX0_napsAt 10 = .ok (.iaload, 1) := by decide +kernel
theorem dX0_napsAt_11 : decode cX0_napsAt 11 = .ok (.ireturn, 1) := by decide +kernel
set_option maxRecDepth 20000 in
theorem ggX0_minutesAlone_X0_checkNap : GoodIn wsX0_minutesAlone wsX0_checkNap := goodIn_ca (goodIn_r _ [5, 6, 7, 8, 20, 21, 22, 23, 24, 25, 26, 27, 28, 29, 30, 31, 32, 33, 34, 35, 36] (by decide +kernel) (by decide +kernel)) (goodIn_sub (fun _ h => List.mem_cons_of_mem _ (List.mem_append_right _ h)) (by decide +kernel))
set_option maxRecDepth 20000 in
theorem gX0_minutesAlone_X0_checkNap : GoodIn wsX0_minutesAlone (wsV RX0 67 RX0 yX0_checkNap wsX0_checkNap) := goodIn_app (goodIn_of _ (by decide +kernel)) ggX0_minutesAlone_X0_checkNap
set_option maxRecDepth 20000 in
theorem ggX0_minutesAlone_X0_countAlone : GoodIn wsX0_minutesAlone wsX0_countAlone := goodIn_r _ [12, 13, 14, 15, 16, 4, 17, 18, 19, 20, 21, 22, 23, 24, 25, 26, 27, 28, 29, 30, 31, 32, 33, 34, 35, 36] (by decide +kernel) (by decide +kernel)
set_option maxRecDepth 20000 in
theorem gX0_minutesAlone_X0_countAlone : GoodIn wsX0_minutesAlone (wsV RX0 134 RX0 yX0_countAlone wsX0_countAlone) := goodIn_app (goodIn_of _ (by decide +kernel)) ggX0_minutesAlone_X0_countAlone
theorem dX0_minutesAlone_0 : decode cX0_minutesAlone 0 = .ok (.aload_n 0, 1) := by decide +kernel
theorem dX0_minutesAlone_1 : decode cX0_minutesAlone 1 = .ok (.iload_n 1, 1) := by decide +kernel
theorem dX0_minutesAlone_2 : decode cX0_minutesAlone 2 = .ok (.invokevirtual 67, 3) := by decide +kernel
theorem dX0_minutesAlone_5 : decode cX0_minutesAlone 5 = .ok (.aload_n 0, 1) := by decide +kernel
theorem dX0_minutesAlone_6 : decode cX0_minutesAlone 6 = .ok (.iload_n 1, 1) := by decide +kernel
theorem dX0_minutesAlone_7 : decode cX0_minutesAlone 7 = .ok (.invokevirtual 134, 3) := by decide +kernel
theorem dX0_minutesAlone_10 : decode cX0_minutesAlone 10 = .ok (.ireturn, 1) := by decide +kernel
theorem dX0_bees_0 : decode cX0_bees 0 = .ok (.aload_n 0, 1) := by decide +kernel
theorem dX0_bees_1 : decode cX0_bees 1 = .ok (.getfield 73, 3) := by decide +kernel
theorem dX0_bees_4 : decode cX0_bees 4 = .ok (.ireturn, 1) := by decide +kernel
set_option maxRecDepth 20000 in
theorem ggX0_ticksOf_X0_checkBee : GoodIn wsX0_ticksOf wsX0_checkBee := goodIn_ca (goodIn_r _ [5, 6, 7, 8, 25, 26, 27, 28, 29, 30, 31, 32, 33, 34, 35, 36, 37, 38, 39, 40, 41] (by decide +kernel) (by decide +kernel)) (goodIn_sub (fun _ h => List.mem_cons_of_mem _ (List.mem_append_right _ h)) (by decide +kernel))
set_option maxRecDepth 20000 in
theorem gX0_ticksOf_X0_checkBee : GoodIn wsX0_ticksOf (wsV RX0 137 RX0 yX0_checkBee wsX0_checkBee) := goodIn_app (goodIn_of _ (by decide +kernel)) ggX0_ticksOf_X0_checkBee
set_option maxRecDepth 20000 in
theorem ggX0_ticksOf_X0_countTicks : GoodIn wsX0_ticksOf wsX0_countTicks := goodIn_r _ [12, 13, 14, 15, 16, 4, 17, 18, 19, 20, 21, 22, 23, 24, 25, 26, 27, 28, 29, 30, 31, 32, 33, 34, 35, 36, 37, 38, 39, 40, 41] (by decide +kernel) (by decide +kernel)
set_option maxRecDepth 20000 in
theorem gX0_ticksOf_X0_countTicks : GoodIn wsX0_ticksOf (wsV RX0 140 RX0 yX0_countTicks wsX0_countTicks) := goodIn_app (goodIn_of _ (by decide +kernel)) ggX0_ticksOf_X0_countTicks
theorem dX0_ticksOf_0 : decode cX0_ticksOf 0 = .ok (.aload_n 0, 1) := by decide +kernel
theorem dX0_ticksOf_1 : decode cX0_ticksOf 1 = .ok (.iload_n 1, 1) := by decide +kernel
theorem dX0_ticksOf_2 : decode cX0_ticksOf 2 = .ok (.invokevirtual 137, 3) := by decide +kernel
theorem dX0_ticksOf_5 : decode cX0_ticksOf 5 = .ok (.aload_n 0, 1) := by decide +kernel
theorem dX0_ticksOf_6 : decode cX0_ticksOf 6 = .ok (.iload_n 1, 1) := by decide +kernel
theorem dX0_ticksOf_7 : decode cX0_ticksOf 7 = .ok (.invokevirtual 140, 3) := by decide +kernel
theorem dX0_ticksOf_10 : decode cX0_ticksOf 10 = .ok (.ireturn, 1) := by decide +kernel
set_option maxRecDepth 20000 in
theorem ggX0_measuredBy_X0_checkBee : GoodIn wsX0_measuredBy wsX0_checkBee := goodIn_ca (goodIn_r _ [6, 7, 8, 9, 25, 26, 27, 28, 29, 30, 31, 32, 33, 34, 35, 36, 37, 38, 39, 40, 41] (by decide +kernel) (by decide +kernel)) (goodIn_sub (fun _ h => List.mem_cons_of_mem _ (List.mem_append_right _ h)) (by decide +kernel))
set_option maxRecDepth 20000 in
theorem gX0_measuredBy_X0_checkBee : GoodIn wsX0_measuredBy (wsV RX0 137 RX0 yX0_checkBee wsX0_checkBee) := goodIn_app (goodIn_of _ (by decide +kernel)) ggX0_measuredBy_X0_checkBee
set_option maxRecDepth 20000 in
theorem ggX0_measuredBy_X0_countTicks : GoodIn wsX0_measuredBy wsX0_countTicks := goodIn_r _ [13, 14, 15, 16, 17, 5, 18, 19, 20, 21, 22, 23, 1, 24, 25, 26, 27, 28, 29, 30, 31, 32, 33, 34, 35, 36, 37, 38, 39, 40, 41] (by decide +kernel) (by decide +kernel)
set_option maxRecDepth 20000 in
theorem gX0_measuredBy_X0_countTicks : GoodIn wsX0_measuredBy (wsV RX0 140 RX0 yX0_countTicks wsX0_countTicks) := goodIn_app (goodIn_of _ (by decide +kernel)) ggX0_measuredBy_X0_countTicks
theorem dX0_measuredBy_0 : decode cX0_measuredBy 0 = .ok (.aload_n 0, 1) := by decide +kernel
theorem dX0_measuredBy_1 : decode cX0_measuredBy 1 = .ok (.iload_n 1, 1) := by decide +kernel
theorem dX0_measuredBy_2 : decode cX0_measuredBy 2 = .ok (.invokevirtual 137, 3) := by decide +kernel
theorem dX0_measuredBy_5 : decode cX0_measuredBy 5 = .ok (.aload_n 0, 1) := by decide +kernel
theorem dX0_measuredBy_6 : decode cX0_measuredBy 6 = .ok (.iload_n 1, 1) := by decide +kernel
theorem dX0_measuredBy_7 : decode cX0_measuredBy 7 = .ok (.invokevirtual 140, 3) := by decide +kernel
theorem dX0_measuredBy_10 : decode cX0_measuredBy 10 = .ok (.aload_n 0, 1) := by decide +kernel
theorem dX0_measuredBy_11 : decode cX0_measuredBy 11 = .ok (.getfield 22, 3) := by decide +kernel
theorem dX0_measuredBy_14 : decode cX0_measuredBy 14 = .ok (.iload_n 1, 1) := by decide +kernel
theorem dX0_measuredBy_15 : decode cX0_measuredBy 15 = .ok (.iaload, 1) := by decide +kernel
theorem dX0_measuredBy_16 : decode cX0_measuredBy 16 = .ok (.imul, 1) := by decide +kernel
theorem dX0_measuredBy_17 : decode cX0_measuredBy 17 = .ok (.ireturn, 1) := by decide +kernel
set_option maxRecDepth 20000 in
theorem ggX0_errorOf_X0_measuredBy : GoodIn wsX0_errorOf wsX0_measuredBy := goodIn_ca (goodIn_r _ [5, 6, 7, 8, 9, 4, 10, 11, 12, 13, 14, 15, 16, 17, 18, 19, 20, 21, 22, 23, 24, 25, 26, 27, 28, 33, 34, 35, 36, 37, 38, 39, 40, 41, 42, 43, 44, 45, 46, 47, 48, 49] (by decide +kernel) (by decide +kernel)) (goodIn_sub (fun _ h => List.mem_cons_of_mem _ (List.mem_append_right _ h)) (by decide +kernel))
set_option maxRecDepth 20000 in
theorem gX0_errorOf_X0_measuredBy : GoodIn wsX0_errorOf (wsV RX0 143 RX0 yX0_measuredBy wsX0_measuredBy) := goodIn_app (goodIn_of _ (by decide +kernel)) ggX0_errorOf_X0_measuredBy
set_option maxRecDepth 20000 in
theorem ggX0_errorOf_X0_awakeMinutes : GoodIn wsX0_errorOf wsX0_awakeMinutes := goodIn_r _ [32, 18, 23, 33, 34, 35, 36, 37, 38, 39, 40, 41, 42, 43, 44, 45, 46, 47, 48, 49] (by decide +kernel) (by decide +kernel)
set_option maxRecDepth 20000 in
theorem gX0_errorOf_X0_awakeMinutes : GoodIn wsX0_errorOf (wsV RX0 115 RX0 yX0_awakeMinutes wsX0_awakeMinutes) := goodIn_app (goodIn_of _ (by decide +kernel)) ggX0_errorOf_X0_awakeMinutes
theorem dX0_errorOf_0 : decode cX0_errorOf 0 = .ok (.aload_n 0, 1) := by decide +kernel
theorem dX0_errorOf_1 : decode cX0_errorOf 1 = .ok (.iload_n 1, 1) := by decide +kernel
theorem dX0_errorOf_2 : decode cX0_errorOf 2 = .ok (.invokevirtual 143, 3) := by decide +kernel
theorem dX0_errorOf_5 : decode cX0_errorOf 5 = .ok (.aload_n 0, 1) := by decide +kernel
theorem dX0_errorOf_6 : decode cX0_errorOf 6 = .ok (.invokevirtual 115, 3) := by decide +kernel
theorem dX0_errorOf_9 : decode cX0_errorOf 9 = .ok (.isub, 1) := by decide +kernel
theorem dX0_errorOf_10 : decode cX0_errorOf 10 = .ok (.ireturn, 1) := by decide +kernel
set_option maxRecDepth 20000 in
theorem ggX0_bestBee_X0_errorOf : GoodIn wsX0_bestBee wsX0_errorOf := goodIn_ca (goodIn_r _ [10, 11, 12, 13, 9, 14, 15, 16, 17, 18, 19, 20, 21, 1, 22, 23, 24, 25, 26, 27, 28, 29, 30, 31, 32, 33, 34, 35, 36, 37, 38, 39, 40, 41, 42, 43, 44, 45, 46, 47, 48, 49, 50, 51, 52, 53, 54, 55, 56, 57] (by decide +kernel) (by decide +kernel)) (goodIn_sub (fun _ h => List.mem_cons_of_mem _ (List.mem_append_right _ h)) (by decide +kernel))
set_option maxRecDepth 20000 in
theorem gX0_bestBee_X0_errorOf : GoodIn wsX0_bestBee (wsV RX0 146 RX0 yX0_errorOf wsX0_errorOf) := goodIn_app (goodIn_of _ (by decide +kernel)) ggX0_bestBee_X0_errorOf
theorem dX0_bestBee_0 : decode cX0_bestBee 0 = .ok (.iconst (-1), 1) := by decide +kernel
theorem dX0_bestBee_1 : decode cX0_bestBee 1 = .ok (.istore_n 1, 1) := by decide +kernel
theorem dX0_bestBee_2 : decode cX0_bestBee 2 = .ok (.iconst 0, 1) := by decide +kernel
theorem dX0_bestBee_3 : decode cX0_bestBee 3 = .ok (.istore_n 2, 1) := by decide +kernel
theorem dX0_bestBee_4 : decode cX0_bestBee 4 = .ok (.iconst 0, 1) := by decide +kernel
theorem dX0_bestBee_5 : decode cX0_bestBee 5 = .ok (.istore_n 3, 1) := by decide +kernel
theorem dX0_bestBee_6 : decode cX0_bestBee 6 = .ok (.iload_n 3, 1) := by decide +kernel
theorem dX0_bestBee_7 : decode cX0_bestBee 7 = .ok (.aload_n 0, 1) := by decide +kernel
theorem dX0_bestBee_8 : decode cX0_bestBee 8 = .ok (.getfield 73, 3) := by decide +kernel
theorem dX0_bestBee_11 : decode cX0_bestBee 11 = .ok (.if_icmp .ge 35, 3) := by decide +kernel
theorem dX0_bestBee_14 : decode cX0_bestBee 14 = .ok (.aload_n 0, 1) := by decide +kernel
theorem dX0_bestBee_15 : decode cX0_bestBee 15 = .ok (.iload_n 3, 1) := by decide +kernel
theorem dX0_bestBee_16 : decode cX0_bestBee 16 = .ok (.invokevirtual 146, 3) := by decide +kernel
theorem dX0_bestBee_19 : decode cX0_bestBee 19 = .ok (.invokestatic 149, 3) := by decide +kernel
theorem dX0_bestBee_22 : decode cX0_bestBee 22 = .ok (.istore 4, 2) := by decide +kernel
theorem dX0_bestBee_24 : decode cX0_bestBee 24 = .ok (.iload_n 1, 1) := by decide +kernel
theorem dX0_bestBee_25 : decode cX0_bestBee 25 = .ok (.iconst (-1), 1) := by decide +kernel
theorem dX0_bestBee_26 : decode cX0_bestBee 26 = .ok (.if_icmp .eq 9, 3) := by decide +kernel
theorem dX0_bestBee_29 : decode cX0_bestBee 29 = .ok (.iload 4, 2) := by decide +kernel
theorem dX0_bestBee_31 : decode cX0_bestBee 31 = .ok (.iload_n 2, 1) := by decide +kernel
theorem dX0_bestBee_32 : decode cX0_bestBee 32 = .ok (.if_icmp .ge 8, 3) := by decide +kernel
theorem dX0_bestBee_35 : decode cX0_bestBee 35 = .ok (.iload_n 3, 1) := by decide +kernel
theorem dX0_bestBee_36 : decode cX0_bestBee 36 = .ok (.istore_n 1, 1) := by decide +kernel
theorem dX0_bestBee_37 : decode cX0_bestBee 37 = .ok (.iload 4, 2) := by decide +kernel
theorem dX0_bestBee_39 : decode cX0_bestBee 39 = .ok (.istore_n 2, 1) := by decide +kernel
theorem dX0_bestBee_40 : decode cX0_bestBee 40 = .ok (.iinc 3 1, 3) := by decide +kernel
theorem dX0_bestBee_43 : decode cX0_bestBee 43 = .ok (.goto (-37), 3) := by decide +kernel
theorem dX0_bestBee_46 : decode cX0_bestBee 46 = .ok (.iload_n 1, 1) := by decide +kernel
theorem dX0_bestBee_47 : decode cX0_bestBee 47 = .ok (.ireturn, 1) := by decide +kernel
set_option maxRecDepth 20000 in
theorem ggX0_nextTick_X0_checkBee : GoodIn wsX0_nextTick wsX0_checkBee := goodIn_ca (goodIn_r _ [6, 7, 8, 9, 21, 22, 23, 24, 25, 26, 27, 28, 29, 30, 31, 32, 33, 34, 35, 36, 37] (by decide +kernel) (by decide +kernel)) (goodIn_sub (fun _ h => List.mem_cons_of_mem _ (List.mem_append_right _ h)) (by decide +kernel))
set_option maxRecDepth 20000 in
theorem gX0_nextTick_X0_checkBee : GoodIn wsX0_nextTick (wsV RX0 137 RX0 yX0_checkBee wsX0_checkBee) := goodIn_app (goodIn_of _ (by decide +kernel)) ggX0_nextTick_X0_checkBee
set_option maxRecDepth 20000 in
theorem ggX0_nextTick_X0_ticksIn : GoodIn wsX0_nextTick wsX0_ticksIn := goodIn_r _ [13, 14, 15, 16, 17, 5, 18, 19, 20, 21, 22, 23, 24, 25, 26, 27, 28, 29, 30, 31, 32, 33, 34, 35, 36, 37] (by decide +kernel) (by decide +kernel)
set_option maxRecDepth 20000 in
theorem gX0_nextTick_X0_ticksIn : GoodIn wsX0_nextTick (wsV RX0 152 RX0 yX0_ticksIn wsX0_ticksIn) := goodIn_app (goodIn_of _ (by decide +kernel)) ggX0_nextTick_X0_ticksIn
theorem dX0_nextTick_0 : decode cX0_nextTick 0 = .ok (.aload_n 0, 1) := by decide +kernel
theorem dX0_nextTick_1 : decode cX0_nextTick 1 = .ok (.iload_n 1, 1) := by decide +kernel
theorem dX0_nextTick_2 : decode cX0_nextTick 2 = .ok (.invokevirtual 137, 3) := by decide +kernel
theorem dX0_nextTick_5 : decode cX0_nextTick 5 = .ok (.aload_n 0, 1) := by decide +kernel
theorem dX0_nextTick_6 : decode cX0_nextTick 6 = .ok (.getfield 97, 3) := by decide +kernel
theorem dX0_nextTick_9 : decode cX0_nextTick 9 = .ok (.istore_n 2, 1) := by decide +kernel
theorem dX0_nextTick_10 : decode cX0_nextTick 10 = .ok (.iload_n 2, 1) := by decide +kernel
theorem dX0_nextTick_11 : decode cX0_nextTick 11 = .ok (.sipush 360, 3) := by decide +kernel
theorem dX0_nextTick_14 : decode cX0_nextTick 14 = .ok (.if_icmp .ge 20, 3) := by decide +kernel
theorem dX0_nextTick_17 : decode cX0_nextTick 17 = .ok (.aload_n 0, 1) := by decide +kernel
theorem dX0_nextTick_18 : decode cX0_nextTick 18 = .ok (.iload_n 1, 1) := by decide +kernel
theorem dX0_nextTick_19 : decode cX0_nextTick 19 = .ok (.iload_n 2, 1) := by decide +kernel
theorem dX0_nextTick_20 : decode cX0_nextTick 20 = .ok (.invokevirtual 152, 3) := by decide +kernel
theorem dX0_nextTick_23 : decode cX0_nextTick 23 = .ok (.ifCond .eq 5, 3) := by decide +kernel
theorem dX0_nextTick_26 : decode cX0_nextTick 26 = .ok (.iload_n 2, 1) := by decide +kernel
theorem dX0_nextTick_27 : decode cX0_nextTick 27 = .ok (.ireturn, 1) := by decide +kernel
theorem dX0_nextTick_28 : decode cX0_nextTick 28 = .ok (.iinc 2 1, 3) := by decide +kernel
theorem dX0_nextTick_31 : decode cX0_nextTick 31 = .ok (.goto (-21), 3) := by decide +kernel
theorem dX0_nextTick_34 : decode cX0_nextTick 34 = .ok (.iconst (-1), 1) := by decide +kernel
theorem dX0_nextTick_35 : decode cX0_nextTick 35 = .ok (.ireturn, 1) := by decide +kernel
theorem dX0_tea_0 : decode cX0_tea 0 = .ok (.aload_n 0, 1) := by decide +kernel
theorem dX0_tea_1 : decode cX0_tea 1 = .ok (.getfield 88, 3) := by decide +kernel
theorem dX0_tea_4 : decode cX0_tea 4 = .ok (.ireturn, 1) := by decide +kernel
theorem dX0_spilt_0 : decode cX0_spilt 0 = .ok (.aload_n 0, 1) := by decide +kernel
theorem dX0_spilt_1 : decode cX0_spilt 1 = .ok (.getfield 106, 3) := by decide +kernel
theorem dX0_spilt_4 : decode cX0_spilt 4 = .ok (.ireturn, 1) := by decide +kernel
set_option maxRecDepth 20000 in
theorem ggX0_spiltAtEnd_X0_contentAfter : GoodIn wsX0_spiltAtEnd wsX0_contentAfter := goodIn_r _ [9, 10, 11, 12, 13, 14, 15, 16, 22, 23, 24, 25, 26, 27, 28, 29, 30, 31, 32, 33, 34, 35, 36, 37, 38] (by decide +kernel) (by decide +kernel)
set_option maxRecDepth 20000 in
theorem gX0_spiltAtEnd_X0_contentAfter : GoodIn wsX0_spiltAtEnd (wsV RX0 102 RX0 yX0_contentAfter wsX0_contentAfter) := goodIn_app (goodIn_of _ (by decide +kernel)) ggX0_spiltAtEnd_X0_contentAfter
set_option maxRecDepth 20000 in
theorem ggX0_spiltAtEnd_X0_excess : GoodIn wsX0_spiltAtEnd wsX0_excess := goodIn_r _ [20, 21, 13, 14, 15, 16, 22, 23, 24, 25, 26, 27, 28, 29, 30, 31, 32, 33, 34, 35, 36, 37, 38] (by decide +kernel) (by decide +kernel)
set_option maxRecDepth 20000 in
theorem gX0_spiltAtEnd_X0_excess : GoodIn wsX0_spiltAtEnd (wsV RX0 155 RX0 yX0_excess wsX0_excess) := goodIn_app (goodIn_of _ (by decide +kernel)) ggX0_spiltAtEnd_X0_excess
theorem dX0_spiltAtEnd_0 : decode cX0_spiltAtEnd 0 = .ok (.aload_n 0, 1) := by decide +kernel
theorem dX0_spiltAtEnd_1 : decode cX0_spiltAtEnd 1 = .ok (.getfield 106, 3) := by decide +kernel
theorem dX0_spiltAtEnd_4 : decode cX0_spiltAtEnd 4 = .ok (.istore_n 1, 1) := by decide +kernel
theorem dX0_spiltAtEnd_5 : decode cX0_spiltAtEnd 5 = .ok (.aload_n 0, 1) := by decide +kernel
theorem dX0_spiltAtEnd_6 : decode cX0_spiltAtEnd 6 = .ok (.getfield 88, 3) := by decide +kernel
theorem dX0_spiltAtEnd_9 : decode cX0_spiltAtEnd 9 = .ok (.istore_n 2, 1) := by decide +kernel
theorem dX0_spiltAtEnd_10 : decode cX0_spiltAtEnd 10 = .ok (.aload_n 0, 1) := by decide +kernel
theorem dX0_spiltAtEnd_11 : decode cX0_spiltAtEnd 11 = .ok (.getfield 97, 3) := by decide +kernel
theorem dX0_spiltAtEnd_14 : decode cX0_spiltAtEnd 14 = .ok (.istore_n 3, 1) := by decide +kernel
theorem dX0_spiltAtEnd_15 : decode cX0_spiltAtEnd 15 = .ok (.iload_n 3, 1) := by decide +kernel
theorem dX0_spiltAtEnd_16 : decode cX0_spiltAtEnd 16 = .ok (.sipush 360, 3) := by decide +kernel
theorem dX0_spiltAtEnd_19 : decode cX0_spiltAtEnd 19 = .ok (.if_icmp .ge 37, 3) := by decide +kernel
theorem dX0_spiltAtEnd_22 : decode cX0_spiltAtEnd 22 = .ok (.aload_n 0, 1) := by decide +kernel
theorem dX0_spiltAtEnd_23 : decode cX0_spiltAtEnd 23 = .ok (.iload_n 3, 1) := by decide +kernel
theorem dX0_spiltAtEnd_24 : decode cX0_spiltAtEnd 24 = .ok (.iload_n 2, 1) := by decide +kernel
theorem dX0_spiltAtEnd_25 : decode cX0_spiltAtEnd 25 = .ok (.aload_n 0, 1) := by decide +kernel
theorem dX0_spiltAtEnd_26 : decode cX0_spiltAtEnd 26 = .ok (.getfield 35, 3) := by decide +kernel
theorem dX0_spiltAtEnd_29 : decode cX0_spiltAtEnd 29 = .ok (.invokevirtual 102, 3) := by decide +kernel
theorem dX0_spiltAtEnd_32 : decode cX0_spiltAtEnd 32 = .ok (.istore_n 2, 1) := by decide +kernel
theorem dX0_spiltAtEnd_33 : decode cX0_spiltAtEnd 33 = .ok (.aload_n 0, 1) := by decide +kernel
theorem dX0_spiltAtEnd_34 : decode cX0_spiltAtEnd 34 = .ok (.iload_n 2, 1) := by decide +kernel
theorem dX0_spiltAtEnd_35 : decode cX0_spiltAtEnd 35 = .ok (.invokevirtual 155, 3) := by decide +kernel
theorem dX0_spiltAtEnd_38 : decode cX0_spiltAtEnd 38 = .ok (.istore 4, 2) := by decide +kernel
theorem dX0_spiltAtEnd_40 : decode cX0_spiltAtEnd 40 = .ok (.iload_n 1, 1) := by decide +kernel
theorem dX0_spiltAtEnd_41 : decode cX0_spiltAtEnd 41 = .ok (.iload 4, 2) := by decide +kernel
theorem dX0_spiltAtEnd_43 : decode cX0_spiltAtEnd 43 = .ok (.iadd, 1) := by decide +kernel
theorem dX0_spiltAtEnd_44 : decode cX0_spiltAtEnd 44 = .ok (.istore_n 1, 1) := by decide +kernel
theorem dX0_spiltAtEnd_45 : decode cX0_spiltAtEnd 45 = .ok (.iload_n 2, 1) := by decide +kernel
theorem dX0_spiltAtEnd_46 : decode cX0_spiltAtEnd 46 = .ok (.iload 4, 2) := by decide +kernel
theorem dX0_spiltAtEnd_48 : decode cX0_spiltAtEnd 48 = .ok (.isub, 1) := by decide +kernel
theorem dX0_spiltAtEnd_49 : decode cX0_spiltAtEnd 49 = .ok (.istore_n 2, 1) := by decide +kernel
theorem dX0_spiltAtEnd_50 : decode cX0_spiltAtEnd 50 = .ok (.iinc 3 1, 3) := by decide +kernel
theorem dX0_spiltAtEnd_53 : decode cX0_spiltAtEnd 53 = .ok (.goto (-38), 3) := by decide +kernel
theorem dX0_spiltAtEnd_56 : decode cX0_spiltAtEnd 56 = .ok (.iload_n 1, 1) := by decide +kernel
theorem dX0_spiltAtEnd_57 : decode cX0_spiltAtEnd 57 = .ok (.ireturn, 1) := by decide +kernel
set_option maxRecDepth 20000 in
theorem ggX0_minuteOfSpill_X0_firstSpillWith : GoodIn wsX0_minuteOfSpill wsX0_firstSpillWith := goodIn_r _ [6, 7, 8, 9, 10, 11, 5, 12, 13, 14, 15, 16, 17, 18, 19, 20, 21, 22, 23, 24, 25, 26, 27, 28, 29, 30, 31, 32, 33, 34, 35, 36, 37, 38, 39, 40, 41] (by decide +kernel) (by decide +kernel)
set_option maxRecDepth 20000 in
theorem gX0_minuteOfSpill_X0_firstSpillWith : GoodIn wsX0_minuteOfSpill (wsV RX0 158 RX0 yX0_firstSpillWith wsX0_firstSpillWith) := goodIn_app (goodIn_of _ (by decide +kernel)) ggX0_minuteOfSpill_X0_firstSpillWith
theorem dX0_minuteOfSpill_0 : decode cX0_minuteOfSpill 0 = .ok (.aload_n 0, 1) := by decide +kernel
theorem dX0_minuteOfSpill_1 : decode cX0_minuteOfSpill 1 = .ok (.aload_n 0, 1) := by decide +kernel
theorem dX0_minuteOfSpill_2 : decode cX0_minuteOfSpill 2 = .ok (.getfield 35, 3) := by decide +kernel
theorem dX0_minuteOfSpill_5 : decode cX0_minuteOfSpill 5 = .ok (.invokevirtual 158, 3) := by decide +kernel
theorem dX0_minuteOfSpill_8 : decode cX0_minuteOfSpill 8 = .ok (.ireturn, 1) := by decide +kernel
set_option maxRecDepth 20000 in
theorem ggX0_safeRate_X0_firstSpillWith : GoodIn wsX0_safeRate wsX0_firstSpillWith := goodIn_r _ [5, 6, 7, 8, 9, 10, 4, 11, 12, 13, 14, 15, 16, 17, 18, 19, 20, 21, 22, 23, 24, 25, 26, 27, 28, 29, 30, 31, 32, 33, 34, 35, 36, 37, 38, 39, 40] (by decide +kernel) (by decide +kernel)
set_option maxRecDepth 20000 in
theorem gX0_safeRate_X0_firstSpillWith : GoodIn wsX0_safeRate (wsV RX0 158 RX0 yX0_firstSpillWith wsX0_firstSpillWith) := goodIn_app (goodIn_of _ (by decide +kernel)) ggX0_safeRate_X0_firstSpillWith
theorem dX0_safeRate_0 : decode cX0_safeRate 0 = .ok (.bipush 9, 2) := by decide +kernel
theorem dX0_safeRate_2 : decode cX0_safeRate 2 = .ok (.istore_n 1, 1) := by decide +kernel
theorem dX0_safeRate_3 : decode cX0_safeRate 3 = .ok (.iload_n 1, 1) := by decide +kernel
theorem dX0_safeRate_4 : decode cX0_safeRate 4 = .ok (.ifCond .le 18, 3) := by decide +kernel
theorem dX0_safeRate_7 : decode cX0_safeRate 7 = .ok (.aload_n 0, 1) := by decide +kernel
theorem dX0_safeRate_8 : decode cX0_safeRate 8 = .ok (.iload_n 1, 1) := by decide +kernel
theorem dX0_safeRate_9 : decode cX0_safeRate 9 = .ok (.invokevirtual 158, 3) := by decide +kernel
theorem dX0_safeRate_12 : decode cX0_safeRate 12 = .ok (.iconst (-1), 1) := by decide +kernel
theorem dX0_safeRate_13 : decode cX0_safeRate 13 = .ok (.if_icmp .eq 9, 3) := by decide +kernel
theorem dX0_safeRate_16 : decode cX0_safeRate 16 = .ok (.iinc 1 (-1), 3) := by decide +kernel
theorem dX0_safeRate_19 : decode cX0_safeRate 19 = .ok (.goto (-16), 3) := by decide +kernel
theorem dX0_safeRate_22 : decode cX0_safeRate 22 = .ok (.iload_n 1, 1) := by decide +kernel
theorem dX0_safeRate_23 : decode cX0_safeRate 23 = .ok (.ireturn, 1) := by decide +kernel
set_option maxRecDepth 20000 in
theorem ggX0_bestToGiveUp_X0_countAlone : GoodIn wsX0_bestToGiveUp wsX0_countAlone := goodIn_r _ [6, 7, 8, 9, 10, 5, 11, 12, 13, 14, 15, 16, 17, 18, 19, 20, 21, 22, 23, 24, 25, 26, 27, 28, 29, 30] (by decide +kernel) (by decide +kernel)
set_option maxRecDepth 20000 in
theorem gX0_bestToGiveUp_X0_countAlone : GoodIn wsX0_bestToGiveUp (wsV RX0 134 RX0 yX0_countAlone wsX0_countAlone) := goodIn_app (goodIn_of _ (by decide +kernel)) ggX0_bestToGiveUp_X0_countAlone
theorem dX0_bestToGiveUp_0 : decode cX0_bestToGiveUp 0 = .ok (.iconst (-1), 1) := by decide +kernel
theorem dX0_bestToGiveUp_1 : decode cX0_bestToGiveUp 1 = .ok (.istore_n 1, 1) := by decide +kernel
theorem dX0_bestToGiveUp_2 : decode cX0_bestToGiveUp 2 = .ok (.iconst 0, 1) := by decide +kernel
theorem dX0_bestToGiveUp_3 : decode cX0_bestToGiveUp 3 = .ok (.istore_n 2, 1) := by decide +kernel
theorem dX0_bestToGiveUp_4 : decode cX0_bestToGiveUp 4 = .ok (.iconst 0, 1) := by decide +kernel
theorem dX0_bestToGiveUp_5 : decode cX0_bestToGiveUp 5 = .ok (.istore_n 3, 1) := by decide +kernel
theorem dX0_bestToGiveUp_6 : decode cX0_bestToGiveUp 6 = .ok (.iload_n 3, 1) := by decide +kernel
theorem dX0_bestToGiveUp_7 : decode cX0_bestToGiveUp 7 = .ok (.aload_n 0, 1) := by decide +kernel
theorem dX0_bestToGiveUp_8 : decode cX0_bestToGiveUp 8 = .ok (.getfield 58, 3) := by decide +kernel
theorem dX0_bestToGiveUp_11 : decode cX0_bestToGiveUp 11 = .ok (.if_icmp .ge 32, 3) := by decide +kernel
theorem dX0_bestToGiveUp_14 : decode cX0_bestToGiveUp 14 = .ok (.aload_n 0, 1) := by decide +kernel
theorem dX0_bestToGiveUp_15 : decode cX0_bestToGiveUp 15 = .ok (.iload_n 3, 1) := by decide +kernel
theorem dX0_bestToGiveUp_16 : decode cX0_bestToGiveUp 16 = .ok (.invokevirtual 134, 3) := by decide +kernel
theorem dX0_bestToGiveUp_19 : decode cX0_bestToGiveUp 19 = .ok (.istore 4, 2) := by decide +kernel
theorem dX0_bestToGiveUp_21 : decode cX0_bestToGiveUp 21 = .ok (.iload_n 1, 1) := by decide +kernel
theorem dX0_bestToGiveUp_22 : decode cX0_bestToGiveUp 22 = .ok (.iconst (-1), 1) := by decide +kernel
theorem dX0_bestToGiveUp_23 : decode cX0_bestToGiveUp 23 = .ok (.if_icmp .eq 9, 3) := by decide +kernel
theorem dX0_bestToGiveUp_26 : decode cX0_bestToGiveUp 26 = .ok (.iload 4, 2) := by decide +kernel
theorem dX0_bestToGiveUp_28 : decode cX0_bestToGiveUp 28 = .ok (.iload_n 2, 1) := by decide +kernel
theorem dX0_bestToGiveUp_29 : decode cX0_bestToGiveUp 29 = .ok (.if_icmp .le 8, 3) := by decide +kernel
theorem dX0_bestToGiveUp_32 : decode cX0_bestToGiveUp 32 = .ok (.iload_n 3, 1) := by decide +kernel
theorem dX0_bestToGiveUp_33 : decode cX0_bestToGiveUp 33 = .ok (.istore_n 1, 1) := by decide +kernel
theorem dX0_bestToGiveUp_34 : decode cX0_bestToGiveUp 34 = .ok (.iload 4, 2) := by decide +kernel
theorem dX0_bestToGiveUp_36 : decode cX0_bestToGiveUp 36 = .ok (.istore_n 2, 1) := by decide +kernel
theorem dX0_bestToGiveUp_37 : decode cX0_bestToGiveUp 37 = .ok (.iinc 3 1, 3) := by decide +kernel
theorem dX0_bestToGiveUp_40 : decode cX0_bestToGiveUp 40 = .ok (.goto (-34), 3) := by decide +kernel
theorem dX0_bestToGiveUp_43 : decode cX0_bestToGiveUp 43 = .ok (.iload_n 1, 1) := by decide +kernel
theorem dX0_bestToGiveUp_44 : decode cX0_bestToGiveUp 44 = .ok (.ireturn, 1) := by decide +kernel
set_option maxRecDepth 20000 in
theorem ggX0_meanLastShadow_X0_sumOfShadows : GoodIn wsX0_meanLastShadow wsX0_sumOfShadows := goodIn_r _ [6, 1, 7, 8, 9, 5, 10, 11, 12, 13, 14, 15, 16, 17, 18, 19, 20, 21, 22, 23, 24, 25, 26, 27, 28] (by decide +kernel) (by decide +kernel)
set_option maxRecDepth 20000 in
theorem gX0_meanLastShadow_X0_sumOfShadows : GoodIn wsX0_meanLastShadow (wsV RX0 131 RX0 yX0_sumOfShadows wsX0_sumOfShadows) := goodIn_app (goodIn_of _ (by decide +kernel)) ggX0_meanLastShadow_X0_sumOfShadows
theorem dX0_meanLastShadow_0 : decode cX0_meanLastShadow 0 = .ok (.aload_n 0, 1) := by decide +kernel
theorem dX0_meanLastShadow_1 : decode cX0_meanLastShadow 1 = .ok (.getfield 48, 3) := by decide +kernel
theorem dX0_meanLastShadow_4 : decode cX0_meanLastShadow 4 = .ok (.ifCond .ne 5, 3) := by decide +kernel
theorem dX0_meanLastShadow_7 : decode cX0_meanLastShadow 7 = .ok (.dconst 0, 1) := by decide +kernel
theorem dX0_meanLastShadow_8 : decode cX0_meanLastShadow 8 = .ok (.dreturn, 1) := by decide +kernel
theorem dX0_meanLastShadow_9 : decode cX0_meanLastShadow 9 = .ok (.aload_n 0, 1) := by decide +kernel
theorem dX0_meanLastShadow_10 : decode cX0_meanLastShadow 10 = .ok (.sipush 359, 3) := by decide +kernel
theorem dX0_meanLastShadow_13 : decode cX0_meanLastShadow 13 = .ok (.invokevirtual 131, 3) := by decide +kernel
theorem dX0_meanLastShadow_16 : decode cX0_meanLastShadow 16 = .ok (.i2d, 1) := by decide +kernel
theorem dX0_meanLastShadow_17 : decode cX0_meanLastShadow 17 = .ok (.aload_n 0, 1) := by decide +kernel
theorem dX0_meanLastShadow_18 : decode cX0_meanLastShadow 18 = .ok (.getfield 48, 3) := by decide +kernel
theorem dX0_meanLastShadow_21 : decode cX0_meanLastShadow 21 = .ok (.i2d, 1) := by decide +kernel
theorem dX0_meanLastShadow_22 : decode cX0_meanLastShadow 22 = .ok (.ddiv, 1) := by decide +kernel
theorem dX0_meanLastShadow_23 : decode cX0_meanLastShadow 23 = .ok (.dreturn, 1) := by decide +kernel
set_option maxRecDepth 20000 in
theorem ggX0_digest_X0_awakeMinutes : GoodIn wsX0_digest wsX0_awakeMinutes := goodIn_r _ [14, 4, 15, 118, 119, 120, 121, 122, 123, 124, 125, 126, 127, 128, 129, 130, 131, 132, 133, 134] (by decide +kernel) (by decide +kernel)
set_option maxRecDepth 20000 in
theorem gX0_digest_X0_awakeMinutes : GoodIn wsX0_digest (wsV RX0 115 RX0 yX0_awakeMinutes wsX0_awakeMinutes) := goodIn_app (goodIn_of _ (by decide +kernel)) ggX0_digest_X0_awakeMinutes
set_option maxRecDepth 20000 in
theorem ggX0_digest_X0_longestAwake : GoodIn wsX0_digest wsX0_longestAwake := goodIn_r _ [19, 15, 20, 21, 22, 23, 118, 119, 120, 121, 122, 123, 124, 125, 126, 127, 128, 129, 130, 131, 132, 133, 134] (by decide +kernel) (by decide +kernel)
set_option maxRecDepth 20000 in
theorem gX0_digest_X0_longestAwake : GoodIn wsX0_digest (wsV RX0 165 RX0 yX0_longestAwake wsX0_longestAwake) := goodIn_app (goodIn_of _ (by decide +kernel)) ggX0_digest_X0_longestAwake
set_option maxRecDepth 20000 in
theorem ggX0_digest_X0_spiltAtEnd : GoodIn wsX0_digest wsX0_spiltAtEnd := goodIn_r _ [27, 9, 8, 4, 28, 29, 30, 31, 13, 32, 15, 33, 34, 20, 21, 22, 23, 35, 36, 37, 38, 39, 118, 119, 120, 121, 122, 123, 124, 125, 126, 127, 128, 129, 130, 131, 132, 133, 134] (by decide +kernel) (by decide +kernel)
set_option maxRecDepth 20000 in
theorem gX0_digest_X0_spiltAtEnd : GoodIn wsX0_digest (wsV RX0 168 RX0 yX0_spiltAtEnd wsX0_spiltAtEnd) := goodIn_app (goodIn_of _ (by decide +kernel)) ggX0_digest_X0_spiltAtEnd
set_option maxRecDepth 20000 in
theorem ggX0_digest_X0_safeRate : GoodIn wsX0_digest wsX0_safeRate := goodIn_r _ [43, 44, 45, 46, 13, 47, 8, 4, 29, 30, 31, 32, 15, 33, 34, 20, 21, 22, 23, 35, 36, 37, 38, 39, 118, 119, 120, 121, 122, 123, 124, 125, 126, 127, 128, 129, 130, 131, 132, 133, 134] (by decide +kernel) (by decide +kernel)
set_option maxRecDepth 20000 in
theorem gX0_digest_X0_safeRate : GoodIn wsX0_digest (wsV RX0 171 RX0 yX0_safeRate wsX0_safeRate) := goodIn_app (goodIn_of _ (by decide +kernel)) ggX0_digest_X0_safeRate
set_option maxRecDepth 20000 in
theorem ggX0_digest_X0_bestToGiveUp : GoodIn wsX0_digest wsX0_bestToGiveUp := goodIn_r _ [51, 6, 52, 53, 54, 13, 55, 15, 56, 57, 58, 59, 60, 61, 118, 119, 120, 121, 122, 123, 124, 125, 126, 127, 128, 129, 130, 131, 132, 133, 134] (by decide +kernel) (by decide +kernel)
set_option maxRecDepth 20000 in
theorem gX0_digest_X0_bestToGiveUp : GoodIn wsX0_digest (wsV RX0 174 RX0 yX0_bestToGiveUp wsX0_bestToGiveUp) := goodIn_app (goodIn_of _ (by decide +kernel)) ggX0_digest_X0_bestToGiveUp
set_option maxRecDepth 20000 in
theorem ggX0_digest_X0_bestBee : GoodIn wsX0_digest wsX0_bestBee := goodIn_ca (goodIn_r _ [65, 7, 66, 67, 22, 68, 69, 70, 71, 13, 72, 73, 74, 75, 76, 77, 78, 79, 80, 81, 82, 83, 84, 85, 86, 87, 4, 88, 89, 90, 91, 15, 92, 93, 94, 95, 96, 10, 11, 12, 14, 118, 119, 120, 121, 122, 123, 124, 125, 126, 127, 128, 129, 130, 131, 132, 133, 134] (by decide +kernel) (by decide +kernel)) (goodIn_sub (fun _ h => List.mem_cons_of_mem _ (List.mem_append_right _ h)) (by decide +kernel))
set_option maxRecDepth 20000 in
theorem gX0_digest_X0_bestBee : GoodIn wsX0_digest (wsV RX0 177 RX0 yX0_bestBee wsX0_bestBee) := goodIn_app (goodIn_of _ (by decide +kernel)) ggX0_digest_X0_bestBee
set_option maxRecDepth 20000 in
theorem ggX0_digest_X0_withSticks : GoodIn wsX0_digest wsX0_withSticks := goodIn_r _ [100, 5, 2, 101, 102, 103, 13, 104, 105, 118, 119, 120, 121, 122, 123, 124, 125, 126, 127, 128, 129, 130, 131, 132, 133, 134] (by decide +kernel) (by decide +kernel)
set_option maxRecDepth 20000 in
theorem gX0_digest_X0_withSticks : GoodIn wsX0_digest (wsV RX0 180 RX0 yX0_withSticks wsX0_withSticks) := goodIn_app (goodIn_of _ (by decide +kernel)) ggX0_digest_X0_withSticks
set_option maxRecDepth 20000 in
theorem ggX0_digest_X0_withNaps : GoodIn wsX0_digest wsX0_withNaps := goodIn_r _ [109, 6, 2, 60, 61, 52, 53, 54, 13, 55, 15, 56, 57, 58, 59, 118, 119, 120, 121, 122, 123, 124, 125, 126, 127, 128, 129, 130, 131, 132, 133, 134] (by decide +kernel) (by decide +kernel)
set_option maxRecDepth 20000 in
theorem gX0_digest_X0_withNaps : GoodIn wsX0_digest (wsV RX0 184 RX0 yX0_withNaps wsX0_withNaps) := goodIn_app (goodIn_of _ (by decide +kernel)) ggX0_digest_X0_withNaps
set_option maxRecDepth 20000 in
theorem ggX0_digest_X0_withBees : GoodIn wsX0_digest wsX0_withBees := goodIn_ca (goodIn_r _ [113, 7, 2, 84, 85, 86, 13, 87, 4, 88, 89, 90, 91, 15, 92, 93, 94, 95, 77, 96, 73, 74, 75, 76, 78, 79, 80, 81, 82, 83, 114, 115, 116, 117, 118, 119, 120, 121, 122, 123, 124, 125, 126, 127, 128, 129, 130, 131, 132, 133, 134] (by decide +kernel) (by decide +kernel)) (goodIn_sub (fun _ h => List.mem_cons_of_mem _ (List.mem_append_right _ h)) (by decide +kernel))
set_option maxRecDepth 20000 in
theorem gX0_digest_X0_withBees : GoodIn wsX0_digest (wsV RX0 187 RX0 yX0_withBees wsX0_withBees) := goodIn_app (goodIn_of _ (by decide +kernel)) ggX0_digest_X0_withBees
theorem dX0_digest_0 : decode cX0_digest 0 = .ok (.ldc2_w 161, 3) := by decide +kernel
theorem dX0_digest_3 : decode cX0_digest 3 = .ok (.lstore_n 1, 1) := by decide +kernel
theorem dX0_digest_4 : decode cX0_digest 4 = .ok (.lload_n 1, 1) := by decide +kernel
theorem dX0_digest_5 : decode cX0_digest 5 = .ok (.ldc2_w 163, 3) := by decide +kernel
theorem dX0_digest_8 : decode cX0_digest 8 = .ok (.lmul, 1) := by decide +kernel
theorem dX0_digest_9 : decode cX0_digest 9 = .ok (.aload_n 0, 1) := by decide +kernel
theorem dX0_digest_10 : decode cX0_digest 10 = .ok (.getfield 109, 3) := by decide +kernel
theorem dX0_digest_13 : decode cX0_digest 13 = .ok (.i2l, 1) := by decide +kernel
theorem dX0_digest_14 : decode cX0_digest 14 = .ok (.ladd, 1) := by decide +kernel
theorem dX0_digest_15 : decode cX0_digest 15 = .ok (.lstore_n 1, 1) := by decide +kernel
theorem dX0_digest_16 : decode cX0_digest 16 = .ok (.lload_n 1, 1) := by decide +kernel
theorem dX0_digest_17 : decode cX0_digest 17 = .ok (.ldc2_w 163, 3) := by decide +kernel
theorem dX0_digest_20 : decode cX0_digest 20 = .ok (.lmul, 1) := by decide +kernel
theorem dX0_digest_21 : decode cX0_digest 21 = .ok (.aload_n 0, 1) := by decide +kernel
theorem dX0_digest_22 : decode cX0_digest 22 = .ok (.getfield 97, 3) := by decide +kernel
theorem dX0_digest_25 : decode cX0_digest 25 = .ok (.i2l, 1) := by decide +kernel
theorem dX0_digest_26 : decode cX0_digest 26 = .ok (.ladd, 1) := by decide +kernel
theorem dX0_digest_27 : decode cX0_digest 27 = .ok (.lstore_n 1, 1) := by decide +kernel
theorem dX0_digest_28 : decode cX0_digest 28 = .ok (.lload_n 1, 1) := by decide +kernel
theorem dX0_digest_29 : decode cX0_digest 29 = .ok (.ldc2_w 163, 3) := by decide +kernel
theorem dX0_digest_32 : decode cX0_digest 32 = .ok (.lmul, 1) := by decide +kernel
theorem dX0_digest_33 : decode cX0_digest 33 = .ok (.aload_n 0, 1) := by decide +kernel
theorem dX0_digest_34 : decode cX0_digest 34 = .ok (.invokevirtual 115, 3) := by decide +kernel
theorem dX0_digest_37 : decode cX0_digest 37 = .ok (.i2l, 1) := by decide +kernel
theorem dX0_digest_38 : decode cX0_digest 38 = .ok (.ladd, 1) := by decide +kernel
theorem dX0_digest_39 : decode cX0_digest 39 = .ok (.lstore_n 1, 1) := by decide +kernel
theorem dX0_digest_40 : decode cX0_digest 40 = .ok (.lload_n 1, 1) := by decide +kernel
theorem dX0_digest_41 : decode cX0_digest 41 = .ok (.ldc2_w 163, 3) := by decide +kernel
theorem dX0_digest_44 : decode cX0_digest 44 = .ok (.lmul, 1) := by decide +kernel
theorem dX0_digest_45 : decode cX0_digest 45 = .ok (.aload_n 0, 1) := by decide +kernel
theorem dX0_digest_46 : decode cX0_digest 46 = .ok (.invokevirtual 165, 3) := by decide +kernel
theorem dX0_digest_49 : decode cX0_digest 49 = .ok (.i2l, 1) := by decide +kernel
theorem dX0_digest_50 : decode cX0_digest 50 = .ok (.ladd, 1) := by decide +kernel
theorem dX0_digest_51 : decode cX0_digest 51 = .ok (.lstore_n 1, 1) := by decide +kernel
theorem dX0_digest_52 : decode cX0_digest 52 = .ok (.lload_n 1, 1) := by decide +kernel
theorem dX0_digest_53 : decode cX0_digest 53 = .ok (.ldc2_w 163, 3) := by decide +kernel
theorem dX0_digest_56 : decode cX0_digest 56 = .ok (.lmul, 1) := by decide +kernel
theorem dX0_digest_57 : decode cX0_digest 57 = .ok (.aload_n 0, 1) := by decide +kernel
theorem dX0_digest_58 : decode cX0_digest 58 = .ok (.getfield 48, 3) := by decide +kernel
theorem dX0_digest_61 : decode cX0_digest 61 = .ok (.i2l, 1) := by decide +kernel
theorem dX0_digest_62 : decode cX0_digest 62 = .ok (.ladd, 1) := by decide +kernel
theorem dX0_digest_63 : decode cX0_digest 63 = .ok (.lstore_n 1, 1) := by decide +kernel
theorem dX0_digest_64 : decode cX0_digest 64 = .ok (.lload_n 1, 1) := by decide +kernel
theorem dX0_digest_65 : decode cX0_digest 65 = .ok (.ldc2_w 163, 3) := by decide +kernel
theorem dX0_digest_68 : decode cX0_digest 68 = .ok (.lmul, 1) := by decide +kernel
theorem dX0_digest_69 : decode cX0_digest 69 = .ok (.aload_n 0, 1) := by decide +kernel
theorem dX0_digest_70 : decode cX0_digest 70 = .ok (.getfield 58, 3) := by decide +kernel
theorem dX0_digest_73 : decode cX0_digest 73 = .ok (.i2l, 1) := by decide +kernel
theorem dX0_digest_74 : decode cX0_digest 74 = .ok (.ladd, 1) := by decide +kernel
theorem dX0_digest_75 : decode cX0_digest 75 = .ok (.lstore_n 1, 1) := by decide +kernel
theorem dX0_digest_76 : decode cX0_digest 76 = .ok (.lload_n 1, 1) := by decide +kernel
theorem dX0_digest_77 : decode cX0_digest 77 = .ok (.ldc2_w 163, 3) := by decide +kernel
theorem dX0_digest_80 : decode cX0_digest 80 = .ok (.lmul, 1) := by decide +kernel
theorem dX0_digest_81 : decode cX0_digest 81 = .ok (.aload_n 0, 1) := by decide +kernel
theorem dX0_digest_82 : decode cX0_digest 82 = .ok (.getfield 73, 3) := by decide +kernel
theorem dX0_digest_85 : decode cX0_digest 85 = .ok (.i2l, 1) := by decide +kernel
theorem dX0_digest_86 : decode cX0_digest 86 = .ok (.ladd, 1) := by decide +kernel
theorem dX0_digest_87 : decode cX0_digest 87 = .ok (.lstore_n 1, 1) := by decide +kernel
theorem dX0_digest_88 : decode cX0_digest 88 = .ok (.lload_n 1, 1) := by decide +kernel
theorem dX0_digest_89 : decode cX0_digest 89 = .ok (.ldc2_w 163, 3) := by decide +kernel
theorem dX0_digest_92 : decode cX0_digest 92 = .ok (.lmul, 1) := by decide +kernel
theorem dX0_digest_93 : decode cX0_digest 93 = .ok (.aload_n 0, 1) := by decide +kernel
theorem dX0_digest_94 : decode cX0_digest 94 = .ok (.getfield 88, 3) := by decide +kernel
theorem dX0_digest_97 : decode cX0_digest 97 = .ok (.i2l, 1) := by decide +kernel
theorem dX0_digest_98 : decode cX0_digest 98 = .ok (.ladd, 1) := by decide +kernel
theorem dX0_digest_99 : decode cX0_digest 99 = .ok (.lstore_n 1, 1) := by decide +kernel
theorem dX0_digest_100 : decode cX0_digest 100 = .ok (.lload_n 1, 1) := by decide +kernel
theorem dX0_digest_101 : decode cX0_digest 101 = .ok (.ldc2_w 163, 3) := by decide +kernel
theorem dX0_digest_104 : decode cX0_digest 104 = .ok (.lmul, 1) := by decide +kernel
theorem dX0_digest_105 : decode cX0_digest 105 = .ok (.aload_n 0, 1) := by decide +kernel
theorem dX0_digest_106 : decode cX0_digest 106 = .ok (.getfield 106, 3) := by decide +kernel
theorem dX0_digest_109 : decode cX0_digest 109 = .ok (.i2l, 1) := by decide +kernel
theorem dX0_digest_110 : decode cX0_digest 110 = .ok (.ladd, 1) := by decide +kernel
theorem dX0_digest_111 : decode cX0_digest 111 = .ok (.lstore_n 1, 1) := by decide +kernel
theorem dX0_digest_112 : decode cX0_digest 112 = .ok (.lload_n 1, 1) := by decide +kernel
theorem dX0_digest_113 : decode cX0_digest 113 = .ok (.ldc2_w 163, 3) := by decide +kernel
theorem dX0_digest_116 : decode cX0_digest 116 = .ok (.lmul, 1) := by decide +kernel
theorem dX0_digest_117 : decode cX0_digest 117 = .ok (.aload_n 0, 1) := by decide +kernel
theorem dX0_digest_118 : decode cX0_digest 118 = .ok (.invokevirtual 168, 3) := by decide +kernel
theorem dX0_digest_121 : decode cX0_digest 121 = .ok (.i2l, 1) := by decide +kernel
theorem dX0_digest_122 : decode cX0_digest 122 = .ok (.ladd, 1) := by decide +kernel
theorem dX0_digest_123 : decode cX0_digest 123 = .ok (.lstore_n 1, 1) := by decide +kernel
theorem dX0_digest_124 : decode cX0_digest 124 = .ok (.lload_n 1, 1) := by decide +kernel
theorem dX0_digest_125 : decode cX0_digest 125 = .ok (.ldc2_w 163, 3) := by decide +kernel
theorem dX0_digest_128 : decode cX0_digest 128 = .ok (.lmul, 1) := by decide +kernel
theorem dX0_digest_129 : decode cX0_digest 129 = .ok (.aload_n 0, 1) := by decide +kernel
theorem dX0_digest_130 : decode cX0_digest 130 = .ok (.invokevirtual 171, 3) := by decide +kernel
theorem dX0_digest_133 : decode cX0_digest 133 = .ok (.i2l, 1) := by decide +kernel
theorem dX0_digest_134 : decode cX0_digest 134 = .ok (.ladd, 1) := by decide +kernel
theorem dX0_digest_135 : decode cX0_digest 135 = .ok (.lstore_n 1, 1) := by decide +kernel
theorem dX0_digest_136 : decode cX0_digest 136 = .ok (.lload_n 1, 1) := by decide +kernel
theorem dX0_digest_137 : decode cX0_digest 137 = .ok (.ldc2_w 163, 3) := by decide +kernel
theorem dX0_digest_140 : decode cX0_digest 140 = .ok (.lmul, 1) := by decide +kernel
theorem dX0_digest_141 : decode cX0_digest 141 = .ok (.aload_n 0, 1) := by decide +kernel
theorem dX0_digest_142 : decode cX0_digest 142 = .ok (.invokevirtual 174, 3) := by decide +kernel
theorem dX0_digest_145 : decode cX0_digest 145 = .ok (.i2l, 1) := by decide +kernel
theorem dX0_digest_146 : decode cX0_digest 146 = .ok (.ladd, 1) := by decide +kernel
theorem dX0_digest_147 : decode cX0_digest 147 = .ok (.lstore_n 1, 1) := by decide +kernel
theorem dX0_digest_148 : decode cX0_digest 148 = .ok (.lload_n 1, 1) := by decide +kernel
theorem dX0_digest_149 : decode cX0_digest 149 = .ok (.ldc2_w 163, 3) := by decide +kernel
theorem dX0_digest_152 : decode cX0_digest 152 = .ok (.lmul, 1) := by decide +kernel
theorem dX0_digest_153 : decode cX0_digest 153 = .ok (.aload_n 0, 1) := by decide +kernel
theorem dX0_digest_154 : decode cX0_digest 154 = .ok (.invokevirtual 177, 3) := by decide +kernel
theorem dX0_digest_157 : decode cX0_digest 157 = .ok (.i2l, 1) := by decide +kernel
theorem dX0_digest_158 : decode cX0_digest 158 = .ok (.ladd, 1) := by decide +kernel
theorem dX0_digest_159 : decode cX0_digest 159 = .ok (.lstore_n 1, 1) := by decide +kernel
theorem dX0_digest_160 : decode cX0_digest 160 = .ok (.aload_n 0, 1) := by decide +kernel
theorem dX0_digest_161 : decode cX0_digest 161 = .ok (.aload_n 0, 1) := by decide +kernel
theorem dX0_digest_162 : decode cX0_digest 162 = .ok (.aload_n 0, 1) := by decide +kernel
theorem dX0_digest_163 : decode cX0_digest 163 = .ok (.lload_n 1, 1) := by decide +kernel
theorem dX0_digest_164 : decode cX0_digest 164 = .ok (.invokevirtual 180, 3) := by decide +kernel
theorem dX0_digest_167 : decode cX0_digest 167 = .ok (.invokevirtual 184, 3) := by decide +kernel
theorem dX0_digest_170 : decode cX0_digest 170 = .ok (.invokevirtual 187, 3) := by decide +kernel
theorem dX0_digest_173 : decode cX0_digest 173 = .ok (.lreturn, 1) := by decide +kernel
theorem dX0_checkMinute_0 : decode cX0_checkMinute 0 = .ok (.iload_n 1, 1) := by decide +kernel
theorem dX0_checkMinute_1 : decode cX0_checkMinute 1 = .ok (.ifCond .lt 10, 3) := by decide +kernel
theorem dX0_checkMinute_4 : decode cX0_checkMinute 4 = .ok (.iload_n 1, 1) := by decide +kernel
theorem dX0_checkMinute_5 : decode cX0_checkMinute 5 = .ok (.sipush 360, 3) := by decide +kernel
theorem dX0_checkMinute_8 : decode cX0_checkMinute 8 = .ok (.if_icmp .lt 13, 3) := by decide +kernel
theorem dX0_checkMinute_11 : decode cX0_checkMinute 11 = .ok (.new 41, 3) := by decide +kernel
theorem dX0_checkMinute_14 : decode cX0_checkMinute 14 = .ok (.dup, 1) := by decide +kernel
theorem dX0_checkMinute_15 : decode cX0_checkMinute 15 = .ok (.ldc 190, 2) := by decide +kernel
theorem dX0_checkMinute_17 : decode cX0_checkMinute 17 = .ok (.invokespecial 45, 3) := by decide +kernel
theorem dX0_checkMinute_20 : decode cX0_checkMinute 20 = .ok (.athrow, 1) := by decide +kernel
theorem dX0_checkMinute_21 : decode cX0_checkMinute 21 = .ok (.return_, 1) := by decide +kernel
theorem dX0_checkStick_0 : decode cX0_checkStick 0 = .ok (.iload_n 1, 1) := by decide +kernel
theorem dX0_checkStick_1 : decode cX0_checkStick 1 = .ok (.ifCond .lt 11, 3) := by decide +kernel
theorem dX0_checkStick_4 : decode cX0_checkStick 4 = .ok (.iload_n 1, 1) := by decide +kernel
theorem dX0_checkStick_5 : decode cX0_checkStick 5 = .ok (.aload_n 0, 1) := by decide +kernel
theorem dX0_checkStick_6 : decode cX0_checkStick 6 = .ok (.getfield 48, 3) := by decide +kernel
theorem dX0_checkStick_9 : decode cX0_checkStick 9 = .ok (.if_icmp .lt 13, 3) := by decide +kernel
theorem dX0_checkStick_12 : decode cX0_checkStick 12 = .ok (.new 192, 3) := by decide +kernel
theorem dX0_checkStick_15 : decode cX0_checkStick 15 = .ok (.dup, 1) := by decide +kernel
theorem dX0_checkStick_16 : decode cX0_checkStick 16 = .ok (.ldc 194, 2) := by decide +kernel
theorem dX0_checkStick_18 : decode cX0_checkStick 18 = .ok (.invokespecial 196, 3) := by decide +kernel
theorem dX0_checkStick_21 : decode cX0_checkStick 21 = .ok (.athrow, 1) := by decide +kernel
theorem dX0_checkStick_22 : decode cX0_checkStick 22 = .ok (.return_, 1) := by decide +kernel
theorem dX0_checkNap_0 : decode cX0_checkNap 0 = .ok (.iload_n 1, 1) := by decide +kernel
theorem dX0_checkNap_1 : decode cX0_checkNap 1 = .ok (.ifCond .lt 11, 3) := by decide +kernel
theorem dX0_checkNap_4 : decode cX0_checkNap 4 = .ok (.iload_n 1, 1) := by decide +kernel
theorem dX0_checkNap_5 : decode cX0_checkNap 5 = .ok (.aload_n 0, 1) := by decide +kernel
theorem dX0_checkNap_6 : decode cX0_checkNap 6 = .ok (.getfield 58, 3) := by decide +kernel
theorem dX0_checkNap_9 : decode cX0_checkNap 9 = .ok (.if_icmp .lt 13, 3) := by decide +kernel
theorem dX0_checkNap_12 : decode cX0_checkNap 12 = .ok (.new 192, 3) := by decide +kernel
theorem dX0_checkNap_15 : decode cX0_checkNap 15 = .ok (.dup, 1) := by decide +kernel
theorem dX0_checkNap_16 : decode cX0_checkNap 16 = .ok (.ldc 197, 2) := by decide +kernel
theorem dX0_checkNap_18 : decode cX0_checkNap 18 = .ok (.invokespecial 196, 3) := by decide +kernel
theorem dX0_checkNap_21 : decode cX0_checkNap 21 = .ok (.athrow, 1) := by decide +kernel
theorem dX0_checkNap_22 : decode cX0_checkNap 22 = .ok (.return_, 1) := by decide +kernel
theorem dX0_checkBee_0 : decode cX0_checkBee 0 = .ok (.iload_n 1, 1) := by decide +kernel
theorem dX0_checkBee_1 : decode cX0_checkBee 1 = .ok (.ifCond .lt 11, 3) := by decide +kernel
theorem dX0_checkBee_4 : decode cX0_checkBee 4 = .ok (.iload_n 1, 1) := by decide +kernel
theorem dX0_checkBee_5 : decode cX0_checkBee 5 = .ok (.aload_n 0, 1) := by decide +kernel
theorem dX0_checkBee_6 : decode cX0_checkBee 6 = .ok (.getfield 73, 3) := by decide +kernel
theorem dX0_checkBee_9 : decode cX0_checkBee 9 = .ok (.if_icmp .lt 13, 3) := by decide +kernel
theorem dX0_checkBee_12 : decode cX0_checkBee 12 = .ok (.new 192, 3) := by decide +kernel
theorem dX0_checkBee_15 : decode cX0_checkBee 15 = .ok (.dup, 1) := by decide +kernel
theorem dX0_checkBee_16 : decode cX0_checkBee 16 = .ok (.ldc 199, 2) := by decide +kernel
theorem dX0_checkBee_18 : decode cX0_checkBee 18 = .ok (.invokespecial 196, 3) := by decide +kernel
theorem dX0_checkBee_21 : decode cX0_checkBee 21 = .ok (.athrow, 1) := by decide +kernel
theorem dX0_checkBee_22 : decode cX0_checkBee 22 = .ok (.return_, 1) := by decide +kernel
theorem dX0_covers_0 : decode cX0_covers 0 = .ok (.aload_n 0, 1) := by decide +kernel
theorem dX0_covers_1 : decode cX0_covers 1 = .ok (.getfield 13, 3) := by decide +kernel
theorem dX0_covers_4 : decode cX0_covers 4 = .ok (.iload_n 1, 1) := by decide +kernel
theorem dX0_covers_5 : decode cX0_covers 5 = .ok (.iaload, 1) := by decide +kernel
theorem dX0_covers_6 : decode cX0_covers 6 = .ok (.iload_n 2, 1) := by decide +kernel
theorem dX0_covers_7 : decode cX0_covers 7 = .ok (.if_icmp .gt 17, 3) := by decide +kernel
theorem dX0_covers_10 : decode cX0_covers 10 = .ok (.iload_n 2, 1) := by decide +kernel
theorem dX0_covers_11 : decode cX0_covers 11 = .ok (.aload_n 0, 1) := by decide +kernel
theorem dX0_covers_12 : decode cX0_covers 12 = .ok (.getfield 16, 3) := by decide +kernel
theorem dX0_covers_15 : decode cX0_covers 15 = .ok (.iload_n 1, 1) := by decide +kernel
theorem dX0_covers_16 : decode cX0_covers 16 = .ok (.iaload, 1) := by decide +kernel
theorem dX0_covers_17 : decode cX0_covers 17 = .ok (.if_icmp .ge 7, 3) := by decide +kernel
theorem dX0_covers_20 : decode cX0_covers 20 = .ok (.iconst 1, 1) := by decide +kernel
theorem dX0_covers_21 : decode cX0_covers 21 = .ok (.goto 4, 3) := by decide +kernel
theorem dX0_covers_24 : decode cX0_covers 24 = .ok (.iconst 0, 1) := by decide +kernel
theorem dX0_covers_25 : decode cX0_covers 25 = .ok (.ireturn, 1) := by decide +kernel
set_option maxRecDepth 20000 in
theorem ggX0_changeCover_X0_covers : GoodIn wsX0_changeCover wsX0_covers := goodIn_r _ [6, 7, 8, 9, 10, 11, 12, 13, 14, 15, 16, 17, 18, 19, 20, 21, 22, 23, 24, 25] (by decide +kernel) (by decide +kernel)
set_option maxRecDepth 20000 in
theorem gX0_changeCover_X0_covers : GoodIn wsX0_changeCover (wsV RX0 201 RX0 yX0_covers wsX0_covers) := goodIn_app (goodIn_of _ (by decide +kernel)) ggX0_changeCover_X0_covers
theorem dX0_changeCover_0 : decode cX0_changeCover 0 = .ok (.iconst 0, 1) := by decide +kernel
theorem dX0_changeCover_1 : decode cX0_changeCover 1 = .ok (.istore_n 3, 1) := by decide +kernel
theorem dX0_changeCover_2 : decode cX0_changeCover 2 = .ok (.iload_n 3, 1) := by decide +kernel
theorem dX0_changeCover_3 : decode cX0_changeCover 3 = .ok (.sipush 360, 3) := by decide +kernel
theorem dX0_changeCover_6 : decode cX0_changeCover 6 = .ok (.if_icmp .ge 28, 3) := by decide +kernel
theorem dX0_changeCover_9 : decode cX0_changeCover 9 = .ok (.aload_n 0, 1) := by decide +kernel
theorem dX0_changeCover_10 : decode cX0_changeCover 10 = .ok (.iload_n 1, 1) := by decide +kernel
theorem dX0_changeCover_11 : decode cX0_changeCover 11 = .ok (.iload_n 3, 1) := by decide +kernel
theorem dX0_changeCover_12 : decode cX0_changeCover 12 = .ok (.invokevirtual 201, 3) := by decide +kernel
theorem dX0_changeCover_15 : decode cX0_changeCover 15 = .ok (.ifCond .eq 13, 3) := by decide +kernel
theorem dX0_changeCover_18 : decode cX0_changeCover 18 = .ok (.aload_n 0, 1) := by decide +kernel
theorem dX0_changeCover_19 : decode cX0_changeCover 19 = .ok (.getfield 19, 3) := by decide +kernel
theorem dX0_changeCover_22 : decode cX0_changeCover 22 = .ok (.iload_n 3, 1) := by decide +kernel
theorem dX0_changeCover_23 : decode cX0_changeCover 23 = .ok (.dup2, 1) := by decide +kernel
theorem dX0_changeCover_24 : decode cX0_changeCover 24 = .ok (.iaload, 1) := by decide +kernel
theorem dX0_changeCover_25 : decode cX0_changeCover 25 = .ok (.iload_n 2, 1) := by decide +kernel
theorem dX0_changeCover_26 : decode cX0_changeCover 26 = .ok (.iadd, 1) := by decide +kernel
theorem dX0_changeCover_27 : decode cX0_changeCover 27 = .ok (.iastore, 1) := by decide +kernel
theorem dX0_changeCover_28 : decode cX0_changeCover 28 = .ok (.iinc 3 1, 3) := by decide +kernel
theorem dX0_changeCover_31 : decode cX0_changeCover 31 = .ok (.goto (-29), 3) := by decide +kernel
theorem dX0_changeCover_34 : decode cX0_changeCover 34 = .ok (.return_, 1) := by decide +kernel
set_option maxRecDepth 20000 in
theorem ggX0_countAlone_X0_covers : GoodIn wsX0_countAlone wsX0_covers := goodIn_r _ [6, 7, 8, 9, 10, 11, 12, 13, 14, 15, 16, 17, 18, 19, 20, 21, 22, 23, 24, 25] (by decide +kernel) (by decide +kernel)
set_option maxRecDepth 20000 in
theorem gX0_countAlone_X0_covers : GoodIn wsX0_countAlone (wsV RX0 201 RX0 yX0_covers wsX0_covers) := goodIn_app (goodIn_of _ (by decide +kernel)) ggX0_countAlone_X0_covers
theorem dX0_countAlone_0 : decode cX0_countAlone 0 = .ok (.iconst 0, 1) := by decide +kernel
theorem dX0_countAlone_1 : decode cX0_countAlone 1 = .ok (.istore_n 2, 1) := by decide +kernel
theorem dX0_countAlone_2 : decode cX0_countAlone 2 = .ok (.iconst 0, 1) := by decide +kernel
theorem dX0_countAlone_3 : decode cX0_countAlone 3 = .ok (.istore_n 3, 1) := by decide +kernel
theorem dX0_countAlone_4 : decode cX0_countAlone 4 = .ok (.iload_n 3, 1) := by decide +kernel
theorem dX0_countAlone_5 : decode cX0_countAlone 5 = .ok (.sipush 360, 3) := by decide +kernel
theorem dX0_countAlone_8 : decode cX0_countAlone 8 = .ok (.if_icmp .ge 31, 3) := by decide +kernel
theorem dX0_countAlone_11 : decode cX0_countAlone 11 = .ok (.aload_n 0, 1) := by decide +kernel
theorem dX0_countAlone_12 : decode cX0_countAlone 12 = .ok (.getfield 19, 3) := by decide +kernel
theorem dX0_countAlone_15 : decode cX0_countAlone 15 = .ok (.iload_n 3, 1) := by decide +kernel
theorem dX0_countAlone_16 : decode cX0_countAlone 16 = .ok (.iaload, 1) := by decide +kernel
theorem dX0_countAlone_17 : decode cX0_countAlone 17 = .ok (.iconst 1, 1) := by decide +kernel
theorem dX0_countAlone_18 : decode cX0_countAlone 18 = .ok (.if_icmp .ne 15, 3) := by decide +kernel
theorem dX0_countAlone_21 : decode cX0_countAlone 21 = .ok (.aload_n 0, 1) := by decide +kernel
theorem dX0_countAlone_22 : decode cX0_countAlone 22 = .ok (.iload_n 1, 1) := by decide +kernel
theorem dX0_countAlone_23 : decode cX0_countAlone 23 = .ok (.iload_n 3, 1) := by decide +kernel
theorem dX0_countAlone_24 : decode cX0_countAlone 24 = .ok (.invokevirtual 201, 3) := by decide +kernel
theorem dX0_countAlone_27 : decode cX0_countAlone 27 = .ok (.ifCond .eq 6, 3) := by decide +kernel
theorem dX0_countAlone_30 : decode cX0_countAlone 30 = .ok (.iinc 2 1, 3) := by decide +kernel
theorem dX0_countAlone_33 : decode cX0_countAlone 33 = .ok (.iinc 3 1, 3) := by decide +kernel
theorem dX0_countAlone_36 : decode cX0_countAlone 36 = .ok (.goto (-32), 3) := by decide +kernel
theorem dX0_countAlone_39 : decode cX0_countAlone 39 = .ok (.iload_n 2, 1) := by decide +kernel
theorem dX0_countAlone_40 : decode cX0_countAlone 40 = .ok (.ireturn, 1) := by decide +kernel
theorem dX0_shadowOf_0 : decode cX0_shadowOf 0 = .ok (.aload_n 0, 1) := by decide +kernel
theorem dX0_shadowOf_1 : decode cX0_shadowOf 1 = .ok (.getfield 9, 3) := by decide +kernel
theorem dX0_shadowOf_4 : decode cX0_shadowOf 4 = .ok (.iload_n 1, 1) := by decide +kernel
theorem dX0_shadowOf_5 : decode cX0_shadowOf 5 = .ok (.iaload, 1) := by decide +kernel
theorem dX0_shadowOf_6 : decode cX0_shadowOf 6 = .ok (.bipush 60, 2) := by decide +kernel
theorem dX0_shadowOf_8 : decode cX0_shadowOf 8 = .ok (.iload_n 2, 1) := by decide +kernel
theorem dX0_shadowOf_9 : decode cX0_shadowOf 9 = .ok (.iadd, 1) := by decide +kernel
theorem dX0_shadowOf_10 : decode cX0_shadowOf 10 = .ok (.imul, 1) := by decide +kernel
theorem dX0_shadowOf_11 : decode cX0_shadowOf 11 = .ok (.bipush 120, 2) := by decide +kernel
theorem dX0_shadowOf_13 : decode cX0_shadowOf 13 = .ok (.idiv, 1) := by decide +kernel
theorem dX0_shadowOf_14 : decode cX0_shadowOf 14 = .ok (.ireturn, 1) := by decide +kernel
set_option maxRecDepth 20000 in
theorem ggX0_sumOfShadows_X0_shadowOf : GoodIn wsX0_sumOfShadows wsX0_shadowOf := goodIn_r _ [6, 7, 8, 9, 10, 11, 12, 13, 14, 15, 16, 17, 18, 19, 20, 21, 22, 23, 24] (by decide +kernel) (by decide +kernel)
set_option maxRecDepth 20000 in
theorem gX0_sumOfShadows_X0_shadowOf : GoodIn wsX0_sumOfShadows (wsV RX0 128 RX0 yX0_shadowOf wsX0_shadowOf) := goodIn_app (goodIn_of _ (by decide +kernel)) ggX0_sumOfShadows_X0_shadowOf
theorem dX0_sumOfShadows_0 : decode cX0_sumOfShadows 0 = .ok (.iconst 0, 1) := by decide +kernel
theorem dX0_sumOfShadows_1 : decode cX0_sumOfShadows 1 = .ok (.istore_n 2, 1) := by decide +kernel
theorem dX0_sumOfShadows_2 : decode cX0_sumOfShadows 2 = .ok (.iconst 0, 1) := by decide +kernel
theorem dX0_sumOfShadows_3 : decode cX0_sumOfShadows 3 = .ok (.istore_n 3, 1) := by decide +kernel
theorem dX0_sumOfShadows_4 : decode cX0_sumOfShadows 4 = .ok (.iload_n 3, 1) := by decide +kernel
theorem dX0_sumOfShadows_5 : decode cX0_sumOfShadows 5 = .ok (.aload_n 0, 1) := by decide +kernel
theorem dX0_sumOfShadows_6 : decode cX0_sumOfShadows 6 = .ok (.getfield 48, 3) := by decide +kernel
theorem dX0_sumOfShadows_9 : decode cX0_sumOfShadows 9 = .ok (.if_icmp .ge 18, 3) := by decide +kernel
theorem dX0_sumOfShadows_12 : decode cX0_sumOfShadows 12 = .ok (.iload_n 2, 1) := by decide +kernel
theorem dX0_sumOfShadows_13 : decode cX0_sumOfShadows 13 = .ok (.aload_n 0, 1) := by decide +kernel
theorem dX0_sumOfShadows_14 : decode cX0_sumOfShadows 14 = .ok (.iload_n 3, 1) := by decide +kernel
theorem dX0_sumOfShadows_15 : decode cX0_sumOfShadows 15 = .ok (.iload_n 1, 1) := by decide +kernel
theorem dX0_sumOfShadows_16 : decode cX0_sumOfShadows 16 = .ok (.invokevirtual 128, 3) := by decide +kernel
theorem dX0_sumOfShadows_19 : decode cX0_sumOfShadows 19 = .ok (.iadd, 1) := by decide +kernel
theorem dX0_sumOfShadows_20 : decode cX0_sumOfShadows 20 = .ok (.istore_n 2, 1) := by decide +kernel
theorem dX0_sumOfShadows_21 : decode cX0_sumOfShadows 21 = .ok (.iinc 3 1, 3) := by decide +kernel
theorem dX0_sumOfShadows_24 : decode cX0_sumOfShadows 24 = .ok (.goto (-20), 3) := by decide +kernel
theorem dX0_sumOfShadows_27 : decode cX0_sumOfShadows 27 = .ok (.iload_n 2, 1) := by decide +kernel
theorem dX0_sumOfShadows_28 : decode cX0_sumOfShadows 28 = .ok (.ireturn, 1) := by decide +kernel
theorem dX0_hasBeatIn_0 : decode cX0_hasBeatIn 0 = .ok (.aload_n 0, 1) := by decide +kernel
theorem dX0_hasBeatIn_1 : decode cX0_hasBeatIn 1 = .ok (.getfield 22, 3) := by decide +kernel
theorem dX0_hasBeatIn_4 : decode cX0_hasBeatIn 4 = .ok (.iload_n 1, 1) := by decide +kernel
theorem dX0_hasBeatIn_5 : decode cX0_hasBeatIn 5 = .ok (.iaload, 1) := by decide +kernel
theorem dX0_hasBeatIn_6 : decode cX0_hasBeatIn 6 = .ok (.istore_n 3, 1) := by decide +kernel
theorem dX0_hasBeatIn_7 : decode cX0_hasBeatIn 7 = .ok (.iload_n 3, 1) := by decide +kernel
theorem dX0_hasBeatIn_8 : decode cX0_hasBeatIn 8 = .ok (.ifCond .le 19, 3) := by decide +kernel
theorem dX0_hasBeatIn_11 : decode cX0_hasBeatIn 11 = .ok (.iload_n 2, 1) := by decide +kernel
theorem dX0_hasBeatIn_12 : decode cX0_hasBeatIn 12 = .ok (.iload_n 3, 1) := by decide +kernel
theorem dX0_hasBeatIn_13 : decode cX0_hasBeatIn 13 = .ok (.irem, 1) := by decide +kernel
theorem dX0_hasBeatIn_14 : decode cX0_hasBeatIn 14 = .ok (.aload_n 0, 1) := by decide +kernel
theorem dX0_hasBeatIn_15 : decode cX0_hasBeatIn 15 = .ok (.getfield 25, 3) := by decide +kernel
theorem dX0_hasBeatIn_18 : decode cX0_hasBeatIn 18 = .ok (.iload_n 1, 1) := by decide +kernel
theorem dX0_hasBeatIn_19 : decode cX0_hasBeatIn 19 = .ok (.iaload, 1) := by decide +kernel
theorem dX0_hasBeatIn_20 : decode cX0_hasBeatIn 20 = .ok (.if_icmp .ne 7, 3) := by decide +kernel
theorem dX0_hasBeatIn_23 : decode cX0_hasBeatIn 23 = .ok (.iconst 1, 1) := by decide +kernel
theorem dX0_hasBeatIn_24 : decode cX0_hasBeatIn 24 = .ok (.goto 4, 3) := by decide +kernel
theorem dX0_hasBeatIn_27 : decode cX0_hasBeatIn 27 = .ok (.iconst 0, 1) := by decide +kernel
theorem dX0_hasBeatIn_28 : decode cX0_hasBeatIn 28 = .ok (.ireturn, 1) := by decide +kernel
set_option maxRecDepth 20000 in
theorem ggX0_ticksIn_X0_hasBeatIn : GoodIn wsX0_ticksIn wsX0_hasBeatIn := goodIn_r _ [6, 7, 8, 9, 10, 11, 12, 13, 14, 15, 16, 17, 18, 19, 20, 21, 22, 23, 24, 25] (by decide +kernel) (by decide +kernel)
set_option maxRecDepth 20000 in
theorem gX0_ticksIn_X0_hasBeatIn : GoodIn wsX0_ticksIn (wsV RX0 78 RX0 yX0_hasBeatIn wsX0_hasBeatIn) := goodIn_app (goodIn_of _ (by decide +kernel)) ggX0_ticksIn_X0_hasBeatIn
theorem dX0_ticksIn_0 : decode cX0_ticksIn 0 = .ok (.aload_n 0, 1) := by decide +kernel
theorem dX0_ticksIn_1 : decode cX0_ticksIn 1 = .ok (.getfield 19, 3) := by decide +kernel
theorem dX0_ticksIn_4 : decode cX0_ticksIn 4 = .ok (.iload_n 2, 1) := by decide +kernel
theorem dX0_ticksIn_5 : decode cX0_ticksIn 5 = .ok (.iaload, 1) := by decide +kernel
theorem dX0_ticksIn_6 : decode cX0_ticksIn 6 = .ok (.ifCond .ne 16, 3) := by decide +kernel
theorem dX0_ticksIn_9 : decode cX0_ticksIn 9 = .ok (.aload_n 0, 1) := by decide +kernel
theorem dX0_ticksIn_10 : decode cX0_ticksIn 10 = .ok (.iload_n 1, 1) := by decide +kernel
theorem dX0_ticksIn_11 : decode cX0_ticksIn 11 = .ok (.iload_n 2, 1) := by decide +kernel
theorem dX0_ticksIn_12 : decode cX0_ticksIn 12 = .ok (.invokevirtual 78, 3) := by decide +kernel
theorem dX0_ticksIn_15 : decode cX0_ticksIn 15 = .ok (.ifCond .eq 7, 3) := by decide +kernel
theorem dX0_ticksIn_18 : decode cX0_ticksIn 18 = .ok (.iconst 1, 1) := by decide +kernel
theorem dX0_ticksIn_19 : decode cX0_ticksIn 19 = .ok (.goto 4, 3) := by decide +kernel
theorem dX0_ticksIn_22 : decode cX0_ticksIn 22 = .ok (.iconst 0, 1) := by decide +kernel
theorem dX0_ticksIn_23 : decode cX0_ticksIn 23 = .ok (.ireturn, 1) := by decide +kernel
set_option maxRecDepth 20000 in
theorem ggX0_countTicks_X0_ticksIn : GoodIn wsX0_countTicks wsX0_ticksIn := goodIn_r _ [6, 7, 8, 9, 10, 5, 11, 12, 13, 14, 15, 16, 17, 18, 19, 20, 21, 22, 23, 24, 25, 26, 27, 28, 29, 30] (by decide +kernel) (by decide +kernel)
set_option maxRecDepth 20000 in
theorem gX0_countTicks_X0_ticksIn : GoodIn wsX0_countTicks (wsV RX0 152 RX0 yX0_ticksIn wsX0_ticksIn) := goodIn_app (goodIn_of _ (by decide +kernel)) ggX0_countTicks_X0_ticksIn
theorem dX0_countTicks_0 : decode cX0_countTicks 0 = .ok (.iconst 0, 1) := by decide +kernel
theorem dX0_countTicks_1 : decode cX0_countTicks 1 = .ok (.istore_n 2, 1) := by decide +kernel
theorem dX0_countTicks_2 : decode cX0_countTicks 2 = .ok (.iconst 0, 1) := by decide +kernel
theorem dX0_countTicks_3 : decode cX0_countTicks 3 = .ok (.istore_n 3, 1) := by decide +kernel
theorem dX0_countTicks_4 : decode cX0_countTicks 4 = .ok (.iload_n 3, 1) := by decide +kernel
theorem dX0_countTicks_5 : decode cX0_countTicks 5 = .ok (.aload_n 0, 1) := by decide +kernel
theorem dX0_countTicks_6 : decode cX0_countTicks 6 = .ok (.getfield 97, 3) := by decide +kernel
theorem dX0_countTicks_9 : decode cX0_countTicks 9 = .ok (.if_icmp .ge 21, 3) := by decide +kernel
theorem dX0_countTicks_12 : decode cX0_countTicks 12 = .ok (.aload_n 0, 1) := by decide +kernel
theorem dX0_countTicks_13 : decode cX0_countTicks 13 = .ok (.iload_n 1, 1) := by decide +kernel
theorem dX0_countTicks_14 : decode cX0_countTicks 14 = .ok (.iload_n 3, 1) := by decide +kernel
theorem dX0_countTicks_15 : decode cX0_countTicks 15 = .ok (.invokevirtual 152, 3) := by decide +kernel
theorem dX0_countTicks_18 : decode cX0_countTicks 18 = .ok (.ifCond .eq 6, 3) := by decide +kernel
theorem dX0_countTicks_21 : decode cX0_countTicks 21 = .ok (.iinc 2 1, 3) := by decide +kernel
theorem dX0_countTicks_24 : decode cX0_countTicks 24 = .ok (.iinc 3 1, 3) := by decide +kernel
theorem dX0_countTicks_27 : decode cX0_countTicks 27 = .ok (.goto (-23), 3) := by decide +kernel
theorem dX0_countTicks_30 : decode cX0_countTicks 30 = .ok (.iload_n 2, 1) := by decide +kernel
theorem dX0_countTicks_31 : decode cX0_countTicks 31 = .ok (.ireturn, 1) := by decide +kernel
theorem dX0_contentAfter_0 : decode cX0_contentAfter 0 = .ok (.aload_n 0, 1) := by decide +kernel
theorem dX0_contentAfter_1 : decode cX0_contentAfter 1 = .ok (.getfield 19, 3) := by decide +kernel
theorem dX0_contentAfter_4 : decode cX0_contentAfter 4 = .ok (.iload_n 1, 1) := by decide +kernel
theorem dX0_contentAfter_5 : decode cX0_contentAfter 5 = .ok (.iaload, 1) := by decide +kernel
theorem dX0_contentAfter_6 : decode cX0_contentAfter 6 = .ok (.ifCond .le 5, 3) := by decide +kernel
theorem dX0_contentAfter_9 : decode cX0_contentAfter 9 = .ok (.iload_n 2, 1) := by decide +kernel
theorem dX0_contentAfter_10 : decode cX0_contentAfter 10 = .ok (.ireturn, 1) := by decide +kernel
theorem dX0_contentAfter_11 : decode cX0_contentAfter 11 = .ok (.iconst 0, 1) := by decide +kernel
theorem dX0_contentAfter_12 : decode cX0_contentAfter 12 = .ok (.iload_n 2, 1) := by decide +kernel
theorem dX0_contentAfter_13 : decode cX0_contentAfter 13 = .ok (.iload_n 3, 1) := by decide +kernel
theorem dX0_contentAfter_14 : decode cX0_contentAfter 14 = .ok (.iadd, 1) := by decide +kernel
theorem dX0_contentAfter_15 : decode cX0_contentAfter 15 = .ok (.aload_n 0, 1) := by decide +kernel
theorem dX0_contentAfter_16 : decode cX0_contentAfter 16 = .ok (.getfield 38, 3) := by decide +kernel
theorem dX0_contentAfter_19 : decode cX0_contentAfter 19 = .ok (.aload_n 0, 1) := by decide +kernel
theorem dX0_contentAfter_20 : decode cX0_contentAfter 20 = .ok (.getfield 28, 3) := by decide +kernel
theorem dX0_contentAfter_23 : decode cX0_contentAfter 23 = .ok (.iload_n 1, 1) := by decide +kernel
theorem dX0_contentAfter_24 : decode cX0_contentAfter 24 = .ok (.iaload, 1) := by decide +kernel
theorem dX0_contentAfter_25 : decode cX0_contentAfter 25 = .ok (.imul, 1) := by decide +kernel
theorem dX0_contentAfter_26 : decode cX0_contentAfter 26 = .ok (.isub, 1) := by decide +kernel
theorem dX0_contentAfter_27 : decode cX0_contentAfter 27 = .ok (.invokestatic 119, 3) := by decide +kernel
theorem dX0_contentAfter_30 : decode cX0_contentAfter 30 = .ok (.ireturn, 1) := by decide +kernel
theorem dX0_excess_0 : decode cX0_excess 0 = .ok (.iconst 0, 1) := by decide +kernel
theorem dX0_excess_1 : decode cX0_excess 1 = .ok (.iload_n 1, 1) := by decide +kernel
theorem dX0_excess_2 : decode cX0_excess 2 = .ok (.aload_n 0, 1) := by decide +kernel
theorem dX0_excess_3 : decode cX0_excess 3 = .ok (.getfield 31, 3) := by decide +kernel
theorem dX0_excess_6 : decode cX0_excess 6 = .ok (.isub, 1) := by decide +kernel
theorem dX0_excess_7 : decode cX0_excess 7 = .ok (.invokestatic 119, 3) := by decide +kernel
theorem dX0_excess_10 : decode cX0_excess 10 = .ok (.ireturn, 1) := by decide +kernel
set_option maxRecDepth 20000 in
theorem ggX0_pourInto_X0_excess : GoodIn wsX0_pourInto wsX0_excess := goodIn_r _ [7, 8, 9, 10, 11, 12, 13, 14, 15, 16, 17, 18, 19, 20, 21, 22, 23, 24, 25, 26, 27, 28, 29] (by decide +kernel) (by decide +kernel)
set_option maxRecDepth 20000 in
theorem gX0_pourInto_X0_excess : GoodIn wsX0_pourInto (wsV RX0 155 RX0 yX0_excess wsX0_excess) := goodIn_app (goodIn_of _ (by decide +kernel)) ggX0_pourInto_X0_excess
theorem dX0_pourInto_0 : decode cX0_pourInto 0 = .ok (.aload_n 0, 1) := by decide +kernel
theorem dX0_pourInto_1 : decode cX0_pourInto 1 = .ok (.iload_n 1, 1) := by decide +kernel
theorem dX0_pourInto_2 : decode cX0_pourInto 2 = .ok (.invokevirtual 155, 3) := by decide +kernel
theorem dX0_pourInto_5 : decode cX0_pourInto 5 = .ok (.istore_n 2, 1) := by decide +kernel
theorem dX0_pourInto_6 : decode cX0_pourInto 6 = .ok (.aload_n 0, 1) := by decide +kernel
theorem dX0_pourInto_7 : decode cX0_pourInto 7 = .ok (.iload_n 1, 1) := by decide +kernel
theorem dX0_pourInto_8 : decode cX0_pourInto 8 = .ok (.iload_n 2, 1) := by decide +kernel
theorem dX0_pourInto_9 : decode cX0_pourInto 9 = .ok (.isub, 1) := by decide +kernel
theorem dX0_pourInto_10 : decode cX0_pourInto 10 = .ok (.putfield 88, 3) := by decide +kernel
theorem dX0_pourInto_13 : decode cX0_pourInto 13 = .ok (.aload_n 0, 1) := by decide +kernel
theorem dX0_pourInto_14 : decode cX0_pourInto 14 = .ok (.dup, 1) := by decide +kernel
theorem dX0_pourInto_15 : decode cX0_pourInto 15 = .ok (.getfield 106, 3) := by decide +kernel
theorem dX0_pourInto_18 : decode cX0_pourInto 18 = .ok (.iload_n 2, 1) := by decide +kernel
theorem dX0_pourInto_19 : decode cX0_pourInto 19 = .ok (.iadd, 1) := by decide +kernel
theorem dX0_pourInto_20 : decode cX0_pourInto 20 = .ok (.putfield 106, 3) := by decide +kernel
theorem dX0_pourInto_23 : decode cX0_pourInto 23 = .ok (.iload_n 2, 1) := by decide +kernel
theorem dX0_pourInto_24 : decode cX0_pourInto 24 = .ok (.ireturn, 1) := by decide +kernel
set_option maxRecDepth 20000 in
theorem ggX0_firstSpillWith_X0_contentAfter : GoodIn wsX0_firstSpillWith wsX0_contentAfter := goodIn_r _ [7, 8, 9, 10, 11, 12, 13, 14, 20, 21, 22, 23, 24, 25, 26, 27, 28, 29, 30, 31, 32, 33, 34, 35, 36] (by decide +kernel) (by decide +kernel)
set_option maxRecDepth 20000 in
theorem gX0_firstSpillWith_X0_contentAfter : GoodIn wsX0_firstSpillWith (wsV RX0 102 RX0 yX0_contentAfter wsX0_contentAfter) := goodIn_app (goodIn_of _ (by decide +kernel)) ggX0_firstSpillWith_X0_contentAfter
set_option maxRecDepth 20000 in
theorem ggX0_firstSpillWith_X0_excess : GoodIn wsX0_firstSpillWith wsX0_excess := goodIn_r _ [18, 19, 11, 12, 13, 14, 20, 21, 22, 23, 24, 25, 26, 27, 28, 29, 30, 31, 32, 33, 34, 35, 36] (by decide +kernel) (by decide +kernel)
set_option maxRecDepth 20000 in
theorem gX0_firstSpillWith_X0_excess : GoodIn wsX0_firstSpillWith (wsV RX0 155 RX0 yX0_excess wsX0_excess) := goodIn_app (goodIn_of _ (by decide +kernel)) ggX0_firstSpillWith_X0_excess
theorem dX0_firstSpillWith_0 : decode cX0_firstSpillWith 0 = .ok (.aload_n 0, 1) := by decide +kernel
theorem dX0_firstSpillWith_1 : decode cX0_firstSpillWith 1 = .ok (.getfield 88, 3) := by decide +kernel
theorem dX0_firstSpillWith_4 : decode cX0_firstSpillWith 4 = .ok (.istore_n 2, 1) := by decide +kernel
theorem dX0_firstSpillWith_5 : decode cX0_firstSpillWith 5 = .ok (.aload_n 0, 1) := by decide +kernel
theorem dX0_firstSpillWith_6 : decode cX0_firstSpillWith 6 = .ok (.getfield 97, 3) := by decide +kernel
theorem dX0_firstSpillWith_9 : decode cX0_firstSpillWith 9 = .ok (.istore_n 3, 1) := by decide +kernel
theorem dX0_firstSpillWith_10 : decode cX0_firstSpillWith 10 = .ok (.iload_n 3, 1) := by decide +kernel
theorem dX0_firstSpillWith_11 : decode cX0_firstSpillWith 11 = .ok (.sipush 360, 3) := by decide +kernel
theorem dX0_firstSpillWith_14 : decode cX0_firstSpillWith 14 = .ok (.if_icmp .ge 27, 3) := by decide +kernel
theorem dX0_firstSpillWith_17 : decode cX0_firstSpillWith 17 = .ok (.aload_n 0, 1) := by decide +kernel
theorem dX0_firstSpillWith_18 : decode cX0_firstSpillWith 18 = .ok (.iload_n 3, 1) := by decide +kernel
theorem dX0_firstSpillWith_19 : decode cX0_firstSpillWith 19 = .ok (.iload_n 2, 1) := by decide +kernel
theorem dX0_firstSpillWith_20 : decode cX0_firstSpillWith 20 = .ok (.iload_n 1, 1) := by decide +kernel
theorem dX0_firstSpillWith_21 : decode cX0_firstSpillWith 21 = .ok (.invokevirtual 102, 3) := by decide +kernel
theorem dX0_firstSpillWith_24 : decode cX0_firstSpillWith 24 = .ok (.istore_n 2, 1) := by decide +kernel
theorem dX0_firstSpillWith_25 : decode cX0_firstSpillWith 25 = .ok (.aload_n 0, 1) := by decide +kernel
theorem dX0_firstSpillWith_26 : decode cX0_firstSpillWith 26 = .ok (.iload_n 2, 1) := by decide +kernel
theorem dX0_firstSpillWith_27 : decode cX0_firstSpillWith 27 = .ok (.invokevirtual 155, 3) := by decide +kernel
theorem dX0_firstSpillWith_30 : decode cX0_firstSpillWith 30 = .ok (.ifCond .le 5, 3) := by decide +kernel
theorem dX0_firstSpillWith_33 : decode cX0_firstSpillWith 33 = .ok (.iload_n 3, 1) := by decide +kernel
theorem dX0_firstSpillWith_34 : decode cX0_firstSpillWith 34 = .ok (.ireturn, 1) := by decide +kernel
theorem dX0_firstSpillWith_35 : decode cX0_firstSpillWith 35 = .ok (.iinc 3 1, 3) := by decide +kernel
theorem dX0_firstSpillWith_38 : decode cX0_firstSpillWith 38 = .ok (.goto (-28), 3) := by decide +kernel
theorem dX0_firstSpillWith_41 : decode cX0_firstSpillWith 41 = .ok (.iconst (-1), 1) := by decide +kernel
theorem dX0_firstSpillWith_42 : decode cX0_firstSpillWith 42 = .ok (.ireturn, 1) := by decide +kernel
set_option maxRecDepth 20000 in
theorem ggX0_withSticks_X0_shadowOf : GoodIn wsX0_withSticks wsX0_shadowOf := goodIn_r _ [7, 8, 9, 10, 11, 12, 13, 14, 15, 16, 17, 18, 19, 20, 21, 22, 23, 24, 25] (by decide +kernel) (by decide +kernel)
set_option maxRecDepth 20000 in
theorem gX0_withSticks_X0_shadowOf : GoodIn wsX0_withSticks (wsV RX0 128 RX0 yX0_shadowOf wsX0_shadowOf) := goodIn_app (goodIn_of _ (by decide +kernel)) ggX0_withSticks_X0_shadowOf
theorem dX0_withSticks_0 : decode cX0_withSticks 0 = .ok (.lload_n 1, 1) := by decide +kernel
theorem dX0_withSticks_1 : decode cX0_withSticks 1 = .ok (.lstore_n 3, 1) := by decide +kernel
theorem dX0_withSticks_2 : decode cX0_withSticks 2 = .ok (.iconst 0, 1) := by decide +kernel
theorem dX0_withSticks_3 : decode cX0_withSticks 3 = .ok (.istore 5, 2) := by decide +kernel
theorem dX0_withSticks_5 : decode cX0_withSticks 5 = .ok (.iload 5, 2) := by decide +kernel
theorem dX0_withSticks_7 : decode cX0_withSticks 7 = .ok (.aload_n 0, 1) := by decide +kernel
theorem dX0_withSticks_8 : decode cX0_withSticks 8 = .ok (.getfield 48, 3) := by decide +kernel
theorem dX0_withSticks_11 : decode cX0_withSticks 11 = .ok (.if_icmp .ge 25, 3) := by decide +kernel
theorem dX0_withSticks_14 : decode cX0_withSticks 14 = .ok (.lload_n 3, 1) := by decide +kernel
theorem dX0_withSticks_15 : decode cX0_withSticks 15 = .ok (.ldc2_w 163, 3) := by decide +kernel
theorem dX0_withSticks_18 : decode cX0_withSticks 18 = .ok (.lmul, 1) := by decide +kernel
theorem dX0_withSticks_19 : decode cX0_withSticks 19 = .ok (.aload_n 0, 1) := by decide +kernel
theorem dX0_withSticks_20 : decode cX0_withSticks 20 = .ok (.iload 5, 2) := by decide +kernel
theorem dX0_withSticks_22 : decode cX0_withSticks 22 = .ok (.bipush 100, 2) := by decide +kernel
theorem dX0_withSticks_24 : decode cX0_withSticks 24 = .ok (.invokevirtual 128, 3) := by decide +kernel
theorem dX0_withSticks_27 : decode cX0_withSticks 27 = .ok (.i2l, 1) := by decide +kernel
theorem dX0_withSticks_28 : decode cX0_withSticks 28 = .ok (.ladd, 1) := by decide +kernel
theorem dX0_withSticks_29 : decode cX0_withSticks 29 = .ok (.lstore_n 3, 1) := by decide +kernel
theorem dX0_withSticks_30 : decode cX0_withSticks 30 = .ok (.iinc 5 1, 3) := by decide +kernel
theorem dX0_withSticks_33 : decode cX0_withSticks 33 = .ok (.goto (-28), 3) := by decide +kernel
theorem dX0_withSticks_36 : decode cX0_withSticks 36 = .ok (.lload_n 3, 1) := by decide +kernel
theorem dX0_withSticks_37 : decode cX0_withSticks 37 = .ok (.lreturn, 1) := by decide +kernel
set_option maxRecDepth 20000 in
theorem ggX0_withNaps_X0_countAlone : GoodIn wsX0_withNaps wsX0_countAlone := goodIn_r _ [9, 10, 11, 12, 13, 8, 14, 3, 4, 15, 16, 17, 18, 19, 20, 21, 22, 23, 24, 25, 26, 27, 28, 29, 30, 31] (by decide +kernel) (by decide +kernel)
set_option maxRecDepth 20000 in
theorem gX0_withNaps_X0_countAlone : GoodIn wsX0_withNaps (wsV RX0 134 RX0 yX0_countAlone wsX0_countAlone) := goodIn_app (goodIn_of _ (by decide +kernel)) ggX0_withNaps_X0_countAlone
theorem dX0_withNaps_0 : decode cX0_withNaps 0 = .ok (.lload_n 1, 1) := by decide +kernel
theorem dX0_withNaps_1 : decode cX0_withNaps 1 = .ok (.lstore_n 3, 1) := by decide +kernel
theorem dX0_withNaps_2 : decode cX0_withNaps 2 = .ok (.iconst 0, 1) := by decide +kernel
theorem dX0_withNaps_3 : decode cX0_withNaps 3 = .ok (.istore 5, 2) := by decide +kernel
theorem dX0_withNaps_5 : decode cX0_withNaps 5 = .ok (.iload 5, 2) := by decide +kernel
theorem dX0_withNaps_7 : decode cX0_withNaps 7 = .ok (.aload_n 0, 1) := by decide +kernel
theorem dX0_withNaps_8 : decode cX0_withNaps 8 = .ok (.getfield 58, 3) := by decide +kernel
theorem dX0_withNaps_11 : decode cX0_withNaps 11 = .ok (.if_icmp .ge 61, 3) := by decide +kernel
theorem dX0_withNaps_14 : decode cX0_withNaps 14 = .ok (.lload_n 3, 1) := by decide +kernel
theorem dX0_withNaps_15 : decode cX0_withNaps 15 = .ok (.ldc2_w 163, 3) := by decide +kernel
theorem dX0_withNaps_18 : decode cX0_withNaps 18 = .ok (.lmul, 1) := by decide +kernel
theorem dX0_withNaps_19 : decode cX0_withNaps 19 = .ok (.aload_n 0, 1) := by decide +kernel
theorem dX0_withNaps_20 : decode cX0_withNaps 20 = .ok (.getfield 13, 3) := by decide +kernel
theorem dX0_withNaps_23 : decode cX0_withNaps 23 = .ok (.iload 5, 2) := by decide +kernel
theorem dX0_withNaps_25 : decode cX0_withNaps 25 = .ok (.iaload, 1) := by decide +kernel
theorem dX0_withNaps_26 : decode cX0_withNaps 26 = .ok (.i2l, 1) := by decide +kernel
theorem dX0_withNaps_27 : decode cX0_withNaps 27 = .ok (.ladd, 1) := by decide +kernel
theorem dX0_withNaps_28 : decode cX0_withNaps 28 = .ok (.lstore_n 3, 1) := by decide +kernel
theorem dX0_withNaps_29 : decode cX0_withNaps 29 = .ok (.lload_n 3, 1) := by decide +kernel
theorem dX0_withNaps_30 : decode cX0_withNaps 30 = .ok (.ldc2_w 163, 3) := by decide +kernel
theorem dX0_withNaps_33 : decode cX0_withNaps 33 = .ok (.lmul, 1) := by decide +kernel
theorem dX0_withNaps_34 : decode cX0_withNaps 34 = .ok (.aload_n 0, 1) := by decide +kernel
theorem dX0_withNaps_35 : decode cX0_withNaps 35 = .ok (.getfield 16, 3) := by decide +kernel
theorem dX0_withNaps_38 : decode cX0_withNaps 38 = .ok (.iload 5, 2) := by decide +kernel
theorem dX0_withNaps_40 : decode cX0_withNaps 40 = .ok (.iaload, 1) := by decide +kernel
theorem dX0_withNaps_41 : decode cX0_withNaps 41 = .ok (.aload_n 0, 1) := by decide +kernel
theorem dX0_withNaps_42 : decode cX0_withNaps 42 = .ok (.getfield 13, 3) := by decide +kernel
theorem dX0_withNaps_45 : decode cX0_withNaps 45 = .ok (.iload 5, 2) := by decide +kernel
theorem dX0_withNaps_47 : decode cX0_withNaps 47 = .ok (.iaload, 1) := by decide +kernel
theorem dX0_withNaps_48 : decode cX0_withNaps 48 = .ok (.isub, 1) := by decide +kernel
theorem dX0_withNaps_49 : decode cX0_withNaps 49 = .ok (.i2l, 1) := by decide +kernel
theorem dX0_withNaps_50 : decode cX0_withNaps 50 = .ok (.ladd, 1) := by decide +kernel
theorem dX0_withNaps_51 : decode cX0_withNaps 51 = .ok (.lstore_n 3, 1) := by decide +kernel
theorem dX0_withNaps_52 : decode cX0_withNaps 52 = .ok (.lload_n 3, 1) := by decide +kernel
theorem dX0_withNaps_53 : decode cX0_withNaps 53 = .ok (.ldc2_w 163, 3) := by decide +kernel
theorem dX0_withNaps_56 : decode cX0_withNaps 56 = .ok (.lmul, 1) := by decide +kernel
theorem dX0_withNaps_57 : decode cX0_withNaps 57 = .ok (.aload_n 0, 1) := by decide +kernel
theorem dX0_withNaps_58 : decode cX0_withNaps 58 = .ok (.iload 5, 2) := by decide +kernel
theorem dX0_withNaps_60 : decode cX0_withNaps 60 = .ok (.invokevirtual 134, 3) := by decide +kernel
theorem dX0_withNaps_63 : decode cX0_withNaps 63 = .ok (.i2l, 1) := by decide +kernel
theorem dX0_withNaps_64 : decode cX0_withNaps 64 = .ok (.ladd, 1) := by decide +kernel
theorem dX0_withNaps_65 : decode cX0_withNaps 65 = .ok (.lstore_n 3, 1) := by decide +kernel
theorem dX0_withNaps_66 : decode cX0_withNaps 66 = .ok (.iinc 5 1, 3) := by decide +kernel
theorem dX0_withNaps_69 : decode cX0_withNaps 69 = .ok (.goto (-64), 3) := by decide +kernel
theorem dX0_withNaps_72 : decode cX0_withNaps 72 = .ok (.lload_n 3, 1) := by decide +kernel
theorem dX0_withNaps_73 : decode cX0_withNaps 73 = .ok (.lreturn, 1) := by decide +kernel
set_option maxRecDepth 20000 in
theorem ggX0_withBees_X0_countTicks : GoodIn wsX0_withBees wsX0_countTicks := goodIn_r _ [7, 8, 9, 10, 11, 6, 12, 13, 14, 15, 16, 17, 18, 19, 34, 35, 36, 37, 38, 39, 40, 41, 42, 43, 44, 45, 46, 47, 48, 49, 50] (by decide +kernel) (by decide +kernel)
set_option maxRecDepth 20000 in
theorem gX0_withBees_X0_countTicks : GoodIn wsX0_withBees (wsV RX0 140 RX0 yX0_countTicks wsX0_countTicks) := goodIn_app (goodIn_of _ (by decide +kernel)) ggX0_withBees_X0_countTicks
set_option maxRecDepth 20000 in
theorem ggX0_withBees_X0_measuredBy : GoodIn wsX0_withBees wsX0_measuredBy := goodIn_ca (goodIn_r _ [23, 18, 24, 25, 26, 6, 27, 28, 29, 1, 3, 4, 5, 7, 8, 9, 10, 11, 12, 13, 14, 15, 16, 17, 19, 34, 35, 36, 37, 38, 39, 40, 41, 42, 43, 44, 45, 46, 47, 48, 49, 50] (by decide +kernel) (by decide +kernel)) (goodIn_sub (fun _ h => List.mem_cons_of_mem _ (List.mem_append_right _ h)) (by decide +kernel))
set_option maxRecDepth 20000 in
theorem gX0_withBees_X0_measuredBy : GoodIn wsX0_withBees (wsV RX0 143 RX0 yX0_measuredBy wsX0_measuredBy) := goodIn_app (goodIn_of _ (by decide +kernel)) ggX0_withBees_X0_measuredBy
set_option maxRecDepth 20000 in
theorem ggX0_withBees_X0_nextTick : GoodIn wsX0_withBees wsX0_nextTick := goodIn_ca (goodIn_r _ [33, 8, 24, 25, 26, 6, 27, 28, 29, 1, 9, 10, 11, 12, 13, 14, 15, 16, 17, 18, 19, 34, 35, 36, 37, 38, 39, 40, 41, 42, 43, 44, 45, 46, 47, 48, 49, 50] (by decide +kernel) (by decide +kernel)) (goodIn_sub (fun _ h => List.mem_cons_of_mem _ (List.mem_append_right _ h)) (by decide +kernel))
set_option maxRecDepth 20000 in
theorem gX0_withBees_X0_nextTick : GoodIn wsX0_withBees (wsV RX0 204 RX0 yX0_nextTick wsX0_nextTick) := goodIn_app (goodIn_of _ (by decide +kernel)) ggX0_withBees_X0_nextTick
theorem dX0_withBees_0 : decode cX0_withBees 0 = .ok (.lload_n 1, 1) := by decide +kernel
theorem dX0_withBees_1 : decode cX0_withBees 1 = .ok (.lstore_n 3, 1) := by decide +kernel
theorem dX0_withBees_2 : decode cX0_withBees 2 = .ok (.iconst 0, 1) := by decide +kernel
theorem dX0_withBees_3 : decode cX0_withBees 3 = .ok (.istore 5, 2) := by decide +kernel
theorem dX0_withBees_5 : decode cX0_withBees 5 = .ok (.iload 5, 2) := by decide +kernel
theorem dX0_withBees_7 : decode cX0_withBees 7 = .ok (.aload_n 0, 1) := by decide +kernel
theorem dX0_withBees_8 : decode cX0_withBees 8 = .ok (.getfield 73, 3) := by decide +kernel
theorem dX0_withBees_11 : decode cX0_withBees 11 = .ok (.if_icmp .ge 51, 3) := by decide +kernel
theorem dX0_withBees_14 : decode cX0_withBees 14 = .ok (.lload_n 3, 1) := by decide +kernel
theorem dX0_withBees_15 : decode cX0_withBees 15 = .ok (.ldc2_w 163, 3) := by decide +kernel
theorem dX0_withBees_18 : decode cX0_withBees 18 = .ok (.lmul, 1) := by decide +kernel
theorem dX0_withBees_19 : decode cX0_withBees 19 = .ok (.aload_n 0, 1) := by decide +kernel
theorem dX0_withBees_20 : decode cX0_withBees 20 = .ok (.iload 5, 2) := by decide +kernel
theorem dX0_withBees_22 : decode cX0_withBees 22 = .ok (.invokevirtual 140, 3) := by decide +kernel
theorem dX0_withBees_25 : decode cX0_withBees 25 = .ok (.i2l, 1) := by decide +kernel
theorem dX0_withBees_26 : decode cX0_withBees 26 = .ok (.ladd, 1) := by decide +kernel
theorem dX0_withBees_27 : decode cX0_withBees 27 = .ok (.lstore_n 3, 1) := by decide +kernel
theorem dX0_withBees_28 : decode cX0_withBees 28 = .ok (.lload_n 3, 1) := by decide +kernel
theorem dX0_withBees_29 : decode cX0_withBees 29 = .ok (.ldc2_w 163, 3) := by decide +kernel
theorem dX0_withBees_32 : decode cX0_withBees 32 = .ok (.lmul, 1) := by decide +kernel
theorem dX0_withBees_33 : decode cX0_withBees 33 = .ok (.aload_n 0, 1) := by decide +kernel
theorem dX0_withBees_34 : decode cX0_withBees 34 = .ok (.iload 5, 2) := by decide +kernel
theorem dX0_withBees_36 : decode cX0_withBees 36 = .ok (.invokevirtual 143, 3) := by decide +kernel
theorem dX0_withBees_39 : decode cX0_withBees 39 = .ok (.i2l, 1) := by decide +kernel
theorem dX0_withBees_40 : decode cX0_withBees 40 = .ok (.ladd, 1) := by decide +kernel
theorem dX0_withBees_41 : decode cX0_withBees 41 = .ok (.lstore_n 3, 1) := by decide +kernel
theorem dX0_withBees_42 : decode cX0_withBees 42 = .ok (.lload_n 3, 1) := by decide +kernel
theorem dX0_withBees_43 : decode cX0_withBees 43 = .ok (.ldc2_w 163, 3) := by decide +kernel
theorem dX0_withBees_46 : decode cX0_withBees 46 = .ok (.lmul, 1) := by decide +kernel
theorem dX0_withBees_47 : decode cX0_withBees 47 = .ok (.aload_n 0, 1) := by decide +kernel
theorem dX0_withBees_48 : decode cX0_withBees 48 = .ok (.iload 5, 2) := by decide +kernel
theorem dX0_withBees_50 : decode cX0_withBees 50 = .ok (.invokevirtual 204, 3) := by decide +kernel
theorem dX0_withBees_53 : decode cX0_withBees 53 = .ok (.i2l, 1) := by decide +kernel
theorem dX0_withBees_54 : decode cX0_withBees 54 = .ok (.ladd, 1) := by decide +kernel
theorem dX0_withBees_55 : decode cX0_withBees 55 = .ok (.lstore_n 3, 1) := by decide +kernel
theorem dX0_withBees_56 : decode cX0_withBees 56 = .ok (.iinc 5 1, 3) := by decide +kernel
theorem dX0_withBees_59 : decode cX0_withBees 59 = .ok (.goto (-54), 3) := by decide +kernel
theorem dX0_withBees_62 : decode cX0_withBees 62 = .ok (.lload_n 3, 1) := by decide +kernel
theorem dX0_withBees_63 : decode cX0_withBees 63 = .ok (.lreturn, 1) := by decide +kernel
