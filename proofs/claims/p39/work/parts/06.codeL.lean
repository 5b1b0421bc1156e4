set_option maxRecDepth 20000 in
theorem ggL_addStick_X0_addStick : GoodIn wsL_addStick wsX0_addStick := goodIn_ca (goodIn_ca (goodIn_r _ [7, 8, 9, 10, 11, 12, 13, 14, 15, 16, 17, 18, 19, 20, 21, 22, 23, 24, 25, 26, 27, 28, 29, 30] (by decide +kernel) (by decide +kernel)) (goodIn_sub (fun _ h => List.mem_cons_of_mem _ (List.mem_append_left _ (List.mem_append_right _ h))) (by decide +kernel))) (goodIn_sub (fun _ h => List.mem_cons_of_mem _ (List.mem_append_right _ h)) (by decide +kernel))
set_option maxRecDepth 20000 in
theorem gL_addStick_X0_addStick : GoodIn wsL_addStick (wsV RL 7 RX0 yX0_addStick wsX0_addStick) := goodIn_app (goodIn_of _ (by decide +kernel)) ggL_addStick_X0_addStick
theorem dL_addStick_0 : decode cL_addStick 0 = .ok (.aload_n 2, 1) := by decide +kernel
theorem dL_addStick_1 : decode cL_addStick 1 = .ok (.iconst 0, 1) := by decide +kernel
theorem dL_addStick_2 : decode cL_addStick 2 = .ok (.aload_n 0, 1) := by decide +kernel
theorem dL_addStick_3 : decode cL_addStick 3 = .ok (.iload_n 1, 1) := by decide +kernel
theorem dL_addStick_4 : decode cL_addStick 4 = .ok (.invokevirtual 7, 3) := by decide +kernel
theorem dL_addStick_7 : decode cL_addStick 7 = .ok (.i2l, 1) := by decide +kernel
theorem dL_addStick_8 : decode cL_addStick 8 = .ok (.lastore, 1) := by decide +kernel
theorem dL_addStick_9 : decode cL_addStick 9 = .ok (.goto 9, 3) := by decide +kernel
theorem dL_addStick_12 : decode cL_addStick 12 = .ok (.astore_n 3, 1) := by decide +kernel
theorem dL_addStick_13 : decode cL_addStick 13 = .ok (.iconst 1, 1) := by decide +kernel
theorem dL_addStick_14 : decode cL_addStick 14 = .ok (.ireturn, 1) := by decide +kernel
theorem dL_addStick_15 : decode cL_addStick 15 = .ok (.astore_n 3, 1) := by decide +kernel
theorem dL_addStick_16 : decode cL_addStick 16 = .ok (.iconst 2, 1) := by decide +kernel
theorem dL_addStick_17 : decode cL_addStick 17 = .ok (.ireturn, 1) := by decide +kernel
theorem dL_addStick_18 : decode cL_addStick 18 = .ok (.iconst 0, 1) := by decide +kernel
theorem dL_addStick_19 : decode cL_addStick 19 = .ok (.ireturn, 1) := by decide +kernel
set_option maxRecDepth 20000 in
theorem ggL_addNap_X0_addNap : GoodIn wsL_addNap wsX0_addNap := goodIn_ca (goodIn_ca (goodIn_r _ [7, 8, 9, 10, 11, 12, 13, 14, 15, 16, 17, 6, 18, 19, 20, 21, 22, 23, 24, 25, 26, 27, 28, 29, 30, 31, 32, 33, 34, 35, 36, 37, 38, 39, 40] (by decide +kernel) (by decide +kernel)) (goodIn_sub (fun _ h => List.mem_cons_of_mem _ (List.mem_append_left _ (List.mem_append_right _ h))) (by decide +kernel))) (goodIn_sub (fun _ h => List.mem_cons_of_mem _ (List.mem_append_right _ h)) (by decide +kernel))
set_option maxRecDepth 20000 in
theorem gL_addNap_X0_addNap : GoodIn wsL_addNap (wsV RL 17 RX0 yX0_addNap wsX0_addNap) := goodIn_app (goodIn_of _ (by decide +kernel)) ggL_addNap_X0_addNap
theorem dL_addNap_0 : decode cL_addNap 0 = .ok (.aload_n 3, 1) := by decide +kernel
theorem dL_addNap_1 : decode cL_addNap 1 = .ok (.iconst 0, 1) := by decide +kernel
theorem dL_addNap_2 : decode cL_addNap 2 = .ok (.aload_n 0, 1) := by decide +kernel
theorem dL_addNap_3 : decode cL_addNap 3 = .ok (.iload_n 1, 1) := by decide +kernel
theorem dL_addNap_4 : decode cL_addNap 4 = .ok (.iload_n 2, 1) := by decide +kernel
theorem dL_addNap_5 : decode cL_addNap 5 = .ok (.invokevirtual 17, 3) := by decide +kernel
theorem dL_addNap_8 : decode cL_addNap 8 = .ok (.i2l, 1) := by decide +kernel
theorem dL_addNap_9 : decode cL_addNap 9 = .ok (.lastore, 1) := by decide +kernel
theorem dL_addNap_10 : decode cL_addNap 10 = .ok (.goto 11, 3) := by decide +kernel
theorem dL_addNap_13 : decode cL_addNap 13 = .ok (.astore 4, 2) := by decide +kernel
theorem dL_addNap_15 : decode cL_addNap 15 = .ok (.iconst 1, 1) := by decide +kernel
theorem dL_addNap_16 : decode cL_addNap 16 = .ok (.ireturn, 1) := by decide +kernel
theorem dL_addNap_17 : decode cL_addNap 17 = .ok (.astore 4, 2) := by decide +kernel
theorem dL_addNap_19 : decode cL_addNap 19 = .ok (.iconst 2, 1) := by decide +kernel
theorem dL_addNap_20 : decode cL_addNap 20 = .ok (.ireturn, 1) := by decide +kernel
theorem dL_addNap_21 : decode cL_addNap 21 = .ok (.iconst 0, 1) := by decide +kernel
theorem dL_addNap_22 : decode cL_addNap 22 = .ok (.ireturn, 1) := by decide +kernel
set_option maxRecDepth 20000 in
theorem ggL_giveUp_X0_giveUp : GoodIn wsL_giveUp wsX0_giveUp := goodIn_ca (goodIn_r _ [6, 7, 8, 9, 10, 11, 12, 5, 13, 14, 15, 16, 17, 18, 19, 20, 21, 22, 23, 24, 25, 26, 27, 28, 29, 30, 31, 32, 33, 34, 35, 36, 37, 38, 39, 40, 41] (by decide +kernel) (by decide +kernel)) (goodIn_sub (fun _ h => List.mem_cons_of_mem _ (List.mem_append_right _ h)) (by decide +kernel))
set_option maxRecDepth 20000 in
theorem gL_giveUp_X0_giveUp : GoodIn wsL_giveUp (wsV RL 21 RX0 yX0_giveUp wsX0_giveUp) := goodIn_app (goodIn_of _ (by decide +kernel)) ggL_giveUp_X0_giveUp
theorem dL_giveUp_0 : decode cL_giveUp 0 = .ok (.aload_n 2, 1) := by decide +kernel
theorem dL_giveUp_1 : decode cL_giveUp 1 = .ok (.iconst 0, 1) := by decide +kernel
theorem dL_giveUp_2 : decode cL_giveUp 2 = .ok (.aload_n 0, 1) := by decide +kernel
theorem dL_giveUp_3 : decode cL_giveUp 3 = .ok (.iload_n 1, 1) := by decide +kernel
theorem dL_giveUp_4 : decode cL_giveUp 4 = .ok (.invokevirtual 21, 3) := by decide +kernel
theorem dL_giveUp_7 : decode cL_giveUp 7 = .ok (.i2l, 1) := by decide +kernel
theorem dL_giveUp_8 : decode cL_giveUp 8 = .ok (.lastore, 1) := by decide +kernel
theorem dL_giveUp_9 : decode cL_giveUp 9 = .ok (.goto 6, 3) := by decide +kernel
theorem dL_giveUp_12 : decode cL_giveUp 12 = .ok (.astore_n 3, 1) := by decide +kernel
theorem dL_giveUp_13 : decode cL_giveUp 13 = .ok (.iconst 1, 1) := by decide +kernel
theorem dL_giveUp_14 : decode cL_giveUp 14 = .ok (.ireturn, 1) := by decide +kernel
theorem dL_giveUp_15 : decode cL_giveUp 15 = .ok (.iconst 0, 1) := by decide +kernel
theorem dL_giveUp_16 : decode cL_giveUp 16 = .ok (.ireturn, 1) := by decide +kernel
set_option maxRecDepth 20000 in
theorem ggL_addBee_X0_addBee : GoodIn wsL_addBee wsX0_addBee := goodIn_ca (goodIn_ca (goodIn_r _ [7, 8, 9, 10, 11, 12, 13, 14, 15, 16, 17, 18, 6, 19, 20, 21, 22, 23, 24, 25, 26, 27, 28, 29, 30, 31, 32, 33, 34, 35, 36] (by decide +kernel) (by decide +kernel)) (goodIn_sub (fun _ h => List.mem_cons_of_mem _ (List.mem_append_left _ (List.mem_append_right _ h))) (by decide +kernel))) (goodIn_sub (fun _ h => List.mem_cons_of_mem _ (List.mem_append_right _ h)) (by decide +kernel))
set_option maxRecDepth 20000 in
theorem gL_addBee_X0_addBee : GoodIn wsL_addBee (wsV RL 26 RX0 yX0_addBee wsX0_addBee) := goodIn_app (goodIn_of _ (by decide +kernel)) ggL_addBee_X0_addBee
theorem dL_addBee_0 : decode cL_addBee 0 = .ok (.aload_n 3, 1) := by decide +kernel
theorem dL_addBee_1 : decode cL_addBee 1 = .ok (.iconst 0, 1) := by decide +kernel
theorem dL_addBee_2 : decode cL_addBee 2 = .ok (.aload_n 0, 1) := by decide +kernel
theorem dL_addBee_3 : decode cL_addBee 3 = .ok (.iload_n 1, 1) := by decide +kernel
theorem dL_addBee_4 : decode cL_addBee 4 = .ok (.iload_n 2, 1) := by decide +kernel
theorem dL_addBee_5 : decode cL_addBee 5 = .ok (.invokevirtual 26, 3) := by decide +kernel
theorem dL_addBee_8 : decode cL_addBee 8 = .ok (.i2l, 1) := by decide +kernel
theorem dL_addBee_9 : decode cL_addBee 9 = .ok (.lastore, 1) := by decide +kernel
theorem dL_addBee_10 : decode cL_addBee 10 = .ok (.goto 11, 3) := by decide +kernel
theorem dL_addBee_13 : decode cL_addBee 13 = .ok (.astore 4, 2) := by decide +kernel
theorem dL_addBee_15 : decode cL_addBee 15 = .ok (.iconst 1, 1) := by decide +kernel
theorem dL_addBee_16 : decode cL_addBee 16 = .ok (.ireturn, 1) := by decide +kernel
theorem dL_addBee_17 : decode cL_addBee 17 = .ok (.astore 4, 2) := by decide +kernel
theorem dL_addBee_19 : decode cL_addBee 19 = .ok (.iconst 2, 1) := by decide +kernel
theorem dL_addBee_20 : decode cL_addBee 20 = .ok (.ireturn, 1) := by decide +kernel
theorem dL_addBee_21 : decode cL_addBee 21 = .ok (.iconst 0, 1) := by decide +kernel
theorem dL_addBee_22 : decode cL_addBee 22 = .ok (.ireturn, 1) := by decide +kernel
set_option maxRecDepth 20000 in
theorem ggL_setTea_X0_setTea : GoodIn wsL_setTea wsX0_setTea := goodIn_ca (goodIn_r _ [6, 7, 8, 9, 10, 11, 12, 13, 14, 15, 5, 16, 17, 18, 19, 20, 21, 22, 23, 24, 25, 26, 27, 28, 29, 30, 31, 32, 33, 34, 35, 36, 37, 38, 39, 40, 41, 42] (by decide +kernel) (by decide +kernel)) (goodIn_sub (fun _ h => List.mem_cons_of_mem _ (List.mem_append_right _ h)) (by decide +kernel))
set_option maxRecDepth 20000 in
theorem gL_setTea_X0_setTea : GoodIn wsL_setTea (wsV RL 29 RX0 yX0_setTea wsX0_setTea) := goodIn_app (goodIn_of _ (by decide +kernel)) ggL_setTea_X0_setTea
theorem dL_setTea_0 : decode cL_setTea 0 = .ok (.aload 4, 2) := by decide +kernel
theorem dL_setTea_2 : decode cL_setTea 2 = .ok (.iconst 0, 1) := by decide +kernel
theorem dL_setTea_3 : decode cL_setTea 3 = .ok (.aload_n 0, 1) := by decide +kernel
theorem dL_setTea_4 : decode cL_setTea 4 = .ok (.iload_n 1, 1) := by decide +kernel
theorem dL_setTea_5 : decode cL_setTea 5 = .ok (.iload_n 2, 1) := by decide +kernel
theorem dL_setTea_6 : decode cL_setTea 6 = .ok (.iload_n 3, 1) := by decide +kernel
theorem dL_setTea_7 : decode cL_setTea 7 = .ok (.invokevirtual 29, 3) := by decide +kernel
theorem dL_setTea_10 : decode cL_setTea 10 = .ok (.i2l, 1) := by decide +kernel
theorem dL_setTea_11 : decode cL_setTea 11 = .ok (.lastore, 1) := by decide +kernel
theorem dL_setTea_12 : decode cL_setTea 12 = .ok (.goto 7, 3) := by decide +kernel
theorem dL_setTea_15 : decode cL_setTea 15 = .ok (.astore 5, 2) := by decide +kernel
theorem dL_setTea_17 : decode cL_setTea 17 = .ok (.iconst 1, 1) := by decide +kernel
theorem dL_setTea_18 : decode cL_setTea 18 = .ok (.ireturn, 1) := by decide +kernel
theorem dL_setTea_19 : decode cL_setTea 19 = .ok (.iconst 0, 1) := by decide +kernel
theorem dL_setTea_20 : decode cL_setTea 20 = .ok (.ireturn, 1) := by decide +kernel
set_option maxRecDepth 20000 in
theorem ggL_pass_X0_pass : GoodIn wsL_pass wsX0_pass := goodIn_ca (goodIn_ca (goodIn_r _ [7, 8, 9, 10, 11, 12, 13, 14, 15, 16, 17, 6, 18, 19, 20, 21, 22, 23, 24, 25, 26, 27, 28, 29, 30, 31, 32, 33, 34, 35, 36, 37, 38, 39, 40, 41, 42, 43, 44, 45, 46, 47, 48, 49, 50, 51, 52] (by decide +kernel) (by decide +kernel)) (goodIn_sub (fun _ h => List.mem_cons_of_mem _ (List.mem_append_left _ (List.mem_append_right _ h))) (by decide +kernel))) (goodIn_sub (fun _ h => List.mem_cons_of_mem _ (List.mem_append_right _ h)) (by decide +kernel))
set_option maxRecDepth 20000 in
theorem gL_pass_X0_pass : GoodIn wsL_pass (wsV RL 33 RX0 yX0_pass wsX0_pass) := goodIn_app (goodIn_of _ (by decide +kernel)) ggL_pass_X0_pass
theorem dL_pass_0 : decode cL_pass 0 = .ok (.aload_n 2, 1) := by decide +kernel
theorem dL_pass_1 : decode cL_pass 1 = .ok (.iconst 0, 1) := by decide +kernel
theorem dL_pass_2 : decode cL_pass 2 = .ok (.aload_n 0, 1) := by decide +kernel
theorem dL_pass_3 : decode cL_pass 3 = .ok (.iload_n 1, 1) := by decide +kernel
theorem dL_pass_4 : decode cL_pass 4 = .ok (.invokevirtual 33, 3) := by decide +kernel
theorem dL_pass_7 : decode cL_pass 7 = .ok (.i2l, 1) := by decide +kernel
theorem dL_pass_8 : decode cL_pass 8 = .ok (.lastore, 1) := by decide +kernel
theorem dL_pass_9 : decode cL_pass 9 = .ok (.goto 9, 3) := by decide +kernel
theorem dL_pass_12 : decode cL_pass 12 = .ok (.astore_n 3, 1) := by decide +kernel
theorem dL_pass_13 : decode cL_pass 13 = .ok (.iconst 1, 1) := by decide +kernel
theorem dL_pass_14 : decode cL_pass 14 = .ok (.ireturn, 1) := by decide +kernel
theorem dL_pass_15 : decode cL_pass 15 = .ok (.astore_n 3, 1) := by decide +kernel
theorem dL_pass_16 : decode cL_pass 16 = .ok (.iconst 2, 1) := by decide +kernel
theorem dL_pass_17 : decode cL_pass 17 = .ok (.ireturn, 1) := by decide +kernel
theorem dL_pass_18 : decode cL_pass 18 = .ok (.iconst 0, 1) := by decide +kernel
theorem dL_pass_19 : decode cL_pass 19 = .ok (.ireturn, 1) := by decide +kernel
set_option maxRecDepth 20000 in
theorem ggL_isAsleep_X0_isAsleep : GoodIn wsL_isAsleep wsX0_isAsleep := goodIn_ca (goodIn_r _ [6, 7, 8, 9, 10, 5, 11, 12, 13, 14, 15, 16, 17, 18, 19, 20, 21, 22, 23, 24, 25, 26, 27, 28, 29, 30] (by decide +kernel) (by decide +kernel)) (goodIn_sub (fun _ h => List.mem_cons_of_mem _ (List.mem_append_right _ h)) (by decide +kernel))
set_option maxRecDepth 20000 in
theorem gL_isAsleep_X0_isAsleep : GoodIn wsL_isAsleep (wsV RL 36 RX0 yX0_isAsleep wsX0_isAsleep) := goodIn_app (goodIn_of _ (by decide +kernel)) ggL_isAsleep_X0_isAsleep
theorem dL_isAsleep_0 : decode cL_isAsleep 0 = .ok (.aload_n 2, 1) := by decide +kernel
theorem dL_isAsleep_1 : decode cL_isAsleep 1 = .ok (.iconst 0, 1) := by decide +kernel
theorem dL_isAsleep_2 : decode cL_isAsleep 2 = .ok (.aload_n 0, 1) := by decide +kernel
theorem dL_isAsleep_3 : decode cL_isAsleep 3 = .ok (.iload_n 1, 1) := by decide +kernel
theorem dL_isAsleep_4 : decode cL_isAsleep 4 = .ok (.invokevirtual 36, 3) := by decide +kernel
theorem dL_isAsleep_7 : decode cL_isAsleep 7 = .ok (.ifCond .eq 7, 3) := by decide +kernel
theorem dL_isAsleep_10 : decode cL_isAsleep 10 = .ok (.lconst 1, 1) := by decide +kernel
theorem dL_isAsleep_11 : decode cL_isAsleep 11 = .ok (.goto 4, 3) := by decide +kernel
theorem dL_isAsleep_14 : decode cL_isAsleep 14 = .ok (.lconst 0, 1) := by decide +kernel
theorem dL_isAsleep_15 : decode cL_isAsleep 15 = .ok (.lastore, 1) := by decide +kernel
theorem dL_isAsleep_16 : decode cL_isAsleep 16 = .ok (.goto 6, 3) := by decide +kernel
theorem dL_isAsleep_19 : decode cL_isAsleep 19 = .ok (.astore_n 3, 1) := by decide +kernel
theorem dL_isAsleep_20 : decode cL_isAsleep 20 = .ok (.iconst 1, 1) := by decide +kernel
theorem dL_isAsleep_21 : decode cL_isAsleep 21 = .ok (.ireturn, 1) := by decide +kernel
theorem dL_isAsleep_22 : decode cL_isAsleep 22 = .ok (.iconst 0, 1) := by decide +kernel
theorem dL_isAsleep_23 : decode cL_isAsleep 23 = .ok (.ireturn, 1) := by decide +kernel
set_option maxRecDepth 20000 in
theorem ggL_shadowAt_X0_shadowAt : GoodIn wsL_shadowAt wsX0_shadowAt := goodIn_ca (goodIn_ca (goodIn_r _ [7, 8, 9, 10, 6, 11, 12, 13, 14, 15, 16, 17, 18, 19, 20, 21, 22, 23, 24, 25, 26, 27, 28, 29, 30, 31, 32, 33, 34, 35, 36, 37, 38, 39, 40, 41, 42] (by decide +kernel) (by decide +kernel)) (goodIn_sub (fun _ h => List.mem_cons_of_mem _ (List.mem_append_left _ (List.mem_append_right _ h))) (by decide +kernel))) (goodIn_sub (fun _ h => List.mem_cons_of_mem _ (List.mem_append_right _ h)) (by decide +kernel))
set_option maxRecDepth 20000 in
theorem gL_shadowAt_X0_shadowAt : GoodIn wsL_shadowAt (wsV RL 40 RX0 yX0_shadowAt wsX0_shadowAt) := goodIn_app (goodIn_of _ (by decide +kernel)) ggL_shadowAt_X0_shadowAt
theorem dL_shadowAt_0 : decode cL_shadowAt 0 = .ok (.aload_n 3, 1) := by decide +kernel
theorem dL_shadowAt_1 : decode cL_shadowAt 1 = .ok (.iconst 0, 1) := by decide +kernel
theorem dL_shadowAt_2 : decode cL_shadowAt 2 = .ok (.aload_n 0, 1) := by decide +kernel
theorem dL_shadowAt_3 : decode cL_shadowAt 3 = .ok (.iload_n 1, 1) := by decide +kernel
theorem dL_shadowAt_4 : decode cL_shadowAt 4 = .ok (.iload_n 2, 1) := by decide +kernel
theorem dL_shadowAt_5 : decode cL_shadowAt 5 = .ok (.invokevirtual 40, 3) := by decide +kernel
theorem dL_shadowAt_8 : decode cL_shadowAt 8 = .ok (.i2l, 1) := by decide +kernel
theorem dL_shadowAt_9 : decode cL_shadowAt 9 = .ok (.lastore, 1) := by decide +kernel
theorem dL_shadowAt_10 : decode cL_shadowAt 10 = .ok (.goto 11, 3) := by decide +kernel
theorem dL_shadowAt_13 : decode cL_shadowAt 13 = .ok (.astore 4, 2) := by decide +kernel
theorem dL_shadowAt_15 : decode cL_shadowAt 15 = .ok (.iconst 1, 1) := by decide +kernel
theorem dL_shadowAt_16 : decode cL_shadowAt 16 = .ok (.ireturn, 1) := by decide +kernel
theorem dL_shadowAt_17 : decode cL_shadowAt 17 = .ok (.astore 4, 2) := by decide +kernel
theorem dL_shadowAt_19 : decode cL_shadowAt 19 = .ok (.iconst 2, 1) := by decide +kernel
theorem dL_shadowAt_20 : decode cL_shadowAt 20 = .ok (.ireturn, 1) := by decide +kernel
theorem dL_shadowAt_21 : decode cL_shadowAt 21 = .ok (.iconst 0, 1) := by decide +kernel
theorem dL_shadowAt_22 : decode cL_shadowAt 22 = .ok (.ireturn, 1) := by decide +kernel
set_option maxRecDepth 20000 in
theorem ggL_minuteOfShadow_X0_minuteOfShadow : GoodIn wsL_minuteOfShadow wsX0_minuteOfShadow := goodIn_ca (goodIn_r _ [6, 7, 8, 9, 5, 10, 11, 12, 13, 14, 15, 16, 17, 18, 19, 20, 21, 22, 23, 24, 25, 26, 27, 28, 29, 30, 31, 32, 33, 34, 35] (by decide +kernel) (by decide +kernel)) (goodIn_sub (fun _ h => List.mem_cons_of_mem _ (List.mem_append_right _ h)) (by decide +kernel))
set_option maxRecDepth 20000 in
theorem gL_minuteOfShadow_X0_minuteOfShadow : GoodIn wsL_minuteOfShadow (wsV RL 43 RX0 yX0_minuteOfShadow wsX0_minuteOfShadow) := goodIn_app (goodIn_of _ (by decide +kernel)) ggL_minuteOfShadow_X0_minuteOfShadow
theorem dL_minuteOfShadow_0 : decode cL_minuteOfShadow 0 = .ok (.aload_n 3, 1) := by decide +kernel
theorem dL_minuteOfShadow_1 : decode cL_minuteOfShadow 1 = .ok (.iconst 0, 1) := by decide +kernel
theorem dL_minuteOfShadow_2 : decode cL_minuteOfShadow 2 = .ok (.aload_n 0, 1) := by decide +kernel
theorem dL_minuteOfShadow_3 : decode cL_minuteOfShadow 3 = .ok (.iload_n 1, 1) := by decide +kernel
theorem dL_minuteOfShadow_4 : decode cL_minuteOfShadow 4 = .ok (.iload_n 2, 1) := by decide +kernel
theorem dL_minuteOfShadow_5 : decode cL_minuteOfShadow 5 = .ok (.invokevirtual 43, 3) := by decide +kernel
theorem dL_minuteOfShadow_8 : decode cL_minuteOfShadow 8 = .ok (.i2l, 1) := by decide +kernel
theorem dL_minuteOfShadow_9 : decode cL_minuteOfShadow 9 = .ok (.lastore, 1) := by decide +kernel
theorem dL_minuteOfShadow_10 : decode cL_minuteOfShadow 10 = .ok (.goto 7, 3) := by decide +kernel
theorem dL_minuteOfShadow_13 : decode cL_minuteOfShadow 13 = .ok (.astore 4, 2) := by decide +kernel
theorem dL_minuteOfShadow_15 : decode cL_minuteOfShadow 15 = .ok (.iconst 1, 1) := by decide +kernel
theorem dL_minuteOfShadow_16 : decode cL_minuteOfShadow 16 = .ok (.ireturn, 1) := by decide +kernel
theorem dL_minuteOfShadow_17 : decode cL_minuteOfShadow 17 = .ok (.iconst 0, 1) := by decide +kernel
theorem dL_minuteOfShadow_18 : decode cL_minuteOfShadow 18 = .ok (.ireturn, 1) := by decide +kernel
set_option maxRecDepth 20000 in
theorem ggL_allShadows_X0_allShadows : GoodIn wsL_allShadows wsX0_allShadows := goodIn_ca (goodIn_r _ [6, 7, 8, 9, 5, 10, 11, 12, 13, 14, 15, 16, 17, 18, 19, 20, 21, 22, 23, 24, 25, 26, 27, 28, 29, 30, 31, 32, 33, 34, 35, 36, 37, 38, 39] (by decide +kernel) (by decide +kernel)) (goodIn_sub (fun _ h => List.mem_cons_of_mem _ (List.mem_append_right _ h)) (by decide +kernel))
set_option maxRecDepth 20000 in
theorem gL_allShadows_X0_allShadows : GoodIn wsL_allShadows (wsV RL 46 RX0 yX0_allShadows wsX0_allShadows) := goodIn_app (goodIn_of _ (by decide +kernel)) ggL_allShadows_X0_allShadows
theorem dL_allShadows_0 : decode cL_allShadows 0 = .ok (.aload_n 2, 1) := by decide +kernel
theorem dL_allShadows_1 : decode cL_allShadows 1 = .ok (.iconst 0, 1) := by decide +kernel
theorem dL_allShadows_2 : decode cL_allShadows 2 = .ok (.aload_n 0, 1) := by decide +kernel
theorem dL_allShadows_3 : decode cL_allShadows 3 = .ok (.iload_n 1, 1) := by decide +kernel
theorem dL_allShadows_4 : decode cL_allShadows 4 = .ok (.invokevirtual 46, 3) := by decide +kernel
theorem dL_allShadows_7 : decode cL_allShadows 7 = .ok (.i2l, 1) := by decide +kernel
theorem dL_allShadows_8 : decode cL_allShadows 8 = .ok (.lastore, 1) := by decide +kernel
theorem dL_allShadows_9 : decode cL_allShadows 9 = .ok (.goto 6, 3) := by decide +kernel
theorem dL_allShadows_12 : decode cL_allShadows 12 = .ok (.astore_n 3, 1) := by decide +kernel
theorem dL_allShadows_13 : decode cL_allShadows 13 = .ok (.iconst 1, 1) := by decide +kernel
theorem dL_allShadows_14 : decode cL_allShadows 14 = .ok (.ireturn, 1) := by decide +kernel
theorem dL_allShadows_15 : decode cL_allShadows 15 = .ok (.iconst 0, 1) := by decide +kernel
theorem dL_allShadows_16 : decode cL_allShadows 16 = .ok (.ireturn, 1) := by decide +kernel
set_option maxRecDepth 20000 in
theorem ggL_startOf_X0_startOf : GoodIn wsL_startOf wsX0_startOf := goodIn_ca (goodIn_r _ [6, 7, 8, 9, 10, 5, 11, 12, 13, 14, 15, 16, 17, 18, 19, 20, 21, 22, 23, 24, 25, 26, 27, 28, 29, 30, 31] (by decide +kernel) (by decide +kernel)) (goodIn_sub (fun _ h => List.mem_cons_of_mem _ (List.mem_append_right _ h)) (by decide +kernel))
set_option maxRecDepth 20000 in
theorem gL_startOf_X0_startOf : GoodIn wsL_startOf (wsV RL 49 RX0 yX0_startOf wsX0_startOf) := goodIn_app (goodIn_of _ (by decide +kernel)) ggL_startOf_X0_startOf
theorem dL_startOf_0 : decode cL_startOf 0 = .ok (.aload_n 2, 1) := by decide +kernel
theorem dL_startOf_1 : decode cL_startOf 1 = .ok (.iconst 0, 1) := by decide +kernel
theorem dL_startOf_2 : decode cL_startOf 2 = .ok (.aload_n 0, 1) := by decide +kernel
theorem dL_startOf_3 : decode cL_startOf 3 = .ok (.iload_n 1, 1) := by decide +kernel
theorem dL_startOf_4 : decode cL_startOf 4 = .ok (.invokevirtual 49, 3) := by decide +kernel
theorem dL_startOf_7 : decode cL_startOf 7 = .ok (.i2l, 1) := by decide +kernel
theorem dL_startOf_8 : decode cL_startOf 8 = .ok (.lastore, 1) := by decide +kernel
theorem dL_startOf_9 : decode cL_startOf 9 = .ok (.goto 6, 3) := by decide +kernel
theorem dL_startOf_12 : decode cL_startOf 12 = .ok (.astore_n 3, 1) := by decide +kernel
theorem dL_startOf_13 : decode cL_startOf 13 = .ok (.iconst 1, 1) := by decide +kernel
theorem dL_startOf_14 : decode cL_startOf 14 = .ok (.ireturn, 1) := by decide +kernel
theorem dL_startOf_15 : decode cL_startOf 15 = .ok (.iconst 0, 1) := by decide +kernel
theorem dL_startOf_16 : decode cL_startOf 16 = .ok (.ireturn, 1) := by decide +kernel
set_option maxRecDepth 20000 in
theorem ggL_lengthOf_X0_lengthOf : GoodIn wsL_lengthOf wsX0_lengthOf := goodIn_ca (goodIn_r _ [6, 7, 8, 9, 10, 11, 5, 12, 13, 14, 15, 16, 17, 18, 19, 20, 21, 22, 23, 24, 25, 26, 27, 28, 29, 30, 31, 32] (by decide +kernel) (by decide +kernel)) (goodIn_sub (fun _ h => List.mem_cons_of_mem _ (List.mem_append_right _ h)) (by decide +kernel))
set_option maxRecDepth 20000 in
theorem gL_lengthOf_X0_lengthOf : GoodIn wsL_lengthOf (wsV RL 52 RX0 yX0_lengthOf wsX0_lengthOf) := goodIn_app (goodIn_of _ (by decide +kernel)) ggL_lengthOf_X0_lengthOf
theorem dL_lengthOf_0 : decode cL_lengthOf 0 = .ok (.aload_n 2, 1) := by decide +kernel
theorem dL_lengthOf_1 : decode cL_lengthOf 1 = .ok (.iconst 0, 1) := by decide +kernel
theorem dL_lengthOf_2 : decode cL_lengthOf 2 = .ok (.aload_n 0, 1) := by decide +kernel
theorem dL_lengthOf_3 : decode cL_lengthOf 3 = .ok (.iload_n 1, 1) := by decide +kernel
theorem dL_lengthOf_4 : decode cL_lengthOf 4 = .ok (.invokevirtual 52, 3) := by decide +kernel
theorem dL_lengthOf_7 : decode cL_lengthOf 7 = .ok (.i2l, 1) := by decide +kernel
theorem dL_lengthOf_8 : decode cL_lengthOf 8 = .ok (.lastore, 1) := by decide +kernel
theorem dL_lengthOf_9 : decode cL_lengthOf 9 = .ok (.goto 6, 3) := by decide +kernel
theorem dL_lengthOf_12 : decode cL_lengthOf 12 = .ok (.astore_n 3, 1) := by decide +kernel
theorem dL_lengthOf_13 : decode cL_lengthOf 13 = .ok (.iconst 1, 1) := by decide +kernel
theorem dL_lengthOf_14 : decode cL_lengthOf 14 = .ok (.ireturn, 1) := by decide +kernel
theorem dL_lengthOf_15 : decode cL_lengthOf 15 = .ok (.iconst 0, 1) := by decide +kernel
theorem dL_lengthOf_16 : decode cL_lengthOf 16 = .ok (.ireturn, 1) := by decide +kernel
set_option maxRecDepth 20000 in
theorem ggL_napsAt_X0_napsAt : GoodIn wsL_napsAt wsX0_napsAt := goodIn_ca (goodIn_r _ [6, 7, 8, 9, 10, 5, 11, 12, 13, 14, 15, 16, 17, 18, 19, 20, 21, 22, 23, 24, 25, 26, 27, 28, 29, 30] (by decide +kernel) (by decide +kernel)) (goodIn_sub (fun _ h => List.mem_cons_of_mem _ (List.mem_append_right _ h)) (by decide +kernel))
set_option maxRecDepth 20000 in
theorem gL_napsAt_X0_napsAt : GoodIn wsL_napsAt (wsV RL 55 RX0 yX0_napsAt wsX0_napsAt) := goodIn_app (goodIn_of _ (by decide +kernel)) ggL_napsAt_X0_napsAt
theorem dL_napsAt_0 : decode cL_napsAt 0 = .ok (.aload_n 2, 1) := by decide +kernel
theorem dL_napsAt_1 : decode cL_napsAt 1 = .ok (.iconst 0, 1) := by decide +kernel
theorem dL_napsAt_2 : decode cL_napsAt 2 = .ok (.aload_n 0, 1) := by decide +kernel
theorem dL_napsAt_3 : decode cL_napsAt 3 = .ok (.iload_n 1, 1) := by decide +kernel
theorem dL_napsAt_4 : decode cL_napsAt 4 = .ok (.invokevirtual 55, 3) := by decide +kernel
theorem dL_napsAt_7 : decode cL_napsAt 7 = .ok (.i2l, 1) := by decide +kernel
theorem dL_napsAt_8 : decode cL_napsAt 8 = .ok (.lastore, 1) := by decide +kernel
theorem dL_napsAt_9 : decode cL_napsAt 9 = .ok (.goto 6, 3) := by decide +kernel
theorem dL_napsAt_12 : decode cL_napsAt 12 = .ok (.astore_n 3, 1) := by decide +kernel
theorem dL_napsAt_13 : decode cL_napsAt 13 = .ok (.iconst 1, 1) := by decide +kernel
theorem dL_napsAt_14 : decode cL_napsAt 14 = .ok (.ireturn, 1) := by decide +kernel
theorem dL_napsAt_15 : decode cL_napsAt 15 = .ok (.iconst 0, 1) := by decide +kernel
theorem dL_napsAt_16 : decode cL_napsAt 16 = .ok (.ireturn, 1) := by decide +kernel
set_option maxRecDepth 20000 in
theorem ggL_minutesAlone_X0_minutesAlone : GoodIn wsL_minutesAlone wsX0_minutesAlone := goodIn_ca (goodIn_r _ [6, 7, 8, 9, 5, 10, 11, 12, 13, 14, 15, 16, 17, 18, 19, 20, 21, 22, 23, 24, 25, 26, 27, 28, 29, 30, 31, 32, 33, 34, 35, 36, 37, 38, 39, 40, 41] (by decide +kernel) (by decide +kernel)) (goodIn_sub (fun _ h => List.mem_cons_of_mem _ (List.mem_append_right _ h)) (by decide +kernel))
set_option maxRecDepth 20000 in
theorem gL_minutesAlone_X0_minutesAlone : GoodIn wsL_minutesAlone (wsV RL 58 RX0 yX0_minutesAlone wsX0_minutesAlone) := goodIn_app (goodIn_of _ (by decide +kernel)) ggL_minutesAlone_X0_minutesAlone
theorem dL_minutesAlone_0 : decode cL_minutesAlone 0 = .ok (.aload_n 2, 1) := by decide +kernel
theorem dL_minutesAlone_1 : decode cL_minutesAlone 1 = .ok (.iconst 0, 1) := by decide +kernel
theorem dL_minutesAlone_2 : decode cL_minutesAlone 2 = .ok (.aload_n 0, 1) := by decide +kernel
theorem dL_minutesAlone_3 : decode cL_minutesAlone 3 = .ok (.iload_n 1, 1) := by decide +kernel
theorem dL_minutesAlone_4 : decode cL_minutesAlone 4 = .ok (.invokevirtual 58, 3) := by decide +kernel
theorem dL_minutesAlone_7 : decode cL_minutesAlone 7 = .ok (.i2l, 1) := by decide +kernel
theorem dL_minutesAlone_8 : decode cL_minutesAlone 8 = .ok (.lastore, 1) := by decide +kernel
theorem dL_minutesAlone_9 : decode cL_minutesAlone 9 = .ok (.goto 6, 3) := by decide +kernel
theorem dL_minutesAlone_12 : decode cL_minutesAlone 12 = .ok (.astore_n 3, 1) := by decide +kernel
theorem dL_minutesAlone_13 : decode cL_minutesAlone 13 = .ok (.iconst 1, 1) := by decide +kernel
theorem dL_minutesAlone_14 : decode cL_minutesAlone 14 = .ok (.ireturn, 1) := by decide +kernel
theorem dL_minutesAlone_15 : decode cL_minutesAlone 15 = .ok (.iconst 0, 1) := by decide +kernel
theorem dL_minutesAlone_16 : decode cL_minutesAlone 16 = .ok (.ireturn, 1) := by decide +kernel
set_option maxRecDepth 20000 in
theorem ggL_ticksOf_X0_ticksOf : GoodIn wsL_ticksOf wsX0_ticksOf := goodIn_ca (goodIn_r _ [6, 7, 8, 9, 5, 10, 11, 12, 13, 14, 15, 16, 17, 18, 19, 20, 21, 22, 23, 24, 25, 26, 27, 28, 29, 30, 31, 32, 33, 34, 35, 36, 37, 38, 39, 40, 41, 42, 43, 44, 45, 46] (by decide +kernel) (by decide +kernel)) (goodIn_sub (fun _ h => List.mem_cons_of_mem _ (List.mem_append_right _ h)) (by decide +kernel))
set_option maxRecDepth 20000 in
theorem gL_ticksOf_X0_ticksOf : GoodIn wsL_ticksOf (wsV RL 61 RX0 yX0_ticksOf wsX0_ticksOf) := goodIn_app (goodIn_of _ (by decide +kernel)) ggL_ticksOf_X0_ticksOf
theorem dL_ticksOf_0 : decode cL_ticksOf 0 = .ok (.aload_n 2, 1) := by decide +kernel
theorem dL_ticksOf_1 : decode cL_ticksOf 1 = .ok (.iconst 0, 1) := by decide +kernel
theorem dL_ticksOf_2 : decode cL_ticksOf 2 = .ok (.aload_n 0, 1) := by decide +kernel
theorem dL_ticksOf_3 : decode cL_ticksOf 3 = .ok (.iload_n 1, 1) := by decide +kernel
theorem dL_ticksOf_4 : decode cL_ticksOf 4 = .ok (.invokevirtual 61, 3) := by decide +kernel
theorem dL_ticksOf_7 : decode cL_ticksOf 7 = .ok (.i2l, 1) := by decide +kernel
theorem dL_ticksOf_8 : decode cL_ticksOf 8 = .ok (.lastore, 1) := by decide +kernel
theorem dL_ticksOf_9 : decode cL_ticksOf 9 = .ok (.goto 6, 3) := by decide +kernel
theorem dL_ticksOf_12 : decode cL_ticksOf 12 = .ok (.astore_n 3, 1) := by decide +kernel
theorem dL_ticksOf_13 : decode cL_ticksOf 13 = .ok (.iconst 1, 1) := by decide +kernel
theorem dL_ticksOf_14 : decode cL_ticksOf 14 = .ok (.ireturn, 1) := by decide +kernel
theorem dL_ticksOf_15 : decode cL_ticksOf 15 = .ok (.iconst 0, 1) := by decide +kernel
theorem dL_ticksOf_16 : decode cL_ticksOf 16 = .ok (.ireturn, 1) := by decide +kernel
set_option maxRecDepth 20000 in
theorem ggL_measuredBy_X0_measuredBy : GoodIn wsL_measuredBy wsX0_measuredBy := goodIn_ca (goodIn_r _ [6, 7, 8, 9, 10, 5, 11, 12, 13, 14, 15, 16, 17, 18, 19, 20, 21, 22, 23, 24, 25, 26, 27, 28, 29, 30, 31, 32, 33, 34, 35, 36, 37, 38, 39, 40, 41, 42, 43, 44, 45, 46] (by decide +kernel) (by decide +kernel)) (goodIn_sub (fun _ h => List.mem_cons_of_mem _ (List.mem_append_right _ h)) (by decide +kernel))
set_option maxRecDepth 20000 in
theorem gL_measuredBy_X0_measuredBy : GoodIn wsL_measuredBy (wsV RL 64 RX0 yX0_measuredBy wsX0_measuredBy) := goodIn_app (goodIn_of _ (by decide +kernel)) ggL_measuredBy_X0_measuredBy
theorem dL_measuredBy_0 : decode cL_measuredBy 0 = .ok (.aload_n 2, 1) := by decide +kernel
theorem dL_measuredBy_1 : decode cL_measuredBy 1 = .ok (.iconst 0, 1) := by decide +kernel
theorem dL_measuredBy_2 : decode cL_measuredBy 2 = .ok (.aload_n 0, 1) := by decide +kernel
theorem dL_measuredBy_3 : decode cL_measuredBy 3 = .ok (.iload_n 1, 1) := by decide +kernel
theorem dL_measuredBy_4 : decode cL_measuredBy 4 = .ok (.invokevirtual 64, 3) := by decide +kernel
theorem dL_measuredBy_7 : decode cL_measuredBy 7 = .ok (.i2l, 1) := by decide +kernel
theorem dL_measuredBy_8 : decode cL_measuredBy 8 = .ok (.lastore, 1) := by decide +kernel
theorem dL_measuredBy_9 : decode cL_measuredBy 9 = .ok (.goto 6, 3) := by decide +kernel
theorem dL_measuredBy_12 : decode cL_measuredBy 12 = .ok (.astore_n 3, 1) := by decide +kernel
theorem dL_measuredBy_13 : decode cL_measuredBy 13 = .ok (.iconst 1, 1) := by decide +kernel
theorem dL_measuredBy_14 : decode cL_measuredBy 14 = .ok (.ireturn, 1) := by decide +kernel
theorem dL_measuredBy_15 : decode cL_measuredBy 15 = .ok (.iconst 0, 1) := by decide +kernel
theorem dL_measuredBy_16 : decode cL_measuredBy 16 = .ok (.ireturn, 1) := by decide +kernel
set_option maxRecDepth 20000 in
theorem ggL_errorOf_X0_errorOf : GoodIn wsL_errorOf wsX0_errorOf := goodIn_ca (goodIn_r _ [6, 7, 8, 9, 5, 10, 11, 12, 13, 14, 15, 16, 17, 18, 19, 20, 21, 22, 23, 24, 25, 26, 27, 28, 29, 30, 31, 32, 33, 34, 35, 36, 37, 38, 39, 40, 41, 42, 43, 44, 45, 46, 47, 48, 49, 50, 51, 52, 53, 54] (by decide +kernel) (by decide +kernel)) (goodIn_sub (fun _ h => List.mem_cons_of_mem _ (List.mem_append_right _ h)) (by decide +kernel))
set_option maxRecDepth 20000 in
theorem gL_errorOf_X0_errorOf : GoodIn wsL_errorOf (wsV RL 67 RX0 yX0_errorOf wsX0_errorOf) := goodIn_app (goodIn_of _ (by decide +kernel)) ggL_errorOf_X0_errorOf
theorem dL_errorOf_0 : decode cL_errorOf 0 = .ok (.aload_n 2, 1) := by decide +kernel
theorem dL_errorOf_1 : decode cL_errorOf 1 = .ok (.iconst 0, 1) := by decide +kernel
theorem dL_errorOf_2 : decode cL_errorOf 2 = .ok (.aload_n 0, 1) := by decide +kernel
theorem dL_errorOf_3 : decode cL_errorOf 3 = .ok (.iload_n 1, 1) := by decide +kernel
theorem dL_errorOf_4 : decode cL_errorOf 4 = .ok (.invokevirtual 67, 3) := by decide +kernel
theorem dL_errorOf_7 : decode cL_errorOf 7 = .ok (.i2l, 1) := by decide +kernel
theorem dL_errorOf_8 : decode cL_errorOf 8 = .ok (.lastore, 1) := by decide +kernel
theorem dL_errorOf_9 : decode cL_errorOf 9 = .ok (.goto 6, 3) := by decide +kernel
theorem dL_errorOf_12 : decode cL_errorOf 12 = .ok (.astore_n 3, 1) := by decide +kernel
theorem dL_errorOf_13 : decode cL_errorOf 13 = .ok (.iconst 1, 1) := by decide +kernel
theorem dL_errorOf_14 : decode cL_errorOf 14 = .ok (.ireturn, 1) := by decide +kernel
theorem dL_errorOf_15 : decode cL_errorOf 15 = .ok (.iconst 0, 1) := by decide +kernel
theorem dL_errorOf_16 : decode cL_errorOf 16 = .ok (.ireturn, 1) := by decide +kernel
set_option maxRecDepth 20000 in
theorem ggL_nextTick_X0_nextTick : GoodIn wsL_nextTick wsX0_nextTick := goodIn_ca (goodIn_r _ [6, 7, 8, 9, 10, 5, 11, 12, 13, 14, 15, 16, 17, 18, 19, 20, 21, 22, 23, 24, 25, 26, 27, 28, 29, 30, 31, 32, 33, 34, 35, 36, 37, 38, 39, 40, 41, 42] (by decide +kernel) (by decide +kernel)) (goodIn_sub (fun _ h => List.mem_cons_of_mem _ (List.mem_append_right _ h)) (by decide +kernel))
set_option maxRecDepth 20000 in
theorem gL_nextTick_X0_nextTick : GoodIn wsL_nextTick (wsV RL 70 RX0 yX0_nextTick wsX0_nextTick) := goodIn_app (goodIn_of _ (by decide +kernel)) ggL_nextTick_X0_nextTick
theorem dL_nextTick_0 : decode cL_nextTick 0 = .ok (.aload_n 2, 1) := by decide +kernel
theorem dL_nextTick_1 : decode cL_nextTick 1 = .ok (.iconst 0, 1) := by decide +kernel
theorem dL_nextTick_2 : decode cL_nextTick 2 = .ok (.aload_n 0, 1) := by decide +kernel
theorem dL_nextTick_3 : decode cL_nextTick 3 = .ok (.iload_n 1, 1) := by decide +kernel
theorem dL_nextTick_4 : decode cL_nextTick 4 = .ok (.invokevirtual 70, 3) := by decide +kernel
theorem dL_nextTick_7 : decode cL_nextTick 7 = .ok (.i2l, 1) := by decide +kernel
theorem dL_nextTick_8 : decode cL_nextTick 8 = .ok (.lastore, 1) := by decide +kernel
theorem dL_nextTick_9 : decode cL_nextTick 9 = .ok (.goto 6, 3) := by decide +kernel
theorem dL_nextTick_12 : decode cL_nextTick 12 = .ok (.astore_n 3, 1) := by decide +kernel
theorem dL_nextTick_13 : decode cL_nextTick 13 = .ok (.iconst 1, 1) := by decide +kernel
theorem dL_nextTick_14 : decode cL_nextTick 14 = .ok (.ireturn, 1) := by decide +kernel
theorem dL_nextTick_15 : decode cL_nextTick 15 = .ok (.iconst 0, 1) := by decide +kernel
theorem dL_nextTick_16 : decode cL_nextTick 16 = .ok (.ireturn, 1) := by decide +kernel
