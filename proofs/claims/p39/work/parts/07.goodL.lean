set_option maxRecDepth 20000 in
theorem ggL_law_X0_init : GoodIn wsL_law wsX0_init := goodIn_r _ [9, 10, 11, 12, 13, 14, 15, 16, 17, 18, 19, 20, 21, 22, 23, 603, 604, 605, 606, 607, 608, 609, 610, 611, 612, 613, 614, 615, 616, 617, 618, 619] (by decide +kernel) (by decide +kernel)
set_option maxRecDepth 20000 in
theorem gL_law_X0_init : GoodIn wsL_law (wsX0_init) := ggL_law_X0_init
set_option maxRecDepth 20000 in
theorem ggL_law_X1_init : GoodIn wsL_law wsX1_init := goodIn_r _ [26, 27, 11, 12, 13, 28, 29, 30, 31, 32, 33, 34, 35, 36, 620, 621, 622, 623, 624, 625, 626, 627, 628, 629, 630, 631, 632, 633, 634, 635, 636] (by decide +kernel) (by decide +kernel)
set_option maxRecDepth 20000 in
theorem gL_law_X1_init : GoodIn wsL_law (wsX1_init) := ggL_law_X1_init
set_option maxRecDepth 20000 in
theorem ggL_law_L_addStick : GoodIn wsL_law wsL_addStick := goodIn_ca (goodIn_ca (goodIn_r _ [40, 41, 42, 43, 44, 45, 2, 46, 47, 48, 49, 50, 51, 14, 603, 604, 605, 606, 607, 608, 609, 610, 611, 612, 613, 614, 615, 616, 617, 618, 619] (by decide +kernel) (by decide +kernel)) (goodIn_sub (fun _ h => List.mem_append_left _ (List.mem_append_left _ (List.mem_append_right _ h))) (by decide +kernel))) (goodIn_sub (fun _ h => List.mem_append_left _ (List.mem_append_right _ h)) (by decide +kernel))
set_option maxRecDepth 20000 in
theorem gL_law_L_addStick : GoodIn wsL_law (va_wsS RL 77 yL_addStick wsL_addStick) := goodIn_app (goodIn_of _ (by decide +kernel)) ggL_law_L_addStick
set_option maxRecDepth 20000 in
theorem ggL_law_X1_addStick : GoodIn wsL_law wsX1_addStick := goodIn_r _ [55, 56, 57, 28, 58, 59, 5, 60, 61, 62, 63, 64, 620, 621, 622, 623, 624, 625, 626, 627, 628, 629, 630, 631, 632, 633, 634, 635, 636] (by decide +kernel) (by decide +kernel)
set_option maxRecDepth 20000 in
theorem gL_law_X1_addStick : GoodIn wsL_law (wsV RL 82 RX1 yX1_addStick wsX1_addStick) := goodIn_app (goodIn_of _ (by decide +kernel)) ggL_law_X1_addStick
set_option maxRecDepth 20000 in
theorem ggL_law_X1_thrown : GoodIn wsL_law wsX1_thrown := goodIn_r _ [68, 56, 620, 621, 622, 623, 624, 625, 626, 627, 628, 629, 630, 631, 632, 633, 634, 635, 636] (by decide +kernel) (by decide +kernel)
set_option maxRecDepth 20000 in
theorem gL_law_X1_thrown : GoodIn wsL_law (wsV RL 83 RX1 yX1_thrown wsX1_thrown) := goodIn_app (goodIn_of _ (by decide +kernel)) ggL_law_X1_thrown
set_option maxRecDepth 20000 in
theorem ggL_law_L_addNap : GoodIn wsL_law wsL_addNap := goodIn_ca (goodIn_ca (goodIn_r _ [71, 41, 42, 72, 73, 74, 2, 75, 47, 48, 49, 50, 76, 15, 16, 77, 78, 79, 80, 17, 81, 82, 83, 84, 603, 604, 605, 606, 607, 608, 609, 610, 611, 612, 613, 614, 615, 616, 617, 618, 619] (by decide +kernel) (by decide +kernel)) (goodIn_sub (fun _ h => List.mem_append_left _ (List.mem_append_left _ (List.mem_append_right _ h))) (by decide +kernel))) (goodIn_sub (fun _ h => List.mem_append_left _ (List.mem_append_right _ h)) (by decide +kernel))
set_option maxRecDepth 20000 in
theorem gL_law_L_addNap : GoodIn wsL_law (va_wsS RL 87 yL_addNap wsL_addNap) := goodIn_app (goodIn_of _ (by decide +kernel)) ggL_law_L_addNap
set_option maxRecDepth 20000 in
theorem ggL_law_X1_addNap : GoodIn wsL_law wsX1_addNap := goodIn_r _ [88, 56, 89, 29, 30, 61, 62, 63, 5, 64, 90, 91, 92, 93, 31, 620, 621, 622, 623, 624, 625, 626, 627, 628, 629, 630, 631, 632, 633, 634, 635, 636] (by decide +kernel) (by decide +kernel)
set_option maxRecDepth 20000 in
theorem gL_law_X1_addNap : GoodIn wsL_law (wsV RL 90 RX1 yX1_addNap wsX1_addNap) := goodIn_app (goodIn_of _ (by decide +kernel)) ggL_law_X1_addNap
set_option maxRecDepth 20000 in
theorem ggL_law_L_giveUp : GoodIn wsL_law wsL_giveUp := goodIn_ca (goodIn_r _ [96, 97, 98, 99, 100, 2, 101, 76, 15, 16, 102, 103, 104, 105, 106, 107, 77, 78, 79, 80, 17, 81, 82, 83, 84, 603, 604, 605, 606, 607, 608, 609, 610, 611, 612, 613, 614, 615, 616, 617, 618, 619] (by decide +kernel) (by decide +kernel)) (goodIn_sub (fun _ h => List.mem_append_right _ h) (by decide +kernel))
set_option maxRecDepth 20000 in
theorem gL_law_L_giveUp : GoodIn wsL_law (va_wsS RL 91 yL_giveUp wsL_giveUp) := goodIn_app (goodIn_of _ (by decide +kernel)) ggL_law_L_giveUp
set_option maxRecDepth 20000 in
theorem ggL_law_X1_giveUp : GoodIn wsL_law wsX1_giveUp := goodIn_r _ [111, 56, 89, 29, 30, 112, 113, 114, 5, 115, 58, 59, 60, 61, 62, 63, 64, 90, 91, 92, 93, 31, 620, 621, 622, 623, 624, 625, 626, 627, 628, 629, 630, 631, 632, 633, 634, 635, 636] (by decide +kernel) (by decide +kernel)
set_option maxRecDepth 20000 in
theorem gL_law_X1_giveUp : GoodIn wsL_law (wsV RL 93 RX1 yX1_giveUp wsX1_giveUp) := goodIn_app (goodIn_of _ (by decide +kernel)) ggL_law_X1_giveUp
set_option maxRecDepth 20000 in
theorem ggL_law_L_addBee : GoodIn wsL_law wsL_addBee := goodIn_ca (goodIn_ca (goodIn_r _ [118, 41, 42, 119, 120, 121, 2, 122, 47, 48, 49, 50, 123, 18, 19, 20, 124, 125, 126, 127, 603, 604, 605, 606, 607, 608, 609, 610, 611, 612, 613, 614, 615, 616, 617, 618, 619] (by decide +kernel) (by decide +kernel)) (goodIn_sub (fun _ h => List.mem_append_left _ (List.mem_append_left _ (List.mem_append_right _ h))) (by decide +kernel))) (goodIn_sub (fun _ h => List.mem_append_left _ (List.mem_append_right _ h)) (by decide +kernel))
set_option maxRecDepth 20000 in
theorem gL_law_L_addBee : GoodIn wsL_law (va_wsS RL 94 yL_addBee wsL_addBee) := goodIn_app (goodIn_of _ (by decide +kernel)) ggL_law_L_addBee
set_option maxRecDepth 20000 in
theorem ggL_law_X1_addBee : GoodIn wsL_law wsX1_addBee := goodIn_r _ [131, 56, 132, 32, 33, 58, 59, 5, 60, 61, 62, 63, 64, 620, 621, 622, 623, 624, 625, 626, 627, 628, 629, 630, 631, 632, 633, 634, 635, 636] (by decide +kernel) (by decide +kernel)
set_option maxRecDepth 20000 in
theorem gL_law_X1_addBee : GoodIn wsL_law (wsV RL 96 RX1 yX1_addBee wsX1_addBee) := goodIn_app (goodIn_of _ (by decide +kernel)) ggL_law_X1_addBee
set_option maxRecDepth 20000 in
theorem ggL_law_L_setTea : GoodIn wsL_law wsL_setTea := goodIn_ca (goodIn_r _ [135, 41, 136, 137, 138, 2, 139, 47, 48, 21, 22, 23, 140, 141, 142, 143, 144, 145, 146, 147, 148, 149, 150, 151, 152, 153, 603, 604, 605, 606, 607, 608, 609, 610, 611, 612, 613, 614, 615, 616, 617, 618, 619] (by decide +kernel) (by decide +kernel)) (goodIn_sub (fun _ h => List.mem_append_left _ (List.mem_append_left _ (List.mem_append_right _ h))) (by decide +kernel))
set_option maxRecDepth 20000 in
theorem gL_law_L_setTea : GoodIn wsL_law (va_wsS RL 97 yL_setTea wsL_setTea) := goodIn_app (goodIn_of _ (by decide +kernel)) ggL_law_L_setTea
set_option maxRecDepth 20000 in
theorem ggL_law_X1_setTea : GoodIn wsL_law wsX1_setTea := goodIn_r _ [157, 56, 34, 35, 36, 158, 159, 151, 152, 153, 160, 58, 59, 5, 60, 61, 62, 63, 64, 620, 621, 622, 623, 624, 625, 626, 627, 628, 629, 630, 631, 632, 633, 634, 635, 636] (by decide +kernel) (by decide +kernel)
set_option maxRecDepth 20000 in
theorem gL_law_X1_setTea : GoodIn wsL_law (wsV RL 100 RX1 yX1_setTea wsX1_setTea) := goodIn_app (goodIn_of _ (by decide +kernel)) ggL_law_X1_setTea
set_option maxRecDepth 20000 in
theorem ggL_law_L_pass : GoodIn wsL_law wsL_pass := goodIn_ca (goodIn_ca (goodIn_r _ [163, 41, 42, 164, 165, 166, 2, 167, 47, 48, 49, 50, 168, 140, 22, 169, 170, 171, 172, 17, 23, 20, 150, 151, 152, 153, 141, 142, 143, 144, 145, 146, 147, 148, 149, 21, 603, 604, 605, 606, 607, 608, 609, 610, 611, 612, 613, 614, 615, 616, 617, 618, 619] (by decide +kernel) (by decide +kernel)) (goodIn_sub (fun _ h => List.mem_append_left _ (List.mem_append_left _ (List.mem_append_right _ h))) (by decide +kernel))) (goodIn_sub (fun _ h => List.mem_append_left _ (List.mem_append_right _ h)) (by decide +kernel))
set_option maxRecDepth 20000 in
theorem gL_law_L_pass : GoodIn wsL_law (va_wsS RL 101 yL_pass wsL_pass) := goodIn_app (goodIn_of _ (by decide +kernel)) ggL_law_L_pass
set_option maxRecDepth 20000 in
theorem ggL_law_X1_pass : GoodIn wsL_law wsX1_pass := goodIn_r _ [176, 56, 177, 58, 59, 5, 60, 61, 62, 63, 64, 178, 179, 180, 181, 158, 35, 34, 182, 183, 152, 184, 160, 185, 186, 187, 188, 132, 36, 189, 190, 191, 192, 31, 193, 194, 195, 196, 32, 33, 620, 621, 622, 623, 624, 625, 626, 627, 628, 629, 630, 631, 632, 633, 634, 635, 636] (by decide +kernel) (by decide +kernel)
set_option maxRecDepth 20000 in
theorem gL_law_X1_pass : GoodIn wsL_law (wsV RL 103 RX1 yX1_pass wsX1_pass) := goodIn_app (goodIn_of _ (by decide +kernel)) ggL_law_X1_pass
set_option maxRecDepth 20000 in
theorem ggL_law_X0_begin : GoodIn wsL_law wsX0_begin := goodIn_r _ [200, 168, 140, 145, 201, 603, 604, 605, 606, 607, 608, 609, 610, 611, 612, 613, 614, 615, 616, 617, 618, 619] (by decide +kernel) (by decide +kernel)
set_option maxRecDepth 20000 in
theorem gL_law_X0_begin : GoodIn wsL_law (wsV RL 104 RX0 yX0_begin wsX0_begin) := goodIn_app (goodIn_of _ (by decide +kernel)) ggL_law_X0_begin
set_option maxRecDepth 20000 in
theorem ggL_law_X1_begin : GoodIn wsL_law wsX1_begin := goodIn_r _ [205, 56, 206, 177, 158, 160, 620, 621, 622, 623, 624, 625, 626, 627, 628, 629, 630, 631, 632, 633, 634, 635, 636] (by decide +kernel) (by decide +kernel)
set_option maxRecDepth 20000 in
theorem gL_law_X1_begin : GoodIn wsL_law (wsV RL 107 RX1 yX1_begin wsX1_begin) := goodIn_app (goodIn_of _ (by decide +kernel)) ggL_law_X1_begin
set_option maxRecDepth 20000 in
theorem ggL_law_X0_afternoon : GoodIn wsL_law wsX0_afternoon := goodIn_r _ [210, 201, 603, 604, 605, 606, 607, 608, 609, 610, 611, 612, 613, 614, 615, 616, 617, 618, 619] (by decide +kernel) (by decide +kernel)
set_option maxRecDepth 20000 in
theorem gL_law_X0_afternoon : GoodIn wsL_law (wsV RL 108 RX0 yX0_afternoon wsX0_afternoon) := goodIn_app (goodIn_of _ (by decide +kernel)) ggL_law_X0_afternoon
set_option maxRecDepth 20000 in
theorem ggL_law_X1_afternoon : GoodIn wsL_law wsX1_afternoon := goodIn_r _ [214, 206, 215, 216, 217, 5, 218, 56, 620, 621, 622, 623, 624, 625, 626, 627, 628, 629, 630, 631, 632, 633, 634, 635, 636] (by decide +kernel) (by decide +kernel)
set_option maxRecDepth 20000 in
theorem gL_law_X1_afternoon : GoodIn wsL_law (wsV RL 111 RX1 yX1_afternoon wsX1_afternoon) := goodIn_app (goodIn_of _ (by decide +kernel)) ggL_law_X1_afternoon
set_option maxRecDepth 20000 in
theorem ggL_law_X0_minute : GoodIn wsL_law wsX0_minute := goodIn_r _ [222, 168, 603, 604, 605, 606, 607, 608, 609, 610, 611, 612, 613, 614, 615, 616, 617, 618, 619] (by decide +kernel) (by decide +kernel)
set_option maxRecDepth 20000 in
theorem gL_law_X0_minute : GoodIn wsL_law (wsV RL 112 RX0 yX0_minute wsX0_minute) := goodIn_app (goodIn_of _ (by decide +kernel)) ggL_law_X0_minute
set_option maxRecDepth 20000 in
theorem ggL_law_X1_minute : GoodIn wsL_law wsX1_minute := goodIn_r _ [226, 177, 215, 216, 217, 5, 218, 56, 620, 621, 622, 623, 624, 625, 626, 627, 628, 629, 630, 631, 632, 633, 634, 635, 636] (by decide +kernel) (by decide +kernel)
set_option maxRecDepth 20000 in
theorem gL_law_X1_minute : GoodIn wsL_law (wsV RL 115 RX1 yX1_minute wsX1_minute) := goodIn_app (goodIn_of _ (by decide +kernel)) ggL_law_X1_minute
set_option maxRecDepth 20000 in
theorem ggL_law_L_isAsleep : GoodIn wsL_law wsL_isAsleep := goodIn_ca (goodIn_r _ [229, 41, 230, 231, 232, 2, 233, 17, 234, 235, 236, 237, 47, 48, 603, 604, 605, 606, 607, 608, 609, 610, 611, 612, 613, 614, 615, 616, 617, 618, 619] (by decide +kernel) (by decide +kernel)) (goodIn_sub (fun _ h => List.mem_append_left _ (List.mem_append_left _ (List.mem_append_right _ h))) (by decide +kernel))
set_option maxRecDepth 20000 in
theorem gL_law_L_isAsleep : GoodIn wsL_law (va_wsS RL 116 yL_isAsleep wsL_isAsleep) := goodIn_app (goodIn_of _ (by decide +kernel)) ggL_law_L_isAsleep
set_option maxRecDepth 20000 in
theorem ggL_law_X1_isAsleep : GoodIn wsL_law wsX1_isAsleep := goodIn_r _ [241, 56, 242, 243, 5, 244, 58, 59, 60, 189, 190, 191, 192, 31, 620, 621, 622, 623, 624, 625, 626, 627, 628, 629, 630, 631, 632, 633, 634, 635, 636] (by decide +kernel) (by decide +kernel)
set_option maxRecDepth 20000 in
theorem gL_law_X1_isAsleep : GoodIn wsL_law (wsV RL 118 RX1 yX1_isAsleep wsX1_isAsleep) := goodIn_app (goodIn_of _ (by decide +kernel)) ggL_law_X1_isAsleep
set_option maxRecDepth 20000 in
theorem ggL_law_X0_awakeMinutes : GoodIn wsL_law wsX0_awakeMinutes := goodIn_r _ [248, 168, 17, 603, 604, 605, 606, 607, 608, 609, 610, 611, 612, 613, 614, 615, 616, 617, 618, 619] (by decide +kernel) (by decide +kernel)
set_option maxRecDepth 20000 in
theorem gL_law_X0_awakeMinutes : GoodIn wsL_law (wsV RL 119 RX0 yX0_awakeMinutes wsX0_awakeMinutes) := goodIn_app (goodIn_of _ (by decide +kernel)) ggL_law_X0_awakeMinutes
set_option maxRecDepth 20000 in
theorem ggL_law_X1_awakeMinutes : GoodIn wsL_law wsX1_awakeMinutes := goodIn_r _ [252, 177, 253, 254, 255, 5, 256, 189, 190, 191, 192, 31, 215, 216, 217, 218, 56, 620, 621, 622, 623, 624, 625, 626, 627, 628, 629, 630, 631, 632, 633, 634, 635, 636] (by decide +kernel) (by decide +kernel)
set_option maxRecDepth 20000 in
theorem gL_law_X1_awakeMinutes : GoodIn wsL_law (wsV RL 122 RX1 yX1_awakeMinutes wsX1_awakeMinutes) := goodIn_app (goodIn_of _ (by decide +kernel)) ggL_law_X1_awakeMinutes
set_option maxRecDepth 20000 in
theorem ggL_law_X0_sleptMinutes : GoodIn wsL_law wsX0_sleptMinutes := goodIn_r _ [260, 168, 261, 246, 247, 2, 248, 17, 603, 604, 605, 606, 607, 608, 609, 610, 611, 612, 613, 614, 615, 616, 617, 618, 619] (by decide +kernel) (by decide +kernel)
set_option maxRecDepth 20000 in
theorem gL_law_X0_sleptMinutes : GoodIn wsL_law (wsV RL 123 RX0 yX0_sleptMinutes wsX0_sleptMinutes) := goodIn_app (goodIn_of _ (by decide +kernel)) ggL_law_X0_sleptMinutes
set_option maxRecDepth 20000 in
theorem ggL_law_X1_sleptMinutes : GoodIn wsL_law wsX1_sleptMinutes := goodIn_r _ [265, 177, 253, 254, 255, 5, 256, 189, 190, 191, 192, 31, 215, 216, 217, 218, 56, 620, 621, 622, 623, 624, 625, 626, 627, 628, 629, 630, 631, 632, 633, 634, 635, 636] (by decide +kernel) (by decide +kernel)
set_option maxRecDepth 20000 in
theorem gL_law_X1_sleptMinutes : GoodIn wsL_law (wsV RL 126 RX1 yX1_sleptMinutes wsX1_sleptMinutes) := goodIn_app (goodIn_of _ (by decide +kernel)) ggL_law_X1_sleptMinutes
set_option maxRecDepth 20000 in
theorem ggL_law_X0_longestAwake : GoodIn wsL_law wsX0_longestAwake := goodIn_r _ [269, 17, 150, 151, 152, 153, 603, 604, 605, 606, 607, 608, 609, 610, 611, 612, 613, 614, 615, 616, 617, 618, 619] (by decide +kernel) (by decide +kernel)
set_option maxRecDepth 20000 in
theorem gL_law_X0_longestAwake : GoodIn wsL_law (wsV RL 127 RX0 yX0_longestAwake wsX0_longestAwake) := goodIn_app (goodIn_of _ (by decide +kernel)) ggL_law_X0_longestAwake
set_option maxRecDepth 20000 in
theorem ggL_law_X1_longestAwake : GoodIn wsL_law wsX1_longestAwake := goodIn_r _ [273, 274, 275, 276, 5, 277, 159, 151, 152, 153, 189, 190, 191, 192, 31, 215, 216, 217, 218, 56, 620, 621, 622, 623, 624, 625, 626, 627, 628, 629, 630, 631, 632, 633, 634, 635, 636] (by decide +kernel) (by decide +kernel)
set_option maxRecDepth 20000 in
theorem gL_law_X1_longestAwake : GoodIn wsL_law (wsV RL 130 RX1 yX1_longestAwake wsX1_longestAwake) := goodIn_app (goodIn_of _ (by decide +kernel)) ggL_law_X1_longestAwake
set_option maxRecDepth 20000 in
theorem ggL_law_X0_sticks : GoodIn wsL_law wsX0_sticks := goodIn_r _ [281, 51, 603, 604, 605, 606, 607, 608, 609, 610, 611, 612, 613, 614, 615, 616, 617, 618, 619] (by decide +kernel) (by decide +kernel)
set_option maxRecDepth 20000 in
theorem gL_law_X0_sticks : GoodIn wsL_law (wsV RL 131 RX0 yX0_sticks wsX0_sticks) := goodIn_app (goodIn_of _ (by decide +kernel)) ggL_law_X0_sticks
set_option maxRecDepth 20000 in
theorem ggL_law_X1_sticks : GoodIn wsL_law wsX1_sticks := goodIn_r _ [285, 57, 215, 216, 217, 5, 218, 56, 620, 621, 622, 623, 624, 625, 626, 627, 628, 629, 630, 631, 632, 633, 634, 635, 636] (by decide +kernel) (by decide +kernel)
set_option maxRecDepth 20000 in
theorem gL_law_X1_sticks : GoodIn wsL_law (wsV RL 134 RX1 yX1_sticks wsX1_sticks) := goodIn_app (goodIn_of _ (by decide +kernel)) ggL_law_X1_sticks
set_option maxRecDepth 20000 in
theorem ggL_law_L_shadowAt : GoodIn wsL_law wsL_shadowAt := goodIn_ca (goodIn_ca (goodIn_r _ [288, 97, 41, 289, 290, 291, 2, 292, 293, 294, 295, 296, 106, 107, 51, 234, 235, 236, 237, 47, 48, 297, 298, 299, 300, 14, 603, 604, 605, 606, 607, 608, 609, 610, 611, 612, 613, 614, 615, 616, 617, 618, 619] (by decide +kernel) (by decide +kernel)) (goodIn_sub (fun _ h => List.mem_append_right _ h) (by decide +kernel))) (goodIn_sub (fun _ h => List.mem_append_left _ (List.mem_append_left _ (List.mem_append_right _ h))) (by decide +kernel))
set_option maxRecDepth 20000 in
theorem gL_law_L_shadowAt : GoodIn wsL_law (va_wsS RL 135 yL_shadowAt wsL_shadowAt) := goodIn_app (goodIn_of _ (by decide +kernel)) ggL_law_L_shadowAt
set_option maxRecDepth 20000 in
theorem ggL_law_X1_shadowAt : GoodIn wsL_law wsX1_shadowAt := goodIn_r _ [304, 56, 305, 306, 307, 5, 308, 57, 58, 59, 60, 61, 62, 63, 64, 242, 243, 244, 309, 310, 311, 312, 28, 620, 621, 622, 623, 624, 625, 626, 627, 628, 629, 630, 631, 632, 633, 634, 635, 636] (by decide +kernel) (by decide +kernel)
set_option maxRecDepth 20000 in
theorem gL_law_X1_shadowAt : GoodIn wsL_law (wsV RL 137 RX1 yX1_shadowAt wsX1_shadowAt) := goodIn_app (goodIn_of _ (by decide +kernel)) ggL_law_X1_shadowAt
set_option maxRecDepth 20000 in
theorem ggL_law_L_minuteOfShadow : GoodIn wsL_law wsL_minuteOfShadow := goodIn_ca (goodIn_r _ [315, 97, 316, 317, 318, 2, 319, 293, 294, 295, 296, 106, 107, 51, 297, 298, 299, 300, 14, 603, 604, 605, 606, 607, 608, 609, 610, 611, 612, 613, 614, 615, 616, 617, 618, 619] (by decide +kernel) (by decide +kernel)) (goodIn_sub (fun _ h => List.mem_append_right _ h) (by decide +kernel))
set_option maxRecDepth 20000 in
theorem gL_law_L_minuteOfShadow : GoodIn wsL_law (va_wsS RL 138 yL_minuteOfShadow wsL_minuteOfShadow) := goodIn_app (goodIn_of _ (by decide +kernel)) ggL_law_L_minuteOfShadow
set_option maxRecDepth 20000 in
theorem ggL_law_X1_minuteOfShadow : GoodIn wsL_law wsX1_minuteOfShadow := goodIn_r _ [323, 56, 305, 306, 307, 5, 308, 57, 58, 59, 60, 61, 62, 63, 64, 309, 310, 311, 312, 28, 620, 621, 622, 623, 624, 625, 626, 627, 628, 629, 630, 631, 632, 633, 634, 635, 636] (by decide +kernel) (by decide +kernel)
set_option maxRecDepth 20000 in
theorem gL_law_X1_minuteOfShadow : GoodIn wsL_law (wsV RL 140 RX1 yX1_minuteOfShadow wsX1_minuteOfShadow) := goodIn_app (goodIn_of _ (by decide +kernel)) ggL_law_X1_minuteOfShadow
set_option maxRecDepth 20000 in
theorem ggL_law_L_allShadows : GoodIn wsL_law wsL_allShadows := goodIn_ca (goodIn_r _ [326, 41, 327, 328, 329, 2, 330, 234, 235, 236, 237, 47, 48, 331, 332, 333, 334, 51, 297, 298, 299, 300, 14, 603, 604, 605, 606, 607, 608, 609, 610, 611, 612, 613, 614, 615, 616, 617, 618, 619] (by decide +kernel) (by decide +kernel)) (goodIn_sub (fun _ h => List.mem_append_left _ (List.mem_append_left _ (List.mem_append_right _ h))) (by decide +kernel))
set_option maxRecDepth 20000 in
theorem gL_law_L_allShadows : GoodIn wsL_law (va_wsS RL 141 yL_allShadows wsL_allShadows) := goodIn_app (goodIn_of _ (by decide +kernel)) ggL_law_L_allShadows
set_option maxRecDepth 20000 in
theorem ggL_law_X1_allShadows : GoodIn wsL_law wsX1_allShadows := goodIn_r _ [338, 56, 57, 242, 243, 5, 244, 58, 59, 60, 61, 62, 63, 64, 309, 310, 311, 312, 28, 620, 621, 622, 623, 624, 625, 626, 627, 628, 629, 630, 631, 632, 633, 634, 635, 636] (by decide +kernel) (by decide +kernel)
set_option maxRecDepth 20000 in
theorem gL_law_X1_allShadows : GoodIn wsL_law (wsV RL 143 RX1 yX1_allShadows wsX1_allShadows) := goodIn_app (goodIn_of _ (by decide +kernel)) ggL_law_X1_allShadows
set_option maxRecDepth 20000 in
theorem ggL_law_X0_naps : GoodIn wsL_law wsX0_naps := goodIn_r _ [342, 76, 603, 604, 605, 606, 607, 608, 609, 610, 611, 612, 613, 614, 615, 616, 617, 618, 619] (by decide +kernel) (by decide +kernel)
set_option maxRecDepth 20000 in
theorem gL_law_X0_naps : GoodIn wsL_law (wsV RL 144 RX0 yX0_naps wsX0_naps) := goodIn_app (goodIn_of _ (by decide +kernel)) ggL_law_X0_naps
set_option maxRecDepth 20000 in
theorem ggL_law_X1_naps : GoodIn wsL_law wsX1_naps := goodIn_r _ [346, 89, 215, 216, 217, 5, 218, 56, 620, 621, 622, 623, 624, 625, 626, 627, 628, 629, 630, 631, 632, 633, 634, 635, 636] (by decide +kernel) (by decide +kernel)
set_option maxRecDepth 20000 in
theorem gL_law_X1_naps : GoodIn wsL_law (wsV RL 147 RX1 yX1_naps wsX1_naps) := goodIn_app (goodIn_of _ (by decide +kernel)) ggL_law_X1_naps
set_option maxRecDepth 20000 in
theorem ggL_law_L_startOf : GoodIn wsL_law wsL_startOf := goodIn_ca (goodIn_r _ [349, 97, 350, 351, 352, 2, 353, 15, 102, 103, 104, 105, 106, 107, 76, 603, 604, 605, 606, 607, 608, 609, 610, 611, 612, 613, 614, 615, 616, 617, 618, 619] (by decide +kernel) (by decide +kernel)) (goodIn_sub (fun _ h => List.mem_append_right _ h) (by decide +kernel))
set_option maxRecDepth 20000 in
theorem gL_law_L_startOf : GoodIn wsL_law (va_wsS RL 148 yL_startOf wsL_startOf) := goodIn_app (goodIn_of _ (by decide +kernel)) ggL_law_L_startOf
set_option maxRecDepth 20000 in
theorem ggL_law_X1_startOf : GoodIn wsL_law wsX1_startOf := goodIn_r _ [357, 56, 29, 112, 113, 114, 5, 115, 89, 58, 59, 60, 61, 62, 63, 64, 620, 621, 622, 623, 624, 625, 626, 627, 628, 629, 630, 631, 632, 633, 634, 635, 636] (by decide +kernel) (by decide +kernel)
set_option maxRecDepth 20000 in
theorem gL_law_X1_startOf : GoodIn wsL_law (wsV RL 150 RX1 yX1_startOf wsX1_startOf) := goodIn_app (goodIn_of _ (by decide +kernel)) ggL_law_X1_startOf
set_option maxRecDepth 20000 in
theorem ggL_law_L_lengthOf : GoodIn wsL_law wsL_lengthOf := goodIn_ca (goodIn_r _ [360, 97, 361, 362, 363, 2, 364, 16, 15, 102, 103, 104, 105, 106, 107, 76, 603, 604, 605, 606, 607, 608, 609, 610, 611, 612, 613, 614, 615, 616, 617, 618, 619] (by decide +kernel) (by decide +kernel)) (goodIn_sub (fun _ h => List.mem_append_right _ h) (by decide +kernel))
set_option maxRecDepth 20000 in
theorem gL_law_L_lengthOf : GoodIn wsL_law (va_wsS RL 151 yL_lengthOf wsL_lengthOf) := goodIn_app (goodIn_of _ (by decide +kernel)) ggL_law_L_lengthOf
set_option maxRecDepth 20000 in
theorem ggL_law_X1_lengthOf : GoodIn wsL_law wsX1_lengthOf := goodIn_r _ [368, 56, 30, 29, 112, 113, 114, 5, 115, 89, 58, 59, 60, 61, 62, 63, 64, 620, 621, 622, 623, 624, 625, 626, 627, 628, 629, 630, 631, 632, 633, 634, 635, 636] (by decide +kernel) (by decide +kernel)
set_option maxRecDepth 20000 in
theorem gL_law_X1_lengthOf : GoodIn wsL_law (wsV RL 153 RX1 yX1_lengthOf wsX1_lengthOf) := goodIn_app (goodIn_of _ (by decide +kernel)) ggL_law_X1_lengthOf
set_option maxRecDepth 20000 in
theorem ggL_law_L_napsAt : GoodIn wsL_law wsL_napsAt := goodIn_ca (goodIn_r _ [371, 41, 372, 373, 374, 2, 375, 17, 234, 235, 236, 237, 47, 48, 603, 604, 605, 606, 607, 608, 609, 610, 611, 612, 613, 614, 615, 616, 617, 618, 619] (by decide +kernel) (by decide +kernel)) (goodIn_sub (fun _ h => List.mem_append_left _ (List.mem_append_left _ (List.mem_append_right _ h))) (by decide +kernel))
set_option maxRecDepth 20000 in
theorem gL_law_L_napsAt : GoodIn wsL_law (va_wsS RL 154 yL_napsAt wsL_napsAt) := goodIn_app (goodIn_of _ (by decide +kernel)) ggL_law_L_napsAt
set_option maxRecDepth 20000 in
theorem ggL_law_X1_napsAt : GoodIn wsL_law wsX1_napsAt := goodIn_r _ [379, 56, 31, 242, 243, 5, 244, 58, 59, 60, 61, 62, 63, 64, 620, 621, 622, 623, 624, 625, 626, 627, 628, 629, 630, 631, 632, 633, 634, 635, 636] (by decide +kernel) (by decide +kernel)
set_option maxRecDepth 20000 in
theorem gL_law_X1_napsAt : GoodIn wsL_law (wsV RL 156 RX1 yX1_napsAt wsX1_napsAt) := goodIn_app (goodIn_of _ (by decide +kernel)) ggL_law_X1_napsAt
set_option maxRecDepth 20000 in
theorem ggL_law_L_minutesAlone : GoodIn wsL_law wsL_minutesAlone := goodIn_ca (goodIn_r _ [382, 97, 383, 384, 385, 2, 386, 102, 103, 104, 105, 106, 107, 76, 387, 388, 389, 390, 17, 81, 82, 83, 84, 15, 16, 603, 604, 605, 606, 607, 608, 609, 610, 611, 612, 613, 614, 615, 616, 617, 618, 619] (by decide +kernel) (by decide +kernel)) (goodIn_sub (fun _ h => List.mem_append_right _ h) (by decide +kernel))
set_option maxRecDepth 20000 in
theorem gL_law_L_minutesAlone : GoodIn wsL_law (va_wsS RL 157 yL_minutesAlone wsL_minutesAlone) := goodIn_app (goodIn_of _ (by decide +kernel)) ggL_law_L_minutesAlone
set_option maxRecDepth 20000 in
theorem ggL_law_X1_minutesAlone : GoodIn wsL_law wsX1_minutesAlone := goodIn_r _ [394, 56, 112, 113, 114, 5, 115, 89, 58, 59, 60, 395, 396, 397, 398, 29, 30, 31, 61, 62, 63, 64, 620, 621, 622, 623, 624, 625, 626, 627, 628, 629, 630, 631, 632, 633, 634, 635, 636] (by decide +kernel) (by decide +kernel)
set_option maxRecDepth 20000 in
theorem gL_law_X1_minutesAlone : GoodIn wsL_law (wsV RL 159 RX1 yX1_minutesAlone wsX1_minutesAlone) := goodIn_app (goodIn_of _ (by decide +kernel)) ggL_law_X1_minutesAlone
set_option maxRecDepth 20000 in
theorem ggL_law_X0_bees : GoodIn wsL_law wsX0_bees := goodIn_r _ [402, 123, 603, 604, 605, 606, 607, 608, 609, 610, 611, 612, 613, 614, 615, 616, 617, 618, 619] (by decide +kernel) (by decide +kernel)
set_option maxRecDepth 20000 in
theorem gL_law_X0_bees : GoodIn wsL_law (wsV RL 160 RX0 yX0_bees wsX0_bees) := goodIn_app (goodIn_of _ (by decide +kernel)) ggL_law_X0_bees
set_option maxRecDepth 20000 in
theorem ggL_law_X1_bees : GoodIn wsL_law wsX1_bees := goodIn_r _ [406, 132, 215, 216, 217, 5, 218, 56, 620, 621, 622, 623, 624, 625, 626, 627, 628, 629, 630, 631, 632, 633, 634, 635, 636] (by decide +kernel) (by decide +kernel)
set_option maxRecDepth 20000 in
theorem gL_law_X1_bees : GoodIn wsL_law (wsV RL 163 RX1 yX1_bees wsX1_bees) := goodIn_app (goodIn_of _ (by decide +kernel)) ggL_law_X1_bees
set_option maxRecDepth 20000 in
theorem ggL_law_L_ticksOf : GoodIn wsL_law wsL_ticksOf := goodIn_ca (goodIn_r _ [409, 97, 410, 411, 412, 2, 413, 414, 415, 416, 417, 106, 107, 123, 418, 419, 420, 421, 168, 422, 423, 424, 425, 17, 124, 125, 126, 127, 18, 19, 603, 604, 605, 606, 607, 608, 609, 610, 611, 612, 613, 614, 615, 616, 617, 618, 619] (by decide +kernel) (by decide +kernel)) (goodIn_sub (fun _ h => List.mem_append_right _ h) (by decide +kernel))
set_option maxRecDepth 20000 in
theorem gL_law_L_ticksOf : GoodIn wsL_law (va_wsS RL 164 yL_ticksOf wsL_ticksOf) := goodIn_app (goodIn_of _ (by decide +kernel)) ggL_law_L_ticksOf
set_option maxRecDepth 20000 in
theorem ggL_law_X1_ticksOf : GoodIn wsL_law wsX1_ticksOf := goodIn_r _ [429, 56, 430, 431, 432, 5, 433, 132, 58, 59, 60, 434, 435, 436, 437, 177, 193, 194, 195, 196, 32, 33, 189, 190, 191, 192, 31, 61, 62, 63, 64, 620, 621, 622, 623, 624, 625, 626, 627, 628, 629, 630, 631, 632, 633, 634, 635, 636] (by decide +kernel) (by decide +kernel)
set_option maxRecDepth 20000 in
theorem gL_law_X1_ticksOf : GoodIn wsL_law (wsV RL 166 RX1 yX1_ticksOf wsX1_ticksOf) := goodIn_app (goodIn_of _ (by decide +kernel)) ggL_law_X1_ticksOf
set_option maxRecDepth 20000 in
theorem ggL_law_L_measuredBy : GoodIn wsL_law wsL_measuredBy := goodIn_ca (goodIn_r _ [440, 97, 441, 442, 443, 2, 444, 18, 414, 415, 416, 417, 106, 107, 123, 418, 419, 420, 421, 168, 422, 423, 424, 425, 17, 124, 125, 126, 127, 19, 603, 604, 605, 606, 607, 608, 609, 610, 611, 612, 613, 614, 615, 616, 617, 618, 619] (by decide +kernel) (by decide +kernel)) (goodIn_sub (fun _ h => List.mem_append_right _ h) (by decide +kernel))
set_option maxRecDepth 20000 in
theorem gL_law_L_measuredBy : GoodIn wsL_law (va_wsS RL 167 yL_measuredBy wsL_measuredBy) := goodIn_app (goodIn_of _ (by decide +kernel)) ggL_law_L_measuredBy
set_option maxRecDepth 20000 in
theorem ggL_law_X1_measuredBy : GoodIn wsL_law wsX1_measuredBy := goodIn_r _ [448, 56, 32, 430, 431, 432, 5, 433, 132, 58, 59, 60, 434, 435, 436, 437, 177, 193, 194, 195, 196, 33, 189, 190, 191, 192, 31, 61, 62, 63, 64, 620, 621, 622, 623, 624, 625, 626, 627, 628, 629, 630, 631, 632, 633, 634, 635, 636] (by decide +kernel) (by decide +kernel)
set_option maxRecDepth 20000 in
theorem gL_law_X1_measuredBy : GoodIn wsL_law (wsV RL 169 RX1 yX1_measuredBy wsX1_measuredBy) := goodIn_app (goodIn_of _ (by decide +kernel)) ggL_law_X1_measuredBy
set_option maxRecDepth 20000 in
theorem ggL_law_L_errorOf : GoodIn wsL_law wsL_errorOf := goodIn_ca (goodIn_r _ [451, 97, 452, 453, 454, 2, 455, 456, 442, 443, 444, 18, 414, 415, 416, 417, 106, 107, 123, 418, 419, 420, 421, 168, 422, 423, 424, 425, 17, 124, 125, 126, 127, 19, 261, 246, 247, 248, 603, 604, 605, 606, 607, 608, 609, 610, 611, 612, 613, 614, 615, 616, 617, 618, 619] (by decide +kernel) (by decide +kernel)) (goodIn_sub (fun _ h => List.mem_append_right _ h) (by decide +kernel))
set_option maxRecDepth 20000 in
theorem gL_law_L_errorOf : GoodIn wsL_law (va_wsS RL 170 yL_errorOf wsL_errorOf) := goodIn_app (goodIn_of _ (by decide +kernel)) ggL_law_L_errorOf
set_option maxRecDepth 20000 in
theorem ggL_law_X1_errorOf : GoodIn wsL_law wsX1_errorOf := goodIn_r _ [460, 56, 430, 431, 432, 5, 433, 132, 58, 59, 60, 461, 462, 463, 464, 32, 177, 434, 435, 436, 437, 193, 194, 195, 196, 33, 189, 190, 191, 192, 31, 253, 254, 255, 256, 61, 62, 63, 64, 620, 621, 622, 623, 624, 625, 626, 627, 628, 629, 630, 631, 632, 633, 634, 635, 636] (by decide +kernel) (by decide +kernel)
set_option maxRecDepth 20000 in
theorem gL_law_X1_errorOf : GoodIn wsL_law (wsV RL 172 RX1 yX1_errorOf wsX1_errorOf) := goodIn_app (goodIn_of _ (by decide +kernel)) ggL_law_X1_errorOf
set_option maxRecDepth 20000 in
theorem ggL_law_X0_bestBee : GoodIn wsL_law wsX0_bestBee := goodIn_ca (goodIn_r _ [468, 123, 469, 470, 152, 471, 472, 453, 454, 2, 455, 456, 442, 443, 444, 18, 414, 415, 416, 417, 106, 107, 418, 419, 420, 421, 168, 422, 423, 424, 425, 17, 124, 125, 126, 127, 19, 261, 246, 247, 248, 603, 604, 605, 606, 607, 608, 609, 610, 611, 612, 613, 614, 615, 616, 617, 618, 619] (by decide +kernel) (by decide +kernel)) (goodIn_sub (fun _ h => List.mem_append_right _ h) (by decide +kernel))
set_option maxRecDepth 20000 in
theorem gL_law_X0_bestBee : GoodIn wsL_law (wsV RL 173 RX0 yX0_bestBee wsX0_bestBee) := goodIn_app (goodIn_of _ (by decide +kernel)) ggL_law_X0_bestBee
set_option maxRecDepth 20000 in
theorem ggL_law_X1_bestBee : GoodIn wsL_law wsX1_bestBee := goodIn_r _ [476, 477, 478, 479, 5, 480, 132, 481, 470, 152, 471, 461, 462, 463, 464, 32, 177, 434, 435, 436, 437, 193, 194, 195, 196, 33, 189, 190, 191, 192, 31, 253, 254, 255, 256, 215, 216, 217, 218, 56, 620, 621, 622, 623, 624, 625, 626, 627, 628, 629, 630, 631, 632, 633, 634, 635, 636] (by decide +kernel) (by decide +kernel)
set_option maxRecDepth 20000 in
theorem gL_law_X1_bestBee : GoodIn wsL_law (wsV RL 176 RX1 yX1_bestBee wsX1_bestBee) := goodIn_app (goodIn_of _ (by decide +kernel)) ggL_law_X1_bestBee
set_option maxRecDepth 20000 in
theorem ggL_law_L_nextTick : GoodIn wsL_law wsL_nextTick := goodIn_ca (goodIn_r _ [484, 97, 485, 486, 487, 2, 488, 168, 414, 415, 416, 417, 106, 107, 123, 422, 423, 424, 425, 17, 124, 125, 126, 127, 18, 19, 603, 604, 605, 606, 607, 608, 609, 610, 611, 612, 613, 614, 615, 616, 617, 618, 619] (by decide +kernel) (by decide +kernel)) (goodIn_sub (fun _ h => List.mem_append_right _ h) (by decide +kernel))
set_option maxRecDepth 20000 in
theorem gL_law_L_nextTick : GoodIn wsL_law (va_wsS RL 177 yL_nextTick wsL_nextTick) := goodIn_app (goodIn_of _ (by decide +kernel)) ggL_law_L_nextTick
set_option maxRecDepth 20000 in
theorem ggL_law_X1_nextTick : GoodIn wsL_law wsX1_nextTick := goodIn_r _ [492, 56, 430, 431, 432, 5, 433, 132, 58, 59, 60, 493, 494, 495, 496, 177, 193, 194, 195, 196, 32, 33, 189, 190, 191, 192, 31, 61, 62, 63, 64, 620, 621, 622, 623, 624, 625, 626, 627, 628, 629, 630, 631, 632, 633, 634, 635, 636] (by decide +kernel) (by decide +kernel)
set_option maxRecDepth 20000 in
theorem gL_law_X1_nextTick : GoodIn wsL_law (wsV RL 179 RX1 yX1_nextTick wsX1_nextTick) := goodIn_app (goodIn_of _ (by decide +kernel)) ggL_law_X1_nextTick
set_option maxRecDepth 20000 in
theorem ggL_law_X0_tea : GoodIn wsL_law wsX0_tea := goodIn_r _ [500, 140, 603, 604, 605, 606, 607, 608, 609, 610, 611, 612, 613, 614, 615, 616, 617, 618, 619] (by decide +kernel) (by decide +kernel)
set_option maxRecDepth 20000 in
theorem gL_law_X0_tea : GoodIn wsL_law (wsV RL 180 RX0 yX0_tea wsX0_tea) := goodIn_app (goodIn_of _ (by decide +kernel)) ggL_law_X0_tea
set_option maxRecDepth 20000 in
theorem ggL_law_X1_tea : GoodIn wsL_law wsX1_tea := goodIn_r _ [504, 158, 215, 216, 217, 5, 218, 56, 620, 621, 622, 623, 624, 625, 626, 627, 628, 629, 630, 631, 632, 633, 634, 635, 636] (by decide +kernel) (by decide +kernel)
set_option maxRecDepth 20000 in
theorem gL_law_X1_tea : GoodIn wsL_law (wsV RL 183 RX1 yX1_tea wsX1_tea) := goodIn_app (goodIn_of _ (by decide +kernel)) ggL_law_X1_tea
set_option maxRecDepth 20000 in
theorem ggL_law_X0_spilt : GoodIn wsL_law wsX0_spilt := goodIn_r _ [508, 145, 603, 604, 605, 606, 607, 608, 609, 610, 611, 612, 613, 614, 615, 616, 617, 618, 619] (by decide +kernel) (by decide +kernel)
set_option maxRecDepth 20000 in
theorem gL_law_X0_spilt : GoodIn wsL_law (wsV RL 184 RX0 yX0_spilt wsX0_spilt) := goodIn_app (goodIn_of _ (by decide +kernel)) ggL_law_X0_spilt
set_option maxRecDepth 20000 in
theorem ggL_law_X1_spilt : GoodIn wsL_law wsX1_spilt := goodIn_r _ [512, 160, 215, 216, 217, 5, 218, 56, 620, 621, 622, 623, 624, 625, 626, 627, 628, 629, 630, 631, 632, 633, 634, 635, 636] (by decide +kernel) (by decide +kernel)
set_option maxRecDepth 20000 in
theorem gL_law_X1_spilt : GoodIn wsL_law (wsV RL 187 RX1 yX1_spilt wsX1_spilt) := goodIn_app (goodIn_of _ (by decide +kernel)) ggL_law_X1_spilt
set_option maxRecDepth 20000 in
theorem ggL_law_X0_spiltAtEnd : GoodIn wsL_law wsX0_spiltAtEnd := goodIn_r _ [516, 145, 140, 168, 22, 169, 170, 171, 2, 172, 17, 23, 20, 150, 151, 152, 153, 146, 147, 148, 149, 21, 603, 604, 605, 606, 607, 608, 609, 610, 611, 612, 613, 614, 615, 616, 617, 618, 619] (by decide +kernel) (by decide +kernel)
set_option maxRecDepth 20000 in
theorem gL_law_X0_spiltAtEnd : GoodIn wsL_law (wsV RL 188 RX0 yX0_spiltAtEnd wsX0_spiltAtEnd) := goodIn_app (goodIn_of _ (by decide +kernel)) ggL_law_X0_spiltAtEnd
set_option maxRecDepth 20000 in
theorem ggL_law_X1_spiltAtEnd : GoodIn wsL_law wsX1_spiltAtEnd := goodIn_r _ [520, 521, 522, 523, 5, 524, 158, 160, 177, 35, 34, 182, 183, 152, 184, 185, 186, 187, 188, 132, 36, 189, 190, 191, 192, 31, 193, 194, 195, 196, 32, 33, 215, 216, 217, 218, 56, 620, 621, 622, 623, 624, 625, 626, 627, 628, 629, 630, 631, 632, 633, 634, 635, 636] (by decide +kernel) (by decide +kernel)
set_option maxRecDepth 20000 in
theorem gL_law_X1_spiltAtEnd : GoodIn wsL_law (wsV RL 191 RX1 yX1_spiltAtEnd wsX1_spiltAtEnd) := goodIn_app (goodIn_of _ (by decide +kernel)) ggL_law_X1_spiltAtEnd
set_option maxRecDepth 20000 in
theorem ggL_law_X0_minuteOfSpill : GoodIn wsL_law wsX0_minuteOfSpill := goodIn_r _ [528, 22, 529, 530, 531, 2, 532, 140, 168, 169, 170, 171, 172, 17, 23, 20, 150, 151, 152, 153, 146, 147, 148, 149, 21, 603, 604, 605, 606, 607, 608, 609, 610, 611, 612, 613, 614, 615, 616, 617, 618, 619] (by decide +kernel) (by decide +kernel)
set_option maxRecDepth 20000 in
theorem gL_law_X0_minuteOfSpill : GoodIn wsL_law (wsV RL 192 RX0 yX0_minuteOfSpill wsX0_minuteOfSpill) := goodIn_app (goodIn_of _ (by decide +kernel)) ggL_law_X0_minuteOfSpill
set_option maxRecDepth 20000 in
theorem ggL_law_X1_minuteOfSpill : GoodIn wsL_law wsX1_minuteOfSpill := goodIn_r _ [536, 35, 537, 538, 539, 5, 540, 158, 177, 34, 185, 186, 187, 188, 132, 36, 182, 183, 152, 184, 189, 190, 191, 192, 31, 193, 194, 195, 196, 32, 33, 215, 216, 217, 218, 56, 620, 621, 622, 623, 624, 625, 626, 627, 628, 629, 630, 631, 632, 633, 634, 635, 636] (by decide +kernel) (by decide +kernel)
set_option maxRecDepth 20000 in
theorem gL_law_X1_minuteOfSpill : GoodIn wsL_law (wsV RL 195 RX1 yX1_minuteOfSpill wsX1_minuteOfSpill) := goodIn_app (goodIn_of _ (by decide +kernel)) ggL_law_X1_minuteOfSpill
set_option maxRecDepth 20000 in
theorem ggL_law_X0_safeRate : GoodIn wsL_law wsX0_safeRate := goodIn_r _ [544, 529, 530, 531, 2, 532, 140, 168, 169, 170, 171, 172, 17, 23, 20, 150, 151, 152, 153, 146, 147, 148, 149, 21, 603, 604, 605, 606, 607, 608, 609, 610, 611, 612, 613, 614, 615, 616, 617, 618, 619] (by decide +kernel) (by decide +kernel)
set_option maxRecDepth 20000 in
theorem gL_law_X0_safeRate : GoodIn wsL_law (wsV RL 196 RX0 yX0_safeRate wsX0_safeRate) := goodIn_app (goodIn_of _ (by decide +kernel)) ggL_law_X0_safeRate
set_option maxRecDepth 20000 in
theorem ggL_law_X1_safeRate : GoodIn wsL_law wsX1_safeRate := goodIn_r _ [548, 549, 550, 551, 5, 552, 537, 538, 539, 540, 158, 177, 34, 185, 186, 187, 188, 132, 36, 182, 183, 152, 184, 189, 190, 191, 192, 31, 193, 194, 195, 196, 32, 33, 215, 216, 217, 218, 56, 620, 621, 622, 623, 624, 625, 626, 627, 628, 629, 630, 631, 632, 633, 634, 635, 636] (by decide +kernel) (by decide +kernel)
set_option maxRecDepth 20000 in
theorem gL_law_X1_safeRate : GoodIn wsL_law (wsV RL 199 RX1 yX1_safeRate wsX1_safeRate) := goodIn_app (goodIn_of _ (by decide +kernel)) ggL_law_X1_safeRate
set_option maxRecDepth 20000 in
theorem ggL_law_X0_bestToGiveUp : GoodIn wsL_law wsX0_bestToGiveUp := goodIn_r _ [556, 76, 387, 388, 389, 2, 390, 17, 81, 82, 83, 84, 15, 16, 603, 604, 605, 606, 607, 608, 609, 610, 611, 612, 613, 614, 615, 616, 617, 618, 619] (by decide +kernel) (by decide +kernel)
set_option maxRecDepth 20000 in
theorem gL_law_X0_bestToGiveUp : GoodIn wsL_law (wsV RL 200 RX0 yX0_bestToGiveUp wsX0_bestToGiveUp) := goodIn_app (goodIn_of _ (by decide +kernel)) ggL_law_X0_bestToGiveUp
set_option maxRecDepth 20000 in
theorem ggL_law_X1_bestToGiveUp : GoodIn wsL_law wsX1_bestToGiveUp := goodIn_r _ [560, 561, 562, 563, 5, 564, 89, 395, 396, 397, 398, 29, 30, 31, 215, 216, 217, 218, 56, 620, 621, 622, 623, 624, 625, 626, 627, 628, 629, 630, 631, 632, 633, 634, 635, 636] (by decide +kernel) (by decide +kernel)
set_option maxRecDepth 20000 in
theorem gL_law_X1_bestToGiveUp : GoodIn wsL_law (wsV RL 203 RX1 yX1_bestToGiveUp wsX1_bestToGiveUp) := goodIn_app (goodIn_of _ (by decide +kernel)) ggL_law_X1_bestToGiveUp
set_option maxRecDepth 20000 in
theorem ggL_law_X0_meanLastShadow : GoodIn wsL_law wsX0_meanLastShadow := goodIn_r _ [568, 51, 331, 332, 333, 2, 334, 297, 298, 299, 300, 14, 603, 604, 605, 606, 607, 608, 609, 610, 611, 612, 613, 614, 615, 616, 617, 618, 619] (by decide +kernel) (by decide +kernel)
set_option maxRecDepth 20000 in
theorem gL_law_X0_meanLastShadow : GoodIn wsL_law (wsV RL 204 RX0 yX0_meanLastShadow wsX0_meanLastShadow) := goodIn_app (goodIn_of _ (by decide +kernel)) ggL_law_X0_meanLastShadow
set_option maxRecDepth 20000 in
theorem ggL_law_X1_meanLastShadow : GoodIn wsL_law wsX1_meanLastShadow := goodIn_r _ [572, 56, 57, 309, 310, 311, 5, 312, 28, 620, 621, 622, 623, 624, 625, 626, 627, 628, 629, 630, 631, 632, 633, 634, 635, 636] (by decide +kernel) (by decide +kernel)
set_option maxRecDepth 20000 in
theorem gL_law_X1_meanLastShadow : GoodIn wsL_law (wsV RL 208 RX1 yX1_meanLastShadow wsX1_meanLastShadow) := goodIn_app (goodIn_of _ (by decide +kernel)) ggL_law_X1_meanLastShadow
set_option maxRecDepth 20000 in
theorem ggL_law_X0_digest : GoodIn wsL_law wsX0_digest := goodIn_ca (goodIn_r _ [576, 577, 578, 201, 168, 51, 76, 123, 140, 145, 261, 246, 247, 2, 248, 17, 579, 267, 268, 269, 150, 151, 152, 153, 580, 514, 515, 516, 22, 169, 170, 171, 172, 23, 20, 146, 147, 148, 149, 21, 581, 542, 543, 544, 529, 530, 531, 532, 582, 554, 555, 556, 387, 388, 389, 390, 81, 82, 83, 84, 15, 16, 583, 466, 467, 468, 469, 470, 471, 472, 453, 454, 455, 456, 442, 443, 444, 18, 414, 415, 416, 417, 106, 107, 418, 419, 420, 421, 422, 423, 424, 425, 124, 125, 126, 127, 19, 584, 585, 586, 587, 297, 298, 299, 300, 14, 588, 589, 590, 591, 592, 593, 594, 595, 596, 486, 487, 488, 603, 604, 605, 606, 607, 608, 609, 610, 611, 612, 613, 614, 615, 616, 617, 618, 619] (by decide +kernel) (by decide +kernel)) (goodIn_sub (fun _ h => List.mem_append_right _ h) (by decide +kernel))
set_option maxRecDepth 20000 in
theorem gL_law_X0_digest : GoodIn wsL_law (wsV RL 209 RX0 yX0_digest wsX0_digest) := goodIn_app (goodIn_of _ (by decide +kernel)) ggL_law_X0_digest
set_option maxRecDepth 20000 in
theorem ggL_law_X1_digest : GoodIn wsL_law wsX1_digest := goodIn_r _ [600, 56, 13, 206, 177, 57, 89, 132, 158, 160, 601, 602, 29, 30, 32, 253, 254, 255, 5, 256, 189, 190, 191, 192, 31, 274, 275, 276, 277, 159, 151, 152, 153, 521, 522, 523, 524, 35, 34, 182, 183, 184, 185, 186, 187, 188, 36, 193, 194, 195, 196, 33, 549, 550, 551, 552, 537, 538, 539, 540, 561, 562, 563, 564, 395, 396, 397, 398, 477, 478, 479, 480, 481, 470, 471, 461, 462, 463, 464, 434, 435, 436, 437, 309, 310, 311, 312, 28, 493, 494, 495, 496, 620, 621, 622, 623, 624, 625, 626, 627, 628, 629, 630, 631, 632, 633, 634, 635, 636] (by decide +kernel) (by decide +kernel)
set_option maxRecDepth 20000 in
theorem gL_law_X1_digest : GoodIn wsL_law (wsV RL 213 RX1 yX1_digest wsX1_digest) := goodIn_app (goodIn_of _ (by decide +kernel)) ggL_law_X1_digest
