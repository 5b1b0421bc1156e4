set_option maxRecDepth 20000 in
theorem ggL_law_X0_init : GoodIn wsL_law wsX0_init := goodIn_r _ [17, 18, 19, 20, 21, 22, 23, 24, 25, 26, 27, 28, 29, 30, 31, 380, 381, 382, 383, 384, 385, 386, 387, 388, 389, 390, 391, 392, 393, 394, 395, 396] (by decide +kernel) (by decide +kernel)
set_option maxRecDepth 20000 in
theorem gL_law_X0_init : GoodIn wsL_law (wsX0_init) := ggL_law_X0_init
set_option maxRecDepth 20000 in
theorem ggL_law_L_build : GoodIn wsL_law wsL_build := goodIn_ca (goodIn_ca (goodIn_ca (goodIn_r _ [35, 36, 37, 38, 39, 40, 41, 19, 20, 21, 42, 43, 44, 45, 46, 47, 48, 49, 50, 34, 51, 52, 53, 54, 55, 56, 57, 58, 59, 60, 61, 62, 5, 63, 14, 7, 11, 12, 13, 64, 65, 66, 67, 68, 69, 70, 71, 72, 73, 74, 2, 75, 76, 77, 78, 79, 80, 22, 81, 82, 83, 84, 85, 86, 87, 88, 23, 24, 89, 90, 91, 92, 25, 93, 94, 95, 96, 97, 98, 99, 100, 101, 102, 103, 104, 105, 106, 107, 108, 109, 110, 111, 112, 113, 114, 115, 26, 27, 28, 116, 117, 118, 119, 120, 121, 122, 123, 29, 30, 31, 124, 125, 126, 127, 128, 129, 130, 131, 132, 133, 134, 4, 6, 135, 136, 137, 138, 139, 140, 141, 142, 143, 144, 145, 146, 147, 148, 149, 150, 151, 152, 153, 154, 155, 156, 157, 158, 159, 160, 161, 162, 163, 164, 165, 166, 167, 397, 398, 399, 400, 401, 402, 403, 404, 405, 406, 380, 381, 382, 383, 384, 385, 386, 387, 388, 389, 390, 391, 392, 393, 394, 395, 396] rfl (by decide +kernel)) (goodIn_sub (fun _ h => List.mem_append_left _ (List.mem_append_left _ (List.mem_append_right _ h))) (by decide +kernel))) (goodIn_sub (fun _ h => List.mem_append_left _ (List.mem_append_right _ h)) (by decide +kernel))) (goodIn_sub (fun _ h => List.mem_append_right _ h) (by decide +kernel))
set_option maxRecDepth 20000 in
theorem gL_law_L_build : GoodIn wsL_law (va_wsS RL 103 yL_build wsL_build) := goodIn_app (goodIn_of _ (by decide +kernel)) ggL_law_L_build
set_option maxRecDepth 20000 in
theorem ggL_law_L_cell : GoodIn wsL_law wsL_cell := goodIn_r _ [51, 52] (by decide +kernel) (by decide +kernel)
set_option maxRecDepth 20000 in
theorem gL_law_L_cell : GoodIn wsL_law (va_wsS RL 94 yL_cell wsL_cell) := goodIn_app (goodIn_of _ (by decide +kernel)) ggL_law_L_cell
set_option maxRecDepth 20000 in
theorem ggL_law_L_act : GoodIn wsL_law wsL_act := goodIn_ca (goodIn_ca (goodIn_ca (goodIn_r _ [59, 60, 61, 62, 5, 63, 14, 21, 7, 11, 12, 13, 64, 65, 66, 67, 53, 54, 34, 55, 56, 68, 69, 70, 38, 71, 42, 72, 73, 74, 2, 75, 76, 77, 78, 79, 80, 22, 81, 82, 83, 43, 84, 85, 86, 87, 88, 23, 24, 89, 90, 91, 92, 25, 93, 94, 95, 96, 97, 98, 99, 100, 101, 102, 103, 104, 105, 106, 107, 108, 109, 110, 111, 112, 113, 114, 115, 26, 27, 28, 116, 117, 118, 119, 120, 121, 122, 123, 29, 30, 31, 124, 125, 126, 127, 128, 129, 130, 131, 132, 133, 134, 4, 6, 135, 136, 137, 138, 139, 140, 141, 142, 143, 144, 145, 146, 147, 148, 149, 150, 151, 152, 153, 154, 155, 156, 157, 158, 47, 45, 48, 46, 159, 160, 161, 162, 163, 44, 164, 165, 166, 167, 397, 398, 399, 400, 401, 402, 403, 404, 405, 406, 380, 381, 382, 383, 384, 385, 386, 387, 388, 389, 390, 391, 392, 393, 394, 395, 396] rfl (by decide +kernel)) (goodIn_sub (fun _ h => List.mem_append_left _ (List.mem_append_left _ (List.mem_append_right _ h))) (by decide +kernel))) (goodIn_sub (fun _ h => List.mem_append_left _ (List.mem_append_right _ h)) (by decide +kernel))) (goodIn_sub (fun _ h => List.mem_append_right _ h) (by decide +kernel))
set_option maxRecDepth 20000 in
theorem gL_law_L_act : GoodIn wsL_law (va_wsS RL 98 yL_act wsL_act) := goodIn_app (goodIn_of _ (by decide +kernel)) ggL_law_L_act
set_option maxRecDepth 20000 in
theorem ggL_law_X0_digest : GoodIn wsL_law wsX0_digest := goodIn_ca (goodIn_r _ [171, 172, 173, 140, 139, 80, 88, 115, 124, 129, 174, 175, 176, 2, 177, 25, 178, 179, 180, 181, 134, 4, 5, 6, 182, 183, 184, 185, 30, 145, 146, 147, 148, 31, 28, 130, 131, 132, 133, 29, 186, 187, 188, 189, 190, 191, 192, 193, 194, 195, 196, 197, 198, 199, 200, 201, 93, 94, 95, 96, 23, 24, 202, 203, 204, 205, 206, 9, 10, 207, 208, 209, 210, 211, 212, 213, 214, 26, 215, 216, 217, 218, 109, 110, 219, 220, 221, 222, 223, 224, 225, 226, 116, 117, 118, 119, 27, 227, 228, 229, 230, 231, 232, 233, 234, 22, 235, 236, 237, 238, 239, 240, 241, 242, 243, 244, 245, 246, 380, 381, 382, 383, 384, 385, 386, 387, 388, 389, 390, 391, 392, 393, 394, 395, 396] (by decide +kernel) (by decide +kernel)) (goodIn_sub (fun _ h => List.mem_append_right _ h) (by decide +kernel))
set_option maxRecDepth 20000 in
theorem gL_law_X0_digest : GoodIn wsL_law (wsV RL 107 RX0 yX0_digest wsX0_digest) := goodIn_app (goodIn_of _ (by decide +kernel)) ggL_law_X0_digest
set_option maxRecDepth 20000 in
theorem ggL_law_X0_minute : GoodIn wsL_law wsX0_minute := goodIn_r _ [250, 139, 380, 381, 382, 383, 384, 385, 386, 387, 388, 389, 390, 391, 392, 393, 394, 395, 396] (by decide +kernel) (by decide +kernel)
set_option maxRecDepth 20000 in
theorem gL_law_X0_minute : GoodIn wsL_law (wsV RL 111 RX0 yX0_minute wsX0_minute) := goodIn_app (goodIn_of _ (by decide +kernel)) ggL_law_X0_minute
set_option maxRecDepth 20000 in
theorem ggL_law_X0_isAsleep : GoodIn wsL_law wsX0_isAsleep := goodIn_ca (goodIn_r _ [254, 25, 255, 256, 257, 2, 258, 76, 77, 380, 381, 382, 383, 384, 385, 386, 387, 388, 389, 390, 391, 392, 393, 394, 395, 396] (by decide +kernel) (by decide +kernel)) (goodIn_sub (fun _ h => List.mem_append_left _ (List.mem_append_left _ (List.mem_append_right _ h))) (by decide +kernel))
set_option maxRecDepth 20000 in
theorem gL_law_X0_isAsleep : GoodIn wsL_law (wsV RL 113 RX0 yX0_isAsleep wsX0_isAsleep) := goodIn_app (goodIn_of _ (by decide +kernel)) ggL_law_X0_isAsleep
set_option maxRecDepth 20000 in
theorem ggL_law_X0_naps : GoodIn wsL_law wsX0_naps := goodIn_r _ [262, 88, 380, 381, 382, 383, 384, 385, 386, 387, 388, 389, 390, 391, 392, 393, 394, 395, 396] (by decide +kernel) (by decide +kernel)
set_option maxRecDepth 20000 in
theorem gL_law_X0_naps : GoodIn wsL_law (wsV RL 117 RX0 yX0_naps wsX0_naps) := goodIn_app (goodIn_of _ (by decide +kernel)) ggL_law_X0_naps
set_option maxRecDepth 20000 in
theorem ggL_law_X0_startOf : GoodIn wsL_law wsX0_startOf := goodIn_ca (goodIn_r _ [266, 23, 105, 106, 107, 2, 108, 109, 110, 88, 380, 381, 382, 383, 384, 385, 386, 387, 388, 389, 390, 391, 392, 393, 394, 395, 396] (by decide +kernel) (by decide +kernel)) (goodIn_sub (fun _ h => List.mem_append_right _ h) (by decide +kernel))
set_option maxRecDepth 20000 in
theorem gL_law_X0_startOf : GoodIn wsL_law (wsV RL 119 RX0 yX0_startOf wsX0_startOf) := goodIn_app (goodIn_of _ (by decide +kernel)) ggL_law_X0_startOf
set_option maxRecDepth 20000 in
theorem ggL_law_X0_lengthOf : GoodIn wsL_law wsX0_lengthOf := goodIn_ca (goodIn_r _ [270, 24, 23, 105, 106, 107, 2, 108, 109, 110, 88, 380, 381, 382, 383, 384, 385, 386, 387, 388, 389, 390, 391, 392, 393, 394, 395, 396] (by decide +kernel) (by decide +kernel)) (goodIn_sub (fun _ h => List.mem_append_right _ h) (by decide +kernel))
set_option maxRecDepth 20000 in
theorem gL_law_X0_lengthOf : GoodIn wsL_law (wsV RL 122 RX0 yX0_lengthOf wsX0_lengthOf) := goodIn_app (goodIn_of _ (by decide +kernel)) ggL_law_X0_lengthOf
set_option maxRecDepth 20000 in
theorem ggL_law_X0_napsAt : GoodIn wsL_law wsX0_napsAt := goodIn_ca (goodIn_r _ [274, 25, 255, 256, 257, 2, 258, 76, 77, 380, 381, 382, 383, 384, 385, 386, 387, 388, 389, 390, 391, 392, 393, 394, 395, 396] (by decide +kernel) (by decide +kernel)) (goodIn_sub (fun _ h => List.mem_append_left _ (List.mem_append_left _ (List.mem_append_right _ h))) (by decide +kernel))
set_option maxRecDepth 20000 in
theorem gL_law_X0_napsAt : GoodIn wsL_law (wsV RL 125 RX0 yX0_napsAt wsX0_napsAt) := goodIn_app (goodIn_of _ (by decide +kernel)) ggL_law_X0_napsAt
set_option maxRecDepth 20000 in
theorem ggL_law_X0_sleptMinutes : GoodIn wsL_law wsX0_sleptMinutes := goodIn_r _ [278, 139, 174, 175, 176, 2, 177, 25, 380, 381, 382, 383, 384, 385, 386, 387, 388, 389, 390, 391, 392, 393, 394, 395, 396] (by decide +kernel) (by decide +kernel)
set_option maxRecDepth 20000 in
theorem gL_law_X0_sleptMinutes : GoodIn wsL_law (wsV RL 131 RX0 yX0_sleptMinutes wsX0_sleptMinutes) := goodIn_app (goodIn_of _ (by decide +kernel)) ggL_law_X0_sleptMinutes
set_option maxRecDepth 20000 in
theorem ggL_law_X0_awakeMinutes : GoodIn wsL_law wsX0_awakeMinutes := goodIn_r _ [177, 139, 25, 380, 381, 382, 383, 384, 385, 386, 387, 388, 389, 390, 391, 392, 393, 394, 395, 396] (by decide +kernel) (by decide +kernel)
set_option maxRecDepth 20000 in
theorem gL_law_X0_awakeMinutes : GoodIn wsL_law (wsV RL 134 RX0 yX0_awakeMinutes wsX0_awakeMinutes) := goodIn_app (goodIn_of _ (by decide +kernel)) ggL_law_X0_awakeMinutes
set_option maxRecDepth 20000 in
theorem ggL_law_X0_longestAwake : GoodIn wsL_law wsX0_longestAwake := goodIn_r _ [181, 25, 134, 4, 5, 6, 380, 381, 382, 383, 384, 385, 386, 387, 388, 389, 390, 391, 392, 393, 394, 395, 396] (by decide +kernel) (by decide +kernel)
set_option maxRecDepth 20000 in
theorem gL_law_X0_longestAwake : GoodIn wsL_law (wsV RL 137 RX0 yX0_longestAwake wsX0_longestAwake) := goodIn_app (goodIn_of _ (by decide +kernel)) ggL_law_X0_longestAwake
set_option maxRecDepth 20000 in
theorem ggL_law_X0_sticks : GoodIn wsL_law wsX0_sticks := goodIn_r _ [284, 80, 380, 381, 382, 383, 384, 385, 386, 387, 388, 389, 390, 391, 392, 393, 394, 395, 396] (by decide +kernel) (by decide +kernel)
set_option maxRecDepth 20000 in
theorem gL_law_X0_sticks : GoodIn wsL_law (wsV RL 140 RX0 yX0_sticks wsX0_sticks) := goodIn_app (goodIn_of _ (by decide +kernel)) ggL_law_X0_sticks
set_option maxRecDepth 20000 in
theorem ggL_law_L_below : GoodIn wsL_law wsL_below := goodIn_r _ [55, 56] (by decide +kernel) (by decide +kernel)
set_option maxRecDepth 20000 in
theorem gL_law_L_below : GoodIn wsL_law (va_wsS RL 9 yL_below wsL_below) := goodIn_app (goodIn_of _ (by decide +kernel)) ggL_law_L_below
set_option maxRecDepth 20000 in
theorem ggL_law_X0_shadowAt : GoodIn wsL_law wsX0_shadowAt := goodIn_ca (goodIn_ca (goodIn_r _ [288, 289, 290, 291, 2, 292, 109, 110, 80, 255, 256, 257, 258, 76, 77, 231, 232, 233, 234, 22, 380, 381, 382, 383, 384, 385, 386, 387, 388, 389, 390, 391, 392, 393, 394, 395, 396] (by decide +kernel) (by decide +kernel)) (goodIn_sub (fun _ h => List.mem_append_right _ h) (by decide +kernel))) (goodIn_sub (fun _ h => List.mem_append_left _ (List.mem_append_left _ (List.mem_append_right _ h))) (by decide +kernel))
set_option maxRecDepth 20000 in
theorem gL_law_X0_shadowAt : GoodIn wsL_law (wsV RL 142 RX0 yX0_shadowAt wsX0_shadowAt) := goodIn_app (goodIn_of _ (by decide +kernel)) ggL_law_X0_shadowAt
set_option maxRecDepth 20000 in
theorem ggL_law_X0_minuteOfShadow : GoodIn wsL_law wsX0_minuteOfShadow := goodIn_ca (goodIn_r _ [296, 289, 290, 291, 2, 292, 109, 110, 80, 231, 232, 233, 234, 22, 380, 381, 382, 383, 384, 385, 386, 387, 388, 389, 390, 391, 392, 393, 394, 395, 396] (by decide +kernel) (by decide +kernel)) (goodIn_sub (fun _ h => List.mem_append_right _ h) (by decide +kernel))
set_option maxRecDepth 20000 in
theorem gL_law_X0_minuteOfShadow : GoodIn wsL_law (wsV RL 145 RX0 yX0_minuteOfShadow wsX0_minuteOfShadow) := goodIn_app (goodIn_of _ (by decide +kernel)) ggL_law_X0_minuteOfShadow
set_option maxRecDepth 20000 in
theorem ggL_law_X0_allShadows : GoodIn wsL_law wsX0_allShadows := goodIn_ca (goodIn_r _ [300, 255, 256, 257, 2, 258, 76, 77, 301, 302, 303, 304, 80, 231, 232, 233, 234, 22, 380, 381, 382, 383, 384, 385, 386, 387, 388, 389, 390, 391, 392, 393, 394, 395, 396] (by decide +kernel) (by decide +kernel)) (goodIn_sub (fun _ h => List.mem_append_left _ (List.mem_append_left _ (List.mem_append_right _ h))) (by decide +kernel))
set_option maxRecDepth 20000 in
theorem gL_law_X0_allShadows : GoodIn wsL_law (wsV RL 148 RX0 yX0_allShadows wsX0_allShadows) := goodIn_app (goodIn_of _ (by decide +kernel)) ggL_law_X0_allShadows
set_option maxRecDepth 20000 in
theorem ggL_law_X0_bestToGiveUp : GoodIn wsL_law wsX0_bestToGiveUp := goodIn_r _ [197, 88, 198, 199, 200, 2, 201, 25, 93, 94, 95, 96, 23, 24, 380, 381, 382, 383, 384, 385, 386, 387, 388, 389, 390, 391, 392, 393, 394, 395, 396] (by decide +kernel) (by decide +kernel)
set_option maxRecDepth 20000 in
theorem gL_law_X0_bestToGiveUp : GoodIn wsL_law (wsV RL 151 RX0 yX0_bestToGiveUp wsX0_bestToGiveUp) := goodIn_app (goodIn_of _ (by decide +kernel)) ggL_law_X0_bestToGiveUp
set_option maxRecDepth 20000 in
theorem ggL_law_X0_minutesAlone : GoodIn wsL_law wsX0_minutesAlone := goodIn_ca (goodIn_r _ [309, 105, 106, 107, 2, 108, 109, 110, 88, 198, 199, 200, 201, 25, 93, 94, 95, 96, 23, 24, 380, 381, 382, 383, 384, 385, 386, 387, 388, 389, 390, 391, 392, 393, 394, 395, 396] (by decide +kernel) (by decide +kernel)) (goodIn_sub (fun _ h => List.mem_append_right _ h) (by decide +kernel))
set_option maxRecDepth 20000 in
theorem gL_law_X0_minutesAlone : GoodIn wsL_law (wsV RL 154 RX0 yX0_minutesAlone wsX0_minutesAlone) := goodIn_app (goodIn_of _ (by decide +kernel)) ggL_law_X0_minutesAlone
set_option maxRecDepth 20000 in
theorem ggL_law_X0_bestBee : GoodIn wsL_law wsX0_bestBee := goodIn_ca (goodIn_r _ [205, 115, 206, 9, 5, 10, 207, 208, 209, 2, 210, 211, 212, 213, 214, 26, 215, 216, 217, 218, 109, 110, 219, 220, 221, 222, 139, 223, 224, 225, 226, 25, 116, 117, 118, 119, 27, 174, 175, 176, 177, 380, 381, 382, 383, 384, 385, 386, 387, 388, 389, 390, 391, 392, 393, 394, 395, 396] (by decide +kernel) (by decide +kernel)) (goodIn_sub (fun _ h => List.mem_append_right _ h) (by decide +kernel))
set_option maxRecDepth 20000 in
theorem gL_law_X0_bestBee : GoodIn wsL_law (wsV RL 157 RX0 yX0_bestBee wsX0_bestBee) := goodIn_app (goodIn_of _ (by decide +kernel)) ggL_law_X0_bestBee
set_option maxRecDepth 20000 in
theorem ggL_law_X0_bees : GoodIn wsL_law wsX0_bees := goodIn_r _ [314, 115, 380, 381, 382, 383, 384, 385, 386, 387, 388, 389, 390, 391, 392, 393, 394, 395, 396] (by decide +kernel) (by decide +kernel)
set_option maxRecDepth 20000 in
theorem gL_law_X0_bees : GoodIn wsL_law (wsV RL 160 RX0 yX0_bees wsX0_bees) := goodIn_app (goodIn_of _ (by decide +kernel)) ggL_law_X0_bees
set_option maxRecDepth 20000 in
theorem ggL_law_X0_nextTick : GoodIn wsL_law wsX0_nextTick := goodIn_ca (goodIn_r _ [246, 139, 215, 216, 217, 2, 218, 109, 110, 115, 223, 224, 225, 226, 25, 116, 117, 118, 119, 26, 27, 380, 381, 382, 383, 384, 385, 386, 387, 388, 389, 390, 391, 392, 393, 394, 395, 396] (by decide +kernel) (by decide +kernel)) (goodIn_sub (fun _ h => List.mem_append_right _ h) (by decide +kernel))
set_option maxRecDepth 20000 in
theorem gL_law_X0_nextTick : GoodIn wsL_law (wsV RL 162 RX0 yX0_nextTick wsX0_nextTick) := goodIn_app (goodIn_of _ (by decide +kernel)) ggL_law_X0_nextTick
set_option maxRecDepth 20000 in
theorem ggL_law_X0_measuredBy : GoodIn wsL_law wsX0_measuredBy := goodIn_ca (goodIn_r _ [214, 26, 215, 216, 217, 2, 218, 109, 110, 115, 219, 220, 221, 222, 139, 223, 224, 225, 226, 25, 116, 117, 118, 119, 27, 380, 381, 382, 383, 384, 385, 386, 387, 388, 389, 390, 391, 392, 393, 394, 395, 396] (by decide +kernel) (by decide +kernel)) (goodIn_sub (fun _ h => List.mem_append_right _ h) (by decide +kernel))
set_option maxRecDepth 20000 in
theorem gL_law_X0_measuredBy : GoodIn wsL_law (wsV RL 165 RX0 yX0_measuredBy wsX0_measuredBy) := goodIn_app (goodIn_of _ (by decide +kernel)) ggL_law_X0_measuredBy
set_option maxRecDepth 20000 in
theorem ggL_law_X0_ticksOf : GoodIn wsL_law wsX0_ticksOf := goodIn_ca (goodIn_r _ [320, 215, 216, 217, 2, 218, 109, 110, 115, 219, 220, 221, 222, 139, 223, 224, 225, 226, 25, 116, 117, 118, 119, 26, 27, 380, 381, 382, 383, 384, 385, 386, 387, 388, 389, 390, 391, 392, 393, 394, 395, 396] (by decide +kernel) (by decide +kernel)) (goodIn_sub (fun _ h => List.mem_append_right _ h) (by decide +kernel))
set_option maxRecDepth 20000 in
theorem gL_law_X0_ticksOf : GoodIn wsL_law (wsV RL 168 RX0 yX0_ticksOf wsX0_ticksOf) := goodIn_app (goodIn_of _ (by decide +kernel)) ggL_law_X0_ticksOf
set_option maxRecDepth 20000 in
theorem ggL_law_X0_errorOf : GoodIn wsL_law wsX0_errorOf := goodIn_ca (goodIn_r _ [210, 211, 212, 213, 2, 214, 26, 215, 216, 217, 218, 109, 110, 115, 219, 220, 221, 222, 139, 223, 224, 225, 226, 25, 116, 117, 118, 119, 27, 174, 175, 176, 177, 380, 381, 382, 383, 384, 385, 386, 387, 388, 389, 390, 391, 392, 393, 394, 395, 396] (by decide +kernel) (by decide +kernel)) (goodIn_sub (fun _ h => List.mem_append_right _ h) (by decide +kernel))
set_option maxRecDepth 20000 in
theorem gL_law_X0_errorOf : GoodIn wsL_law (wsV RL 171 RX0 yX0_errorOf wsX0_errorOf) := goodIn_app (goodIn_of _ (by decide +kernel)) ggL_law_X0_errorOf
set_option maxRecDepth 20000 in
theorem ggL_law_X0_minuteOfSpill : GoodIn wsL_law wsX0_minuteOfSpill := goodIn_r _ [325, 30, 190, 191, 192, 2, 193, 124, 139, 145, 146, 147, 148, 25, 31, 28, 134, 4, 5, 6, 130, 131, 132, 133, 29, 380, 381, 382, 383, 384, 385, 386, 387, 388, 389, 390, 391, 392, 393, 394, 395, 396] (by decide +kernel) (by decide +kernel)
set_option maxRecDepth 20000 in
theorem gL_law_X0_minuteOfSpill : GoodIn wsL_law (wsV RL 177 RX0 yX0_minuteOfSpill wsX0_minuteOfSpill) := goodIn_app (goodIn_of _ (by decide +kernel)) ggL_law_X0_minuteOfSpill
set_option maxRecDepth 20000 in
theorem ggL_law_X0_spiltAtEnd : GoodIn wsL_law wsX0_spiltAtEnd := goodIn_r _ [185, 129, 124, 139, 30, 145, 146, 147, 2, 148, 25, 31, 28, 134, 4, 5, 6, 130, 131, 132, 133, 29, 380, 381, 382, 383, 384, 385, 386, 387, 388, 389, 390, 391, 392, 393, 394, 395, 396] (by decide +kernel) (by decide +kernel)
set_option maxRecDepth 20000 in
theorem gL_law_X0_spiltAtEnd : GoodIn wsL_law (wsV RL 180 RX0 yX0_spiltAtEnd wsX0_spiltAtEnd) := goodIn_app (goodIn_of _ (by decide +kernel)) ggL_law_X0_spiltAtEnd
set_option maxRecDepth 20000 in
theorem ggL_law_X0_safeRate : GoodIn wsL_law wsX0_safeRate := goodIn_r _ [189, 190, 191, 192, 2, 193, 124, 139, 145, 146, 147, 148, 25, 31, 28, 134, 4, 5, 6, 130, 131, 132, 133, 29, 380, 381, 382, 383, 384, 385, 386, 387, 388, 389, 390, 391, 392, 393, 394, 395, 396] (by decide +kernel) (by decide +kernel)
set_option maxRecDepth 20000 in
theorem gL_law_X0_safeRate : GoodIn wsL_law (wsV RL 183 RX0 yX0_safeRate wsX0_safeRate) := goodIn_app (goodIn_of _ (by decide +kernel)) ggL_law_X0_safeRate
set_option maxRecDepth 20000 in
theorem ggL_law_X0_tea : GoodIn wsL_law wsX0_tea := goodIn_r _ [331, 124, 380, 381, 382, 383, 384, 385, 386, 387, 388, 389, 390, 391, 392, 393, 394, 395, 396] (by decide +kernel) (by decide +kernel)
set_option maxRecDepth 20000 in
theorem gL_law_X0_tea : GoodIn wsL_law (wsV RL 186 RX0 yX0_tea wsX0_tea) := goodIn_app (goodIn_of _ (by decide +kernel)) ggL_law_X0_tea
set_option maxRecDepth 20000 in
theorem ggL_law_X0_spilt : GoodIn wsL_law wsX0_spilt := goodIn_r _ [335, 129, 380, 381, 382, 383, 384, 385, 386, 387, 388, 389, 390, 391, 392, 393, 394, 395, 396] (by decide +kernel) (by decide +kernel)
set_option maxRecDepth 20000 in
theorem gL_law_X0_spilt : GoodIn wsL_law (wsV RL 188 RX0 yX0_spilt wsX0_spilt) := goodIn_app (goodIn_of _ (by decide +kernel)) ggL_law_X0_spilt
set_option maxRecDepth 20000 in
theorem ggL_law_X0_setTea : GoodIn wsL_law wsX0_setTea := goodIn_ca (goodIn_r _ [123, 76, 77, 29, 30, 31, 124, 125, 126, 127, 2, 128, 129, 130, 131, 132, 133, 134, 4, 5, 6, 380, 381, 382, 383, 384, 385, 386, 387, 388, 389, 390, 391, 392, 393, 394, 395, 396] (by decide +kernel) (by decide +kernel)) (goodIn_sub (fun _ h => List.mem_append_left _ (List.mem_append_left _ (List.mem_append_right _ h))) (by decide +kernel))
set_option maxRecDepth 20000 in
theorem gL_law_X0_setTea : GoodIn wsL_law (wsV RL 75 RX0 yX0_setTea wsX0_setTea) := goodIn_app (goodIn_of _ (by decide +kernel)) ggL_law_X0_setTea
set_option maxRecDepth 20000 in
theorem ggL_law_X0_pass : GoodIn wsL_law wsX0_pass := goodIn_ca (goodIn_ca (goodIn_r _ [144, 76, 77, 78, 79, 139, 124, 30, 145, 146, 147, 2, 148, 25, 31, 28, 134, 4, 5, 6, 125, 126, 127, 128, 129, 130, 131, 132, 133, 29, 380, 381, 382, 383, 384, 385, 386, 387, 388, 389, 390, 391, 392, 393, 394, 395, 396] (by decide +kernel) (by decide +kernel)) (goodIn_sub (fun _ h => List.mem_append_left _ (List.mem_append_left _ (List.mem_append_right _ h))) (by decide +kernel))) (goodIn_sub (fun _ h => List.mem_append_left _ (List.mem_append_right _ h)) (by decide +kernel))
set_option maxRecDepth 20000 in
theorem gL_law_X0_pass : GoodIn wsL_law (wsV RL 89 RX0 yX0_pass wsX0_pass) := goodIn_app (goodIn_of _ (by decide +kernel)) ggL_law_X0_pass
set_option maxRecDepth 20000 in
theorem ggL_law_X1_pass : GoodIn wsL_law wsX1_pass := goodIn_r _ [156, 157, 158, 47, 45, 48, 46, 159, 160, 161, 162, 38, 163, 44, 164, 165, 166, 167, 397, 398, 399, 400, 401, 402, 403, 404, 405, 406] (by decide +kernel) (by decide +kernel)
set_option maxRecDepth 20000 in
theorem gL_law_X1_pass : GoodIn wsL_law (wsV RL 190 RX1 yX1_pass wsX1_pass) := goodIn_app (goodIn_of _ (by decide +kernel)) ggL_law_X1_pass
set_option maxRecDepth 20000 in
theorem ggL_law_X1_without : GoodIn wsL_law wsX1_without := goodIn_r _ [99, 43, 100, 82, 38, 83] (by decide +kernel) (by decide +kernel)
set_option maxRecDepth 20000 in
theorem gL_law_X1_without : GoodIn wsL_law (va_wsS RL 46 yX1_without wsX1_without) := goodIn_app (goodIn_of _ (by decide +kernel)) ggL_law_X1_without
set_option maxRecDepth 20000 in
theorem ggL_law_X0_giveUp : GoodIn wsL_law wsX0_giveUp := goodIn_ca (goodIn_r _ [104, 88, 23, 24, 105, 106, 107, 2, 108, 109, 110, 89, 90, 91, 92, 25, 93, 94, 95, 96, 380, 381, 382, 383, 384, 385, 386, 387, 388, 389, 390, 391, 392, 393, 394, 395, 396] (by decide +kernel) (by decide +kernel)) (goodIn_sub (fun _ h => List.mem_append_right _ h) (by decide +kernel))
set_option maxRecDepth 20000 in
theorem gL_law_X0_giveUp : GoodIn wsL_law (wsV RL 50 RX0 yX0_giveUp wsX0_giveUp) := goodIn_app (goodIn_of _ (by decide +kernel)) ggL_law_X0_giveUp
set_option maxRecDepth 20000 in
theorem ggL_law_X1_isSame : GoodIn wsL_law wsX1_isSame := goodIn_ca (goodIn_ca (goodIn_r _ [340, 341, 157, 42, 44, 45, 158, 159, 342, 9, 5, 10, 343, 344, 345, 2, 346, 140, 347, 248, 249, 250, 139, 348, 175, 176, 177, 25, 349, 350, 351, 38, 352, 160, 161, 162, 163, 353, 276, 277, 278, 174, 354, 282, 283, 284, 80, 355, 260, 261, 262, 88, 356, 312, 313, 314, 115, 357, 329, 330, 331, 124, 358, 333, 334, 335, 129, 359, 179, 180, 181, 134, 4, 6, 360, 272, 273, 274, 255, 256, 257, 258, 76, 77, 361, 252, 253, 254, 362, 286, 287, 288, 289, 290, 291, 292, 109, 110, 231, 232, 233, 234, 22, 363, 298, 299, 300, 301, 302, 303, 304, 364, 365, 366, 367, 368, 264, 265, 266, 23, 105, 106, 107, 108, 369, 268, 269, 270, 24, 370, 307, 308, 309, 198, 199, 200, 201, 93, 94, 95, 96, 371, 372, 373, 374, 375, 318, 319, 320, 215, 216, 217, 218, 219, 220, 221, 222, 223, 224, 225, 226, 116, 117, 118, 119, 26, 27, 376, 212, 213, 214, 377, 208, 209, 210, 211, 378, 195, 196, 197, 379, 203, 204, 205, 206, 207, 397, 398, 399, 400, 401, 402, 403, 404, 405, 406, 380, 381, 382, 383, 384, 385, 386, 387, 388, 389, 390, 391, 392, 393, 394, 395, 396] rfl (by decide +kernel)) (goodIn_sub (fun _ h => List.mem_append_left _ (List.mem_append_left _ (List.mem_append_right _ h))) (by decide +kernel))) (goodIn_sub (fun _ h => List.mem_append_right _ h) (by decide +kernel))
set_option maxRecDepth 20000 in
theorem gL_law_X1_isSame : GoodIn wsL_law (wsV RL 192 RX1 yX1_isSame wsX1_isSame) := goodIn_app (goodIn_of _ (by decide +kernel)) ggL_law_X1_isSame
