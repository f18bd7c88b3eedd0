set_option maxRecDepth 20000 in
theorem gL_law_L_act : GoodIn wsL_law (va_wsS RL 97 yL_act wsL_act) := goodIn_app (goodIn_of _ (by decide +kernel)) ggL_law_L_act
set_option maxRecDepth 20000 in
theorem ggL_law_X0_digest : GoodIn wsL_law wsX0_digest := goodIn_ca (goodIn_r _ [222, 223, 15, 16, 17, 18, 19, 11, 12, 13, 14, 224, 225, 2, 226, 227, 228, 229, 230, 231, 106, 107, 108, 109, 102, 103, 104, 105, 110, 111, 112, 113, 114, 115, 116, 117, 118, 100, 119, 120, 121, 122, 123, 124, 125, 126, 127, 128, 232, 233, 234, 235, 236, 237, 238, 239, 240, 241, 242, 243, 244, 245, 246, 247, 201, 202, 203, 248, 249, 250, 251, 252, 253, 254, 88, 89, 58, 59, 60, 133, 134, 135, 136, 255, 256, 257, 258, 259, 260, 261, 262, 263, 264, 265, 266, 267, 268, 269, 270, 84, 85, 86, 87, 360, 361, 362, 363, 364, 365, 366, 367, 368] (by decide +kernel) (by decide +kernel)) (goodIn_sub (fun _ h => List.mem_append_right _ h) (by decide +kernel))
set_option maxRecDepth 20000 in
theorem gL_law_X0_digest : GoodIn wsL_law (wsV RL 101 RX0 yX0_digest wsX0_digest) := goodIn_app (goodIn_of _ (by decide +kernel)) ggL_law_X0_digest
set_option maxRecDepth 20000 in
theorem ggL_law_X0_strangers : GoodIn wsL_law wsX0_strangers := goodIn_r _ [274, 15, 360, 361, 362, 363, 364, 365, 366, 367, 368] (by decide +kernel) (by decide +kernel)
set_option maxRecDepth 20000 in
theorem gL_law_X0_strangers : GoodIn wsL_law (wsV RL 105 RX0 yX0_strangers wsX0_strangers) := goodIn_app (goodIn_of _ (by decide +kernel)) ggL_law_X0_strangers
set_option maxRecDepth 20000 in
theorem ggL_law_X0_coincidences : GoodIn wsL_law wsX0_coincidences := goodIn_r _ [231, 106, 107, 108, 2, 109, 15, 102, 103, 104, 105, 13, 14, 110, 111, 112, 113, 11, 12, 114, 115, 116, 117, 118, 100, 119, 120, 121, 122, 123, 124, 125, 126, 127, 128, 360, 361, 362, 363, 364, 365, 366, 367, 368] (by decide +kernel) (by decide +kernel)
set_option maxRecDepth 20000 in
theorem gL_law_X0_coincidences : GoodIn wsL_law (wsV RL 108 RX0 yX0_coincidences wsX0_coincidences) := goodIn_app (goodIn_of _ (by decide +kernel)) ggL_law_X0_coincidences
set_option maxRecDepth 20000 in
theorem ggL_law_X0_coincidencesAt : GoodIn wsL_law wsX0_coincidencesAt := goodIn_ca (goodIn_r _ [258, 15, 13, 252, 253, 2, 254, 88, 89, 58, 59, 60, 110, 111, 112, 113, 11, 12, 114, 115, 116, 117, 118, 100, 119, 120, 121, 122, 123, 124, 125, 126, 127, 128, 360, 361, 362, 363, 364, 365, 366, 367, 368] (by decide +kernel) (by decide +kernel)) (goodIn_sub (fun _ h => List.mem_append_right _ h) (by decide +kernel))
set_option maxRecDepth 20000 in
theorem gL_law_X0_coincidencesAt : GoodIn wsL_law (wsV RL 111 RX0 yX0_coincidencesAt wsX0_coincidencesAt) := goodIn_app (goodIn_of _ (by decide +kernel)) ggL_law_X0_coincidencesAt
set_option maxRecDepth 20000 in
theorem ggL_law_X0_peopleAt : GoodIn wsL_law wsX0_peopleAt := goodIn_ca (goodIn_r _ [251, 252, 253, 2, 254, 88, 89, 58, 59, 60, 133, 134, 135, 136, 15, 13, 360, 361, 362, 363, 364, 365, 366, 367, 368] (by decide +kernel) (by decide +kernel)) (goodIn_sub (fun _ h => List.mem_append_right _ h) (by decide +kernel))
set_option maxRecDepth 20000 in
theorem gL_law_X0_peopleAt : GoodIn wsL_law (wsV RL 114 RX0 yX0_peopleAt wsX0_peopleAt) := goodIn_app (goodIn_of _ (by decide +kernel)) ggL_law_X0_peopleAt
set_option maxRecDepth 20000 in
theorem ggL_law_X0_luckOf : GoodIn wsL_law wsX0_luckOf := goodIn_ca (goodIn_r _ [281, 84, 85, 86, 2, 87, 88, 89, 15, 259, 260, 261, 262, 11, 13, 263, 264, 265, 266, 12, 114, 115, 116, 117, 118, 100, 119, 120, 121, 122, 123, 124, 125, 126, 127, 128, 360, 361, 362, 363, 364, 365, 366, 367, 368] (by decide +kernel) (by decide +kernel)) (goodIn_sub (fun _ h => List.mem_append_right _ h) (by decide +kernel))
set_option maxRecDepth 20000 in
theorem gL_law_X0_luckOf : GoodIn wsL_law (wsV RL 117 RX0 yX0_luckOf wsX0_luckOf) := goodIn_app (goodIn_of _ (by decide +kernel)) ggL_law_X0_luckOf
set_option maxRecDepth 20000 in
theorem ggL_law_X0_pointsOf : GoodIn wsL_law wsX0_pointsOf := goodIn_ca (goodIn_ca (goodIn_r _ [285, 193, 194, 195, 2, 196, 48, 49, 84, 85, 86, 87, 88, 89, 15, 110, 111, 112, 113, 11, 12, 114, 115, 116, 117, 118, 100, 119, 120, 121, 122, 123, 124, 125, 126, 127, 128, 360, 361, 362, 363, 364, 365, 366, 367, 368] (by decide +kernel) (by decide +kernel)) (goodIn_sub (fun _ h => List.mem_append_left _ (List.mem_append_left _ (List.mem_append_right _ h))) (by decide +kernel))) (goodIn_sub (fun _ h => List.mem_append_right _ h) (by decide +kernel))
set_option maxRecDepth 20000 in
theorem gL_law_X0_pointsOf : GoodIn wsL_law (wsV RL 120 RX0 yX0_pointsOf wsX0_pointsOf) := goodIn_app (goodIn_of _ (by decide +kernel)) ggL_law_X0_pointsOf
set_option maxRecDepth 20000 in
theorem ggL_law_X0_costOfMeeting : GoodIn wsL_law wsX0_costOfMeeting := goodIn_ca (goodIn_ca (goodIn_r _ [289, 13, 193, 194, 195, 2, 196, 48, 49, 84, 85, 86, 87, 88, 89, 15, 212, 213, 214, 117, 118, 100, 119, 98, 99, 101, 360, 361, 362, 363, 364, 365, 366, 367, 368] (by decide +kernel) (by decide +kernel)) (goodIn_sub (fun _ h => List.mem_append_left _ (List.mem_append_left _ (List.mem_append_right _ h))) (by decide +kernel))) (goodIn_sub (fun _ h => List.mem_append_right _ h) (by decide +kernel))
set_option maxRecDepth 20000 in
theorem gL_law_X0_costOfMeeting : GoodIn wsL_law (wsV RL 123 RX0 yX0_costOfMeeting wsX0_costOfMeeting) := goodIn_app (goodIn_of _ (by decide +kernel)) ggL_law_X0_costOfMeeting
set_option maxRecDepth 20000 in
theorem ggL_law_X0_hoursUntilTogether : GoodIn wsL_law wsX0_hoursUntilTogether := goodIn_ca (goodIn_ca (goodIn_r _ [293, 193, 194, 195, 2, 196, 48, 49, 84, 85, 86, 87, 88, 89, 15, 102, 103, 104, 105, 13, 14, 360, 361, 362, 363, 364, 365, 366, 367, 368] (by decide +kernel) (by decide +kernel)) (goodIn_sub (fun _ h => List.mem_append_left _ (List.mem_append_left _ (List.mem_append_right _ h))) (by decide +kernel))) (goodIn_sub (fun _ h => List.mem_append_right _ h) (by decide +kernel))
set_option maxRecDepth 20000 in
theorem gL_law_X0_hoursUntilTogether : GoodIn wsL_law (wsV RL 126 RX0 yX0_hoursUntilTogether wsX0_hoursUntilTogether) := goodIn_app (goodIn_of _ (by decide +kernel)) ggL_law_X0_hoursUntilTogether
set_option maxRecDepth 20000 in
theorem ggL_law_X0_areTogether : GoodIn wsL_law wsX0_areTogether := goodIn_ca (goodIn_ca (goodIn_r _ [297, 13, 193, 194, 195, 2, 196, 48, 49, 84, 85, 86, 87, 88, 89, 15, 360, 361, 362, 363, 364, 365, 366, 367, 368] (by decide +kernel) (by decide +kernel)) (goodIn_sub (fun _ h => List.mem_append_left _ (List.mem_append_left _ (List.mem_append_right _ h))) (by decide +kernel))) (goodIn_sub (fun _ h => List.mem_append_right _ h) (by decide +kernel))
set_option maxRecDepth 20000 in
theorem gL_law_X0_areTogether : GoodIn wsL_law (wsV RL 129 RX0 yX0_areTogether wsX0_areTogether) := goodIn_app (goodIn_of _ (by decide +kernel)) ggL_law_X0_areTogether
set_option maxRecDepth 20000 in
theorem ggL_law_X0_areMirrored : GoodIn wsL_law wsX0_areMirrored := goodIn_ca (goodIn_ca (goodIn_r _ [301, 11, 193, 194, 195, 2, 196, 48, 49, 84, 85, 86, 87, 88, 89, 15, 123, 124, 125, 360, 361, 362, 363, 364, 365, 366, 367, 368] (by decide +kernel) (by decide +kernel)) (goodIn_sub (fun _ h => List.mem_append_left _ (List.mem_append_left _ (List.mem_append_right _ h))) (by decide +kernel))) (goodIn_sub (fun _ h => List.mem_append_right _ h) (by decide +kernel))
set_option maxRecDepth 20000 in
theorem gL_law_X0_areMirrored : GoodIn wsL_law (wsV RL 133 RX0 yX0_areMirrored wsX0_areMirrored) := goodIn_app (goodIn_of _ (by decide +kernel)) ggL_law_X0_areMirrored
set_option maxRecDepth 20000 in
theorem ggL_law_X0_cornerOf : GoodIn wsL_law wsX0_cornerOf := goodIn_ca (goodIn_r _ [305, 13, 84, 85, 86, 2, 87, 88, 89, 15, 360, 361, 362, 363, 364, 365, 366, 367, 368] (by decide +kernel) (by decide +kernel)) (goodIn_sub (fun _ h => List.mem_append_right _ h) (by decide +kernel))
set_option maxRecDepth 20000 in
theorem gL_law_X0_cornerOf : GoodIn wsL_law (wsV RL 136 RX0 yX0_cornerOf wsX0_cornerOf) := goodIn_app (goodIn_of _ (by decide +kernel)) ggL_law_X0_cornerOf
set_option maxRecDepth 20000 in
theorem ggL_law_X0_coincidencesIn : GoodIn wsL_law wsX0_coincidencesIn := goodIn_ca (goodIn_r _ [309, 48, 49, 106, 107, 108, 2, 109, 15, 102, 103, 104, 105, 13, 14, 110, 111, 112, 113, 11, 12, 114, 115, 116, 117, 118, 100, 119, 120, 121, 122, 123, 124, 125, 126, 127, 128, 360, 361, 362, 363, 364, 365, 366, 367, 368] (by decide +kernel) (by decide +kernel)) (goodIn_sub (fun _ h => List.mem_append_left _ (List.mem_append_left _ (List.mem_append_right _ h))) (by decide +kernel))
set_option maxRecDepth 20000 in
theorem gL_law_X0_coincidencesIn : GoodIn wsL_law (wsV RL 139 RX0 yX0_coincidencesIn wsX0_coincidencesIn) := goodIn_app (goodIn_of _ (by decide +kernel)) ggL_law_X0_coincidencesIn
set_option maxRecDepth 20000 in
theorem ggL_law_X0_meanLuck : GoodIn wsL_law wsX0_meanLuck := goodIn_r _ [313, 15, 259, 260, 261, 2, 262, 11, 13, 263, 264, 265, 266, 12, 114, 115, 116, 117, 118, 100, 119, 120, 121, 122, 123, 124, 125, 126, 127, 128, 360, 361, 362, 363, 364, 365, 366, 367, 368] (by decide +kernel) (by decide +kernel)
set_option maxRecDepth 20000 in
theorem gL_law_X0_meanLuck : GoodIn wsL_law (wsV RL 142 RX0 yX0_meanLuck wsX0_meanLuck) := goodIn_app (goodIn_of _ (by decide +kernel)) ggL_law_X0_meanLuck
set_option maxRecDepth 20000 in
theorem ggL_law_X0_bestHour : GoodIn wsL_law wsX0_bestHour := goodIn_r _ [239, 106, 107, 108, 2, 109, 15, 102, 103, 104, 105, 13, 14, 110, 111, 112, 113, 11, 12, 114, 115, 116, 117, 118, 100, 119, 120, 121, 122, 123, 124, 125, 126, 127, 128, 360, 361, 362, 363, 364, 365, 366, 367, 368] (by decide +kernel) (by decide +kernel)
set_option maxRecDepth 20000 in
theorem gL_law_X0_bestHour : GoodIn wsL_law (wsV RL 146 RX0 yX0_bestHour wsX0_bestHour) := goodIn_app (goodIn_of _ (by decide +kernel)) ggL_law_X0_bestHour
set_option maxRecDepth 20000 in
theorem ggL_law_X0_luckiestPair : GoodIn wsL_law wsX0_luckiestPair := goodIn_r _ [235, 15, 110, 111, 112, 2, 113, 11, 12, 114, 115, 116, 117, 118, 100, 119, 120, 121, 122, 123, 124, 125, 126, 127, 128, 360, 361, 362, 363, 364, 365, 366, 367, 368] (by decide +kernel) (by decide +kernel)
set_option maxRecDepth 20000 in
theorem gL_law_X0_luckiestPair : GoodIn wsL_law (wsV RL 149 RX0 yX0_luckiestPair wsX0_luckiestPair) := goodIn_app (goodIn_of _ (by decide +kernel)) ggL_law_X0_luckiestPair
set_option maxRecDepth 20000 in
theorem ggL_law_X0_bestSwap : GoodIn wsL_law wsX0_bestSwap := goodIn_r _ [243, 15, 106, 107, 108, 2, 109, 102, 103, 104, 105, 13, 14, 110, 111, 112, 113, 11, 12, 114, 115, 116, 117, 118, 100, 119, 120, 121, 122, 123, 124, 125, 126, 127, 128, 244, 245, 246, 247, 201, 202, 203, 360, 361, 362, 363, 364, 365, 366, 367, 368] (by decide +kernel) (by decide +kernel)
set_option maxRecDepth 20000 in
theorem gL_law_X0_bestSwap : GoodIn wsL_law (wsV RL 152 RX0 yX0_bestSwap wsX0_bestSwap) := goodIn_app (goodIn_of _ (by decide +kernel)) ggL_law_X0_bestSwap
set_option maxRecDepth 20000 in
theorem ggL_law_L_below : GoodIn wsL_law wsL_below := goodIn_r _ [39, 40] (by decide +kernel) (by decide +kernel)
set_option maxRecDepth 20000 in
theorem gL_law_L_below : GoodIn wsL_law (va_wsS RL 15 yL_below wsL_below) := goodIn_app (goodIn_of _ (by decide +kernel)) ggL_law_L_below
set_option maxRecDepth 20000 in
theorem ggL_law_X0_bestCorner : GoodIn wsL_law wsX0_bestCorner := goodIn_ca (goodIn_r _ [270, 11, 84, 85, 86, 2, 87, 88, 89, 15, 263, 264, 265, 266, 13, 12, 114, 115, 116, 117, 118, 100, 119, 120, 121, 122, 123, 124, 125, 126, 127, 128, 360, 361, 362, 363, 364, 365, 366, 367, 368] (by decide +kernel) (by decide +kernel)) (goodIn_sub (fun _ h => List.mem_append_right _ h) (by decide +kernel))
set_option maxRecDepth 20000 in
theorem gL_law_X0_bestCorner : GoodIn wsL_law (wsV RL 155 RX0 yX0_bestCorner wsX0_bestCorner) := goodIn_app (goodIn_of _ (by decide +kernel)) ggL_law_X0_bestCorner
set_option maxRecDepth 20000 in
theorem ggL_law_X0_move : GoodIn wsL_law wsX0_move := goodIn_ca (goodIn_ca (goodIn_ca (goodIn_r _ [211, 48, 49, 50, 51, 13, 84, 85, 86, 2, 87, 88, 89, 15, 58, 59, 60, 212, 213, 214, 117, 118, 100, 119, 98, 99, 101, 197, 198, 199, 200, 17, 19, 360, 361, 362, 363, 364, 365, 366, 367, 368] (by decide +kernel) (by decide +kernel)) (goodIn_sub (fun _ h => List.mem_append_left _ (List.mem_append_left _ (List.mem_append_right _ h))) (by decide +kernel))) (goodIn_sub (fun _ h => List.mem_append_left _ (List.mem_append_right _ h)) (by decide +kernel))) (goodIn_sub (fun _ h => List.mem_append_right _ h) (by decide +kernel))
set_option maxRecDepth 20000 in
theorem gL_law_X0_move : GoodIn wsL_law (wsV RL 73 RX0 yX0_move wsX0_move) := goodIn_app (goodIn_of _ (by decide +kernel)) ggL_law_X0_move
set_option maxRecDepth 20000 in
theorem ggL_law_X1_pay : GoodIn wsL_law wsX1_pay := goodIn_r _ [179, 30, 180, 369, 370, 371, 372, 373] (by decide +kernel) (by decide +kernel)
set_option maxRecDepth 20000 in
theorem gL_law_X1_pay : GoodIn wsL_law (wsV RL 56 RX1 yX1_pay wsX1_pay) := goodIn_app (goodIn_of _ (by decide +kernel)) ggL_law_X1_pay
set_option maxRecDepth 20000 in
theorem ggL_law_X0_bestTicket : GoodIn wsL_law wsX0_bestTicket := goodIn_ca (goodIn_r _ [321, 13, 84, 85, 86, 2, 87, 88, 89, 15, 263, 264, 265, 266, 11, 12, 114, 115, 116, 117, 118, 100, 119, 120, 121, 122, 123, 124, 125, 126, 127, 128, 360, 361, 362, 363, 364, 365, 366, 367, 368] (by decide +kernel) (by decide +kernel)) (goodIn_sub (fun _ h => List.mem_append_right _ h) (by decide +kernel))
set_option maxRecDepth 20000 in
theorem gL_law_X0_bestTicket : GoodIn wsL_law (wsV RL 158 RX0 yX0_bestTicket wsX0_bestTicket) := goodIn_app (goodIn_of _ (by decide +kernel)) ggL_law_X0_bestTicket
set_option maxRecDepth 20000 in
theorem ggL_law_X0_draw : GoodIn wsL_law wsX0_draw := goodIn_ca (goodIn_ca (goodIn_ca (goodIn_r _ [218, 48, 49, 11, 84, 85, 86, 2, 87, 88, 89, 15, 52, 53, 54, 197, 198, 199, 200, 50, 51, 17, 19, 360, 361, 362, 363, 364, 365, 366, 367, 368] (by decide +kernel) (by decide +kernel)) (goodIn_sub (fun _ h => List.mem_append_left _ (List.mem_append_left _ (List.mem_append_right _ h))) (by decide +kernel))) (goodIn_sub (fun _ h => List.mem_append_right _ h) (by decide +kernel))) (goodIn_sub (fun _ h => List.mem_append_left _ (List.mem_append_right _ h)) (by decide +kernel))
set_option maxRecDepth 20000 in
theorem gL_law_X0_draw : GoodIn wsL_law (wsV RL 76 RX0 yX0_draw wsX0_draw) := goodIn_app (goodIn_of _ (by decide +kernel)) ggL_law_X0_draw
set_option maxRecDepth 20000 in
theorem ggL_law_X1_ticket : GoodIn wsL_law wsX1_ticket := goodIn_r _ [184, 32, 369, 370, 371, 372, 373] (by decide +kernel) (by decide +kernel)
set_option maxRecDepth 20000 in
theorem gL_law_X1_ticket : GoodIn wsL_law (wsV RL 60 RX1 yX1_ticket wsX1_ticket) := goodIn_app (goodIn_of _ (by decide +kernel)) ggL_law_X1_ticket
set_option maxRecDepth 20000 in
theorem ggL_law_X1_set : GoodIn wsL_law wsX1_set := goodIn_r _ [188, 32, 369, 370, 371, 372, 373] (by decide +kernel) (by decide +kernel)
set_option maxRecDepth 20000 in
theorem gL_law_X1_set : GoodIn wsL_law (wsV RL 63 RX1 yX1_set wsX1_set) := goodIn_app (goodIn_of _ (by decide +kernel)) ggL_law_X1_set
set_option maxRecDepth 20000 in
theorem ggL_law_X0_swapTickets : GoodIn wsL_law wsX0_swapTickets := goodIn_ca (goodIn_ca (goodIn_ca (goodIn_r _ [207, 11, 193, 194, 195, 2, 196, 48, 49, 84, 85, 86, 87, 88, 89, 15, 197, 198, 199, 200, 50, 51, 17, 19, 106, 107, 108, 109, 102, 103, 104, 105, 13, 14, 110, 111, 112, 113, 12, 114, 115, 116, 117, 118, 100, 119, 120, 121, 122, 123, 124, 125, 126, 127, 128, 201, 202, 203, 360, 361, 362, 363, 364, 365, 366, 367, 368] (by decide +kernel) (by decide +kernel)) (goodIn_sub (fun _ h => List.mem_append_left _ (List.mem_append_left _ (List.mem_append_right _ h))) (by decide +kernel))) (goodIn_sub (fun _ h => List.mem_append_right _ h) (by decide +kernel))) (goodIn_sub (fun _ h => List.mem_append_left _ (List.mem_append_right _ h)) (by decide +kernel))
set_option maxRecDepth 20000 in
theorem gL_law_X0_swapTickets : GoodIn wsL_law (wsV RL 70 RX0 yX0_swapTickets wsX0_swapTickets) := goodIn_app (goodIn_of _ (by decide +kernel)) ggL_law_X0_swapTickets
set_option maxRecDepth 20000 in
theorem ggL_law_X0_counted : GoodIn wsL_law wsX0_counted := goodIn_r _ [325, 18, 360, 361, 362, 363, 364, 365, 366, 367, 368] (by decide +kernel) (by decide +kernel)
set_option maxRecDepth 20000 in
theorem gL_law_X0_counted : GoodIn wsL_law (wsV RL 161 RX0 yX0_counted wsX0_counted) := goodIn_app (goodIn_of _ (by decide +kernel)) ggL_law_X0_counted
set_option maxRecDepth 20000 in
theorem ggL_law_X0_pass : GoodIn wsL_law wsX0_pass := goodIn_ca (goodIn_r _ [93, 48, 49, 18, 94, 95, 96, 2, 97, 15, 13, 17, 98, 99, 100, 101, 16, 102, 103, 104, 105, 14, 106, 107, 108, 109, 110, 111, 112, 113, 11, 12, 114, 115, 116, 117, 118, 119, 120, 121, 122, 123, 124, 125, 126, 127, 128, 129, 130, 131, 132, 133, 134, 135, 136, 360, 361, 362, 363, 364, 365, 366, 367, 368] (by decide +kernel) (by decide +kernel)) (goodIn_sub (fun _ h => List.mem_append_left _ (List.mem_append_left _ (List.mem_append_right _ h))) (by decide +kernel))
set_option maxRecDepth 20000 in
theorem gL_law_X0_pass : GoodIn wsL_law (wsV RL 36 RX0 yX0_pass wsX0_pass) := goodIn_app (goodIn_of _ (by decide +kernel)) ggL_law_X0_pass
set_option maxRecDepth 20000 in
theorem ggL_law_X1_pass : GoodIn wsL_law wsX1_pass := goodIn_r _ [140, 141, 32, 30, 142, 99, 100, 101, 143, 144, 145, 146, 26, 147, 148, 149, 150, 151, 152, 153, 154, 155, 156, 157, 158, 159, 160, 118, 119, 161, 162, 163, 164, 165, 166, 167, 369, 370, 371, 372, 373] (by decide +kernel) (by decide +kernel)
set_option maxRecDepth 20000 in
theorem gL_law_X1_pass : GoodIn wsL_law (wsV RL 40 RX1 yX1_pass wsX1_pass) := goodIn_app (goodIn_of _ (by decide +kernel)) ggL_law_X1_pass
set_option maxRecDepth 20000 in
theorem ggL_law_X1_isSame : GoodIn wsL_law wsX1_isSame := goodIn_ca (goodIn_ca (goodIn_r _ [329, 32, 143, 30, 141, 180, 330, 272, 273, 2, 274, 15, 331, 73, 74, 75, 16, 332, 65, 66, 67, 17, 333, 323, 324, 325, 18, 334, 69, 70, 71, 19, 335, 229, 230, 231, 106, 107, 108, 109, 102, 103, 104, 105, 13, 14, 110, 111, 112, 113, 11, 12, 114, 115, 116, 117, 118, 100, 119, 120, 121, 122, 123, 124, 125, 126, 127, 128, 144, 145, 146, 26, 147, 148, 149, 150, 151, 152, 153, 154, 155, 156, 157, 158, 159, 160, 161, 162, 163, 336, 249, 250, 251, 252, 253, 254, 88, 89, 58, 59, 60, 133, 134, 135, 136, 164, 165, 166, 167, 337, 256, 257, 258, 338, 339, 340, 341, 84, 85, 86, 87, 342, 182, 183, 184, 343, 344, 345, 346, 347, 303, 304, 305, 348, 349, 350, 351, 352, 279, 280, 281, 259, 260, 261, 262, 263, 264, 265, 266, 353, 283, 284, 285, 193, 194, 195, 196, 48, 49, 354, 295, 296, 297, 355, 299, 300, 301, 356, 287, 288, 289, 212, 213, 214, 98, 99, 101, 357, 174, 175, 358, 233, 234, 235, 359, 311, 312, 313, 369, 370, 371, 372, 373, 360, 361, 362, 363, 364, 365, 366, 367, 368] (by decide +kernel) (by decide +kernel)) (goodIn_sub (fun _ h => List.mem_append_right _ h) (by decide +kernel))) (goodIn_sub (fun _ h => List.mem_append_left _ (List.mem_append_left _ (List.mem_append_right _ h))) (by decide +kernel))
set_option maxRecDepth 20000 in
theorem gL_law_X1_isSame : GoodIn wsL_law (wsV RL 164 RX1 yX1_isSame wsX1_isSame) := goodIn_app (goodIn_of _ (by decide +kernel)) ggL_law_X1_isSame
