set_option maxRecDepth 20000 in
theorem gA_h : GoodIn wsL_law [.codeWith yL_act cL_act 8 (some .boolean) [(137, 180, 181, 31)]] := goodIn_r _ [78] (by decide +kernel) (by decide +kernel)
set_option maxRecDepth 20000 in
theorem gA_wsL_act_r1 : GoodIn wsL_law wsL_act_r1 := goodIn_r _ [79, 3, 10, 37, 38, 22, 39, 40, 41, 42, 26, 43, 31, 44, 45, 46, 2, 47, 48, 49, 50, 51, 15, 11] (by decide +kernel) (by decide +kernel)
set_option maxRecDepth 20000 in
theorem gA_wsL_act_r2 : GoodIn wsL_law wsL_act_r2 := goodIn_r _ [12, 13, 14, 52, 53, 54, 55, 56, 57, 58, 59, 60, 61, 62, 63, 80, 81, 82, 83, 84, 85, 86, 87, 88] (by decide +kernel) (by decide +kernel)
set_option maxRecDepth 20000 in
theorem gA_wsL_act_r3 : GoodIn wsL_law wsL_act_r3 := goodIn_r _ [89, 90, 91, 92, 93, 18, 94, 95, 96, 97, 17, 98, 99, 100, 101, 16, 102, 103, 104, 105, 106, 107, 108, 109] (by decide +kernel) (by decide +kernel)
set_option maxRecDepth 20000 in
theorem gA_wsL_act_r4 : GoodIn wsL_law wsL_act_r4 := goodIn_r _ [110, 111, 112, 113, 114, 115, 116, 117, 118, 119, 120, 121, 122, 123, 124, 125, 126, 127, 128, 129, 130, 131, 132, 133] (by decide +kernel) (by decide +kernel)
set_option maxRecDepth 20000 in
theorem gA_wsL_act_r5 : GoodIn wsL_law wsL_act_r5 := goodIn_r _ [134, 135, 136, 137, 138, 139, 140, 141, 32, 30, 142, 143, 144, 145, 146, 147, 148, 149, 150, 151, 152, 153, 154, 155] (by decide +kernel) (by decide +kernel)
set_option maxRecDepth 20000 in
theorem gA_wsL_act_r6 : GoodIn wsL_law wsL_act_r6 := goodIn_r _ [156, 157, 158, 159, 160, 161, 162, 163, 164, 165, 166, 167, 168, 169, 170, 171, 172, 173, 174, 175, 176, 177, 178, 179] (by decide +kernel) (by decide +kernel)
set_option maxRecDepth 20000 in
theorem gA_wsL_act_r7 : GoodIn wsL_law wsL_act_r7 := goodIn_r _ [180, 181, 182, 183, 184, 185, 186, 187, 188, 189, 190, 191, 192, 193, 194, 195, 196, 197, 198, 199, 200, 19, 201, 202] (by decide +kernel) (by decide +kernel)
set_option maxRecDepth 20000 in
theorem gA_wsL_act_r8 : GoodIn wsL_law wsL_act_r8 := goodIn_r _ [203, 204, 205, 206, 207, 208, 209, 210, 211, 212, 213, 214, 215, 216, 217, 218] (by decide +kernel) (by decide +kernel)
set_option maxRecDepth 20000 in
theorem ggL_law_L_act : GoodIn wsL_law wsL_act := goodIn_ca (goodIn_ca (goodIn_ca (show GoodIn wsL_law (_ :: _) from goodIn_app gA_h (goodIn_app (goodIn_app (goodIn_app gA_wsL_act_r1 (goodIn_app gA_wsL_act_r2 (goodIn_app gA_wsL_act_r3 (goodIn_app gA_wsL_act_r4 (goodIn_app gA_wsL_act_r5 (goodIn_app gA_wsL_act_r6 (goodIn_app gA_wsL_act_r7 gA_wsL_act_r8))))))) (goodIn_sub inlX1 (by decide +kernel))) (goodIn_sub inlX0 (by decide +kernel)))) (goodIn_sub (fun _ h => List.mem_append_left _ (List.mem_append_left _ (List.mem_append_right _ h))) (by decide +kernel))) (goodIn_sub (fun _ h => List.mem_append_left _ (List.mem_append_right _ h)) (by decide +kernel))) (goodIn_sub (fun _ h => List.mem_append_right _ h) (by decide +kernel))
