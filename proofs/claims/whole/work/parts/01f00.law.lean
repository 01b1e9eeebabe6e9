set_option maxRecDepth 20000 in
theorem ggL_law_L_cell : GoodIn wsL_law wsL_cell := goodIn_r _ [10] (by decide +kernel) (by decide +kernel)
set_option maxRecDepth 20000 in
theorem gL_law_L_cell : GoodIn wsL_law (va_wsS RL 68 yL_cell wsL_cell) := goodIn_app (goodIn_of _ (by decide +kernel)) ggL_law_L_cell
set_option maxRecDepth 20000 in
theorem ggL_law_X0_init : GoodIn wsL_law wsX0_init := goodIn_r _ [13, 14, 15, 16, 17, 18, 19, 20, 21, 22, 23, 24, 25, 26, 27, 28, 29, 30, 31, 2, 32, 33, 34, 35, 36, 37, 38, 39, 40, 41, 42, 43, 44, 45, 46, 47, 48, 395, 396, 397, 398, 399, 400, 401, 402, 403, 404, 405, 406, 407] (by decide +kernel) (by decide +kernel)
set_option maxRecDepth 20000 in
theorem gL_law_X0_init : GoodIn wsL_law (wsX0_init) := ggL_law_X0_init
set_option maxRecDepth 20000 in
theorem ggL_law_X1_init : GoodIn wsL_law wsX1_init := goodIn_r _ [51, 52, 15, 16, 17, 53, 54, 6, 55, 56, 57, 58, 59, 60, 61, 62, 63, 64, 65, 66, 67, 68, 69, 5, 70, 71, 72, 73, 74, 75, 76, 408, 409, 410, 411, 412, 413, 414, 415, 416, 417, 418, 419, 420, 421, 422, 423, 424] (by decide +kernel) (by decide +kernel)
set_option maxRecDepth 20000 in
theorem gL_law_X1_init : GoodIn wsL_law (wsX1_init) := ggL_law_X1_init
set_option maxRecDepth 20000 in
theorem ggL_law_L_create : GoodIn wsL_law wsL_create := goodIn_ca (goodIn_ca (goodIn_ca (goodIn_r _ [79, 80, 81, 82, 83, 84, 85, 2, 86, 87, 88, 18, 19, 89, 90, 91, 92, 93, 94, 95, 96, 97, 98, 99, 100, 101, 102, 23, 103, 104, 105, 106, 22, 44, 21, 107, 108, 109, 110, 20, 111, 112, 113, 114, 115, 116, 117, 118, 37, 38, 35, 39, 119, 120, 121, 122, 26, 123, 124, 125, 126, 127, 128, 129, 130, 131, 132, 133, 134, 395, 396, 397, 398, 399, 400, 401, 402, 403, 404, 405, 406, 407] (by decide +kernel) (by decide +kernel)) (goodIn_sub (fun _ h => List.mem_append_left _ (List.mem_append_left _ (List.mem_append_left _ (List.mem_append_right _ h)))) (by decide +kernel))) (goodIn_sub (fun _ h => List.mem_append_left _ (List.mem_append_left _ (List.mem_append_right _ h))) (by decide +kernel))) (goodIn_sub (fun _ h => List.mem_append_left _ (List.mem_append_right _ h)) (by decide +kernel))
set_option maxRecDepth 20000 in
theorem gL_law_L_create : GoodIn wsL_law (va_wsS RL 80 yL_create wsL_create) := goodIn_app (goodIn_of _ (by decide +kernel)) ggL_law_L_create
set_option maxRecDepth 20000 in
theorem ggL_law_X1_create : GoodIn wsL_law wsX1_create := goodIn_r _ [138, 53, 75, 54, 59, 139, 140, 5, 141, 142, 143, 144, 145, 146, 147, 148, 56, 76, 55, 149, 150, 151, 152, 153, 154, 155, 156, 64, 157, 158, 159, 160, 60, 408, 409, 410, 411, 412, 413, 414, 415, 416, 417, 418, 419, 420, 421, 422, 423, 424] (by decide +kernel) (by decide +kernel)
set_option maxRecDepth 20000 in
theorem gL_law_X1_create : GoodIn wsL_law (wsV RL 83 RX1 yX1_create wsX1_create) := goodIn_app (goodIn_of _ (by decide +kernel)) ggL_law_X1_create
set_option maxRecDepth 20000 in
theorem ggL_law_X1_thrown : GoodIn wsL_law wsX1_thrown := goodIn_r _ [164, 75, 408, 409, 410, 411, 412, 413, 414, 415, 416, 417, 418, 419, 420, 421, 422, 423, 424] (by decide +kernel) (by decide +kernel)
set_option maxRecDepth 20000 in
theorem gL_law_X1_thrown : GoodIn wsL_law (wsV RL 84 RX1 yX1_thrown wsX1_thrown) := goodIn_app (goodIn_of _ (by decide +kernel)) ggL_law_X1_thrown
set_option maxRecDepth 20000 in
theorem ggL_law_L_priority : GoodIn wsL_law wsL_priority := goodIn_ca (goodIn_ca (goodIn_ca (goodIn_r _ [167, 80, 81, 82, 168, 169, 170, 2, 171, 87, 88, 18, 19, 89, 90, 91, 92, 93, 94, 95, 96, 97, 98, 107, 108, 109, 110, 20, 111, 112, 113, 114, 115, 116, 117, 118, 37, 38, 35, 39, 119, 120, 121, 122, 22, 26, 395, 396, 397, 398, 399, 400, 401, 402, 403, 404, 405, 406, 407] (by decide +kernel) (by decide +kernel)) (goodIn_sub (fun _ h => List.mem_append_left _ (List.mem_append_left _ (List.mem_append_left _ (List.mem_append_right _ h)))) (by decide +kernel))) (goodIn_sub (fun _ h => List.mem_append_left _ (List.mem_append_left _ (List.mem_append_right _ h))) (by decide +kernel))) (goodIn_sub (fun _ h => List.mem_append_left _ (List.mem_append_right _ h)) (by decide +kernel))
set_option maxRecDepth 20000 in
theorem gL_law_L_priority : GoodIn wsL_law (va_wsS RL 87 yL_priority wsL_priority) := goodIn_app (goodIn_of _ (by decide +kernel)) ggL_law_L_priority
set_option maxRecDepth 20000 in
theorem ggL_law_X1_priority : GoodIn wsL_law wsX1_priority := goodIn_r _ [175, 53, 75, 54, 139, 140, 5, 141, 142, 143, 144, 408, 409, 410, 411, 412, 413, 414, 415, 416, 417, 418, 419, 420, 421, 422, 423, 424] (by decide +kernel) (by decide +kernel)
set_option maxRecDepth 20000 in
theorem gL_law_X1_priority : GoodIn wsL_law (wsV RL 89 RX1 yX1_priority wsX1_priority) := goodIn_app (goodIn_of _ (by decide +kernel)) ggL_law_X1_priority
set_option maxRecDepth 20000 in
theorem ggL_law_L_lock : GoodIn wsL_law wsL_lock := goodIn_ca (goodIn_ca (goodIn_ca (goodIn_r _ [178, 80, 82, 81, 179, 180, 181, 2, 182, 97, 98, 26, 183, 184, 185, 186, 92, 93, 187, 188, 189, 190, 87, 88, 123, 124, 125, 126, 127, 128, 129, 130, 18, 22, 131, 132, 133, 134, 20, 21, 191, 192, 193, 194, 119, 120, 121, 122, 103, 104, 105, 106, 44, 107, 108, 109, 110, 19, 111, 112, 113, 114, 115, 116, 117, 118, 37, 38, 35, 39, 395, 396, 397, 398, 399, 400, 401, 402, 403, 404, 405, 406, 407] (by decide +kernel) (by decide +kernel)) (goodIn_sub (fun _ h => List.mem_append_left _ (List.mem_append_right _ h)) (by decide +kernel))) (goodIn_sub (fun _ h => List.mem_append_left _ (List.mem_append_left _ (List.mem_append_right _ h))) (by decide +kernel))) (goodIn_sub (fun _ h => List.mem_append_left _ (List.mem_append_left _ (List.mem_append_left _ (List.mem_append_right _ h)))) (by decide +kernel))
set_option maxRecDepth 20000 in
theorem gL_law_L_lock : GoodIn wsL_law (va_wsS RL 90 yL_lock wsL_lock) := goodIn_app (goodIn_of _ (by decide +kernel)) ggL_law_L_lock
set_option maxRecDepth 20000 in
theorem ggL_law_X1_lock : GoodIn wsL_law wsX1_lock := goodIn_r _ [198, 65, 75, 60, 149, 150, 151, 5, 152, 153, 154, 155, 156, 53, 56, 64, 55, 157, 158, 159, 160, 54, 199, 200, 201, 202, 145, 146, 147, 148, 76, 408, 409, 410, 411, 412, 413, 414, 415, 416, 417, 418, 419, 420, 421, 422, 423, 424] (by decide +kernel) (by decide +kernel)
set_option maxRecDepth 20000 in
theorem gL_law_X1_lock : GoodIn wsL_law (wsV RL 93 RX1 yX1_lock wsX1_lock) := goodIn_app (goodIn_of _ (by decide +kernel)) ggL_law_X1_lock
set_option maxRecDepth 20000 in
theorem ggL_law_L_unlock : GoodIn wsL_law wsL_unlock := goodIn_ca (goodIn_ca (goodIn_ca (goodIn_r _ [205, 80, 82, 81, 206, 207, 208, 2, 209, 97, 98, 26, 183, 184, 185, 186, 92, 93, 187, 188, 189, 190, 87, 88, 123, 124, 125, 126, 127, 128, 129, 130, 18, 22, 131, 132, 133, 134, 20, 21, 99, 100, 101, 102, 23, 103, 104, 105, 106, 44, 107, 108, 109, 110, 19, 111, 112, 113, 114, 115, 116, 117, 118, 37, 38, 35, 39, 119, 120, 121, 122, 395, 396, 397, 398, 399, 400, 401, 402, 403, 404, 405, 406, 407] (by decide +kernel) (by decide +kernel)) (goodIn_sub (fun _ h => List.mem_append_left _ (List.mem_append_right _ h)) (by decide +kernel))) (goodIn_sub (fun _ h => List.mem_append_left _ (List.mem_append_left _ (List.mem_append_right _ h))) (by decide +kernel))) (goodIn_sub (fun _ h => List.mem_append_left _ (List.mem_append_left _ (List.mem_append_left _ (List.mem_append_right _ h)))) (by decide +kernel))
set_option maxRecDepth 20000 in
theorem gL_law_L_unlock : GoodIn wsL_law (va_wsS RL 94 yL_unlock wsL_unlock) := goodIn_app (goodIn_of _ (by decide +kernel)) ggL_law_L_unlock
set_option maxRecDepth 20000 in
theorem ggL_law_X1_unlock : GoodIn wsL_law wsX1_unlock := goodIn_r _ [213, 65, 60, 75, 149, 150, 151, 5, 152, 153, 154, 155, 156, 53, 56, 64, 55, 157, 158, 159, 160, 54, 145, 146, 147, 148, 76, 408, 409, 410, 411, 412, 413, 414, 415, 416, 417, 418, 419, 420, 421, 422, 423, 424] (by decide +kernel) (by decide +kernel)
set_option maxRecDepth 20000 in
theorem gL_law_X1_unlock : GoodIn wsL_law (wsV RL 96 RX1 yX1_unlock wsX1_unlock) := goodIn_app (goodIn_of _ (by decide +kernel)) ggL_law_X1_unlock
set_option maxRecDepth 20000 in
theorem ggL_law_L_down : GoodIn wsL_law wsL_down := goodIn_ca (goodIn_ca (goodIn_r _ [216, 80, 82, 217, 218, 219, 2, 220, 27, 221, 222, 223, 224, 92, 93, 187, 188, 189, 190, 87, 88, 123, 124, 125, 126, 127, 128, 129, 130, 18, 22, 131, 132, 133, 134, 20, 21, 103, 104, 105, 106, 44, 395, 396, 397, 398, 399, 400, 401, 402, 403, 404, 405, 406, 407] (by decide +kernel) (by decide +kernel)) (goodIn_sub (fun _ h => List.mem_append_left _ (List.mem_append_left _ (List.mem_append_right _ h))) (by decide +kernel))) (goodIn_sub (fun _ h => List.mem_append_left _ (List.mem_append_left _ (List.mem_append_left _ (List.mem_append_right _ h)))) (by decide +kernel))
set_option maxRecDepth 20000 in
theorem gL_law_L_down : GoodIn wsL_law (va_wsS RL 97 yL_down wsL_down) := goodIn_app (goodIn_of _ (by decide +kernel)) ggL_law_L_down
set_option maxRecDepth 20000 in
theorem ggL_law_X1_down : GoodIn wsL_law wsX1_down := goodIn_r _ [228, 66, 75, 61, 149, 150, 151, 5, 152, 153, 154, 155, 156, 53, 56, 64, 55, 157, 158, 159, 160, 54, 60, 145, 146, 147, 148, 76, 408, 409, 410, 411, 412, 413, 414, 415, 416, 417, 418, 419, 420, 421, 422, 423, 424] (by decide +kernel) (by decide +kernel)
set_option maxRecDepth 20000 in
theorem gL_law_X1_down : GoodIn wsL_law (wsV RL 99 RX1 yX1_down wsX1_down) := goodIn_app (goodIn_of _ (by decide +kernel)) ggL_law_X1_down
set_option maxRecDepth 20000 in
theorem ggL_law_L_up : GoodIn wsL_law wsL_up := goodIn_ca (goodIn_ca (goodIn_r _ [231, 80, 232, 233, 234, 235, 2, 236, 237, 238, 27, 221, 222, 223, 224, 92, 93, 127, 128, 129, 130, 18, 22, 131, 132, 133, 134, 20, 21, 99, 100, 101, 102, 23, 103, 104, 105, 106, 44, 395, 396, 397, 398, 399, 400, 401, 402, 403, 404, 405, 406, 407] (by decide +kernel) (by decide +kernel)) (goodIn_sub (fun _ h => List.mem_append_right _ h) (by decide +kernel))) (goodIn_sub (fun _ h => List.mem_append_left _ (List.mem_append_left _ (List.mem_append_right _ h))) (by decide +kernel))
set_option maxRecDepth 20000 in
theorem gL_law_L_up : GoodIn wsL_law (va_wsS RL 100 yL_up wsL_up) := goodIn_app (goodIn_of _ (by decide +kernel)) ggL_law_L_up
set_option maxRecDepth 20000 in
theorem ggL_law_X1_up : GoodIn wsL_law wsX1_up := goodIn_r _ [242, 66, 75, 61, 153, 154, 155, 5, 156, 53, 56, 64, 55, 157, 158, 159, 160, 54, 60, 145, 146, 147, 148, 76, 408, 409, 410, 411, 412, 413, 414, 415, 416, 417, 418, 419, 420, 421, 422, 423, 424] (by decide +kernel) (by decide +kernel)
set_option maxRecDepth 20000 in
theorem gL_law_X1_up : GoodIn wsL_law (wsV RL 102 RX1 yX1_up wsX1_up) := goodIn_app (goodIn_of _ (by decide +kernel)) ggL_law_X1_up
set_option maxRecDepth 20000 in
theorem ggL_law_L_send : GoodIn wsL_law wsL_send := goodIn_ca (goodIn_ca (goodIn_r _ [245, 80, 82, 246, 247, 248, 2, 249, 24, 25, 250, 251, 252, 253, 92, 93, 28, 187, 188, 189, 190, 87, 88, 123, 124, 125, 126, 127, 128, 129, 130, 18, 22, 131, 132, 133, 134, 20, 21, 99, 100, 101, 102, 23, 103, 104, 105, 106, 44, 254, 255, 256, 257, 29, 395, 396, 397, 398, 399, 400, 401, 402, 403, 404, 405, 406, 407] (by decide +kernel) (by decide +kernel)) (goodIn_sub (fun _ h => List.mem_append_left _ (List.mem_append_left _ (List.mem_append_right _ h))) (by decide +kernel))) (goodIn_sub (fun _ h => List.mem_append_left _ (List.mem_append_left _ (List.mem_append_left _ (List.mem_append_right _ h)))) (by decide +kernel))
set_option maxRecDepth 20000 in
theorem gL_law_L_send : GoodIn wsL_law (va_wsS RL 103 yL_send wsL_send) := goodIn_app (goodIn_of _ (by decide +kernel)) ggL_law_L_send
set_option maxRecDepth 20000 in
theorem ggL_law_X1_send : GoodIn wsL_law wsX1_send := goodIn_r _ [261, 67, 75, 59, 62, 58, 149, 150, 151, 5, 152, 153, 154, 155, 156, 53, 56, 64, 55, 157, 158, 159, 160, 54, 60, 145, 146, 147, 148, 76, 262, 263, 264, 265, 63, 408, 409, 410, 411, 412, 413, 414, 415, 416, 417, 418, 419, 420, 421, 422, 423, 424] (by decide +kernel) (by decide +kernel)
set_option maxRecDepth 20000 in
theorem gL_law_X1_send : GoodIn wsL_law (wsV RL 105 RX1 yX1_send wsX1_send) := goodIn_app (goodIn_of _ (by decide +kernel)) ggL_law_X1_send
set_option maxRecDepth 20000 in
theorem ggL_law_L_receive : GoodIn wsL_law wsL_receive := goodIn_ca (goodIn_ca (goodIn_r _ [268, 80, 82, 269, 270, 271, 2, 272, 28, 24, 25, 250, 251, 252, 253, 92, 93, 187, 188, 189, 190, 87, 88, 123, 124, 125, 126, 127, 128, 129, 130, 18, 22, 131, 132, 133, 134, 20, 21, 103, 104, 105, 106, 44, 273, 274, 275, 276, 29, 111, 112, 113, 114, 254, 255, 256, 257, 99, 100, 101, 102, 23, 395, 396, 397, 398, 399, 400, 401, 402, 403, 404, 405, 406, 407] (by decide +kernel) (by decide +kernel)) (goodIn_sub (fun _ h => List.mem_append_left _ (List.mem_append_left _ (List.mem_append_right _ h))) (by decide +kernel))) (goodIn_sub (fun _ h => List.mem_append_left _ (List.mem_append_left _ (List.mem_append_left _ (List.mem_append_right _ h)))) (by decide +kernel))
set_option maxRecDepth 20000 in
theorem gL_law_L_receive : GoodIn wsL_law (va_wsS RL 106 yL_receive wsL_receive) := goodIn_app (goodIn_of _ (by decide +kernel)) ggL_law_L_receive
set_option maxRecDepth 20000 in
theorem ggL_law_X1_receive : GoodIn wsL_law wsX1_receive := goodIn_r _ [280, 67, 75, 62, 59, 63, 58, 149, 150, 151, 5, 152, 153, 154, 155, 156, 53, 56, 64, 55, 157, 158, 159, 160, 54, 60, 145, 146, 147, 148, 76, 262, 263, 264, 265, 408, 409, 410, 411, 412, 413, 414, 415, 416, 417, 418, 419, 420, 421, 422, 423, 424] (by decide +kernel) (by decide +kernel)
set_option maxRecDepth 20000 in
theorem gL_law_X1_receive : GoodIn wsL_law (wsV RL 108 RX1 yX1_receive wsX1_receive) := goodIn_app (goodIn_of _ (by decide +kernel)) ggL_law_X1_receive
set_option maxRecDepth 20000 in
theorem ggL_law_L_sleep : GoodIn wsL_law wsL_sleep := goodIn_ca (goodIn_ca (goodIn_r _ [283, 82, 81, 284, 285, 286, 2, 287, 97, 98, 23, 187, 188, 189, 190, 87, 88, 123, 124, 125, 126, 127, 128, 129, 130, 18, 22, 131, 132, 133, 134, 20, 21, 103, 104, 105, 106, 44, 395, 396, 397, 398, 399, 400, 401, 402, 403, 404, 405, 406, 407] (by decide +kernel) (by decide +kernel)) (goodIn_sub (fun _ h => List.mem_append_left _ (List.mem_append_right _ h)) (by decide +kernel))) (goodIn_sub (fun _ h => List.mem_append_left _ (List.mem_append_left _ (List.mem_append_left _ (List.mem_append_right _ h)))) (by decide +kernel))
set_option maxRecDepth 20000 in
theorem gL_law_L_sleep : GoodIn wsL_law (va_wsS RL 109 yL_sleep wsL_sleep) := goodIn_app (goodIn_of _ (by decide +kernel)) ggL_law_L_sleep
set_option maxRecDepth 20000 in
theorem ggL_law_X1_sleep : GoodIn wsL_law wsX1_sleep := goodIn_r _ [291, 75, 57, 149, 150, 151, 5, 152, 153, 154, 155, 156, 53, 56, 64, 55, 157, 158, 159, 160, 54, 60, 145, 146, 147, 148, 76, 408, 409, 410, 411, 412, 413, 414, 415, 416, 417, 418, 419, 420, 421, 422, 423, 424] (by decide +kernel) (by decide +kernel)
set_option maxRecDepth 20000 in
theorem gL_law_X1_sleep : GoodIn wsL_law (wsV RL 111 RX1 yX1_sleep wsX1_sleep) := goodIn_app (goodIn_of _ (by decide +kernel)) ggL_law_X1_sleep
set_option maxRecDepth 20000 in
theorem ggL_law_L_end : GoodIn wsL_law wsL_end := goodIn_ca (goodIn_ca (goodIn_r _ [294, 82, 81, 295, 296, 297, 2, 298, 97, 98, 18, 19, 24, 187, 188, 189, 190, 87, 88, 123, 124, 125, 126, 127, 128, 129, 130, 22, 131, 132, 133, 134, 20, 21, 299, 300, 301, 302, 26, 107, 108, 109, 110, 111, 112, 113, 114, 115, 116, 117, 118, 37, 38, 35, 39, 119, 120, 121, 122, 395, 396, 397, 398, 399, 400, 401, 402, 403, 404, 405, 406, 407] (by decide +kernel) (by decide +kernel)) (goodIn_sub (fun _ h => List.mem_append_left _ (List.mem_append_right _ h)) (by decide +kernel))) (goodIn_sub (fun _ h => List.mem_append_left _ (List.mem_append_left _ (List.mem_append_left _ (List.mem_append_right _ h)))) (by decide +kernel))
set_option maxRecDepth 20000 in
theorem gL_law_L_end : GoodIn wsL_law (va_wsS RL 112 yL_end wsL_end) := goodIn_app (goodIn_of _ (by decide +kernel)) ggL_law_L_end
set_option maxRecDepth 20000 in
theorem ggL_law_X1_end : GoodIn wsL_law wsX1_end := goodIn_r _ [306, 75, 53, 54, 59, 149, 150, 151, 5, 152, 153, 154, 155, 156, 56, 64, 55, 157, 158, 159, 160, 60, 307, 308, 309, 310, 65, 408, 409, 410, 411, 412, 413, 414, 415, 416, 417, 418, 419, 420, 421, 422, 423, 424] (by decide +kernel) (by decide +kernel)
set_option maxRecDepth 20000 in
theorem gL_law_X1_end : GoodIn wsL_law (wsV RL 115 RX1 yX1_end wsX1_end) := goodIn_app (goodIn_of _ (by decide +kernel)) ggL_law_X1_end
set_option maxRecDepth 20000 in
theorem ggL_law_L_tick : GoodIn wsL_law wsL_tick := goodIn_ca (goodIn_r _ [313, 81, 314, 315, 316, 2, 317, 97, 98, 18, 23, 318, 319, 320, 321, 322, 323, 324, 325, 99, 100, 101, 102, 103, 104, 105, 106, 22, 44, 21, 395, 396, 397, 398, 399, 400, 401, 402, 403, 404, 405, 406, 407] (by decide +kernel) (by decide +kernel)) (goodIn_sub (fun _ h => List.mem_append_left _ (List.mem_append_right _ h)) (by decide +kernel))
set_option maxRecDepth 20000 in
theorem gL_law_L_tick : GoodIn wsL_law (va_wsS RL 116 yL_tick wsL_tick) := goodIn_app (goodIn_of _ (by decide +kernel)) ggL_law_L_tick
set_option maxRecDepth 20000 in
theorem ggL_law_X1_tick : GoodIn wsL_law wsX1_tick := goodIn_r _ [329, 75, 53, 57, 145, 146, 147, 5, 148, 56, 76, 55, 408, 409, 410, 411, 412, 413, 414, 415, 416, 417, 418, 419, 420, 421, 422, 423, 424] (by decide +kernel) (by decide +kernel)
set_option maxRecDepth 20000 in
theorem gL_law_X1_tick : GoodIn wsL_law (wsV RL 118 RX1 yX1_tick wsX1_tick) := goodIn_app (goodIn_of _ (by decide +kernel)) ggL_law_X1_tick
set_option maxRecDepth 20000 in
theorem ggL_law_X0_running : GoodIn wsL_law wsX0_running := goodIn_r _ [126, 127, 128, 129, 2, 130, 18, 22, 131, 132, 133, 134, 20, 21, 395, 396, 397, 398, 399, 400, 401, 402, 403, 404, 405, 406, 407] (by decide +kernel) (by decide +kernel)
set_option maxRecDepth 20000 in
theorem gL_law_X0_running : GoodIn wsL_law (wsV RL 119 RX0 yX0_running wsX0_running) := goodIn_app (goodIn_of _ (by decide +kernel)) ggL_law_X0_running
set_option maxRecDepth 20000 in
theorem ggL_law_X1_running : GoodIn wsL_law wsX1_running := goodIn_r _ [334, 75, 149, 150, 151, 5, 152, 153, 154, 155, 156, 53, 56, 64, 55, 157, 158, 159, 160, 54, 60, 408, 409, 410, 411, 412, 413, 414, 415, 416, 417, 418, 419, 420, 421, 422, 423, 424] (by decide +kernel) (by decide +kernel)
set_option maxRecDepth 20000 in
theorem gL_law_X1_running : GoodIn wsL_law (wsV RL 122 RX1 yX1_running wsX1_running) := goodIn_app (goodIn_of _ (by decide +kernel)) ggL_law_X1_running
set_option maxRecDepth 20000 in
theorem ggL_law_L_told : GoodIn wsL_law wsL_told := goodIn_ca (goodIn_ca (goodIn_r _ [337, 80, 81, 338, 339, 340, 2, 341, 97, 98, 18, 19, 20, 22, 23, 24, 89, 90, 91, 92, 93, 299, 300, 301, 302, 26, 395, 396, 397, 398, 399, 400, 401, 402, 403, 404, 405, 406, 407] (by decide +kernel) (by decide +kernel)) (goodIn_sub (fun _ h => List.mem_append_left _ (List.mem_append_right _ h)) (by decide +kernel))) (goodIn_sub (fun _ h => List.mem_append_left _ (List.mem_append_left _ (List.mem_append_right _ h))) (by decide +kernel))
set_option maxRecDepth 20000 in
theorem gL_law_L_told : GoodIn wsL_law (va_wsS RL 123 yL_told wsL_told) := goodIn_app (goodIn_of _ (by decide +kernel)) ggL_law_L_told
set_option maxRecDepth 20000 in
theorem ggL_law_X1_told : GoodIn wsL_law wsX1_told := goodIn_r _ [345, 75, 53, 54, 64, 56, 57, 59, 139, 140, 5, 141, 157, 158, 159, 160, 60, 307, 308, 309, 310, 65, 408, 409, 410, 411, 412, 413, 414, 415, 416, 417, 418, 419, 420, 421, 422, 423, 424] (by decide +kernel) (by decide +kernel)
set_option maxRecDepth 20000 in
theorem gL_law_X1_told : GoodIn wsL_law (wsV RL 125 RX1 yX1_told wsX1_told) := goodIn_app (goodIn_of _ (by decide +kernel)) ggL_law_X1_told
set_option maxRecDepth 20000 in
theorem ggL_law_L_owner : GoodIn wsL_law wsL_owner := goodIn_ca (goodIn_r _ [348, 80, 349, 350, 351, 2, 352, 26, 183, 184, 185, 186, 92, 93, 395, 396, 397, 398, 399, 400, 401, 402, 403, 404, 405, 406, 407] (by decide +kernel) (by decide +kernel)) (goodIn_sub (fun _ h => List.mem_append_left _ (List.mem_append_left _ (List.mem_append_right _ h))) (by decide +kernel))
set_option maxRecDepth 20000 in
theorem gL_law_L_owner : GoodIn wsL_law (va_wsS RL 126 yL_owner wsL_owner) := goodIn_app (goodIn_of _ (by decide +kernel)) ggL_law_L_owner
set_option maxRecDepth 20000 in
theorem ggL_law_X1_owner : GoodIn wsL_law wsX1_owner := goodIn_r _ [356, 65, 75, 60, 408, 409, 410, 411, 412, 413, 414, 415, 416, 417, 418, 419, 420, 421, 422, 423, 424] (by decide +kernel) (by decide +kernel)
set_option maxRecDepth 20000 in
theorem gL_law_X1_owner : GoodIn wsL_law (wsV RL 128 RX1 yX1_owner wsX1_owner) := goodIn_app (goodIn_of _ (by decide +kernel)) ggL_law_X1_owner
set_option maxRecDepth 20000 in
theorem ggL_law_L_count : GoodIn wsL_law wsL_count := goodIn_ca (goodIn_r _ [359, 80, 360, 361, 362, 2, 363, 27, 221, 222, 223, 224, 92, 93, 395, 396, 397, 398, 399, 400, 401, 402, 403, 404, 405, 406, 407] (by decide +kernel) (by decide +kernel)) (goodIn_sub (fun _ h => List.mem_append_left _ (List.mem_append_left _ (List.mem_append_right _ h))) (by decide +kernel))
set_option maxRecDepth 20000 in
theorem gL_law_L_count : GoodIn wsL_law (va_wsS RL 129 yL_count wsL_count) := goodIn_app (goodIn_of _ (by decide +kernel)) ggL_law_L_count
set_option maxRecDepth 20000 in
theorem ggL_law_X1_count : GoodIn wsL_law wsX1_count := goodIn_r _ [367, 66, 75, 61, 408, 409, 410, 411, 412, 413, 414, 415, 416, 417, 418, 419, 420, 421, 422, 423, 424] (by decide +kernel) (by decide +kernel)
set_option maxRecDepth 20000 in
theorem gL_law_X1_count : GoodIn wsL_law (wsV RL 131 RX1 yX1_count wsX1_count) := goodIn_app (goodIn_of _ (by decide +kernel)) ggL_law_X1_count
set_option maxRecDepth 20000 in
theorem ggL_law_L_words : GoodIn wsL_law wsL_words := goodIn_ca (goodIn_r _ [370, 80, 371, 372, 373, 2, 374, 28, 250, 251, 252, 253, 92, 93, 395, 396, 397, 398, 399, 400, 401, 402, 403, 404, 405, 406, 407] (by decide +kernel) (by decide +kernel)) (goodIn_sub (fun _ h => List.mem_append_left _ (List.mem_append_left _ (List.mem_append_right _ h))) (by decide +kernel))
set_option maxRecDepth 20000 in
theorem gL_law_L_words : GoodIn wsL_law (va_wsS RL 132 yL_words wsL_words) := goodIn_app (goodIn_of _ (by decide +kernel)) ggL_law_L_words
set_option maxRecDepth 20000 in
theorem ggL_law_X1_words : GoodIn wsL_law wsX1_words := goodIn_r _ [378, 67, 75, 62, 408, 409, 410, 411, 412, 413, 414, 415, 416, 417, 418, 419, 420, 421, 422, 423, 424] (by decide +kernel) (by decide +kernel)
set_option maxRecDepth 20000 in
theorem gL_law_X1_words : GoodIn wsL_law (wsV RL 134 RX1 yX1_words wsX1_words) := goodIn_app (goodIn_of _ (by decide +kernel)) ggL_law_X1_words
set_option maxRecDepth 20000 in
theorem ggL_law_L_first : GoodIn wsL_law wsL_first := goodIn_ca (goodIn_ca (goodIn_r _ [381, 81, 80, 382, 383, 384, 2, 385, 97, 98, 183, 184, 185, 186, 92, 93, 26, 221, 222, 223, 224, 27, 250, 251, 252, 253, 28, 127, 128, 129, 130, 18, 22, 131, 132, 133, 134, 20, 21, 395, 396, 397, 398, 399, 400, 401, 402, 403, 404, 405, 406, 407] (by decide +kernel) (by decide +kernel)) (goodIn_sub (fun _ h => List.mem_append_left _ (List.mem_append_right _ h)) (by decide +kernel))) (goodIn_sub (fun _ h => List.mem_append_left _ (List.mem_append_left _ (List.mem_append_right _ h))) (by decide +kernel))
set_option maxRecDepth 20000 in
theorem gL_law_L_first : GoodIn wsL_law (va_wsS RL 135 yL_first wsL_first) := goodIn_app (goodIn_of _ (by decide +kernel)) ggL_law_L_first
set_option maxRecDepth 20000 in
theorem ggL_law_X1_first : GoodIn wsL_law wsX1_first := goodIn_r _ [389, 65, 66, 67, 75, 153, 154, 155, 5, 156, 53, 56, 64, 55, 157, 158, 159, 160, 54, 60, 408, 409, 410, 411, 412, 413, 414, 415, 416, 417, 418, 419, 420, 421, 422, 423, 424] (by decide +kernel) (by decide +kernel)
set_option maxRecDepth 20000 in
theorem gL_law_X1_first : GoodIn wsL_law (wsV RL 137 RX1 yX1_first wsX1_first) := goodIn_app (goodIn_of _ (by decide +kernel)) ggL_law_X1_first
set_option maxRecDepth 20000 in
theorem ggL_law_X0_clear : GoodIn wsL_law wsX0_clear := goodIn_r _ [393, 40, 41, 42, 2, 43, 18, 19, 20, 21, 22, 23, 24, 25, 26, 27, 28, 29, 44, 45, 46, 47, 48, 395, 396, 397, 398, 399, 400, 401, 402, 403, 404, 405, 406, 407] (by decide +kernel) (by decide +kernel)
set_option maxRecDepth 20000 in
theorem gL_law_X0_clear : GoodIn wsL_law (wsV RL 138 RX0 yX0_clear wsX0_clear) := goodIn_app (goodIn_of _ (by decide +kernel)) ggL_law_X0_clear
set_option maxRecDepth 20000 in
theorem ggL_law_X1_clear : GoodIn wsL_law wsX1_clear := goodIn_r _ [74, 75, 76, 53, 54, 59, 57, 60, 61, 62, 408, 409, 410, 411, 412, 413, 414, 415, 416, 417, 418, 419, 420, 421, 422, 423, 424] (by decide +kernel) (by decide +kernel)
set_option maxRecDepth 20000 in
theorem gL_law_X1_clear : GoodIn wsL_law (wsV RL 141 RX1 yX1_clear wsX1_clear) := goodIn_app (goodIn_of _ (by decide +kernel)) ggL_law_X1_clear
theorem dL_law_0 : decode cL_law 0 = .ok (.new 8, 3) := by decide +kernel
theorem dL_law_3 : decode cL_law 3 = .ok (.dup, 1) := by decide +kernel
theorem dL_law_4 : decode cL_law 4 = .ok (.aload_n 0, 1) := by decide +kernel
theorem dL_law_5 : decode cL_law 5 = .ok (.iconst 0, 1) := by decide +kernel
theorem dL_law_6 : decode cL_law 6 = .ok (.invokestatic 68, 3) := by decide +kernel
theorem dL_law_9 : decode cL_law 9 = .ok (.aload_n 0, 1) := by decide +kernel
theorem dL_law_10 : decode cL_law 10 = .ok (.iconst 1, 1) := by decide +kernel
theorem dL_law_11 : decode cL_law 11 = .ok (.invokestatic 68, 3) := by decide +kernel
theorem dL_law_14 : decode cL_law 14 = .ok (.aload_n 0, 1) := by decide +kernel
theorem dL_law_15 : decode cL_law 15 = .ok (.iconst 2, 1) := by decide +kernel
theorem dL_law_16 : decode cL_law 16 = .ok (.invokestatic 68, 3) := by decide +kernel
theorem dL_law_19 : decode cL_law 19 = .ok (.invokespecial 74, 3) := by decide +kernel
theorem dL_law_22 : decode cL_law 22 = .ok (.astore_n 1, 1) := by decide +kernel
theorem dL_law_23 : decode cL_law 23 = .ok (.new 77, 3) := by decide +kernel
theorem dL_law_26 : decode cL_law 26 = .ok (.dup, 1) := by decide +kernel
theorem dL_law_27 : decode cL_law 27 = .ok (.aload_n 0, 1) := by decide +kernel
theorem dL_law_28 : decode cL_law 28 = .ok (.iconst 0, 1) := by decide +kernel
theorem dL_law_29 : decode cL_law 29 = .ok (.invokestatic 68, 3) := by decide +kernel
theorem dL_law_32 : decode cL_law 32 = .ok (.aload_n 0, 1) := by decide +kernel
theorem dL_law_33 : decode cL_law 33 = .ok (.iconst 1, 1) := by decide +kernel
theorem dL_law_34 : decode cL_law 34 = .ok (.invokestatic 68, 3) := by decide +kernel
theorem dL_law_37 : decode cL_law 37 = .ok (.aload_n 0, 1) := by decide +kernel
theorem dL_law_38 : decode cL_law 38 = .ok (.iconst 2, 1) := by decide +kernel
theorem dL_law_39 : decode cL_law 39 = .ok (.invokestatic 68, 3) := by decide +kernel
theorem dL_law_42 : decode cL_law 42 = .ok (.invokespecial 79, 3) := by decide +kernel
theorem dL_law_45 : decode cL_law 45 = .ok (.astore_n 2, 1) := by decide +kernel
theorem dL_law_46 : decode cL_law 46 = .ok (.iconst 1, 1) := by decide +kernel
theorem dL_law_47 : decode cL_law 47 = .ok (.newarray .long, 2) := by decide +kernel
theorem dL_law_49 : decode cL_law 49 = .ok (.astore_n 3, 1) := by decide +kernel
theorem dL_law_50 : decode cL_law 50 = .ok (.iconst 3, 1) := by decide +kernel
theorem dL_law_51 : decode cL_law 51 = .ok (.istore 4, 2) := by decide +kernel
theorem dL_law_53 : decode cL_law 53 = .ok (.iload 4, 2) := by decide +kernel
theorem dL_law_55 : decode cL_law 55 = .ok (.aload_n 0, 1) := by decide +kernel
theorem dL_law_56 : decode cL_law 56 = .ok (.arraylength, 1) := by decide +kernel
theorem dL_law_57 : decode cL_law 57 = .ok (.iconst 3, 1) := by decide +kernel
theorem dL_law_58 : decode cL_law 58 = .ok (.isub, 1) := by decide +kernel
theorem dL_law_59 : decode cL_law 59 = .ok (.if_icmp .gt 1071, 3) := by decide +kernel
theorem dL_law_62 : decode cL_law 62 = .ok (.aload_n 0, 1) := by decide +kernel
theorem dL_law_63 : decode cL_law 63 = .ok (.iload 4, 2) := by decide +kernel
theorem dL_law_65 : decode cL_law 65 = .ok (.iaload, 1) := by decide +kernel
theorem dL_law_66 : decode cL_law 66 = .ok (.bipush 31, 2) := by decide +kernel
theorem dL_law_68 : decode cL_law 68 = .ok (.iand, 1) := by decide +kernel
theorem dL_law_69 : decode cL_law 69 = .ok (.tableswitch 1055 0 17 #[87, 155, 223, 279, 335, 391, 447, 515, 571, 627, 671, 727, 740, 808, 864, 920, 976, 1044], 87) := by decide +kernel
theorem dL_law_156 : decode cL_law 156 = .ok (.aload_n 1, 1) := by decide +kernel
theorem dL_law_157 : decode cL_law 157 = .ok (.aload_n 0, 1) := by decide +kernel
theorem dL_law_158 : decode cL_law 158 = .ok (.iload 4, 2) := by decide +kernel
theorem dL_law_160 : decode cL_law 160 = .ok (.iconst 1, 1) := by decide +kernel
theorem dL_law_161 : decode cL_law 161 = .ok (.iadd, 1) := by decide +kernel
theorem dL_law_162 : decode cL_law 162 = .ok (.iaload, 1) := by decide +kernel
theorem dL_law_163 : decode cL_law 163 = .ok (.aload_n 0, 1) := by decide +kernel
