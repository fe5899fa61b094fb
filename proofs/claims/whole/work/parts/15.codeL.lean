theorem dL_rooms_0 : decode cL_rooms 0 = .ok (.aload_n 0, 1) := by decide +kernel
theorem dL_rooms_1 : decode cL_rooms 1 = .ok (.iload_n 1, 1) := by decide +kernel
theorem dL_rooms_2 : decode cL_rooms 2 = .ok (.iload_n 2, 1) := by decide +kernel
theorem dL_rooms_3 : decode cL_rooms 3 = .ok (.invokevirtual 7, 3) := by decide +kernel
theorem dL_rooms_6 : decode cL_rooms 6 = .ok (.goto 6, 3) := by decide +kernel
theorem dL_rooms_9 : decode cL_rooms 9 = .ok (.astore_n 3, 1) := by decide +kernel
theorem dL_rooms_10 : decode cL_rooms 10 = .ok (.iconst 1, 1) := by decide +kernel
theorem dL_rooms_11 : decode cL_rooms 11 = .ok (.ireturn, 1) := by decide +kernel
theorem dL_rooms_12 : decode cL_rooms 12 = .ok (.iconst 0, 1) := by decide +kernel
theorem dL_rooms_13 : decode cL_rooms 13 = .ok (.ireturn, 1) := by decide +kernel
set_option maxRecDepth 20000 in
theorem ggL_pass_X3_pass : GoodIn wsL_pass wsX3_pass := goodIn_ca (goodIn_r _ [6, 7, 8, 9, 10, 5, 11, 12, 13, 14, 15, 16, 17, 18, 19, 20, 21, 22, 23, 24, 25, 26, 27, 28, 29, 30, 31, 32, 33, 34, 35, 36, 37, 38, 39, 40, 41, 42, 43, 44, 45] (by decide +kernel) (by decide +kernel)) (goodIn_sub (fun _ h => List.mem_cons_of_mem _ (List.mem_append_right _ h)) (by decide +kernel))
set_option maxRecDepth 20000 in
theorem gL_pass_X3_pass : GoodIn wsL_pass (wsV RL 15 RX3 yX3_pass wsX3_pass) := goodIn_app (goodIn_of _ (by decide +kernel)) ggL_pass_X3_pass
theorem dL_pass_0 : decode cL_pass 0 = .ok (.aload_n 2, 1) := by decide +kernel
theorem dL_pass_1 : decode cL_pass 1 = .ok (.iconst 0, 1) := by decide +kernel
theorem dL_pass_2 : decode cL_pass 2 = .ok (.aload_n 0, 1) := by decide +kernel
theorem dL_pass_3 : decode cL_pass 3 = .ok (.iload_n 1, 1) := by decide +kernel
theorem dL_pass_4 : decode cL_pass 4 = .ok (.invokevirtual 15, 3) := by decide +kernel
theorem dL_pass_7 : decode cL_pass 7 = .ok (.i2l, 1) := by decide +kernel
theorem dL_pass_8 : decode cL_pass 8 = .ok (.lastore, 1) := by decide +kernel
theorem dL_pass_9 : decode cL_pass 9 = .ok (.goto 6, 3) := by decide +kernel
theorem dL_pass_12 : decode cL_pass 12 = .ok (.astore_n 3, 1) := by decide +kernel
theorem dL_pass_13 : decode cL_pass 13 = .ok (.iconst 1, 1) := by decide +kernel
theorem dL_pass_14 : decode cL_pass 14 = .ok (.ireturn, 1) := by decide +kernel
theorem dL_pass_15 : decode cL_pass 15 = .ok (.iconst 0, 1) := by decide +kernel
theorem dL_pass_16 : decode cL_pass 16 = .ok (.ireturn, 1) := by decide +kernel
set_option maxRecDepth 20000 in
theorem ggL_syn_X3_syn : GoodIn wsL_syn wsX3_syn := goodIn_ca (goodIn_r _ [6, 7, 8, 9, 10, 11, 12, 5, 13, 14, 15, 16, 17, 18, 19, 20, 21, 22, 23, 24, 25, 26, 27, 28, 29, 30, 31, 32, 33, 34, 35, 36, 37, 38, 39, 40, 41, 42, 43, 44, 45, 46, 47, 48, 49, 50, 51, 52, 53, 54, 55, 56, 57, 58, 59, 60, 61, 62, 63, 64, 65, 66, 67, 68, 69, 70, 71, 72, 73, 74, 75, 76, 77, 78, 79, 80, 81, 82, 83, 84, 85, 86, 87, 88, 89, 90, 91, 92, 93, 94, 95, 96, 97, 98, 99, 100, 101, 102, 103, 104, 105, 106, 107, 108, 109, 110, 111, 112, 113, 114, 115, 116, 117, 118, 119, 120, 121, 122, 123, 124, 125, 126, 127, 128, 129, 130] (by decide +kernel) (by decide +kernel)) (goodIn_sub (fun _ h => List.mem_cons_of_mem _ (List.mem_append_right _ h)) (by decide +kernel))
set_option maxRecDepth 20000 in
theorem gL_syn_X3_syn : GoodIn wsL_syn (wsV RL 19 RX3 yX3_syn wsX3_syn) := goodIn_app (goodIn_of _ (by decide +kernel)) ggL_syn_X3_syn
theorem dL_syn_0 : decode cL_syn 0 = .ok (.aload 5, 2) := by decide +kernel
theorem dL_syn_2 : decode cL_syn 2 = .ok (.iconst 0, 1) := by decide +kernel
theorem dL_syn_3 : decode cL_syn 3 = .ok (.aload_n 0, 1) := by decide +kernel
theorem dL_syn_4 : decode cL_syn 4 = .ok (.iload_n 1, 1) := by decide +kernel
theorem dL_syn_5 : decode cL_syn 5 = .ok (.iload_n 2, 1) := by decide +kernel
theorem dL_syn_6 : decode cL_syn 6 = .ok (.iload_n 3, 1) := by decide +kernel
theorem dL_syn_7 : decode cL_syn 7 = .ok (.iload 4, 2) := by decide +kernel
theorem dL_syn_9 : decode cL_syn 9 = .ok (.invokevirtual 19, 3) := by decide +kernel
theorem dL_syn_12 : decode cL_syn 12 = .ok (.lastore, 1) := by decide +kernel
theorem dL_syn_13 : decode cL_syn 13 = .ok (.goto 7, 3) := by decide +kernel
theorem dL_syn_16 : decode cL_syn 16 = .ok (.astore 6, 2) := by decide +kernel
theorem dL_syn_18 : decode cL_syn 18 = .ok (.iconst 1, 1) := by decide +kernel
theorem dL_syn_19 : decode cL_syn 19 = .ok (.ireturn, 1) := by decide +kernel
theorem dL_syn_20 : decode cL_syn 20 = .ok (.iconst 0, 1) := by decide +kernel
theorem dL_syn_21 : decode cL_syn 21 = .ok (.ireturn, 1) := by decide +kernel
set_option maxRecDepth 20000 in
theorem ggL_ack_X3_ack : GoodIn wsL_ack wsX3_ack := goodIn_ca (goodIn_r _ [6, 7, 8, 9, 10, 11, 12, 5, 13, 14, 15, 16, 17, 18, 19, 20, 21, 22, 23, 24, 25, 26, 27, 28, 29, 30, 31, 32, 33, 34, 35, 36, 37, 38, 39, 40, 41, 42, 43, 44, 45, 46, 47, 48, 49, 50, 51, 52, 53, 54, 55, 56, 57, 58, 59, 60, 61, 62, 63, 64, 65, 66, 67, 68, 69, 70, 71, 72, 73, 74, 75, 76, 77, 78, 79, 80, 81, 82, 83, 84, 85, 86, 87, 88, 89, 90, 91, 92, 93, 94, 95, 96, 97, 98, 99, 100, 101, 102, 103, 104, 105, 106, 107, 108, 109, 110, 111, 112, 113, 114, 115, 116, 117, 118, 119, 120, 121, 122, 123, 124, 125, 126, 127, 128, 129, 130, 131, 132, 133, 134, 135, 136, 137, 138, 139, 140, 141, 142, 143, 144, 145, 146, 147, 148, 149] (by decide +kernel) (by decide +kernel)) (goodIn_sub (fun _ h => List.mem_cons_of_mem _ (List.mem_append_right _ h)) (by decide +kernel))
set_option maxRecDepth 20000 in
theorem gL_ack_X3_ack : GoodIn wsL_ack (wsV RL 23 RX3 yX3_ack wsX3_ack) := goodIn_app (goodIn_of _ (by decide +kernel)) ggL_ack_X3_ack
theorem dL_ack_0 : decode cL_ack 0 = .ok (.aload 5, 2) := by decide +kernel
theorem dL_ack_2 : decode cL_ack 2 = .ok (.iconst 0, 1) := by decide +kernel
theorem dL_ack_3 : decode cL_ack 3 = .ok (.aload_n 0, 1) := by decide +kernel
theorem dL_ack_4 : decode cL_ack 4 = .ok (.iload_n 1, 1) := by decide +kernel
theorem dL_ack_5 : decode cL_ack 5 = .ok (.iload_n 2, 1) := by decide +kernel
theorem dL_ack_6 : decode cL_ack 6 = .ok (.iload_n 3, 1) := by decide +kernel
theorem dL_ack_7 : decode cL_ack 7 = .ok (.iload 4, 2) := by decide +kernel
theorem dL_ack_9 : decode cL_ack 9 = .ok (.invokevirtual 23, 3) := by decide +kernel
theorem dL_ack_12 : decode cL_ack 12 = .ok (.i2l, 1) := by decide +kernel
theorem dL_ack_13 : decode cL_ack 13 = .ok (.lastore, 1) := by decide +kernel
theorem dL_ack_14 : decode cL_ack 14 = .ok (.goto 7, 3) := by decide +kernel
theorem dL_ack_17 : decode cL_ack 17 = .ok (.astore 6, 2) := by decide +kernel
theorem dL_ack_19 : decode cL_ack 19 = .ok (.iconst 1, 1) := by decide +kernel
theorem dL_ack_20 : decode cL_ack 20 = .ok (.ireturn, 1) := by decide +kernel
theorem dL_ack_21 : decode cL_ack 21 = .ok (.iconst 0, 1) := by decide +kernel
theorem dL_ack_22 : decode cL_ack 22 = .ok (.ireturn, 1) := by decide +kernel
set_option maxRecDepth 20000 in
theorem ggL_close_X3_close : GoodIn wsL_close wsX3_close := goodIn_ca (goodIn_r _ [6, 7, 8, 9, 10, 11, 5, 12, 13, 14, 15, 16, 17, 18, 19, 20, 21, 22, 23, 24, 25, 26, 27, 28, 29, 30, 31, 32, 33, 34, 35, 36, 37, 38, 39, 40, 41, 42, 43, 44, 45, 46, 47, 48, 49, 50, 51, 52, 53, 54, 55, 56, 57, 58, 59, 60, 61, 62, 63, 64, 65, 66, 67, 68, 69, 70, 71, 72, 73, 74, 75] (by decide +kernel) (by decide +kernel)) (goodIn_sub (fun _ h => List.mem_cons_of_mem _ (List.mem_append_right _ h)) (by decide +kernel))
set_option maxRecDepth 20000 in
theorem gL_close_X3_close : GoodIn wsL_close (wsV RL 27 RX3 yX3_close wsX3_close) := goodIn_app (goodIn_of _ (by decide +kernel)) ggL_close_X3_close
theorem dL_close_0 : decode cL_close 0 = .ok (.aload_n 3, 1) := by decide +kernel
theorem dL_close_1 : decode cL_close 1 = .ok (.iconst 0, 1) := by decide +kernel
theorem dL_close_2 : decode cL_close 2 = .ok (.aload_n 0, 1) := by decide +kernel
theorem dL_close_3 : decode cL_close 3 = .ok (.iload_n 1, 1) := by decide +kernel
theorem dL_close_4 : decode cL_close 4 = .ok (.iload_n 2, 1) := by decide +kernel
theorem dL_close_5 : decode cL_close 5 = .ok (.invokevirtual 27, 3) := by decide +kernel
theorem dL_close_8 : decode cL_close 8 = .ok (.i2l, 1) := by decide +kernel
theorem dL_close_9 : decode cL_close 9 = .ok (.lastore, 1) := by decide +kernel
theorem dL_close_10 : decode cL_close 10 = .ok (.goto 7, 3) := by decide +kernel
theorem dL_close_13 : decode cL_close 13 = .ok (.astore 4, 2) := by decide +kernel
theorem dL_close_15 : decode cL_close 15 = .ok (.iconst 1, 1) := by decide +kernel
theorem dL_close_16 : decode cL_close 16 = .ok (.ireturn, 1) := by decide +kernel
theorem dL_close_17 : decode cL_close 17 = .ok (.iconst 0, 1) := by decide +kernel
theorem dL_close_18 : decode cL_close 18 = .ok (.ireturn, 1) := by decide +kernel
set_option maxRecDepth 20000 in
theorem ggL_state_X3_state : GoodIn wsL_state wsX3_state := goodIn_ca (goodIn_r _ [6, 7, 8, 9, 5, 10, 11, 12, 13, 14, 15, 16, 17, 18, 19, 20, 21, 22, 23, 24, 25, 26, 27, 28, 29, 30, 31, 32, 33, 34, 35, 36, 37, 38, 39, 40, 41, 42, 43, 44, 45, 46, 47, 48, 49, 50, 51, 52, 53, 54, 55, 56, 57, 58, 59, 60, 61] (by decide +kernel) (by decide +kernel)) (goodIn_sub (fun _ h => List.mem_cons_of_mem _ (List.mem_append_right _ h)) (by decide +kernel))
set_option maxRecDepth 20000 in
theorem gL_state_X3_state : GoodIn wsL_state (wsV RL 31 RX3 yX3_state wsX3_state) := goodIn_app (goodIn_of _ (by decide +kernel)) ggL_state_X3_state
theorem dL_state_0 : decode cL_state 0 = .ok (.aload_n 3, 1) := by decide +kernel
theorem dL_state_1 : decode cL_state 1 = .ok (.iconst 0, 1) := by decide +kernel
theorem dL_state_2 : decode cL_state 2 = .ok (.aload_n 0, 1) := by decide +kernel
theorem dL_state_3 : decode cL_state 3 = .ok (.iload_n 1, 1) := by decide +kernel
theorem dL_state_4 : decode cL_state 4 = .ok (.iload_n 2, 1) := by decide +kernel
theorem dL_state_5 : decode cL_state 5 = .ok (.invokevirtual 31, 3) := by decide +kernel
theorem dL_state_8 : decode cL_state 8 = .ok (.i2l, 1) := by decide +kernel
theorem dL_state_9 : decode cL_state 9 = .ok (.lastore, 1) := by decide +kernel
theorem dL_state_10 : decode cL_state 10 = .ok (.goto 7, 3) := by decide +kernel
theorem dL_state_13 : decode cL_state 13 = .ok (.astore 4, 2) := by decide +kernel
theorem dL_state_15 : decode cL_state 15 = .ok (.iconst 1, 1) := by decide +kernel
theorem dL_state_16 : decode cL_state 16 = .ok (.ireturn, 1) := by decide +kernel
theorem dL_state_17 : decode cL_state 17 = .ok (.iconst 0, 1) := by decide +kernel
theorem dL_state_18 : decode cL_state 18 = .ok (.ireturn, 1) := by decide +kernel
set_option maxRecDepth 20000 in
theorem ggL_cookie_X3_cookie : GoodIn wsL_cookie wsX3_cookie := goodIn_ca (goodIn_r _ [6, 7, 8, 9, 10, 5, 11, 12, 13, 14, 15, 16, 17, 18, 19, 20, 21, 22, 23, 24, 25, 26, 27, 28, 29, 30, 31, 32, 33, 34, 35, 36, 37, 38, 39, 40, 41, 42, 43, 44, 45, 46, 47, 48, 49, 50, 51, 52, 53, 54, 55, 56, 57, 58, 59, 60, 61, 62, 63, 64, 65, 66, 67, 68, 69, 70, 71, 72, 73, 74, 75] (by decide +kernel) (by decide +kernel)) (goodIn_sub (fun _ h => List.mem_cons_of_mem _ (List.mem_append_right _ h)) (by decide +kernel))
set_option maxRecDepth 20000 in
theorem gL_cookie_X3_cookie : GoodIn wsL_cookie (wsV RL 34 RX3 yX3_cookie wsX3_cookie) := goodIn_app (goodIn_of _ (by decide +kernel)) ggL_cookie_X3_cookie
theorem dL_cookie_0 : decode cL_cookie 0 = .ok (.aload 6, 2) := by decide +kernel
theorem dL_cookie_2 : decode cL_cookie 2 = .ok (.iconst 0, 1) := by decide +kernel
theorem dL_cookie_3 : decode cL_cookie 3 = .ok (.aload_n 0, 1) := by decide +kernel
theorem dL_cookie_4 : decode cL_cookie 4 = .ok (.iload_n 1, 1) := by decide +kernel
theorem dL_cookie_5 : decode cL_cookie 5 = .ok (.iload_n 2, 1) := by decide +kernel
theorem dL_cookie_6 : decode cL_cookie 6 = .ok (.iload_n 3, 1) := by decide +kernel
theorem dL_cookie_7 : decode cL_cookie 7 = .ok (.iload 4, 2) := by decide +kernel
theorem dL_cookie_9 : decode cL_cookie 9 = .ok (.iload 5, 2) := by decide +kernel
theorem dL_cookie_11 : decode cL_cookie 11 = .ok (.invokevirtual 34, 3) := by decide +kernel
theorem dL_cookie_14 : decode cL_cookie 14 = .ok (.lastore, 1) := by decide +kernel
theorem dL_cookie_15 : decode cL_cookie 15 = .ok (.goto 7, 3) := by decide +kernel
theorem dL_cookie_18 : decode cL_cookie 18 = .ok (.astore 7, 2) := by decide +kernel
theorem dL_cookie_20 : decode cL_cookie 20 = .ok (.iconst 1, 1) := by decide +kernel
theorem dL_cookie_21 : decode cL_cookie 21 = .ok (.ireturn, 1) := by decide +kernel
theorem dL_cookie_22 : decode cL_cookie 22 = .ok (.iconst 0, 1) := by decide +kernel
theorem dL_cookie_23 : decode cL_cookie 23 = .ok (.ireturn, 1) := by decide +kernel
set_option maxRecDepth 20000 in
theorem ggL_told_X3_told : GoodIn wsL_told wsX3_told := goodIn_ca (goodIn_r _ [6, 7, 8, 9, 10, 11, 12, 13, 14, 15, 16, 17, 18, 19, 20, 21, 22, 23, 24, 25, 26, 27, 28, 29, 30, 31, 32, 33, 34, 35, 36, 37, 38, 39, 40, 41, 42, 43] (by decide +kernel) (by decide +kernel)) (goodIn_sub (fun _ h => List.mem_cons_of_mem _ (List.mem_append_right _ h)) (by decide +kernel))
set_option maxRecDepth 20000 in
theorem gL_told_X3_told : GoodIn wsL_told (wsV RL 38 RX3 yX3_told wsX3_told) := goodIn_app (goodIn_of _ (by decide +kernel)) ggL_told_X3_told
theorem dL_told_0 : decode cL_told 0 = .ok (.aload_n 2, 1) := by decide +kernel
theorem dL_told_1 : decode cL_told 1 = .ok (.iconst 0, 1) := by decide +kernel
theorem dL_told_2 : decode cL_told 2 = .ok (.aload_n 0, 1) := by decide +kernel
theorem dL_told_3 : decode cL_told 3 = .ok (.iload_n 1, 1) := by decide +kernel
theorem dL_told_4 : decode cL_told 4 = .ok (.invokevirtual 38, 3) := by decide +kernel
theorem dL_told_7 : decode cL_told 7 = .ok (.i2l, 1) := by decide +kernel
theorem dL_told_8 : decode cL_told 8 = .ok (.lastore, 1) := by decide +kernel
theorem dL_told_9 : decode cL_told 9 = .ok (.goto 6, 3) := by decide +kernel
theorem dL_told_12 : decode cL_told 12 = .ok (.astore_n 3, 1) := by decide +kernel
theorem dL_told_13 : decode cL_told 13 = .ok (.iconst 1, 1) := by decide +kernel
theorem dL_told_14 : decode cL_told 14 = .ok (.ireturn, 1) := by decide +kernel
theorem dL_told_15 : decode cL_told 15 = .ok (.iconst 0, 1) := by decide +kernel
theorem dL_told_16 : decode cL_told 16 = .ok (.ireturn, 1) := by decide +kernel
set_option maxRecDepth 20000 in
theorem ggL_law_X3_init : GoodIn wsL_law wsX3_init := goodIn_r _ [10, 11, 12, 13, 14, 15, 16, 17, 18, 19, 20, 21, 22, 23, 24, 25, 26, 27, 28, 29, 30, 31, 32, 33, 34, 35, 36, 37, 38, 39, 40, 41, 42, 43, 44, 45, 6, 46, 47, 48, 49, 50, 51, 52, 53, 54, 55, 56, 57, 58, 59, 442, 443, 444, 445, 446, 447, 407, 408, 409, 410, 411, 412, 413, 414, 415, 416, 417, 448, 449, 450, 451, 452, 453, 454, 455, 456, 457] (by decide +kernel) (by decide +kernel)
set_option maxRecDepth 20000 in
theorem gL_law_X3_init : GoodIn wsL_law (wsX3_init) := ggL_law_X3_init
set_option maxRecDepth 20000 in
theorem ggL_law_X4_init : GoodIn wsL_law wsX4_init := goodIn_r _ [62, 63, 12, 13, 64, 65, 66, 47, 67, 68, 69, 70, 71, 72, 73, 74, 75, 76, 77, 78, 418, 419, 420, 421, 422, 423, 424, 425, 426, 427, 428, 429, 430, 431, 432, 433, 434, 435, 436, 437, 438, 439, 440, 441] (by decide +kernel) (by decide +kernel)
set_option maxRecDepth 20000 in
theorem gL_law_X4_init : GoodIn wsL_law (wsX4_init) := ggL_law_X4_init
set_option maxRecDepth 20000 in
theorem ggL_law_L_rooms : GoodIn wsL_law wsL_rooms := goodIn_ca (goodIn_r _ [82, 83, 84, 85, 86, 2, 87, 26, 27, 88, 89, 90, 91, 92, 407, 408, 409, 410, 411, 412, 413, 414, 415, 416, 417] (by decide +kernel) (by decide +kernel)) (goodIn_sub (fun _ h => List.mem_append_right _ h) (by decide +kernel))
set_option maxRecDepth 20000 in
theorem gL_law_L_rooms : GoodIn wsL_law (va_wsS RL 45 yL_rooms wsL_rooms) := goodIn_app (goodIn_of _ (by decide +kernel)) ggL_law_L_rooms
set_option maxRecDepth 20000 in
theorem ggL_law_X4_rooms : GoodIn wsL_law wsX4_rooms := goodIn_r _ [96, 97, 64, 65, 418, 419, 420, 421, 422, 423, 424, 425, 426, 427, 428, 429, 430, 431, 432, 433, 434, 435, 436, 437, 438, 439, 440, 441] (by decide +kernel) (by decide +kernel)
set_option maxRecDepth 20000 in
theorem gL_law_X4_rooms : GoodIn wsL_law (wsV RL 50 RX4 yX4_rooms wsX4_rooms) := goodIn_app (goodIn_of _ (by decide +kernel)) ggL_law_X4_rooms
set_option maxRecDepth 20000 in
theorem ggL_law_X4_thrown : GoodIn wsL_law wsX4_thrown := goodIn_r _ [101, 97, 418, 419, 420, 421, 422, 423, 424, 425, 426, 427, 428, 429, 430, 431, 432, 433, 434, 435, 436, 437, 438, 439, 440, 441] (by decide +kernel) (by decide +kernel)
set_option maxRecDepth 20000 in
theorem gL_law_X4_thrown : GoodIn wsL_law (wsV RL 51 RX4 yX4_thrown wsX4_thrown) := goodIn_app (goodIn_of _ (by decide +kernel)) ggL_law_X4_thrown
set_option maxRecDepth 20000 in
theorem ggL_law_X3_key : GoodIn wsL_law wsX3_key := goodIn_r _ [105, 17, 106, 107, 108, 16, 109, 37, 38, 407, 408, 409, 410, 411, 412, 413, 414, 415, 416, 417, 442, 443, 444, 445, 446, 447] (by decide +kernel) (by decide +kernel)
set_option maxRecDepth 20000 in
theorem gL_law_X3_key : GoodIn wsL_law (wsV RL 57 RX3 yX3_key wsX3_key) := goodIn_app (goodIn_of _ (by decide +kernel)) ggL_law_X3_key
set_option maxRecDepth 20000 in
theorem ggL_law_X4_key : GoodIn wsL_law wsX4_key := goodIn_r _ [113, 97, 114, 115, 418, 419, 420, 421, 422, 423, 424, 425, 426, 427, 428, 429, 430, 431, 432, 433, 434, 435, 436, 437, 438, 439, 440, 441] (by decide +kernel) (by decide +kernel)
set_option maxRecDepth 20000 in
theorem gL_law_X4_key : GoodIn wsL_law (wsV RL 61 RX4 yX4_key wsX4_key) := goodIn_app (goodIn_of _ (by decide +kernel)) ggL_law_X4_key
set_option maxRecDepth 20000 in
theorem ggL_law_L_pass : GoodIn wsL_law wsL_pass := goodIn_ca (goodIn_r _ [118, 83, 119, 120, 121, 2, 122, 28, 21, 88, 89, 90, 91, 92, 123, 124, 125, 20, 126, 52, 51, 127, 128, 129, 130, 46, 48, 49, 50, 407, 408, 409, 410, 411, 412, 413, 414, 415, 416, 417, 448, 449, 450, 451, 452, 453] (by decide +kernel) (by decide +kernel)) (goodIn_sub (fun _ h => List.mem_append_right _ h) (by decide +kernel))
set_option maxRecDepth 20000 in
theorem gL_law_L_pass : GoodIn wsL_law (va_wsS RL 62 yL_pass wsL_pass) := goodIn_app (goodIn_of _ (by decide +kernel)) ggL_law_L_pass
set_option maxRecDepth 20000 in
theorem ggL_law_X4_pass : GoodIn wsL_law wsX4_pass := goodIn_r _ [134, 97, 135, 136, 72, 137, 138, 139, 5, 140, 67, 68, 69, 70, 71, 418, 419, 420, 421, 422, 423, 424, 425, 426, 427, 428, 429, 430, 431, 432, 433, 434, 435, 436, 437, 438, 439, 440, 441] (by decide +kernel) (by decide +kernel)
set_option maxRecDepth 20000 in
theorem gL_law_X4_pass : GoodIn wsL_law (wsV RL 65 RX4 yX4_pass wsX4_pass) := goodIn_app (goodIn_of _ (by decide +kernel)) ggL_law_X4_pass
set_option maxRecDepth 20000 in
theorem ggL_law_L_syn : GoodIn wsL_law wsL_syn := goodIn_ca (goodIn_r _ [143, 83, 144, 145, 146, 2, 147, 148, 25, 149, 21, 88, 89, 90, 91, 92, 150, 151, 152, 153, 154, 155, 24, 156, 58, 56, 157, 158, 159, 20, 160, 52, 46, 161, 162, 163, 164, 165, 128, 129, 130, 48, 49, 50, 51, 166, 167, 168, 169, 170, 171, 172, 173, 26, 30, 28, 29, 174, 175, 176, 177, 178, 179, 180, 181, 182, 183, 17, 184, 185, 186, 187, 188, 189, 190, 16, 191, 37, 192, 39, 38, 193, 40, 194, 41, 195, 42, 196, 197, 198, 199, 200, 201, 202, 203, 204, 205, 206, 207, 208, 209, 210, 211, 212, 407, 408, 409, 410, 411, 412, 413, 414, 415, 416, 417, 448, 449, 450, 451, 452, 453, 454, 455, 456, 457, 442, 443, 444, 445, 446, 447] (by decide +kernel) (by decide +kernel)) (goodIn_sub (fun _ h => List.mem_append_right _ h) (by decide +kernel))
set_option maxRecDepth 20000 in
theorem gL_law_L_syn : GoodIn wsL_law (va_wsS RL 66 yL_syn wsL_syn) := goodIn_app (goodIn_of _ (by decide +kernel)) ggL_law_L_syn
set_option maxRecDepth 20000 in
theorem ggL_law_X4_syn : GoodIn wsL_law wsX4_syn := goodIn_r _ [216, 97, 217, 69, 70, 218, 135, 136, 64, 66, 78, 219, 67, 68, 71, 72, 220, 221, 5, 222, 223, 224, 225, 226, 227, 228, 73, 74, 229, 230, 231, 232, 137, 138, 139, 140, 233, 234, 235, 236, 237, 238, 239, 240, 241, 242, 243, 244, 245, 246, 114, 247, 248, 115, 249, 250, 251, 252, 253, 254, 255, 256, 257, 258, 259, 260, 261, 262, 263, 264, 265, 266, 267, 418, 419, 420, 421, 422, 423, 424, 425, 426, 427, 428, 429, 430, 431, 432, 433, 434, 435, 436, 437, 438, 439, 440, 441] (by decide +kernel) (by decide +kernel)
set_option maxRecDepth 20000 in
theorem gL_law_X4_syn : GoodIn wsL_law (wsV RL 69 RX4 yX4_syn wsX4_syn) := goodIn_app (goodIn_of _ (by decide +kernel)) ggL_law_X4_syn
set_option maxRecDepth 20000 in
theorem ggL_law_L_ack : GoodIn wsL_law wsL_ack := goodIn_ca (goodIn_r _ [270, 83, 271, 272, 273, 2, 274, 148, 25, 21, 33, 88, 89, 90, 91, 92, 150, 151, 152, 153, 154, 155, 24, 156, 58, 56, 157, 158, 159, 20, 160, 52, 46, 275, 276, 277, 278, 27, 31, 279, 280, 281, 282, 283, 284, 285, 286, 59, 287, 288, 289, 290, 57, 165, 128, 129, 130, 48, 49, 50, 51, 291, 292, 293, 294, 32, 295, 296, 297, 298, 30, 28, 29, 299, 300, 301, 302, 175, 176, 177, 178, 179, 180, 181, 182, 183, 17, 184, 161, 162, 163, 164, 185, 186, 187, 188, 189, 190, 16, 191, 37, 192, 39, 38, 193, 40, 194, 41, 195, 42, 196, 197, 198, 199, 200, 201, 202, 203, 204, 205, 206, 207, 208, 407, 408, 409, 410, 411, 412, 413, 414, 415, 416, 417, 454, 455, 456, 457, 448, 449, 450, 451, 452, 453, 442, 443, 444, 445, 446, 447] (by decide +kernel) (by decide +kernel)) (goodIn_sub (fun _ h => List.mem_append_right _ h) (by decide +kernel))
set_option maxRecDepth 20000 in
theorem gL_law_L_ack : GoodIn wsL_law (va_wsS RL 70 yL_ack wsL_ack) := goodIn_app (goodIn_of _ (by decide +kernel)) ggL_law_L_ack
set_option maxRecDepth 20000 in
theorem ggL_law_X4_ack : GoodIn wsL_law wsX4_ack := goodIn_r _ [306, 97, 69, 70, 71, 78, 66, 135, 220, 221, 5, 222, 223, 224, 225, 226, 227, 228, 73, 74, 229, 230, 231, 232, 136, 67, 68, 307, 308, 309, 310, 65, 311, 312, 313, 314, 77, 315, 316, 317, 318, 75, 137, 138, 139, 140, 72, 236, 237, 238, 239, 218, 240, 241, 242, 243, 244, 245, 246, 114, 247, 248, 115, 249, 250, 251, 252, 253, 254, 255, 256, 257, 258, 259, 260, 261, 262, 263, 264, 265, 266, 267, 418, 419, 420, 421, 422, 423, 424, 425, 426, 427, 428, 429, 430, 431, 432, 433, 434, 435, 436, 437, 438, 439, 440, 441] (by decide +kernel) (by decide +kernel)
set_option maxRecDepth 20000 in
theorem gL_law_X4_ack : GoodIn wsL_law (wsV RL 72 RX4 yX4_ack wsX4_ack) := goodIn_app (goodIn_of _ (by decide +kernel)) ggL_law_X4_ack
set_option maxRecDepth 20000 in
theorem ggL_law_X3_take : GoodIn wsL_law wsX3_take := goodIn_r _ [322, 25, 323, 324, 325, 24, 326, 59, 58, 185, 186, 2, 187, 148, 407, 408, 409, 410, 411, 412, 413, 414, 415, 416, 417, 454, 455, 456, 457] (by decide +kernel) (by decide +kernel)
set_option maxRecDepth 20000 in
theorem gL_law_X3_take : GoodIn wsL_law (wsV RL 73 RX3 yX3_take wsX3_take) := goodIn_app (goodIn_of _ (by decide +kernel)) ggL_law_X3_take
set_option maxRecDepth 20000 in
theorem ggL_law_X4_take_ : GoodIn wsL_law wsX4_take_ := goodIn_r _ [330, 97, 228, 77, 74, 331, 75, 418, 419, 420, 421, 422, 423, 424, 425, 426, 427, 428, 429, 430, 431, 432, 433, 434, 435, 436, 437, 438, 439, 440, 441] (by decide +kernel) (by decide +kernel)
set_option maxRecDepth 20000 in
theorem gL_law_X4_take_ : GoodIn wsL_law (wsV RL 76 RX4 yX4_take_ wsX4_take_) := goodIn_app (goodIn_of _ (by decide +kernel)) ggL_law_X4_take_
set_option maxRecDepth 20000 in
theorem ggL_law_L_close : GoodIn wsL_law wsL_close := goodIn_ca (goodIn_r _ [334, 83, 335, 336, 337, 2, 338, 148, 21, 25, 88, 89, 90, 91, 92, 150, 151, 152, 339, 340, 341, 342, 153, 154, 155, 24, 156, 58, 56, 343, 344, 345, 346, 59, 157, 158, 159, 20, 160, 52, 46, 165, 128, 129, 130, 48, 49, 50, 51, 347, 348, 349, 350, 57, 351, 407, 408, 409, 410, 411, 412, 413, 414, 415, 416, 417, 454, 455, 456, 457, 448, 449, 450, 451, 452, 453] (by decide +kernel) (by decide +kernel)) (goodIn_sub (fun _ h => List.mem_append_right _ h) (by decide +kernel))
set_option maxRecDepth 20000 in
theorem gL_law_L_close : GoodIn wsL_law (va_wsS RL 77 yL_close wsL_close) := goodIn_app (goodIn_of _ (by decide +kernel)) ggL_law_L_close
set_option maxRecDepth 20000 in
theorem ggL_law_X4_close : GoodIn wsL_law wsX4_close := goodIn_r _ [355, 97, 220, 221, 5, 222, 223, 356, 357, 358, 359, 77, 224, 225, 226, 227, 228, 73, 74, 229, 230, 231, 232, 136, 67, 68, 137, 138, 139, 140, 69, 70, 71, 72, 360, 361, 362, 363, 75, 418, 419, 420, 421, 422, 423, 424, 425, 426, 427, 428, 429, 430, 431, 432, 433, 434, 435, 436, 437, 438, 439, 440, 441] (by decide +kernel) (by decide +kernel)
set_option maxRecDepth 20000 in
theorem gL_law_X4_close : GoodIn wsL_law (wsV RL 80 RX4 yX4_close wsX4_close) := goodIn_app (goodIn_of _ (by decide +kernel)) ggL_law_X4_close
set_option maxRecDepth 20000 in
theorem ggL_law_L_state : GoodIn wsL_law wsL_state := goodIn_ca (goodIn_r _ [366, 83, 367, 368, 369, 2, 370, 148, 88, 89, 90, 91, 92, 150, 151, 152, 339, 340, 341, 342, 25, 21, 153, 154, 155, 24, 156, 58, 56, 343, 344, 345, 346, 59, 157, 158, 159, 20, 160, 52, 46, 407, 408, 409, 410, 411, 412, 413, 414, 415, 416, 417, 454, 455, 456, 457, 448, 449, 450, 451, 452, 453] (by decide +kernel) (by decide +kernel)) (goodIn_sub (fun _ h => List.mem_append_right _ h) (by decide +kernel))
set_option maxRecDepth 20000 in
theorem gL_law_L_state : GoodIn wsL_law (va_wsS RL 81 yL_state wsL_state) := goodIn_app (goodIn_of _ (by decide +kernel)) ggL_law_L_state
set_option maxRecDepth 20000 in
theorem ggL_law_X4_state : GoodIn wsL_law wsX4_state := goodIn_r _ [374, 97, 220, 221, 5, 222, 223, 356, 357, 358, 359, 77, 224, 225, 226, 227, 228, 73, 74, 229, 230, 231, 232, 136, 67, 68, 418, 419, 420, 421, 422, 423, 424, 425, 426, 427, 428, 429, 430, 431, 432, 433, 434, 435, 436, 437, 438, 439, 440, 441] (by decide +kernel) (by decide +kernel)
set_option maxRecDepth 20000 in
theorem gL_law_X4_state : GoodIn wsL_law (wsV RL 83 RX4 yX4_state wsX4_state) := goodIn_app (goodIn_of _ (by decide +kernel)) ggL_law_X4_state
set_option maxRecDepth 20000 in
theorem ggL_law_L_cookie : GoodIn wsL_law wsL_cookie := goodIn_ca (goodIn_r _ [377, 83, 378, 379, 380, 2, 381, 148, 382, 88, 89, 90, 91, 92, 150, 151, 152, 179, 180, 181, 182, 183, 17, 184, 161, 162, 163, 164, 185, 186, 187, 188, 189, 190, 16, 191, 37, 192, 39, 38, 193, 40, 194, 41, 195, 42, 196, 197, 198, 199, 200, 201, 202, 203, 204, 205, 206, 207, 208, 407, 408, 409, 410, 411, 412, 413, 414, 415, 416, 417, 442, 443, 444, 445, 446, 447] (by decide +kernel) (by decide +kernel)) (goodIn_sub (fun _ h => List.mem_append_right _ h) (by decide +kernel))
set_option maxRecDepth 20000 in
theorem gL_law_L_cookie : GoodIn wsL_law (va_wsS RL 84 yL_cookie wsL_cookie) := goodIn_app (goodIn_of _ (by decide +kernel)) ggL_law_L_cookie
set_option maxRecDepth 20000 in
theorem ggL_law_X4_cookie : GoodIn wsL_law wsX4_cookie := goodIn_r _ [386, 97, 218, 220, 221, 5, 222, 223, 236, 237, 238, 239, 240, 241, 242, 243, 244, 245, 246, 114, 247, 248, 115, 249, 250, 251, 252, 253, 254, 255, 256, 257, 258, 259, 260, 261, 262, 263, 264, 265, 266, 267, 418, 419, 420, 421, 422, 423, 424, 425, 426, 427, 428, 429, 430, 431, 432, 433, 434, 435, 436, 437, 438, 439, 440, 441] (by decide +kernel) (by decide +kernel)
set_option maxRecDepth 20000 in
theorem gL_law_X4_cookie : GoodIn wsL_law (wsV RL 87 RX4 yX4_cookie wsX4_cookie) := goodIn_app (goodIn_of _ (by decide +kernel)) ggL_law_X4_cookie
set_option maxRecDepth 20000 in
theorem ggL_law_X3_hash : GoodIn wsL_law wsX3_hash := goodIn_r _ [390, 17, 188, 189, 190, 16, 191, 37, 192, 39, 38, 193, 40, 194, 41, 195, 42, 196, 197, 198, 199, 200, 201, 202, 203, 204, 205, 206, 207, 208, 407, 408, 409, 410, 411, 412, 413, 414, 415, 416, 417, 442, 443, 444, 445, 446, 447] (by decide +kernel) (by decide +kernel)
set_option maxRecDepth 20000 in
theorem gL_law_X3_hash : GoodIn wsL_law (wsV RL 88 RX3 yX3_hash wsX3_hash) := goodIn_app (goodIn_of _ (by decide +kernel)) ggL_law_X3_hash
set_option maxRecDepth 20000 in
theorem ggL_law_X4_hash : GoodIn wsL_law wsX4_hash := goodIn_r _ [394, 97, 243, 244, 245, 5, 246, 114, 247, 248, 115, 249, 250, 251, 252, 253, 254, 255, 256, 257, 258, 259, 260, 261, 262, 263, 264, 265, 266, 267, 418, 419, 420, 421, 422, 423, 424, 425, 426, 427, 428, 429, 430, 431, 432, 433, 434, 435, 436, 437, 438, 439, 440, 441] (by decide +kernel) (by decide +kernel)
set_option maxRecDepth 20000 in
theorem gL_law_X4_hash : GoodIn wsL_law (wsV RL 92 RX4 yX4_hash wsX4_hash) := goodIn_app (goodIn_of _ (by decide +kernel)) ggL_law_X4_hash
set_option maxRecDepth 20000 in
theorem ggL_law_L_told : GoodIn wsL_law wsL_told := goodIn_ca (goodIn_r _ [397, 83, 398, 399, 400, 2, 401, 91, 92, 21, 25, 30, 31, 32, 33, 28, 402, 284, 285, 24, 286, 58, 59, 407, 408, 409, 410, 411, 412, 413, 414, 415, 416, 417, 448, 449, 450, 451, 452, 453, 454, 455, 456, 457] (by decide +kernel) (by decide +kernel)) (goodIn_sub (fun _ h => List.mem_append_right _ h) (by decide +kernel))
set_option maxRecDepth 20000 in
theorem gL_law_L_told : GoodIn wsL_law (va_wsS RL 93 yL_told wsL_told) := goodIn_app (goodIn_of _ (by decide +kernel)) ggL_law_L_told
set_option maxRecDepth 20000 in
theorem ggL_law_X4_told : GoodIn wsL_law wsX4_told := goodIn_r _ [406, 97, 136, 228, 135, 78, 311, 312, 313, 5, 314, 77, 418, 419, 420, 421, 422, 423, 424, 425, 426, 427, 428, 429, 430, 431, 432, 433, 434, 435, 436, 437, 438, 439, 440, 441] (by decide +kernel) (by decide +kernel)
set_option maxRecDepth 20000 in
theorem gL_law_X4_told : GoodIn wsL_law (wsV RL 95 RX4 yX4_told wsX4_told) := goodIn_app (goodIn_of _ (by decide +kernel)) ggL_law_X4_told
