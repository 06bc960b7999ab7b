/-! ===== the names of the law (printed) ===== -/
set_option maxRecDepth 20000 in
theorem ggL_refuses_X8_slot : GoodIn wsL_refuses wsX8_slot := goodIn_r _ [8, 9, 10, 497, 498, 499, 500, 501, 502, 503, 504, 505, 506] (by decide +kernel) (by decide +kernel)
set_option maxRecDepth 20000 in
theorem gL_refuses_X8_slot : GoodIn wsL_refuses (wsV RL 86 RX8 yX8_slot wsX8_slot) := goodIn_app (goodIn_of _ (by decide +kernel)) ggL_refuses_X8_slot
set_option maxRecDepth 20000 in
theorem ggL_refuses_L_machine : GoodIn wsL_refuses wsL_machine := goodIn_ca (goodIn_ca (goodIn_ca (goodIn_r _ [14, 15, 16, 17, 1, 2, 3, 18, 19, 20, 7, 21, 9, 22, 23, 24, 25, 26, 27, 28, 29, 30, 31, 32, 33, 34, 35, 36, 37, 38, 39, 40, 41, 42, 43, 10, 44, 45, 46, 47, 48, 49, 50, 51, 52, 53, 54, 55, 56, 57, 58, 59, 60, 61, 62, 63, 64, 65, 66, 67, 68, 69, 70, 71, 72, 73, 74, 75, 76, 77, 78, 79, 80, 81, 82, 83, 84, 85, 86, 87, 88, 89, 90, 91, 92, 93, 94, 95, 96, 97, 98, 99, 100, 101, 102, 103, 104, 105, 106, 107, 108, 109, 110, 111, 112, 113, 114, 115, 116, 117, 118, 119, 120, 121, 122, 123, 124, 125, 126, 127, 128, 129, 130, 131, 132, 133, 134, 135, 136, 137, 138, 139, 140, 141, 142, 143, 144, 145, 146, 147, 148, 149, 150, 151, 152, 153, 154, 155, 156, 157, 158, 159, 160, 161, 162, 497, 498, 499, 500, 501, 502, 503, 504, 505, 506, 507, 508, 509, 510, 511, 512, 513, 514, 515, 516, 517, 518, 519, 520, 521, 522, 523, 524, 525, 526, 527, 528, 529, 530, 531, 532, 533, 534, 535, 536, 537, 538, 539, 540] (by decide +kernel) (by decide +kernel)) (goodIn_sub (fun _ h => List.mem_cons_of_mem _ (List.mem_append_left _ (List.mem_append_left _ (List.mem_append_right _ h)))) (by decide +kernel))) (goodIn_sub (fun _ h => List.mem_cons_of_mem _ (List.mem_append_left _ (List.mem_append_right _ h))) (by decide +kernel))) (goodIn_sub (fun _ h => List.mem_cons_of_mem _ (List.mem_append_right _ h)) (by decide +kernel))
set_option maxRecDepth 20000 in
theorem gL_refuses_L_machine : GoodIn wsL_refuses (va_wsS RL 90 yL_machine wsL_machine) := goodIn_app (goodIn_of _ (by decide +kernel)) ggL_refuses_L_machine
set_option maxRecDepth 20000 in
theorem ggL_refuses_L_leave : GoodIn wsL_refuses wsL_leave := goodIn_ca (goodIn_ca (goodIn_ca (goodIn_r _ [165, 15, 16, 17, 1, 2, 3, 166, 167, 168, 7, 169, 9, 10, 170, 24, 25, 26, 27, 28, 29, 30, 31, 32, 33, 171, 172, 173, 121, 174, 123, 128, 125, 126, 124, 175, 176, 177, 178, 179, 34, 35, 36, 37, 38, 39, 40, 41, 42, 43, 44, 45, 46, 47, 48, 49, 50, 51, 52, 53, 54, 55, 56, 57, 58, 59, 60, 61, 62, 63, 64, 65, 66, 67, 68, 69, 70, 71, 72, 73, 74, 75, 76, 77, 78, 79, 80, 81, 82, 83, 84, 85, 86, 87, 88, 89, 90, 91, 92, 93, 94, 95, 96, 97, 98, 99, 100, 101, 102, 103, 104, 105, 106, 107, 108, 109, 110, 111, 112, 113, 114, 115, 116, 117, 118, 119, 120, 122, 127, 129, 130, 131, 132, 133, 134, 135, 136, 137, 138, 139, 140, 141, 142, 143, 144, 145, 146, 147, 148, 149, 150, 151, 152, 153, 154, 155, 156, 157, 158, 159, 160, 161, 162, 497, 498, 499, 500, 501, 502, 503, 504, 505, 506, 534, 535, 536, 537, 538, 539, 540, 513, 514, 515, 516, 517, 518, 519, 507, 508, 509, 510, 511, 512, 520, 521, 522, 523, 524, 525, 526, 527, 528, 529, 530, 531, 532, 533] (by decide +kernel) (by decide +kernel)) (goodIn_sub (fun _ h => List.mem_cons_of_mem _ (List.mem_append_left _ (List.mem_append_left _ (List.mem_append_right _ h)))) (by decide +kernel))) (goodIn_sub (fun _ h => List.mem_cons_of_mem _ (List.mem_append_left _ (List.mem_append_right _ h))) (by decide +kernel))) (goodIn_sub (fun _ h => List.mem_cons_of_mem _ (List.mem_append_right _ h)) (by decide +kernel))
set_option maxRecDepth 20000 in
theorem gL_refuses_L_leave : GoodIn wsL_refuses (va_wsS RL 95 yL_leave wsL_leave) := goodIn_app (goodIn_of _ (by decide +kernel)) ggL_refuses_L_leave
set_option maxRecDepth 20000 in
theorem ggL_refuses_L_lend : GoodIn wsL_refuses wsL_lend := goodIn_ca (goodIn_ca (goodIn_ca (goodIn_r _ [182, 15, 16, 17, 1, 2, 3, 183, 184, 185, 7, 186, 9, 10, 187, 188, 189, 190, 191, 192, 27, 28, 22, 193, 102, 103, 69, 104, 71, 24, 25, 26, 29, 30, 31, 32, 33, 34, 35, 36, 37, 38, 39, 40, 41, 42, 43, 44, 45, 46, 47, 48, 49, 50, 51, 52, 53, 54, 55, 56, 57, 58, 59, 60, 61, 62, 63, 64, 65, 66, 67, 68, 70, 72, 73, 74, 75, 76, 77, 78, 79, 80, 81, 82, 83, 84, 85, 86, 87, 88, 89, 90, 91, 92, 93, 94, 95, 96, 97, 98, 99, 100, 101, 105, 106, 107, 108, 109, 110, 111, 112, 113, 114, 115, 116, 117, 118, 119, 120, 121, 122, 123, 124, 125, 126, 127, 128, 129, 130, 131, 132, 133, 134, 135, 136, 137, 138, 139, 140, 141, 142, 143, 144, 145, 146, 147, 148, 149, 150, 151, 152, 153, 154, 155, 156, 157, 158, 159, 160, 161, 162, 497, 498, 499, 500, 501, 502, 503, 504, 505, 506, 521, 522, 523, 524, 525, 507, 508, 509, 510, 511, 512, 513, 514, 515, 516, 517, 518, 519, 520, 526, 527, 528, 529, 530, 531, 532, 533, 534, 535, 536, 537, 538, 539, 540] (by decide +kernel) (by decide +kernel)) (goodIn_sub (fun _ h => List.mem_cons_of_mem _ (List.mem_append_left _ (List.mem_append_left _ (List.mem_append_right _ h)))) (by decide +kernel))) (goodIn_sub (fun _ h => List.mem_cons_of_mem _ (List.mem_append_left _ (List.mem_append_right _ h))) (by decide +kernel))) (goodIn_sub (fun _ h => List.mem_cons_of_mem _ (List.mem_append_right _ h)) (by decide +kernel))
set_option maxRecDepth 20000 in
theorem gL_refuses_L_lend : GoodIn wsL_refuses (va_wsS RL 98 yL_lend wsL_lend) := goodIn_app (goodIn_of _ (by decide +kernel)) ggL_refuses_L_lend
set_option maxRecDepth 20000 in
theorem ggL_refuses_L_breakDown : GoodIn wsL_refuses wsL_breakDown := goodIn_ca (goodIn_ca (goodIn_r _ [196, 15, 16, 1, 2, 197, 198, 199, 7, 200, 9, 22, 201, 189, 190, 191, 192, 27, 28, 193, 102, 103, 69, 104, 71, 29, 30, 31, 32, 33, 39, 40, 41, 42, 43, 10, 44, 45, 46, 47, 48, 49, 50, 51, 52, 53, 54, 55, 56, 57, 58, 59, 60, 61, 62, 63, 64, 65, 66, 67, 68, 70, 72, 73, 74, 75, 76, 77, 78, 79, 80, 81, 82, 83, 84, 85, 86, 87, 88, 89, 90, 91, 92, 93, 94, 95, 96, 97, 98, 99, 100, 101, 105, 106, 107, 108, 109, 110, 111, 112, 113, 114, 115, 116, 117, 118, 119, 120, 121, 122, 123, 124, 125, 126, 127, 128, 129, 130, 131, 132, 133, 134, 135, 136, 137, 138, 139, 140, 141, 142, 143, 144, 145, 146, 147, 148, 149, 150, 151, 152, 153, 154, 155, 156, 157, 158, 159, 160, 161, 162, 497, 498, 499, 500, 501, 502, 503, 504, 505, 506, 507, 508, 509, 510, 511, 512, 513, 514, 515, 516, 517, 518, 519, 520, 521, 522, 523, 524, 525, 526, 527, 528, 529, 530, 531, 532, 533, 534, 535, 536, 537, 538, 539, 540] (by decide +kernel) (by decide +kernel)) (goodIn_sub (fun _ h => List.mem_cons_of_mem _ (List.mem_append_left _ (List.mem_append_left _ (List.mem_append_right _ h)))) (by decide +kernel))) (goodIn_sub (fun _ h => List.mem_cons_of_mem _ (List.mem_append_left _ (List.mem_append_right _ h))) (by decide +kernel))
set_option maxRecDepth 20000 in
theorem gL_refuses_L_breakDown : GoodIn wsL_refuses (va_wsS RL 101 yL_breakDown wsL_breakDown) := goodIn_app (goodIn_of _ (by decide +kernel)) ggL_refuses_L_breakDown
set_option maxRecDepth 20000 in
theorem ggL_refuses_L_meeting : GoodIn wsL_refuses wsL_meeting := goodIn_ca (goodIn_ca (goodIn_ca (goodIn_r _ [204, 15, 16, 17, 1, 2, 3, 205, 206, 207, 7, 208, 9, 10, 170, 209, 189, 190, 191, 192, 27, 28, 22, 193, 102, 103, 69, 104, 71, 29, 30, 31, 32, 33, 210, 211, 212, 213, 214, 215, 34, 35, 36, 37, 38, 216, 217, 218, 59, 219, 64, 62, 61, 220, 172, 173, 121, 174, 123, 128, 125, 126, 124, 175, 176, 221, 222, 223, 80, 224, 225, 226, 227, 228, 82, 229, 230, 231, 232, 127, 233, 234, 235, 236, 100, 65, 237, 238, 101, 239, 114, 115, 108, 116, 117, 240, 241, 242, 243, 74, 75, 244, 39, 40, 41, 42, 43, 44, 45, 46, 47, 48, 49, 50, 51, 52, 53, 54, 55, 56, 57, 58, 60, 63, 66, 67, 68, 70, 72, 73, 76, 77, 78, 79, 81, 83, 84, 85, 86, 87, 88, 89, 90, 91, 92, 93, 94, 95, 96, 97, 98, 99, 105, 106, 107, 109, 110, 111, 112, 113, 118, 119, 120, 122, 129, 130, 131, 132, 133, 134, 135, 136, 137, 138, 139, 140, 141, 142, 143, 144, 145, 146, 147, 148, 149, 150, 151, 152, 153, 154, 155, 156, 157, 158, 159, 160, 161, 162, 497, 498, 499, 500, 501, 502, 503, 504, 505, 506, 534, 535, 536, 537, 538, 539, 540, 507, 508, 509, 510, 511, 512, 520, 526, 527, 528, 529, 530, 531, 532, 533, 513, 514, 515, 516, 517, 518, 519, 521, 522, 523, 524, 525] (by decide +kernel) (by decide +kernel)) (goodIn_sub (fun _ h => List.mem_cons_of_mem _ (List.mem_append_left _ (List.mem_append_left _ (List.mem_append_right _ h)))) (by decide +kernel))) (goodIn_sub (fun _ h => List.mem_cons_of_mem _ (List.mem_append_left _ (List.mem_append_right _ h))) (by decide +kernel))) (goodIn_sub (fun _ h => List.mem_cons_of_mem _ (List.mem_append_right _ h)) (by decide +kernel))
set_option maxRecDepth 20000 in
theorem gL_refuses_L_meeting : GoodIn wsL_refuses (va_wsS RL 103 yL_meeting wsL_meeting) := goodIn_app (goodIn_of _ (by decide +kernel)) ggL_refuses_L_meeting
set_option maxRecDepth 20000 in
theorem ggL_refuses_L_move : GoodIn wsL_refuses wsL_move := goodIn_ca (goodIn_ca (goodIn_ca (goodIn_r _ [247, 15, 16, 17, 1, 2, 3, 248, 249, 250, 7, 251, 9, 10, 170, 252, 253, 254, 255, 256, 27, 28, 257, 135, 136, 121, 137, 123, 29, 30, 31, 32, 33, 210, 211, 212, 213, 214, 215, 258, 259, 260, 59, 261, 64, 262, 263, 98, 264, 34, 35, 36, 37, 38, 265, 266, 267, 268, 269, 270, 271, 272, 217, 218, 219, 62, 61, 220, 172, 173, 174, 128, 125, 126, 124, 175, 176, 221, 222, 223, 80, 224, 225, 226, 227, 228, 82, 229, 230, 231, 232, 127, 233, 234, 235, 236, 100, 65, 237, 238, 101, 102, 103, 69, 104, 71, 239, 114, 115, 108, 116, 117, 240, 241, 242, 243, 74, 75, 244, 39, 40, 41, 42, 43, 44, 45, 46, 47, 48, 49, 50, 51, 52, 53, 54, 55, 56, 57, 58, 60, 63, 66, 67, 68, 70, 72, 73, 76, 77, 78, 79, 81, 83, 84, 85, 86, 87, 88, 89, 90, 91, 92, 93, 94, 95, 96, 97, 99, 105, 106, 107, 109, 110, 111, 112, 113, 118, 119, 120, 122, 129, 130, 131, 132, 133, 134, 138, 139, 140, 141, 142, 143, 144, 145, 146, 147, 148, 149, 150, 151, 152, 153, 154, 155, 156, 157, 158, 159, 160, 161, 162, 497, 498, 499, 500, 501, 502, 503, 504, 505, 506, 534, 535, 536, 537, 538, 539, 540, 520, 507, 508, 509, 510, 511, 512, 526, 527, 528, 529, 530, 531, 532, 533, 513, 514, 515, 516, 517, 518, 519, 521, 522, 523, 524, 525] (by decide +kernel) (by decide +kernel)) (goodIn_sub (fun _ h => List.mem_cons_of_mem _ (List.mem_append_left _ (List.mem_append_left _ (List.mem_append_right _ h)))) (by decide +kernel))) (goodIn_sub (fun _ h => List.mem_cons_of_mem _ (List.mem_append_left _ (List.mem_append_right _ h))) (by decide +kernel))) (goodIn_sub (fun _ h => List.mem_cons_of_mem _ (List.mem_append_right _ h)) (by decide +kernel))
set_option maxRecDepth 20000 in
theorem gL_refuses_L_move : GoodIn wsL_refuses (va_wsS RL 105 yL_move wsL_move) := goodIn_app (goodIn_of _ (by decide +kernel)) ggL_refuses_L_move
set_option maxRecDepth 20000 in
theorem ggL_refuses_L_cancel : GoodIn wsL_refuses wsL_cancel := goodIn_ca (goodIn_ca (goodIn_r _ [275, 15, 17, 1, 3, 276, 277, 278, 7, 279, 9, 253, 254, 255, 256, 27, 28, 170, 257, 135, 136, 121, 137, 123, 258, 259, 260, 59, 261, 64, 262, 263, 98, 264, 34, 35, 36, 37, 38, 39, 40, 41, 42, 43, 10, 44, 45, 46, 47, 48, 49, 50, 51, 52, 53, 54, 55, 56, 57, 58, 60, 61, 62, 63, 65, 66, 67, 68, 69, 70, 71, 72, 73, 74, 75, 76, 77, 78, 79, 80, 81, 82, 83, 84, 85, 86, 87, 88, 89, 90, 91, 92, 93, 94, 95, 96, 97, 99, 100, 101, 102, 103, 104, 105, 106, 107, 108, 109, 110, 111, 112, 113, 114, 115, 116, 117, 118, 119, 120, 122, 124, 125, 126, 127, 128, 129, 130, 131, 132, 133, 134, 138, 139, 140, 141, 142, 143, 144, 145, 146, 147, 148, 149, 150, 151, 152, 153, 154, 155, 156, 157, 158, 159, 160, 161, 162, 497, 498, 499, 500, 501, 502, 503, 504, 505, 506, 534, 535, 536, 537, 538, 539, 540, 513, 514, 515, 516, 517, 518, 519, 507, 508, 509, 510, 511, 512, 520, 521, 522, 523, 524, 525, 526, 527, 528, 529, 530, 531, 532, 533] (by decide +kernel) (by decide +kernel)) (goodIn_sub (fun _ h => List.mem_cons_of_mem _ (List.mem_append_left _ (List.mem_append_left _ (List.mem_append_right _ h)))) (by decide +kernel))) (goodIn_sub (fun _ h => List.mem_cons_of_mem _ (List.mem_append_right _ h)) (by decide +kernel))
set_option maxRecDepth 20000 in
theorem gL_refuses_L_cancel : GoodIn wsL_refuses (va_wsS RL 107 yL_cancel wsL_cancel) := goodIn_app (goodIn_of _ (by decide +kernel)) ggL_refuses_L_cancel
set_option maxRecDepth 20000 in
theorem ggL_refuses_L_swap : GoodIn wsL_refuses wsL_swap := goodIn_ca (goodIn_ca (goodIn_ca (goodIn_r _ [282, 15, 16, 17, 1, 2, 3, 283, 284, 285, 7, 286, 32, 33, 9, 287, 288, 170, 289, 253, 254, 255, 256, 27, 28, 257, 135, 136, 121, 137, 123, 258, 259, 260, 59, 261, 64, 262, 263, 98, 264, 34, 35, 36, 37, 38, 290, 291, 292, 293, 294, 295, 296, 297, 298, 299, 300, 301, 497, 498, 499, 500, 541, 542, 543, 544, 545, 546, 547, 501, 502, 503, 504, 505, 506, 534, 535, 536, 537, 538, 539, 540] (by decide +kernel) (by decide +kernel)) (goodIn_sub (fun _ h => List.mem_cons_of_mem _ (List.mem_append_left _ (List.mem_append_right _ h))) (by decide +kernel))) (goodIn_sub (fun _ h => List.mem_cons_of_mem _ (List.mem_append_left _ (List.mem_append_left _ (List.mem_append_right _ h)))) (by decide +kernel))) (goodIn_sub (fun _ h => List.mem_cons_of_mem _ (List.mem_append_right _ h)) (by decide +kernel))
set_option maxRecDepth 20000 in
theorem gL_refuses_L_swap : GoodIn wsL_refuses (va_wsS RL 110 yL_swap wsL_swap) := goodIn_app (goodIn_of _ (by decide +kernel)) ggL_refuses_L_swap
set_option maxRecDepth 20000 in
theorem ggL_refuses_L_agree : GoodIn wsL_refuses wsL_agree := goodIn_ca (goodIn_ca (goodIn_r _ [304, 15, 17, 1, 3, 305, 306, 307, 7, 308, 287, 309, 9, 170, 310, 311, 312, 24, 25, 26, 27, 28, 313, 314, 315, 316, 288, 34, 35, 36, 37, 38, 317, 318, 319, 121, 320, 124, 134, 135, 136, 137, 123, 177, 178, 179, 321, 322, 323, 324, 289, 325, 326, 258, 259, 260, 59, 261, 64, 262, 263, 98, 264, 327, 328, 329, 330, 331, 332, 333, 334, 335, 147, 148, 149, 125, 336, 266, 267, 268, 269, 270, 271, 214, 215, 272, 217, 218, 219, 62, 61, 220, 172, 173, 174, 128, 126, 175, 176, 221, 222, 223, 80, 224, 225, 226, 227, 228, 82, 229, 230, 231, 232, 127, 233, 234, 235, 236, 100, 65, 237, 238, 101, 102, 103, 69, 104, 71, 239, 114, 115, 108, 116, 117, 240, 241, 242, 243, 74, 75, 244, 39, 40, 41, 42, 43, 10, 44, 45, 46, 47, 48, 49, 50, 51, 52, 53, 54, 55, 56, 57, 58, 60, 63, 66, 67, 68, 70, 72, 73, 76, 77, 78, 79, 81, 83, 84, 85, 86, 87, 88, 89, 90, 91, 92, 93, 94, 95, 96, 97, 99, 105, 106, 107, 109, 110, 111, 112, 113, 118, 119, 120, 122, 129, 130, 131, 132, 133, 138, 139, 140, 141, 142, 143, 144, 145, 146, 150, 151, 152, 153, 154, 155, 156, 157, 158, 159, 160, 161, 162, 497, 498, 499, 500, 541, 542, 543, 544, 545, 546, 547, 501, 502, 503, 504, 505, 506, 534, 535, 536, 537, 538, 539, 540, 520, 507, 508, 509, 510, 511, 512, 526, 527, 528, 529, 530, 531, 532, 533, 513, 514, 515, 516, 517, 518, 519, 521, 522, 523, 524, 525] (by decide +kernel) (by decide +kernel)) (goodIn_sub (fun _ h => List.mem_cons_of_mem _ (List.mem_append_left _ (List.mem_append_left _ (List.mem_append_right _ h)))) (by decide +kernel))) (goodIn_sub (fun _ h => List.mem_cons_of_mem _ (List.mem_append_right _ h)) (by decide +kernel))
set_option maxRecDepth 20000 in
theorem gL_refuses_L_agree : GoodIn wsL_refuses (va_wsS RL 112 yL_agree wsL_agree) := goodIn_app (goodIn_of _ (by decide +kernel)) ggL_refuses_L_agree
set_option maxRecDepth 20000 in
theorem ggL_refuses_L_build : GoodIn wsL_refuses wsL_build := goodIn_ca (goodIn_ca (goodIn_r _ [339, 16, 17, 2, 3, 340, 341, 342, 7, 343, 9, 344, 345, 29, 30, 31, 32, 33, 34, 35, 36, 37, 38, 39, 40, 41, 42, 43, 10, 44, 45, 46, 47, 48, 49, 50, 51, 52, 53, 54, 55, 56, 57, 58, 59, 60, 61, 62, 63, 64, 65, 66, 67, 68, 69, 70, 71, 72, 73, 74, 75, 76, 77, 78, 79, 80, 81, 82, 83, 84, 85, 86, 87, 88, 89, 90, 91, 92, 93, 94, 95, 96, 97, 98, 99, 100, 101, 102, 103, 104, 105, 106, 107, 108, 109, 110, 111, 112, 113, 114, 115, 116, 117, 118, 119, 120, 121, 122, 123, 124, 125, 126, 127, 128, 129, 130, 131, 132, 133, 134, 135, 136, 137, 138, 139, 140, 141, 142, 143, 144, 145, 146, 147, 148, 149, 150, 151, 152, 153, 154, 155, 156, 157, 158, 159, 160, 161, 162, 497, 498, 499, 500, 501, 502, 503, 504, 505, 506, 526, 527, 528, 529, 530, 531, 532, 533, 513, 514, 515, 516, 517, 518, 519, 507, 508, 509, 510, 511, 512, 520, 521, 522, 523, 524, 525, 534, 535, 536, 537, 538, 539, 540] (by decide +kernel) (by decide +kernel)) (goodIn_sub (fun _ h => List.mem_cons_of_mem _ (List.mem_append_left _ (List.mem_append_right _ h))) (by decide +kernel))) (goodIn_sub (fun _ h => List.mem_cons_of_mem _ (List.mem_append_right _ h)) (by decide +kernel))
set_option maxRecDepth 20000 in
theorem gL_refuses_L_build : GoodIn wsL_refuses (va_wsS RL 114 yL_build wsL_build) := goodIn_app (goodIn_of _ (by decide +kernel)) ggL_refuses_L_build
set_option maxRecDepth 20000 in
theorem ggL_refuses_L_urge : GoodIn wsL_refuses wsL_urge := goodIn_ca (goodIn_ca (goodIn_ca (goodIn_r _ [348, 15, 16, 17, 1, 2, 3, 349, 350, 351, 7, 352, 9, 344, 353, 354, 355, 356, 357, 358, 27, 28, 359, 114, 115, 108, 116, 117, 29, 30, 31, 32, 33, 34, 35, 36, 37, 38, 39, 40, 41, 42, 43, 10, 44, 45, 46, 47, 48, 49, 50, 51, 52, 53, 54, 55, 56, 57, 58, 59, 60, 61, 62, 63, 64, 65, 66, 67, 68, 69, 70, 71, 72, 73, 74, 75, 76, 77, 78, 79, 80, 81, 82, 83, 84, 85, 86, 87, 88, 89, 90, 91, 92, 93, 94, 95, 96, 97, 98, 99, 100, 101, 102, 103, 104, 105, 106, 107, 109, 110, 111, 112, 113, 118, 119, 120, 121, 122, 123, 124, 125, 126, 127, 128, 129, 130, 131, 132, 133, 134, 135, 136, 137, 138, 139, 140, 141, 142, 143, 144, 145, 146, 147, 148, 149, 150, 151, 152, 153, 154, 155, 156, 157, 158, 159, 160, 161, 162, 497, 498, 499, 500, 501, 502, 503, 504, 505, 506, 526, 527, 528, 529, 530, 531, 532, 533, 513, 514, 515, 516, 517, 518, 519, 507, 508, 509, 510, 511, 512, 520, 521, 522, 523, 524, 525, 534, 535, 536, 537, 538, 539, 540] (by decide +kernel) (by decide +kernel)) (goodIn_sub (fun _ h => List.mem_cons_of_mem _ (List.mem_append_left _ (List.mem_append_left _ (List.mem_append_right _ h)))) (by decide +kernel))) (goodIn_sub (fun _ h => List.mem_cons_of_mem _ (List.mem_append_left _ (List.mem_append_right _ h))) (by decide +kernel))) (goodIn_sub (fun _ h => List.mem_cons_of_mem _ (List.mem_append_right _ h)) (by decide +kernel))
set_option maxRecDepth 20000 in
theorem gL_refuses_L_urge : GoodIn wsL_refuses (va_wsS RL 116 yL_urge wsL_urge) := goodIn_app (goodIn_of _ (by decide +kernel)) ggL_refuses_L_urge
set_option maxRecDepth 20000 in
theorem ggL_refuses_L_pass : GoodIn wsL_refuses wsL_pass := goodIn_ca (goodIn_ca (goodIn_r _ [362, 16, 17, 2, 3, 363, 364, 365, 7, 366, 9, 10, 29, 30, 31, 32, 33, 34, 35, 36, 37, 38, 367, 368, 369, 59, 370, 98, 61, 371, 372, 373, 374, 375, 100, 376, 65, 101, 102, 103, 69, 104, 71, 377, 378, 379, 108, 380, 117, 110, 154, 156, 155, 381, 382, 383, 384, 62, 64, 240, 241, 242, 243, 74, 75, 244, 175, 176, 385, 386, 387, 388, 63, 389, 390, 391, 392, 86, 393, 88, 89, 91, 92, 90, 394, 226, 227, 80, 228, 82, 229, 230, 231, 121, 232, 123, 127, 128, 125, 126, 395, 396, 397, 398, 111, 112, 157, 113, 114, 115, 116, 399, 400, 401, 402, 237, 238, 403, 239, 404, 405, 406, 407, 497, 498, 499, 500, 501, 502, 503, 504, 505, 506, 507, 508, 509, 510, 511, 512, 526, 527, 528, 529, 530, 531, 532, 533, 521, 522, 523, 524, 525, 520, 534, 535, 536, 537, 538, 539, 540] (by decide +kernel) (by decide +kernel)) (goodIn_sub (fun _ h => List.mem_cons_of_mem _ (List.mem_append_left _ (List.mem_append_right _ h))) (by decide +kernel))) (goodIn_sub (fun _ h => List.mem_cons_of_mem _ (List.mem_append_right _ h)) (by decide +kernel))
set_option maxRecDepth 20000 in
theorem gL_refuses_L_pass : GoodIn wsL_refuses (va_wsS RL 118 yL_pass wsL_pass) := goodIn_app (goodIn_of _ (by decide +kernel)) ggL_refuses_L_pass
set_option maxRecDepth 20000 in
theorem ggL_refuses_L_meetingOf : GoodIn wsL_refuses wsL_meetingOf := goodIn_ca (goodIn_ca (goodIn_r _ [410, 15, 16, 1, 2, 411, 412, 413, 7, 414, 32, 33, 9, 170, 415, 416, 252, 417, 418, 253, 254, 255, 256, 27, 28, 257, 135, 136, 121, 137, 123, 497, 498, 499, 500, 501, 502, 503, 504, 505, 506, 534, 535, 536, 537, 538, 539, 540] (by decide +kernel) (by decide +kernel)) (goodIn_sub (fun _ h => List.mem_cons_of_mem _ (List.mem_append_left _ (List.mem_append_right _ h))) (by decide +kernel))) (goodIn_sub (fun _ h => List.mem_cons_of_mem _ (List.mem_append_left _ (List.mem_append_left _ (List.mem_append_right _ h)))) (by decide +kernel))
set_option maxRecDepth 20000 in
theorem gL_refuses_L_meetingOf : GoodIn wsL_refuses (va_wsS RL 120 yL_meetingOf wsL_meetingOf) := goodIn_app (goodIn_of _ (by decide +kernel)) ggL_refuses_L_meetingOf
set_option maxRecDepth 20000 in
theorem ggL_refuses_L_swapOf : GoodIn wsL_refuses wsL_swapOf := goodIn_ca (goodIn_r _ [421, 15, 1, 422, 423, 424, 7, 425, 287, 309, 313, 314, 315, 316, 27, 28, 288, 497, 498, 499, 500, 541, 542, 543, 544, 545, 546, 547] (by decide +kernel) (by decide +kernel)) (goodIn_sub (fun _ h => List.mem_cons_of_mem _ (List.mem_append_left _ (List.mem_append_left _ (List.mem_append_right _ h)))) (by decide +kernel))
set_option maxRecDepth 20000 in
theorem gL_refuses_L_swapOf : GoodIn wsL_refuses (va_wsS RL 122 yL_swapOf wsL_swapOf) := goodIn_app (goodIn_of _ (by decide +kernel)) ggL_refuses_L_swapOf
set_option maxRecDepth 20000 in
theorem ggL_refuses_L_buildOf : GoodIn wsL_refuses wsL_buildOf := goodIn_ca (goodIn_ca (goodIn_r _ [428, 15, 16, 1, 2, 429, 430, 431, 7, 432, 32, 33, 9, 344, 353, 433, 434, 435, 355, 356, 357, 358, 27, 28, 359, 114, 115, 108, 116, 117, 497, 498, 499, 500, 501, 502, 503, 504, 505, 506, 526, 527, 528, 529, 530, 531, 532, 533] (by decide +kernel) (by decide +kernel)) (goodIn_sub (fun _ h => List.mem_cons_of_mem _ (List.mem_append_left _ (List.mem_append_right _ h))) (by decide +kernel))) (goodIn_sub (fun _ h => List.mem_cons_of_mem _ (List.mem_append_left _ (List.mem_append_left _ (List.mem_append_right _ h)))) (by decide +kernel))
set_option maxRecDepth 20000 in
theorem gL_refuses_L_buildOf : GoodIn wsL_refuses (va_wsS RL 124 yL_buildOf wsL_buildOf) := goodIn_app (goodIn_of _ (by decide +kernel)) ggL_refuses_L_buildOf
set_option maxRecDepth 20000 in
theorem ggL_refuses_L_anew : GoodIn wsL_refuses wsL_anew := goodIn_ca (goodIn_r _ [438, 15, 1, 439, 440, 441, 7, 442, 443, 344, 434, 355, 356, 357, 358, 27, 28, 9, 359, 114, 115, 108, 116, 117, 444, 445, 446, 447, 43, 448, 449, 450, 451, 452, 453, 454, 10, 455, 456, 457, 59, 458, 61, 371, 63, 459, 62, 64, 460, 65, 461, 98, 462, 463, 464, 80, 465, 82, 367, 368, 369, 370, 372, 373, 374, 375, 100, 376, 101, 102, 103, 69, 104, 71, 377, 378, 379, 380, 110, 154, 156, 155, 381, 382, 383, 384, 240, 241, 242, 243, 74, 75, 244, 175, 176, 385, 386, 387, 388, 389, 390, 391, 392, 86, 393, 88, 89, 91, 92, 90, 394, 226, 227, 228, 229, 230, 231, 121, 232, 123, 127, 128, 125, 126, 395, 396, 397, 398, 111, 112, 157, 113, 399, 400, 401, 402, 237, 238, 403, 239, 404, 405, 406, 407, 56, 57, 58, 60, 66, 67, 68, 70, 72, 73, 76, 77, 78, 79, 81, 83, 84, 85, 87, 93, 94, 95, 96, 97, 99, 105, 106, 107, 109, 118, 119, 120, 122, 124, 129, 130, 131, 132, 133, 134, 135, 136, 137, 138, 139, 140, 141, 142, 143, 144, 145, 146, 147, 148, 149, 150, 151, 152, 153, 158, 159, 160, 161, 162, 497, 498, 499, 500, 501, 502, 503, 504, 505, 506, 526, 527, 528, 529, 530, 531, 532, 533, 513, 514, 515, 516, 517, 518, 519, 507, 508, 509, 510, 511, 512, 521, 522, 523, 524, 525, 534, 535, 536, 537, 538, 539, 540, 520] (by decide +kernel) (by decide +kernel)) (goodIn_sub (fun _ h => List.mem_cons_of_mem _ (List.mem_append_left _ (List.mem_append_left _ (List.mem_append_right _ h)))) (by decide +kernel))
set_option maxRecDepth 20000 in
theorem gL_refuses_L_anew : GoodIn wsL_refuses (va_wsS RL 126 yL_anew wsL_anew) := goodIn_app (goodIn_of _ (by decide +kernel)) ggL_refuses_L_anew
set_option maxRecDepth 20000 in
theorem ggL_refuses_L_has : GoodIn wsL_refuses wsL_has := goodIn_ca (goodIn_ca (goodIn_r _ [468, 15, 16, 1, 2, 469, 470, 471, 7, 472, 9, 189, 190, 191, 192, 27, 28, 22, 193, 102, 103, 69, 104, 71, 29, 30, 31, 32, 33, 473, 386, 387, 59, 388, 63, 61, 389, 390, 391, 392, 86, 393, 88, 89, 91, 92, 90, 101, 497, 498, 499, 500, 501, 502, 503, 504, 505, 506, 507, 508, 509, 510, 511, 512, 521, 522, 523, 524, 525] (by decide +kernel) (by decide +kernel)) (goodIn_sub (fun _ h => List.mem_cons_of_mem _ (List.mem_append_left _ (List.mem_append_left _ (List.mem_append_right _ h)))) (by decide +kernel))) (goodIn_sub (fun _ h => List.mem_cons_of_mem _ (List.mem_append_left _ (List.mem_append_right _ h))) (by decide +kernel))
set_option maxRecDepth 20000 in
theorem gL_refuses_L_has : GoodIn wsL_refuses (va_wsS RL 129 yL_has wsL_has) := goodIn_app (goodIn_of _ (by decide +kernel)) ggL_refuses_L_has
set_option maxRecDepth 20000 in
theorem ggL_refuses_L_isFree : GoodIn wsL_refuses wsL_isFree := goodIn_ca (goodIn_ca (goodIn_r _ [476, 15, 16, 1, 2, 477, 478, 479, 7, 480, 9, 170, 481, 24, 25, 26, 27, 28, 29, 30, 31, 32, 33, 171, 172, 173, 121, 174, 123, 128, 125, 126, 124, 175, 176, 482, 222, 223, 80, 224, 225, 226, 227, 228, 82, 177, 178, 179, 497, 498, 499, 500, 501, 502, 503, 504, 505, 506, 534, 535, 536, 537, 538, 539, 540, 520] (by decide +kernel) (by decide +kernel)) (goodIn_sub (fun _ h => List.mem_cons_of_mem _ (List.mem_append_left _ (List.mem_append_left _ (List.mem_append_right _ h)))) (by decide +kernel))) (goodIn_sub (fun _ h => List.mem_cons_of_mem _ (List.mem_append_left _ (List.mem_append_right _ h))) (by decide +kernel))
set_option maxRecDepth 20000 in
theorem gL_refuses_L_isFree : GoodIn wsL_refuses (va_wsS RL 131 yL_isFree wsL_isFree) := goodIn_app (goodIn_of _ (by decide +kernel)) ggL_refuses_L_isFree
set_option maxRecDepth 20000 in
theorem ggL_refuses_L_diary : GoodIn wsL_refuses wsL_diary := goodIn_ca (goodIn_ca (goodIn_r _ [485, 15, 16, 1, 2, 486, 487, 488, 7, 489, 27, 28, 9, 490, 491, 189, 190, 191, 192, 22, 193, 102, 103, 69, 104, 71, 29, 30, 31, 32, 33, 492, 493, 494, 59, 495, 64, 61, 496, 229, 230, 231, 121, 232, 123, 127, 128, 125, 126, 175, 176, 233, 234, 235, 236, 100, 65, 237, 238, 101, 239, 114, 115, 108, 116, 117, 240, 241, 242, 243, 74, 75, 244, 497, 498, 499, 500, 501, 502, 503, 504, 505, 506, 507, 508, 509, 510, 511, 512, 534, 535, 536, 537, 538, 539, 540, 526, 527, 528, 529, 530, 531, 532, 533] (by decide +kernel) (by decide +kernel)) (goodIn_sub (fun _ h => List.mem_cons_of_mem _ (List.mem_append_left _ (List.mem_append_left _ (List.mem_append_right _ h)))) (by decide +kernel))) (goodIn_sub (fun _ h => List.mem_cons_of_mem _ (List.mem_append_left _ (List.mem_append_right _ h))) (by decide +kernel))
set_option maxRecDepth 20000 in
theorem gL_refuses_L_diary : GoodIn wsL_refuses (va_wsS RL 133 yL_diary wsL_diary) := goodIn_app (goodIn_of _ (by decide +kernel)) ggL_refuses_L_diary
theorem dL_refuses_0 : decode cL_refuses 0 = .ok (.iload_n 2, 1) := by decide +kernel
theorem dL_refuses_1 : decode cL_refuses 1 = .ok (.iconst 2, 1) := by decide +kernel
theorem dL_refuses_2 : decode cL_refuses 2 = .ok (.irem, 1) := by decide +kernel
theorem dL_refuses_3 : decode cL_refuses 3 = .ok (.ifCond .ne 7, 3) := by decide +kernel
theorem dL_refuses_6 : decode cL_refuses 6 = .ok (.iconst 1, 1) := by decide +kernel
theorem dL_refuses_7 : decode cL_refuses 7 = .ok (.goto 4, 3) := by decide +kernel
theorem dL_refuses_10 : decode cL_refuses 10 = .ok (.iconst 0, 1) := by decide +kernel
theorem dL_refuses_11 : decode cL_refuses 11 = .ok (.istore_n 3, 1) := by decide +kernel
theorem dL_refuses_12 : decode cL_refuses 12 = .ok (.iload_n 3, 1) := by decide +kernel
theorem dL_refuses_13 : decode cL_refuses 13 = .ok (.ifCond .eq 9, 3) := by decide +kernel
theorem dL_refuses_16 : decode cL_refuses 16 = .ok (.iconst (-1), 1) := by decide +kernel
theorem dL_refuses_17 : decode cL_refuses 17 = .ok (.iload_n 2, 1) := by decide +kernel
theorem dL_refuses_18 : decode cL_refuses 18 = .ok (.isub, 1) := by decide +kernel
theorem dL_refuses_19 : decode cL_refuses 19 = .ok (.goto 7, 3) := by decide +kernel
theorem dL_refuses_22 : decode cL_refuses 22 = .ok (.bipush 10, 2) := by decide +kernel
theorem dL_refuses_24 : decode cL_refuses 24 = .ok (.iload_n 2, 1) := by decide +kernel
theorem dL_refuses_25 : decode cL_refuses 25 = .ok (.iadd, 1) := by decide +kernel
theorem dL_refuses_26 : decode cL_refuses 26 = .ok (.istore 4, 2) := by decide +kernel
theorem dL_refuses_28 : decode cL_refuses 28 = .ok (.iload_n 3, 1) := by decide +kernel
theorem dL_refuses_29 : decode cL_refuses 29 = .ok (.ifCond .eq 9, 3) := by decide +kernel
theorem dL_refuses_32 : decode cL_refuses 32 = .ok (.iconst (-1), 1) := by decide +kernel
theorem dL_refuses_33 : decode cL_refuses 33 = .ok (.iload_n 2, 1) := by decide +kernel
theorem dL_refuses_34 : decode cL_refuses 34 = .ok (.isub, 1) := by decide +kernel
theorem dL_refuses_35 : decode cL_refuses 35 = .ok (.goto 8, 3) := by decide +kernel
theorem dL_refuses_38 : decode cL_refuses 38 = .ok (.aload_n 1, 1) := by decide +kernel
theorem dL_refuses_39 : decode cL_refuses 39 = .ok (.iconst 0, 1) := by decide +kernel
theorem dL_refuses_40 : decode cL_refuses 40 = .ok (.iaload, 1) := by decide +kernel
theorem dL_refuses_41 : decode cL_refuses 41 = .ok (.iload_n 2, 1) := by decide +kernel
theorem dL_refuses_42 : decode cL_refuses 42 = .ok (.iadd, 1) := by decide +kernel
theorem dL_refuses_43 : decode cL_refuses 43 = .ok (.istore 5, 2) := by decide +kernel
theorem dL_refuses_45 : decode cL_refuses 45 = .ok (.iload_n 3, 1) := by decide +kernel
theorem dL_refuses_46 : decode cL_refuses 46 = .ok (.ifCond .eq 9, 3) := by decide +kernel
theorem dL_refuses_49 : decode cL_refuses 49 = .ok (.iconst (-1), 1) := by decide +kernel
theorem dL_refuses_50 : decode cL_refuses 50 = .ok (.iload_n 2, 1) := by decide +kernel
theorem dL_refuses_51 : decode cL_refuses 51 = .ok (.isub, 1) := by decide +kernel
theorem dL_refuses_52 : decode cL_refuses 52 = .ok (.goto 8, 3) := by decide +kernel
theorem dL_refuses_55 : decode cL_refuses 55 = .ok (.aload_n 1, 1) := by decide +kernel
theorem dL_refuses_56 : decode cL_refuses 56 = .ok (.iconst 1, 1) := by decide +kernel
theorem dL_refuses_57 : decode cL_refuses 57 = .ok (.iaload, 1) := by decide +kernel
theorem dL_refuses_58 : decode cL_refuses 58 = .ok (.iload_n 2, 1) := by decide +kernel
theorem dL_refuses_59 : decode cL_refuses 59 = .ok (.iadd, 1) := by decide +kernel
theorem dL_refuses_60 : decode cL_refuses 60 = .ok (.istore 6, 2) := by decide +kernel
theorem dL_refuses_62 : decode cL_refuses 62 = .ok (.iload_n 3, 1) := by decide +kernel
theorem dL_refuses_63 : decode cL_refuses 63 = .ok (.ifCond .eq 9, 3) := by decide +kernel
theorem dL_refuses_66 : decode cL_refuses 66 = .ok (.iconst (-1), 1) := by decide +kernel
theorem dL_refuses_67 : decode cL_refuses 67 = .ok (.iload_n 2, 1) := by decide +kernel
theorem dL_refuses_68 : decode cL_refuses 68 = .ok (.isub, 1) := by decide +kernel
theorem dL_refuses_69 : decode cL_refuses 69 = .ok (.goto 8, 3) := by decide +kernel
theorem dL_refuses_72 : decode cL_refuses 72 = .ok (.aload_n 1, 1) := by decide +kernel
theorem dL_refuses_73 : decode cL_refuses 73 = .ok (.iconst 2, 1) := by decide +kernel
theorem dL_refuses_74 : decode cL_refuses 74 = .ok (.iaload, 1) := by decide +kernel
theorem dL_refuses_75 : decode cL_refuses 75 = .ok (.iload_n 2, 1) := by decide +kernel
theorem dL_refuses_76 : decode cL_refuses 76 = .ok (.iadd, 1) := by decide +kernel
theorem dL_refuses_77 : decode cL_refuses 77 = .ok (.istore 7, 2) := by decide +kernel
theorem dL_refuses_79 : decode cL_refuses 79 = .ok (.iload_n 3, 1) := by decide +kernel
theorem dL_refuses_80 : decode cL_refuses 80 = .ok (.ifCond .eq 9, 3) := by decide +kernel
theorem dL_refuses_83 : decode cL_refuses 83 = .ok (.iconst (-1), 1) := by decide +kernel
theorem dL_refuses_84 : decode cL_refuses 84 = .ok (.iload_n 2, 1) := by decide +kernel
theorem dL_refuses_85 : decode cL_refuses 85 = .ok (.isub, 1) := by decide +kernel
theorem dL_refuses_86 : decode cL_refuses 86 = .ok (.goto 8, 3) := by decide +kernel
theorem dL_refuses_89 : decode cL_refuses 89 = .ok (.aload_n 1, 1) := by decide +kernel
theorem dL_refuses_90 : decode cL_refuses 90 = .ok (.iconst 3, 1) := by decide +kernel
theorem dL_refuses_91 : decode cL_refuses 91 = .ok (.iaload, 1) := by decide +kernel
theorem dL_refuses_92 : decode cL_refuses 92 = .ok (.iload_n 2, 1) := by decide +kernel
theorem dL_refuses_93 : decode cL_refuses 93 = .ok (.iadd, 1) := by decide +kernel
theorem dL_refuses_94 : decode cL_refuses 94 = .ok (.istore 8, 2) := by decide +kernel
theorem dL_refuses_96 : decode cL_refuses 96 = .ok (.iload_n 3, 1) := by decide +kernel
theorem dL_refuses_97 : decode cL_refuses 97 = .ok (.ifCond .eq 9, 3) := by decide +kernel
theorem dL_refuses_100 : decode cL_refuses 100 = .ok (.iconst (-1), 1) := by decide +kernel
theorem dL_refuses_101 : decode cL_refuses 101 = .ok (.iload_n 2, 1) := by decide +kernel
theorem dL_refuses_102 : decode cL_refuses 102 = .ok (.isub, 1) := by decide +kernel
theorem dL_refuses_103 : decode cL_refuses 103 = .ok (.goto 8, 3) := by decide +kernel
theorem dL_refuses_106 : decode cL_refuses 106 = .ok (.sipush 400, 3) := by decide +kernel
theorem dL_refuses_109 : decode cL_refuses 109 = .ok (.iload_n 2, 1) := by decide +kernel
theorem dL_refuses_110 : decode cL_refuses 110 = .ok (.iadd, 1) := by decide +kernel
theorem dL_refuses_111 : decode cL_refuses 111 = .ok (.istore 9, 2) := by decide +kernel
theorem dL_refuses_113 : decode cL_refuses 113 = .ok (.aload_n 0, 1) := by decide +kernel
theorem dL_refuses_114 : decode cL_refuses 114 = .ok (.invokevirtual 86, 3) := by decide +kernel
theorem dL_refuses_117 : decode cL_refuses 117 = .ok (.bipush 8, 2) := by decide +kernel
theorem dL_refuses_119 : decode cL_refuses 119 = .ok (.idiv, 1) := by decide +kernel
theorem dL_refuses_120 : decode cL_refuses 120 = .ok (.istore 10, 2) := by decide +kernel
theorem dL_refuses_122 : decode cL_refuses 122 = .ok (.aload_n 0, 1) := by decide +kernel
theorem dL_refuses_123 : decode cL_refuses 123 = .ok (.iconst 0, 1) := by decide +kernel
theorem dL_refuses_124 : decode cL_refuses 124 = .ok (.iload 4, 2) := by decide +kernel
theorem dL_refuses_126 : decode cL_refuses 126 = .ok (.invokestatic 90, 3) := by decide +kernel
theorem dL_refuses_129 : decode cL_refuses 129 = .ok (.ldc 15, 2) := by decide +kernel
theorem dL_refuses_131 : decode cL_refuses 131 = .ok (.if_icmp .ne 547, 3) := by decide +kernel
theorem dL_refuses_134 : decode cL_refuses 134 = .ok (.aload_n 0, 1) := by decide +kernel
theorem dL_refuses_135 : decode cL_refuses 135 = .ok (.iload_n 3, 1) := by decide +kernel
theorem dL_refuses_136 : decode cL_refuses 136 = .ok (.ifCond .eq 9, 3) := by decide +kernel
theorem dL_refuses_139 : decode cL_refuses 139 = .ok (.iconst (-1), 1) := by decide +kernel
theorem dL_refuses_140 : decode cL_refuses 140 = .ok (.iload_n 2, 1) := by decide +kernel
theorem dL_refuses_141 : decode cL_refuses 141 = .ok (.isub, 1) := by decide +kernel
theorem dL_refuses_142 : decode cL_refuses 142 = .ok (.goto 7, 3) := by decide +kernel
theorem dL_refuses_145 : decode cL_refuses 145 = .ok (.bipush 16, 2) := by decide +kernel
theorem dL_refuses_147 : decode cL_refuses 147 = .ok (.iload_n 2, 1) := by decide +kernel
theorem dL_refuses_148 : decode cL_refuses 148 = .ok (.iadd, 1) := by decide +kernel
theorem dL_refuses_149 : decode cL_refuses 149 = .ok (.iload_n 2, 1) := by decide +kernel
theorem dL_refuses_150 : decode cL_refuses 150 = .ok (.bipush 10, 2) := by decide +kernel
theorem dL_refuses_152 : decode cL_refuses 152 = .ok (.irem, 1) := by decide +kernel
theorem dL_refuses_153 : decode cL_refuses 153 = .ok (.invokestatic 90, 3) := by decide +kernel
theorem dL_refuses_156 : decode cL_refuses 156 = .ok (.ldc 18, 2) := by decide +kernel
theorem dL_refuses_158 : decode cL_refuses 158 = .ok (.if_icmp .ne 520, 3) := by decide +kernel
theorem dL_refuses_161 : decode cL_refuses 161 = .ok (.aload_n 0, 1) := by decide +kernel
theorem dL_refuses_162 : decode cL_refuses 162 = .ok (.iload 4, 2) := by decide +kernel
theorem dL_refuses_164 : decode cL_refuses 164 = .ok (.iload 10, 2) := by decide +kernel
theorem dL_refuses_166 : decode cL_refuses 166 = .ok (.iload 10, 2) := by decide +kernel
theorem dL_refuses_168 : decode cL_refuses 168 = .ok (.invokestatic 95, 3) := by decide +kernel
theorem dL_refuses_171 : decode cL_refuses 171 = .ok (.ldc 15, 2) := by decide +kernel
theorem dL_refuses_173 : decode cL_refuses 173 = .ok (.if_icmp .ne 505, 3) := by decide +kernel
theorem dL_refuses_176 : decode cL_refuses 176 = .ok (.aload_n 0, 1) := by decide +kernel
theorem dL_refuses_177 : decode cL_refuses 177 = .ok (.iload_n 2, 1) := by decide +kernel
theorem dL_refuses_178 : decode cL_refuses 178 = .ok (.bipush 10, 2) := by decide +kernel
theorem dL_refuses_180 : decode cL_refuses 180 = .ok (.irem, 1) := by decide +kernel
theorem dL_refuses_181 : decode cL_refuses 181 = .ok (.iload_n 3, 1) := by decide +kernel
theorem dL_refuses_182 : decode cL_refuses 182 = .ok (.ifCond .eq 12, 3) := by decide +kernel
theorem dL_refuses_185 : decode cL_refuses 185 = .ok (.iload 10, 2) := by decide +kernel
theorem dL_refuses_187 : decode cL_refuses 187 = .ok (.iconst 1, 1) := by decide +kernel
theorem dL_refuses_188 : decode cL_refuses 188 = .ok (.isub, 1) := by decide +kernel
theorem dL_refuses_189 : decode cL_refuses 189 = .ok (.iload_n 2, 1) := by decide +kernel
theorem dL_refuses_190 : decode cL_refuses 190 = .ok (.isub, 1) := by decide +kernel
theorem dL_refuses_191 : decode cL_refuses 191 = .ok (.goto 7, 3) := by decide +kernel
theorem dL_refuses_194 : decode cL_refuses 194 = .ok (.bipush 50, 2) := by decide +kernel
theorem dL_refuses_196 : decode cL_refuses 196 = .ok (.iload_n 2, 1) := by decide +kernel
theorem dL_refuses_197 : decode cL_refuses 197 = .ok (.iadd, 1) := by decide +kernel
theorem dL_refuses_198 : decode cL_refuses 198 = .ok (.bipush 49, 2) := by decide +kernel
theorem dL_refuses_200 : decode cL_refuses 200 = .ok (.invokestatic 95, 3) := by decide +kernel
theorem dL_refuses_203 : decode cL_refuses 203 = .ok (.ldc 18, 2) := by decide +kernel
theorem dL_refuses_205 : decode cL_refuses 205 = .ok (.if_icmp .ne 473, 3) := by decide +kernel
theorem dL_refuses_208 : decode cL_refuses 208 = .ok (.aload_n 0, 1) := by decide +kernel
theorem dL_refuses_209 : decode cL_refuses 209 = .ok (.iload_n 2, 1) := by decide +kernel
theorem dL_refuses_210 : decode cL_refuses 210 = .ok (.bipush 10, 2) := by decide +kernel
theorem dL_refuses_212 : decode cL_refuses 212 = .ok (.irem, 1) := by decide +kernel
theorem dL_refuses_213 : decode cL_refuses 213 = .ok (.iload 10, 2) := by decide +kernel
theorem dL_refuses_215 : decode cL_refuses 215 = .ok (.iload_n 3, 1) := by decide +kernel
theorem dL_refuses_216 : decode cL_refuses 216 = .ok (.ifCond .eq 12, 3) := by decide +kernel
theorem dL_refuses_219 : decode cL_refuses 219 = .ok (.iload 10, 2) := by decide +kernel
theorem dL_refuses_221 : decode cL_refuses 221 = .ok (.iconst 1, 1) := by decide +kernel
theorem dL_refuses_222 : decode cL_refuses 222 = .ok (.isub, 1) := by decide +kernel
theorem dL_refuses_223 : decode cL_refuses 223 = .ok (.iload_n 2, 1) := by decide +kernel
theorem dL_refuses_224 : decode cL_refuses 224 = .ok (.isub, 1) := by decide +kernel
theorem dL_refuses_225 : decode cL_refuses 225 = .ok (.goto 7, 3) := by decide +kernel
theorem dL_refuses_228 : decode cL_refuses 228 = .ok (.bipush 50, 2) := by decide +kernel
theorem dL_refuses_230 : decode cL_refuses 230 = .ok (.iload_n 2, 1) := by decide +kernel
theorem dL_refuses_231 : decode cL_refuses 231 = .ok (.iadd, 1) := by decide +kernel
theorem dL_refuses_232 : decode cL_refuses 232 = .ok (.invokestatic 95, 3) := by decide +kernel
theorem dL_refuses_235 : decode cL_refuses 235 = .ok (.ldc 18, 2) := by decide +kernel
theorem dL_refuses_237 : decode cL_refuses 237 = .ok (.if_icmp .ne 441, 3) := by decide +kernel
theorem dL_refuses_240 : decode cL_refuses 240 = .ok (.aload_n 0, 1) := by decide +kernel
theorem dL_refuses_241 : decode cL_refuses 241 = .ok (.iload 5, 2) := by decide +kernel
theorem dL_refuses_243 : decode cL_refuses 243 = .ok (.iconst 0, 1) := by decide +kernel
theorem dL_refuses_244 : decode cL_refuses 244 = .ok (.aload_n 0, 1) := by decide +kernel
theorem dL_refuses_245 : decode cL_refuses 245 = .ok (.invokevirtual 86, 3) := by decide +kernel
theorem dL_refuses_248 : decode cL_refuses 248 = .ok (.sipush 399, 3) := by decide +kernel
theorem dL_refuses_251 : decode cL_refuses 251 = .ok (.invokestatic 98, 3) := by decide +kernel
theorem dL_refuses_254 : decode cL_refuses 254 = .ok (.ldc 15, 2) := by decide +kernel
theorem dL_refuses_256 : decode cL_refuses 256 = .ok (.if_icmp .ne 422, 3) := by decide +kernel
theorem dL_refuses_259 : decode cL_refuses 259 = .ok (.aload_n 0, 1) := by decide +kernel
theorem dL_refuses_260 : decode cL_refuses 260 = .ok (.iload 5, 2) := by decide +kernel
theorem dL_refuses_262 : decode cL_refuses 262 = .ok (.iconst 1, 1) := by decide +kernel
theorem dL_refuses_263 : decode cL_refuses 263 = .ok (.invokestatic 101, 3) := by decide +kernel
theorem dL_refuses_266 : decode cL_refuses 266 = .ok (.ldc 15, 2) := by decide +kernel
theorem dL_refuses_268 : decode cL_refuses 268 = .ok (.if_icmp .ne 410, 3) := by decide +kernel
theorem dL_refuses_271 : decode cL_refuses 271 = .ok (.aload_n 0, 1) := by decide +kernel
theorem dL_refuses_272 : decode cL_refuses 272 = .ok (.iconst 1, 1) := by decide +kernel
theorem dL_refuses_273 : decode cL_refuses 273 = .ok (.aload_n 0, 1) := by decide +kernel
theorem dL_refuses_274 : decode cL_refuses 274 = .ok (.invokevirtual 86, 3) := by decide +kernel
theorem dL_refuses_277 : decode cL_refuses 277 = .ok (.iconst 1, 1) := by decide +kernel
theorem dL_refuses_278 : decode cL_refuses 278 = .ok (.iload_n 3, 1) := by decide +kernel
theorem dL_refuses_279 : decode cL_refuses 279 = .ok (.ifCond .eq 10, 3) := by decide +kernel
theorem dL_refuses_282 : decode cL_refuses 282 = .ok (.bipush (-2), 2) := by decide +kernel
theorem dL_refuses_284 : decode cL_refuses 284 = .ok (.iload_n 2, 1) := by decide +kernel
theorem dL_refuses_285 : decode cL_refuses 285 = .ok (.isub, 1) := by decide +kernel
theorem dL_refuses_286 : decode cL_refuses 286 = .ok (.goto 8, 3) := by decide +kernel
theorem dL_refuses_289 : decode cL_refuses 289 = .ok (.aload_n 1, 1) := by decide +kernel
theorem dL_refuses_290 : decode cL_refuses 290 = .ok (.iconst 0, 1) := by decide +kernel
theorem dL_refuses_291 : decode cL_refuses 291 = .ok (.iaload, 1) := by decide +kernel
theorem dL_refuses_292 : decode cL_refuses 292 = .ok (.iload_n 2, 1) := by decide +kernel
theorem dL_refuses_293 : decode cL_refuses 293 = .ok (.iadd, 1) := by decide +kernel
theorem dL_refuses_294 : decode cL_refuses 294 = .ok (.invokestatic 103, 3) := by decide +kernel
theorem dL_refuses_297 : decode cL_refuses 297 = .ok (.ldc 15, 2) := by decide +kernel
theorem dL_refuses_299 : decode cL_refuses 299 = .ok (.if_icmp .ne 379, 3) := by decide +kernel
theorem dL_refuses_302 : decode cL_refuses 302 = .ok (.aload_n 0, 1) := by decide +kernel
theorem dL_refuses_303 : decode cL_refuses 303 = .ok (.iload_n 3, 1) := by decide +kernel
theorem dL_refuses_304 : decode cL_refuses 304 = .ok (.ifCond .eq 8, 3) := by decide +kernel
theorem dL_refuses_307 : decode cL_refuses 307 = .ok (.iload_n 2, 1) := by decide +kernel
theorem dL_refuses_308 : decode cL_refuses 308 = .ok (.ineg, 1) := by decide +kernel
theorem dL_refuses_309 : decode cL_refuses 309 = .ok (.goto 8, 3) := by decide +kernel
theorem dL_refuses_312 : decode cL_refuses 312 = .ok (.sipush 1024, 3) := by decide +kernel
theorem dL_refuses_315 : decode cL_refuses 315 = .ok (.iload_n 2, 1) := by decide +kernel
theorem dL_refuses_316 : decode cL_refuses 316 = .ok (.iadd, 1) := by decide +kernel
theorem dL_refuses_317 : decode cL_refuses 317 = .ok (.aload_n 0, 1) := by decide +kernel
theorem dL_refuses_318 : decode cL_refuses 318 = .ok (.invokevirtual 86, 3) := by decide +kernel
theorem dL_refuses_321 : decode cL_refuses 321 = .ok (.iconst 1, 1) := by decide +kernel
theorem dL_refuses_322 : decode cL_refuses 322 = .ok (.iconst (-1), 1) := by decide +kernel
theorem dL_refuses_323 : decode cL_refuses 323 = .ok (.invokestatic 103, 3) := by decide +kernel
theorem dL_refuses_326 : decode cL_refuses 326 = .ok (.ldc 18, 2) := by decide +kernel
theorem dL_refuses_328 : decode cL_refuses 328 = .ok (.if_icmp .ne 350, 3) := by decide +kernel
theorem dL_refuses_331 : decode cL_refuses 331 = .ok (.aload_n 0, 1) := by decide +kernel
theorem dL_refuses_332 : decode cL_refuses 332 = .ok (.iconst 1, 1) := by decide +kernel
theorem dL_refuses_333 : decode cL_refuses 333 = .ok (.iload_n 3, 1) := by decide +kernel
theorem dL_refuses_334 : decode cL_refuses 334 = .ok (.ifCond .eq 14, 3) := by decide +kernel
theorem dL_refuses_337 : decode cL_refuses 337 = .ok (.aload_n 0, 1) := by decide +kernel
theorem dL_refuses_338 : decode cL_refuses 338 = .ok (.invokevirtual 86, 3) := by decide +kernel
theorem dL_refuses_341 : decode cL_refuses 341 = .ok (.iconst 1, 1) := by decide +kernel
theorem dL_refuses_342 : decode cL_refuses 342 = .ok (.isub, 1) := by decide +kernel
theorem dL_refuses_343 : decode cL_refuses 343 = .ok (.iload_n 2, 1) := by decide +kernel
theorem dL_refuses_344 : decode cL_refuses 344 = .ok (.isub, 1) := by decide +kernel
theorem dL_refuses_345 : decode cL_refuses 345 = .ok (.goto 8, 3) := by decide +kernel
theorem dL_refuses_348 : decode cL_refuses 348 = .ok (.sipush 400, 3) := by decide +kernel
theorem dL_refuses_351 : decode cL_refuses 351 = .ok (.iload_n 2, 1) := by decide +kernel
theorem dL_refuses_352 : decode cL_refuses 352 = .ok (.iadd, 1) := by decide +kernel
theorem dL_refuses_353 : decode cL_refuses 353 = .ok (.iconst 1, 1) := by decide +kernel
theorem dL_refuses_354 : decode cL_refuses 354 = .ok (.iconst (-1), 1) := by decide +kernel
theorem dL_refuses_355 : decode cL_refuses 355 = .ok (.invokestatic 103, 3) := by decide +kernel
theorem dL_refuses_358 : decode cL_refuses 358 = .ok (.ldc 18, 2) := by decide +kernel
theorem dL_refuses_360 : decode cL_refuses 360 = .ok (.if_icmp .ne 318, 3) := by decide +kernel
theorem dL_refuses_363 : decode cL_refuses 363 = .ok (.aload_n 0, 1) := by decide +kernel
theorem dL_refuses_364 : decode cL_refuses 364 = .ok (.iconst 1, 1) := by decide +kernel
theorem dL_refuses_365 : decode cL_refuses 365 = .ok (.sipush 399, 3) := by decide +kernel
theorem dL_refuses_368 : decode cL_refuses 368 = .ok (.iload_n 3, 1) := by decide +kernel
theorem dL_refuses_369 : decode cL_refuses 369 = .ok (.ifCond .eq 8, 3) := by decide +kernel
theorem dL_refuses_372 : decode cL_refuses 372 = .ok (.iload_n 2, 1) := by decide +kernel
theorem dL_refuses_373 : decode cL_refuses 373 = .ok (.ineg, 1) := by decide +kernel
theorem dL_refuses_374 : decode cL_refuses 374 = .ok (.goto 6, 3) := by decide +kernel
theorem dL_refuses_377 : decode cL_refuses 377 = .ok (.iconst 5, 1) := by decide +kernel
theorem dL_refuses_378 : decode cL_refuses 378 = .ok (.iload_n 2, 1) := by decide +kernel
theorem dL_refuses_379 : decode cL_refuses 379 = .ok (.iadd, 1) := by decide +kernel
theorem dL_refuses_380 : decode cL_refuses 380 = .ok (.iconst (-1), 1) := by decide +kernel
theorem dL_refuses_381 : decode cL_refuses 381 = .ok (.invokestatic 103, 3) := by decide +kernel
theorem dL_refuses_384 : decode cL_refuses 384 = .ok (.ldc 18, 2) := by decide +kernel
theorem dL_refuses_386 : decode cL_refuses 386 = .ok (.if_icmp .ne 292, 3) := by decide +kernel
theorem dL_refuses_389 : decode cL_refuses 389 = .ok (.aload_n 0, 1) := by decide +kernel
theorem dL_refuses_390 : decode cL_refuses 390 = .ok (.iconst 1, 1) := by decide +kernel
theorem dL_refuses_391 : decode cL_refuses 391 = .ok (.sipush 399, 3) := by decide +kernel
theorem dL_refuses_394 : decode cL_refuses 394 = .ok (.iconst 2, 1) := by decide +kernel
theorem dL_refuses_395 : decode cL_refuses 395 = .ok (.iconst (-1), 1) := by decide +kernel
theorem dL_refuses_396 : decode cL_refuses 396 = .ok (.invokestatic 103, 3) := by decide +kernel
theorem dL_refuses_399 : decode cL_refuses 399 = .ok (.ldc 18, 2) := by decide +kernel
theorem dL_refuses_401 : decode cL_refuses 401 = .ok (.if_icmp .ne 277, 3) := by decide +kernel
theorem dL_refuses_404 : decode cL_refuses 404 = .ok (.aload_n 0, 1) := by decide +kernel
theorem dL_refuses_405 : decode cL_refuses 405 = .ok (.iload 6, 2) := by decide +kernel
theorem dL_refuses_407 : decode cL_refuses 407 = .ok (.sipush 399, 3) := by decide +kernel
theorem dL_refuses_410 : decode cL_refuses 410 = .ok (.invokestatic 105, 3) := by decide +kernel
theorem dL_refuses_413 : decode cL_refuses 413 = .ok (.ldc 15, 2) := by decide +kernel
theorem dL_refuses_415 : decode cL_refuses 415 = .ok (.if_icmp .ne 263, 3) := by decide +kernel
theorem dL_refuses_418 : decode cL_refuses 418 = .ok (.aload_n 0, 1) := by decide +kernel
theorem dL_refuses_419 : decode cL_refuses 419 = .ok (.iload 6, 2) := by decide +kernel
theorem dL_refuses_421 : decode cL_refuses 421 = .ok (.invokestatic 107, 3) := by decide +kernel
theorem dL_refuses_424 : decode cL_refuses 424 = .ok (.ldc 15, 2) := by decide +kernel
theorem dL_refuses_426 : decode cL_refuses 426 = .ok (.if_icmp .ne 252, 3) := by decide +kernel
theorem dL_refuses_429 : decode cL_refuses 429 = .ok (.aload_n 0, 1) := by decide +kernel
theorem dL_refuses_430 : decode cL_refuses 430 = .ok (.iload 6, 2) := by decide +kernel
theorem dL_refuses_432 : decode cL_refuses 432 = .ok (.iconst 0, 1) := by decide +kernel
theorem dL_refuses_433 : decode cL_refuses 433 = .ok (.invokestatic 110, 3) := by decide +kernel
theorem dL_refuses_436 : decode cL_refuses 436 = .ok (.ldc 15, 2) := by decide +kernel
theorem dL_refuses_438 : decode cL_refuses 438 = .ok (.if_icmp .ne 240, 3) := by decide +kernel
theorem dL_refuses_441 : decode cL_refuses 441 = .ok (.aload_n 0, 1) := by decide +kernel
theorem dL_refuses_442 : decode cL_refuses 442 = .ok (.iload 4, 2) := by decide +kernel
theorem dL_refuses_444 : decode cL_refuses 444 = .ok (.iconst 0, 1) := by decide +kernel
theorem dL_refuses_445 : decode cL_refuses 445 = .ok (.invokestatic 112, 3) := by decide +kernel
theorem dL_refuses_448 : decode cL_refuses 448 = .ok (.ldc 15, 2) := by decide +kernel
theorem dL_refuses_450 : decode cL_refuses 450 = .ok (.if_icmp .ne 228, 3) := by decide +kernel
theorem dL_refuses_453 : decode cL_refuses 453 = .ok (.aload_n 0, 1) := by decide +kernel
theorem dL_refuses_454 : decode cL_refuses 454 = .ok (.iload_n 2, 1) := by decide +kernel
theorem dL_refuses_455 : decode cL_refuses 455 = .ok (.bipush 10, 2) := by decide +kernel
theorem dL_refuses_457 : decode cL_refuses 457 = .ok (.irem, 1) := by decide +kernel
theorem dL_refuses_458 : decode cL_refuses 458 = .ok (.iload 8, 2) := by decide +kernel
theorem dL_refuses_460 : decode cL_refuses 460 = .ok (.invokestatic 112, 3) := by decide +kernel
theorem dL_refuses_463 : decode cL_refuses 463 = .ok (.ldc 15, 2) := by decide +kernel
theorem dL_refuses_465 : decode cL_refuses 465 = .ok (.if_icmp .ne 213, 3) := by decide +kernel
theorem dL_refuses_468 : decode cL_refuses 468 = .ok (.aload_n 0, 1) := by decide +kernel
theorem dL_refuses_469 : decode cL_refuses 469 = .ok (.iload_n 3, 1) := by decide +kernel
theorem dL_refuses_470 : decode cL_refuses 470 = .ok (.ifCond .eq 9, 3) := by decide +kernel
theorem dL_refuses_473 : decode cL_refuses 473 = .ok (.iconst (-1), 1) := by decide +kernel
theorem dL_refuses_474 : decode cL_refuses 474 = .ok (.iload_n 2, 1) := by decide +kernel
theorem dL_refuses_475 : decode cL_refuses 475 = .ok (.isub, 1) := by decide +kernel
theorem dL_refuses_476 : decode cL_refuses 476 = .ok (.goto 7, 3) := by decide +kernel
theorem dL_refuses_479 : decode cL_refuses 479 = .ok (.bipush 16, 2) := by decide +kernel
theorem dL_refuses_481 : decode cL_refuses 481 = .ok (.iload_n 2, 1) := by decide +kernel
theorem dL_refuses_482 : decode cL_refuses 482 = .ok (.iadd, 1) := by decide +kernel
theorem dL_refuses_483 : decode cL_refuses 483 = .ok (.iconst 0, 1) := by decide +kernel
theorem dL_refuses_484 : decode cL_refuses 484 = .ok (.iconst 1, 1) := by decide +kernel
theorem dL_refuses_485 : decode cL_refuses 485 = .ok (.invokestatic 114, 3) := by decide +kernel
theorem dL_refuses_488 : decode cL_refuses 488 = .ok (.ldc 18, 2) := by decide +kernel
theorem dL_refuses_490 : decode cL_refuses 490 = .ok (.if_icmp .ne 188, 3) := by decide +kernel
theorem dL_refuses_493 : decode cL_refuses 493 = .ok (.aload_n 0, 1) := by decide +kernel
theorem dL_refuses_494 : decode cL_refuses 494 = .ok (.iconst 0, 1) := by decide +kernel
theorem dL_refuses_495 : decode cL_refuses 495 = .ok (.iload_n 3, 1) := by decide +kernel
theorem dL_refuses_496 : decode cL_refuses 496 = .ok (.ifCond .eq 9, 3) := by decide +kernel
theorem dL_refuses_499 : decode cL_refuses 499 = .ok (.iconst (-1), 1) := by decide +kernel
theorem dL_refuses_500 : decode cL_refuses 500 = .ok (.iload_n 2, 1) := by decide +kernel
theorem dL_refuses_501 : decode cL_refuses 501 = .ok (.isub, 1) := by decide +kernel
theorem dL_refuses_502 : decode cL_refuses 502 = .ok (.goto 7, 3) := by decide +kernel
theorem dL_refuses_505 : decode cL_refuses 505 = .ok (.bipush 10, 2) := by decide +kernel
theorem dL_refuses_507 : decode cL_refuses 507 = .ok (.iload_n 2, 1) := by decide +kernel
theorem dL_refuses_508 : decode cL_refuses 508 = .ok (.iadd, 1) := by decide +kernel
theorem dL_refuses_509 : decode cL_refuses 509 = .ok (.iconst 1, 1) := by decide +kernel
theorem dL_refuses_510 : decode cL_refuses 510 = .ok (.invokestatic 114, 3) := by decide +kernel
theorem dL_refuses_513 : decode cL_refuses 513 = .ok (.ldc 18, 2) := by decide +kernel
theorem dL_refuses_515 : decode cL_refuses 515 = .ok (.if_icmp .ne 163, 3) := by decide +kernel
theorem dL_refuses_518 : decode cL_refuses 518 = .ok (.aload_n 0, 1) := by decide +kernel
theorem dL_refuses_519 : decode cL_refuses 519 = .ok (.iconst 0, 1) := by decide +kernel
theorem dL_refuses_520 : decode cL_refuses 520 = .ok (.iconst 0, 1) := by decide +kernel
theorem dL_refuses_521 : decode cL_refuses 521 = .ok (.iload_n 3, 1) := by decide +kernel
theorem dL_refuses_522 : decode cL_refuses 522 = .ok (.ifCond .eq 8, 3) := by decide +kernel
theorem dL_refuses_525 : decode cL_refuses 525 = .ok (.iload_n 2, 1) := by decide +kernel
theorem dL_refuses_526 : decode cL_refuses 526 = .ok (.ineg, 1) := by decide +kernel
theorem dL_refuses_527 : decode cL_refuses 527 = .ok (.goto 7, 3) := by decide +kernel
theorem dL_refuses_530 : decode cL_refuses 530 = .ok (.bipush 7, 2) := by decide +kernel
theorem dL_refuses_532 : decode cL_refuses 532 = .ok (.iload_n 2, 1) := by decide +kernel
theorem dL_refuses_533 : decode cL_refuses 533 = .ok (.iadd, 1) := by decide +kernel
theorem dL_refuses_534 : decode cL_refuses 534 = .ok (.invokestatic 114, 3) := by decide +kernel
theorem dL_refuses_537 : decode cL_refuses 537 = .ok (.ldc 18, 2) := by decide +kernel
theorem dL_refuses_539 : decode cL_refuses 539 = .ok (.if_icmp .ne 139, 3) := by decide +kernel
theorem dL_refuses_542 : decode cL_refuses 542 = .ok (.aload_n 0, 1) := by decide +kernel
theorem dL_refuses_543 : decode cL_refuses 543 = .ok (.iload 7, 2) := by decide +kernel
theorem dL_refuses_545 : decode cL_refuses 545 = .ok (.iconst 0, 1) := by decide +kernel
theorem dL_refuses_546 : decode cL_refuses 546 = .ok (.invokestatic 116, 3) := by decide +kernel
theorem dL_refuses_549 : decode cL_refuses 549 = .ok (.ldc 15, 2) := by decide +kernel
theorem dL_refuses_551 : decode cL_refuses 551 = .ok (.if_icmp .ne 127, 3) := by decide +kernel
theorem dL_refuses_554 : decode cL_refuses 554 = .ok (.aload_n 0, 1) := by decide +kernel
theorem dL_refuses_555 : decode cL_refuses 555 = .ok (.iload_n 3, 1) := by decide +kernel
theorem dL_refuses_556 : decode cL_refuses 556 = .ok (.ifCond .eq 8, 3) := by decide +kernel
theorem dL_refuses_559 : decode cL_refuses 559 = .ok (.iload_n 2, 1) := by decide +kernel
theorem dL_refuses_560 : decode cL_refuses 560 = .ok (.ineg, 1) := by decide +kernel
theorem dL_refuses_561 : decode cL_refuses 561 = .ok (.goto 7, 3) := by decide +kernel
theorem dL_refuses_564 : decode cL_refuses 564 = .ok (.bipush 51, 2) := by decide +kernel
theorem dL_refuses_566 : decode cL_refuses 566 = .ok (.iload_n 2, 1) := by decide +kernel
theorem dL_refuses_567 : decode cL_refuses 567 = .ok (.iadd, 1) := by decide +kernel
theorem dL_refuses_568 : decode cL_refuses 568 = .ok (.invokestatic 118, 3) := by decide +kernel
theorem dL_refuses_571 : decode cL_refuses 571 = .ok (.ldc 18, 2) := by decide +kernel
theorem dL_refuses_573 : decode cL_refuses 573 = .ok (.if_icmp .ne 105, 3) := by decide +kernel
theorem dL_refuses_576 : decode cL_refuses 576 = .ok (.aload_n 0, 1) := by decide +kernel
theorem dL_refuses_577 : decode cL_refuses 577 = .ok (.iload 6, 2) := by decide +kernel
theorem dL_refuses_579 : decode cL_refuses 579 = .ok (.iconst 0, 1) := by decide +kernel
theorem dL_refuses_580 : decode cL_refuses 580 = .ok (.invokestatic 120, 3) := by decide +kernel
theorem dL_refuses_583 : decode cL_refuses 583 = .ok (.ldc 15, 2) := by decide +kernel
theorem dL_refuses_585 : decode cL_refuses 585 = .ok (.if_icmp .ne 93, 3) := by decide +kernel
theorem dL_refuses_588 : decode cL_refuses 588 = .ok (.aload_n 0, 1) := by decide +kernel
theorem dL_refuses_589 : decode cL_refuses 589 = .ok (.iload 8, 2) := by decide +kernel
theorem dL_refuses_591 : decode cL_refuses 591 = .ok (.invokestatic 122, 3) := by decide +kernel
theorem dL_refuses_594 : decode cL_refuses 594 = .ok (.ldc 15, 2) := by decide +kernel
theorem dL_refuses_596 : decode cL_refuses 596 = .ok (.if_icmp .ne 82, 3) := by decide +kernel
theorem dL_refuses_599 : decode cL_refuses 599 = .ok (.aload_n 0, 1) := by decide +kernel
theorem dL_refuses_600 : decode cL_refuses 600 = .ok (.iload 7, 2) := by decide +kernel
theorem dL_refuses_602 : decode cL_refuses 602 = .ok (.iconst 0, 1) := by decide +kernel
theorem dL_refuses_603 : decode cL_refuses 603 = .ok (.invokestatic 124, 3) := by decide +kernel
theorem dL_refuses_606 : decode cL_refuses 606 = .ok (.ldc 15, 2) := by decide +kernel
theorem dL_refuses_608 : decode cL_refuses 608 = .ok (.if_icmp .ne 70, 3) := by decide +kernel
theorem dL_refuses_611 : decode cL_refuses 611 = .ok (.aload_n 0, 1) := by decide +kernel
theorem dL_refuses_612 : decode cL_refuses 612 = .ok (.iload 7, 2) := by decide +kernel
theorem dL_refuses_614 : decode cL_refuses 614 = .ok (.invokestatic 126, 3) := by decide +kernel
theorem dL_refuses_617 : decode cL_refuses 617 = .ok (.ldc 15, 2) := by decide +kernel
theorem dL_refuses_619 : decode cL_refuses 619 = .ok (.if_icmp .ne 59, 3) := by decide +kernel
theorem dL_refuses_622 : decode cL_refuses 622 = .ok (.aload_n 0, 1) := by decide +kernel
theorem dL_refuses_623 : decode cL_refuses 623 = .ok (.iload 5, 2) := by decide +kernel
theorem dL_refuses_625 : decode cL_refuses 625 = .ok (.iconst 0, 1) := by decide +kernel
theorem dL_refuses_626 : decode cL_refuses 626 = .ok (.invokestatic 129, 3) := by decide +kernel
theorem dL_refuses_629 : decode cL_refuses 629 = .ok (.ldc 15, 2) := by decide +kernel
theorem dL_refuses_631 : decode cL_refuses 631 = .ok (.if_icmp .ne 47, 3) := by decide +kernel
theorem dL_refuses_634 : decode cL_refuses 634 = .ok (.aload_n 0, 1) := by decide +kernel
theorem dL_refuses_635 : decode cL_refuses 635 = .ok (.iload 4, 2) := by decide +kernel
theorem dL_refuses_637 : decode cL_refuses 637 = .ok (.iconst 0, 1) := by decide +kernel
theorem dL_refuses_638 : decode cL_refuses 638 = .ok (.invokestatic 131, 3) := by decide +kernel
theorem dL_refuses_641 : decode cL_refuses 641 = .ok (.ldc 15, 2) := by decide +kernel
theorem dL_refuses_643 : decode cL_refuses 643 = .ok (.if_icmp .ne 35, 3) := by decide +kernel
theorem dL_refuses_646 : decode cL_refuses 646 = .ok (.aload_n 0, 1) := by decide +kernel
theorem dL_refuses_647 : decode cL_refuses 647 = .ok (.iload_n 2, 1) := by decide +kernel
theorem dL_refuses_648 : decode cL_refuses 648 = .ok (.bipush 10, 2) := by decide +kernel
theorem dL_refuses_650 : decode cL_refuses 650 = .ok (.irem, 1) := by decide +kernel
theorem dL_refuses_651 : decode cL_refuses 651 = .ok (.iload 9, 2) := by decide +kernel
theorem dL_refuses_653 : decode cL_refuses 653 = .ok (.invokestatic 131, 3) := by decide +kernel
theorem dL_refuses_656 : decode cL_refuses 656 = .ok (.ldc 18, 2) := by decide +kernel
theorem dL_refuses_658 : decode cL_refuses 658 = .ok (.if_icmp .ne 20, 3) := by decide +kernel
theorem dL_refuses_661 : decode cL_refuses 661 = .ok (.aload_n 0, 1) := by decide +kernel
theorem dL_refuses_662 : decode cL_refuses 662 = .ok (.iload 5, 2) := by decide +kernel
theorem dL_refuses_664 : decode cL_refuses 664 = .ok (.iconst 0, 1) := by decide +kernel
theorem dL_refuses_665 : decode cL_refuses 665 = .ok (.iconst 0, 1) := by decide +kernel
theorem dL_refuses_666 : decode cL_refuses 666 = .ok (.invokestatic 133, 3) := by decide +kernel
theorem dL_refuses_669 : decode cL_refuses 669 = .ok (.ldc 15, 2) := by decide +kernel
theorem dL_refuses_671 : decode cL_refuses 671 = .ok (.if_icmp .ne 7, 3) := by decide +kernel
theorem dL_refuses_674 : decode cL_refuses 674 = .ok (.iconst 1, 1) := by decide +kernel
theorem dL_refuses_675 : decode cL_refuses 675 = .ok (.goto 4, 3) := by decide +kernel
theorem dL_refuses_678 : decode cL_refuses 678 = .ok (.iconst 0, 1) := by decide +kernel
theorem dL_refuses_679 : decode cL_refuses 679 = .ok (.istore 11, 2) := by decide +kernel
theorem dL_refuses_681 : decode cL_refuses 681 = .ok (.aload_n 1, 1) := by decide +kernel
theorem dL_refuses_682 : decode cL_refuses 682 = .ok (.iconst 0, 1) := by decide +kernel
theorem dL_refuses_683 : decode cL_refuses 683 = .ok (.iaload, 1) := by decide +kernel
theorem dL_refuses_684 : decode cL_refuses 684 = .ok (.ifCond .le 190, 3) := by decide +kernel
theorem dL_refuses_687 : decode cL_refuses 687 = .ok (.iload 11, 2) := by decide +kernel
theorem dL_refuses_689 : decode cL_refuses 689 = .ok (.ifCond .eq 185, 3) := by decide +kernel
theorem dL_refuses_692 : decode cL_refuses 692 = .ok (.iload_n 2, 1) := by decide +kernel
theorem dL_refuses_693 : decode cL_refuses 693 = .ok (.iconst 3, 1) := by decide +kernel
theorem dL_refuses_694 : decode cL_refuses 694 = .ok (.idiv, 1) := by decide +kernel
theorem dL_refuses_695 : decode cL_refuses 695 = .ok (.aload_n 1, 1) := by decide +kernel
theorem dL_refuses_696 : decode cL_refuses 696 = .ok (.iconst 0, 1) := by decide +kernel
theorem dL_refuses_697 : decode cL_refuses 697 = .ok (.iaload, 1) := by decide +kernel
theorem dL_refuses_698 : decode cL_refuses 698 = .ok (.irem, 1) := by decide +kernel
theorem dL_refuses_699 : decode cL_refuses 699 = .ok (.istore 12, 2) := by decide +kernel
theorem dL_refuses_701 : decode cL_refuses 701 = .ok (.aload_n 0, 1) := by decide +kernel
theorem dL_refuses_702 : decode cL_refuses 702 = .ok (.iload 12, 2) := by decide +kernel
theorem dL_refuses_704 : decode cL_refuses 704 = .ok (.iload 4, 2) := by decide +kernel
theorem dL_refuses_706 : decode cL_refuses 706 = .ok (.aload_n 0, 1) := by decide +kernel
theorem dL_refuses_707 : decode cL_refuses 707 = .ok (.invokevirtual 86, 3) := by decide +kernel
theorem dL_refuses_710 : decode cL_refuses 710 = .ok (.sipush 399, 3) := by decide +kernel
theorem dL_refuses_713 : decode cL_refuses 713 = .ok (.invokestatic 98, 3) := by decide +kernel
theorem dL_refuses_716 : decode cL_refuses 716 = .ok (.ldc 15, 2) := by decide +kernel
theorem dL_refuses_718 : decode cL_refuses 718 = .ok (.if_icmp .ne 153, 3) := by decide +kernel
theorem dL_refuses_721 : decode cL_refuses 721 = .ok (.aload_n 0, 1) := by decide +kernel
theorem dL_refuses_722 : decode cL_refuses 722 = .ok (.iload 12, 2) := by decide +kernel
theorem dL_refuses_724 : decode cL_refuses 724 = .ok (.iconst 0, 1) := by decide +kernel
theorem dL_refuses_725 : decode cL_refuses 725 = .ok (.iload_n 3, 1) := by decide +kernel
theorem dL_refuses_726 : decode cL_refuses 726 = .ok (.ifCond .eq 14, 3) := by decide +kernel
theorem dL_refuses_729 : decode cL_refuses 729 = .ok (.aload_n 0, 1) := by decide +kernel
theorem dL_refuses_730 : decode cL_refuses 730 = .ok (.invokevirtual 86, 3) := by decide +kernel
theorem dL_refuses_733 : decode cL_refuses 733 = .ok (.iconst 1, 1) := by decide +kernel
theorem dL_refuses_734 : decode cL_refuses 734 = .ok (.isub, 1) := by decide +kernel
theorem dL_refuses_735 : decode cL_refuses 735 = .ok (.iload_n 2, 1) := by decide +kernel
theorem dL_refuses_736 : decode cL_refuses 736 = .ok (.isub, 1) := by decide +kernel
theorem dL_refuses_737 : decode cL_refuses 737 = .ok (.goto 8, 3) := by decide +kernel
theorem dL_refuses_740 : decode cL_refuses 740 = .ok (.sipush 400, 3) := by decide +kernel
theorem dL_refuses_743 : decode cL_refuses 743 = .ok (.iload_n 2, 1) := by decide +kernel
theorem dL_refuses_744 : decode cL_refuses 744 = .ok (.iadd, 1) := by decide +kernel
theorem dL_refuses_745 : decode cL_refuses 745 = .ok (.sipush 399, 3) := by decide +kernel
theorem dL_refuses_748 : decode cL_refuses 748 = .ok (.invokestatic 98, 3) := by decide +kernel
theorem dL_refuses_751 : decode cL_refuses 751 = .ok (.ldc 18, 2) := by decide +kernel
theorem dL_refuses_753 : decode cL_refuses 753 = .ok (.if_icmp .ne 118, 3) := by decide +kernel
theorem dL_refuses_756 : decode cL_refuses 756 = .ok (.aload_n 0, 1) := by decide +kernel
theorem dL_refuses_757 : decode cL_refuses 757 = .ok (.iload 12, 2) := by decide +kernel
theorem dL_refuses_759 : decode cL_refuses 759 = .ok (.iconst 0, 1) := by decide +kernel
theorem dL_refuses_760 : decode cL_refuses 760 = .ok (.sipush 399, 3) := by decide +kernel
theorem dL_refuses_763 : decode cL_refuses 763 = .ok (.iload_n 3, 1) := by decide +kernel
theorem dL_refuses_764 : decode cL_refuses 764 = .ok (.ifCond .eq 11, 3) := by decide +kernel
theorem dL_refuses_767 : decode cL_refuses 767 = .ok (.sipush 398, 3) := by decide +kernel
theorem dL_refuses_770 : decode cL_refuses 770 = .ok (.iload_n 2, 1) := by decide +kernel
theorem dL_refuses_771 : decode cL_refuses 771 = .ok (.isub, 1) := by decide +kernel
theorem dL_refuses_772 : decode cL_refuses 772 = .ok (.goto 8, 3) := by decide +kernel
theorem dL_refuses_775 : decode cL_refuses 775 = .ok (.sipush 400, 3) := by decide +kernel
theorem dL_refuses_778 : decode cL_refuses 778 = .ok (.iload_n 2, 1) := by decide +kernel
theorem dL_refuses_779 : decode cL_refuses 779 = .ok (.iadd, 1) := by decide +kernel
theorem dL_refuses_780 : decode cL_refuses 780 = .ok (.invokestatic 98, 3) := by decide +kernel
theorem dL_refuses_783 : decode cL_refuses 783 = .ok (.ldc 18, 2) := by decide +kernel
theorem dL_refuses_785 : decode cL_refuses 785 = .ok (.if_icmp .ne 86, 3) := by decide +kernel
theorem dL_refuses_788 : decode cL_refuses 788 = .ok (.aload_n 0, 1) := by decide +kernel
theorem dL_refuses_789 : decode cL_refuses 789 = .ok (.iload 12, 2) := by decide +kernel
theorem dL_refuses_791 : decode cL_refuses 791 = .ok (.iload_n 3, 1) := by decide +kernel
theorem dL_refuses_792 : decode cL_refuses 792 = .ok (.ifCond .eq 9, 3) := by decide +kernel
theorem dL_refuses_795 : decode cL_refuses 795 = .ok (.iconst (-1), 1) := by decide +kernel
theorem dL_refuses_796 : decode cL_refuses 796 = .ok (.iload_n 2, 1) := by decide +kernel
theorem dL_refuses_797 : decode cL_refuses 797 = .ok (.isub, 1) := by decide +kernel
theorem dL_refuses_798 : decode cL_refuses 798 = .ok (.goto 7, 3) := by decide +kernel
theorem dL_refuses_801 : decode cL_refuses 801 = .ok (.bipush 41, 2) := by decide +kernel
theorem dL_refuses_803 : decode cL_refuses 803 = .ok (.iload_n 2, 1) := by decide +kernel
theorem dL_refuses_804 : decode cL_refuses 804 = .ok (.iadd, 1) := by decide +kernel
theorem dL_refuses_805 : decode cL_refuses 805 = .ok (.invokestatic 101, 3) := by decide +kernel
theorem dL_refuses_808 : decode cL_refuses 808 = .ok (.ldc 18, 2) := by decide +kernel
theorem dL_refuses_810 : decode cL_refuses 810 = .ok (.if_icmp .ne 61, 3) := by decide +kernel
theorem dL_refuses_813 : decode cL_refuses 813 = .ok (.aload_n 0, 1) := by decide +kernel
theorem dL_refuses_814 : decode cL_refuses 814 = .ok (.iload 12, 2) := by decide +kernel
theorem dL_refuses_816 : decode cL_refuses 816 = .ok (.iload 9, 2) := by decide +kernel
theorem dL_refuses_818 : decode cL_refuses 818 = .ok (.invokestatic 129, 3) := by decide +kernel
theorem dL_refuses_821 : decode cL_refuses 821 = .ok (.ldc 18, 2) := by decide +kernel
theorem dL_refuses_823 : decode cL_refuses 823 = .ok (.if_icmp .ne 48, 3) := by decide +kernel
theorem dL_refuses_826 : decode cL_refuses 826 = .ok (.aload_n 0, 1) := by decide +kernel
theorem dL_refuses_827 : decode cL_refuses 827 = .ok (.iload 12, 2) := by decide +kernel
theorem dL_refuses_829 : decode cL_refuses 829 = .ok (.iconst 0, 1) := by decide +kernel
theorem dL_refuses_830 : decode cL_refuses 830 = .ok (.iconst (-1), 1) := by decide +kernel
theorem dL_refuses_831 : decode cL_refuses 831 = .ok (.iload_n 2, 1) := by decide +kernel
theorem dL_refuses_832 : decode cL_refuses 832 = .ok (.isub, 1) := by decide +kernel
theorem dL_refuses_833 : decode cL_refuses 833 = .ok (.invokestatic 133, 3) := by decide +kernel
theorem dL_refuses_836 : decode cL_refuses 836 = .ok (.ldc 15, 2) := by decide +kernel
theorem dL_refuses_838 : decode cL_refuses 838 = .ok (.if_icmp .ne 33, 3) := by decide +kernel
theorem dL_refuses_841 : decode cL_refuses 841 = .ok (.aload_n 0, 1) := by decide +kernel
theorem dL_refuses_842 : decode cL_refuses 842 = .ok (.iload 12, 2) := by decide +kernel
theorem dL_refuses_844 : decode cL_refuses 844 = .ok (.iload_n 3, 1) := by decide +kernel
theorem dL_refuses_845 : decode cL_refuses 845 = .ok (.ifCond .eq 9, 3) := by decide +kernel
theorem dL_refuses_848 : decode cL_refuses 848 = .ok (.iconst (-1), 1) := by decide +kernel
theorem dL_refuses_849 : decode cL_refuses 849 = .ok (.iload_n 2, 1) := by decide +kernel
theorem dL_refuses_850 : decode cL_refuses 850 = .ok (.isub, 1) := by decide +kernel
theorem dL_refuses_851 : decode cL_refuses 851 = .ok (.goto 7, 3) := by decide +kernel
theorem dL_refuses_854 : decode cL_refuses 854 = .ok (.bipush 50, 2) := by decide +kernel
theorem dL_refuses_856 : decode cL_refuses 856 = .ok (.iload_n 2, 1) := by decide +kernel
theorem dL_refuses_857 : decode cL_refuses 857 = .ok (.iadd, 1) := by decide +kernel
theorem dL_refuses_858 : decode cL_refuses 858 = .ok (.iconst 0, 1) := by decide +kernel
theorem dL_refuses_859 : decode cL_refuses 859 = .ok (.invokestatic 133, 3) := by decide +kernel
theorem dL_refuses_862 : decode cL_refuses 862 = .ok (.ldc 18, 2) := by decide +kernel
theorem dL_refuses_864 : decode cL_refuses 864 = .ok (.if_icmp .ne 7, 3) := by decide +kernel
theorem dL_refuses_867 : decode cL_refuses 867 = .ok (.iconst 1, 1) := by decide +kernel
theorem dL_refuses_868 : decode cL_refuses 868 = .ok (.goto 4, 3) := by decide +kernel
theorem dL_refuses_871 : decode cL_refuses 871 = .ok (.iconst 0, 1) := by decide +kernel
theorem dL_refuses_872 : decode cL_refuses 872 = .ok (.istore 11, 2) := by decide +kernel
theorem dL_refuses_874 : decode cL_refuses 874 = .ok (.aload_n 1, 1) := by decide +kernel
theorem dL_refuses_875 : decode cL_refuses 875 = .ok (.iconst 1, 1) := by decide +kernel
theorem dL_refuses_876 : decode cL_refuses 876 = .ok (.iaload, 1) := by decide +kernel
theorem dL_refuses_877 : decode cL_refuses 877 = .ok (.ifCond .le 236, 3) := by decide +kernel
theorem dL_refuses_880 : decode cL_refuses 880 = .ok (.iload 11, 2) := by decide +kernel
theorem dL_refuses_882 : decode cL_refuses 882 = .ok (.ifCond .eq 231, 3) := by decide +kernel
theorem dL_refuses_885 : decode cL_refuses 885 = .ok (.iload_n 2, 1) := by decide +kernel
theorem dL_refuses_886 : decode cL_refuses 886 = .ok (.iconst 5, 1) := by decide +kernel
theorem dL_refuses_887 : decode cL_refuses 887 = .ok (.idiv, 1) := by decide +kernel
theorem dL_refuses_888 : decode cL_refuses 888 = .ok (.aload_n 1, 1) := by decide +kernel
theorem dL_refuses_889 : decode cL_refuses 889 = .ok (.iconst 1, 1) := by decide +kernel
theorem dL_refuses_890 : decode cL_refuses 890 = .ok (.iaload, 1) := by decide +kernel
theorem dL_refuses_891 : decode cL_refuses 891 = .ok (.irem, 1) := by decide +kernel
theorem dL_refuses_892 : decode cL_refuses 892 = .ok (.istore 12, 2) := by decide +kernel
theorem dL_refuses_894 : decode cL_refuses 894 = .ok (.aload_n 0, 1) := by decide +kernel
theorem dL_refuses_895 : decode cL_refuses 895 = .ok (.iload 12, 2) := by decide +kernel
theorem dL_refuses_897 : decode cL_refuses 897 = .ok (.iconst 0, 1) := by decide +kernel
theorem dL_refuses_898 : decode cL_refuses 898 = .ok (.invokestatic 120, 3) := by decide +kernel
theorem dL_refuses_901 : decode cL_refuses 901 = .ok (.ifCond .ne 21, 3) := by decide +kernel
theorem dL_refuses_904 : decode cL_refuses 904 = .ok (.aload_n 0, 1) := by decide +kernel
theorem dL_refuses_905 : decode cL_refuses 905 = .ok (.iload 12, 2) := by decide +kernel
theorem dL_refuses_907 : decode cL_refuses 907 = .ok (.iconst 1, 1) := by decide +kernel
theorem dL_refuses_908 : decode cL_refuses 908 = .ok (.invokestatic 120, 3) := by decide +kernel
theorem dL_refuses_911 : decode cL_refuses 911 = .ok (.aload_n 0, 1) := by decide +kernel
theorem dL_refuses_912 : decode cL_refuses 912 = .ok (.invokevirtual 86, 3) := by decide +kernel
theorem dL_refuses_915 : decode cL_refuses 915 = .ok (.if_icmp .lt 7, 3) := by decide +kernel
theorem dL_refuses_918 : decode cL_refuses 918 = .ok (.iconst 1, 1) := by decide +kernel
theorem dL_refuses_919 : decode cL_refuses 919 = .ok (.goto 4, 3) := by decide +kernel
theorem dL_refuses_922 : decode cL_refuses 922 = .ok (.iconst 0, 1) := by decide +kernel
theorem dL_refuses_923 : decode cL_refuses 923 = .ok (.istore 13, 2) := by decide +kernel
theorem dL_refuses_925 : decode cL_refuses 925 = .ok (.aload_n 0, 1) := by decide +kernel
theorem dL_refuses_926 : decode cL_refuses 926 = .ok (.iload 12, 2) := by decide +kernel
theorem dL_refuses_928 : decode cL_refuses 928 = .ok (.iload_n 3, 1) := by decide +kernel
theorem dL_refuses_929 : decode cL_refuses 929 = .ok (.ifCond .eq 14, 3) := by decide +kernel
theorem dL_refuses_932 : decode cL_refuses 932 = .ok (.aload_n 0, 1) := by decide +kernel
theorem dL_refuses_933 : decode cL_refuses 933 = .ok (.invokevirtual 86, 3) := by decide +kernel
theorem dL_refuses_936 : decode cL_refuses 936 = .ok (.iconst 1, 1) := by decide +kernel
theorem dL_refuses_937 : decode cL_refuses 937 = .ok (.isub, 1) := by decide +kernel
theorem dL_refuses_938 : decode cL_refuses 938 = .ok (.iload_n 2, 1) := by decide +kernel
theorem dL_refuses_939 : decode cL_refuses 939 = .ok (.isub, 1) := by decide +kernel
theorem dL_refuses_940 : decode cL_refuses 940 = .ok (.goto 8, 3) := by decide +kernel
theorem dL_refuses_943 : decode cL_refuses 943 = .ok (.sipush 400, 3) := by decide +kernel
theorem dL_refuses_946 : decode cL_refuses 946 = .ok (.iload_n 2, 1) := by decide +kernel
theorem dL_refuses_947 : decode cL_refuses 947 = .ok (.iadd, 1) := by decide +kernel
theorem dL_refuses_948 : decode cL_refuses 948 = .ok (.invokestatic 105, 3) := by decide +kernel
theorem dL_refuses_951 : decode cL_refuses 951 = .ok (.ldc 18, 2) := by decide +kernel
theorem dL_refuses_953 : decode cL_refuses 953 = .ok (.if_icmp .ne 157, 3) := by decide +kernel
theorem dL_refuses_956 : decode cL_refuses 956 = .ok (.aload_n 0, 1) := by decide +kernel
theorem dL_refuses_957 : decode cL_refuses 957 = .ok (.iload 12, 2) := by decide +kernel
theorem dL_refuses_959 : decode cL_refuses 959 = .ok (.iload 12, 2) := by decide +kernel
theorem dL_refuses_961 : decode cL_refuses 961 = .ok (.invokestatic 110, 3) := by decide +kernel
theorem dL_refuses_964 : decode cL_refuses 964 = .ok (.ldc 18, 2) := by decide +kernel
theorem dL_refuses_966 : decode cL_refuses 966 = .ok (.if_icmp .ne 144, 3) := by decide +kernel
theorem dL_refuses_969 : decode cL_refuses 969 = .ok (.aload_n 0, 1) := by decide +kernel
theorem dL_refuses_970 : decode cL_refuses 970 = .ok (.iload 12, 2) := by decide +kernel
theorem dL_refuses_972 : decode cL_refuses 972 = .ok (.iload 6, 2) := by decide +kernel
theorem dL_refuses_974 : decode cL_refuses 974 = .ok (.invokestatic 110, 3) := by decide +kernel
theorem dL_refuses_977 : decode cL_refuses 977 = .ok (.ldc 15, 2) := by decide +kernel
theorem dL_refuses_979 : decode cL_refuses 979 = .ok (.if_icmp .ne 131, 3) := by decide +kernel
theorem dL_refuses_982 : decode cL_refuses 982 = .ok (.aload_n 0, 1) := by decide +kernel
theorem dL_refuses_983 : decode cL_refuses 983 = .ok (.iload 12, 2) := by decide +kernel
theorem dL_refuses_985 : decode cL_refuses 985 = .ok (.iload_n 3, 1) := by decide +kernel
theorem dL_refuses_986 : decode cL_refuses 986 = .ok (.ifCond .eq 9, 3) := by decide +kernel
theorem dL_refuses_989 : decode cL_refuses 989 = .ok (.iconst (-1), 1) := by decide +kernel
theorem dL_refuses_990 : decode cL_refuses 990 = .ok (.iload_n 2, 1) := by decide +kernel
theorem dL_refuses_991 : decode cL_refuses 991 = .ok (.isub, 1) := by decide +kernel
theorem dL_refuses_992 : decode cL_refuses 992 = .ok (.goto 6, 3) := by decide +kernel
theorem dL_refuses_995 : decode cL_refuses 995 = .ok (.iconst 5, 1) := by decide +kernel
theorem dL_refuses_996 : decode cL_refuses 996 = .ok (.iload_n 2, 1) := by decide +kernel
theorem dL_refuses_997 : decode cL_refuses 997 = .ok (.iadd, 1) := by decide +kernel
theorem dL_refuses_998 : decode cL_refuses 998 = .ok (.invokestatic 120, 3) := by decide +kernel
theorem dL_refuses_1001 : decode cL_refuses 1001 = .ok (.ldc 18, 2) := by decide +kernel
theorem dL_refuses_1003 : decode cL_refuses 1003 = .ok (.if_icmp .ne 107, 3) := by decide +kernel
theorem dL_refuses_1006 : decode cL_refuses 1006 = .ok (.iload 13, 2) := by decide +kernel
theorem dL_refuses_1008 : decode cL_refuses 1008 = .ok (.ifCond .eq 37, 3) := by decide +kernel
theorem dL_refuses_1011 : decode cL_refuses 1011 = .ok (.aload_n 0, 1) := by decide +kernel
theorem dL_refuses_1012 : decode cL_refuses 1012 = .ok (.aload_n 0, 1) := by decide +kernel
theorem dL_refuses_1013 : decode cL_refuses 1013 = .ok (.iload 12, 2) := by decide +kernel
theorem dL_refuses_1015 : decode cL_refuses 1015 = .ok (.iconst 4, 1) := by decide +kernel
theorem dL_refuses_1016 : decode cL_refuses 1016 = .ok (.invokestatic 120, 3) := by decide +kernel
theorem dL_refuses_1019 : decode cL_refuses 1019 = .ok (.aload_n 0, 1) := by decide +kernel
theorem dL_refuses_1020 : decode cL_refuses 1020 = .ok (.iload 12, 2) := by decide +kernel
theorem dL_refuses_1022 : decode cL_refuses 1022 = .ok (.iconst 1, 1) := by decide +kernel
theorem dL_refuses_1023 : decode cL_refuses 1023 = .ok (.invokestatic 120, 3) := by decide +kernel
theorem dL_refuses_1026 : decode cL_refuses 1026 = .ok (.aload_n 0, 1) := by decide +kernel
theorem dL_refuses_1027 : decode cL_refuses 1027 = .ok (.iload 12, 2) := by decide +kernel
theorem dL_refuses_1029 : decode cL_refuses 1029 = .ok (.iconst 2, 1) := by decide +kernel
theorem dL_refuses_1030 : decode cL_refuses 1030 = .ok (.invokestatic 120, 3) := by decide +kernel
theorem dL_refuses_1033 : decode cL_refuses 1033 = .ok (.iconst (-1), 1) := by decide +kernel
theorem dL_refuses_1034 : decode cL_refuses 1034 = .ok (.invokestatic 103, 3) := by decide +kernel
theorem dL_refuses_1037 : decode cL_refuses 1037 = .ok (.ldc 21, 2) := by decide +kernel
theorem dL_refuses_1039 : decode cL_refuses 1039 = .ok (.if_icmp .ne 71, 3) := by decide +kernel
theorem dL_refuses_1042 : decode cL_refuses 1042 = .ok (.goto 64, 3) := by decide +kernel
theorem dL_refuses_1045 : decode cL_refuses 1045 = .ok (.aload_n 0, 1) := by decide +kernel
theorem dL_refuses_1046 : decode cL_refuses 1046 = .ok (.iload 12, 2) := by decide +kernel
theorem dL_refuses_1048 : decode cL_refuses 1048 = .ok (.invokestatic 107, 3) := by decide +kernel
theorem dL_refuses_1051 : decode cL_refuses 1051 = .ok (.ldc 21, 2) := by decide +kernel
theorem dL_refuses_1053 : decode cL_refuses 1053 = .ok (.if_icmp .ne 57, 3) := by decide +kernel
theorem dL_refuses_1056 : decode cL_refuses 1056 = .ok (.aload_n 0, 1) := by decide +kernel
theorem dL_refuses_1057 : decode cL_refuses 1057 = .ok (.invokevirtual 86, 3) := by decide +kernel
theorem dL_refuses_1060 : decode cL_refuses 1060 = .ok (.sipush 392, 3) := by decide +kernel
theorem dL_refuses_1063 : decode cL_refuses 1063 = .ok (.if_icmp .gt 17, 3) := by decide +kernel
theorem dL_refuses_1066 : decode cL_refuses 1066 = .ok (.aload_n 0, 1) := by decide +kernel
theorem dL_refuses_1067 : decode cL_refuses 1067 = .ok (.iload 12, 2) := by decide +kernel
theorem dL_refuses_1069 : decode cL_refuses 1069 = .ok (.sipush 392, 3) := by decide +kernel
theorem dL_refuses_1072 : decode cL_refuses 1072 = .ok (.invokestatic 105, 3) := by decide +kernel
theorem dL_refuses_1075 : decode cL_refuses 1075 = .ok (.ldc 21, 2) := by decide +kernel
theorem dL_refuses_1077 : decode cL_refuses 1077 = .ok (.if_icmp .ne 33, 3) := by decide +kernel
theorem dL_refuses_1080 : decode cL_refuses 1080 = .ok (.aload_n 1, 1) := by decide +kernel
theorem dL_refuses_1081 : decode cL_refuses 1081 = .ok (.iconst 1, 1) := by decide +kernel
theorem dL_refuses_1082 : decode cL_refuses 1082 = .ok (.iaload, 1) := by decide +kernel
theorem dL_refuses_1083 : decode cL_refuses 1083 = .ok (.iconst 2, 1) := by decide +kernel
theorem dL_refuses_1084 : decode cL_refuses 1084 = .ok (.if_icmp .lt 22, 3) := by decide +kernel
theorem dL_refuses_1087 : decode cL_refuses 1087 = .ok (.aload_n 0, 1) := by decide +kernel
theorem dL_refuses_1088 : decode cL_refuses 1088 = .ok (.iload 12, 2) := by decide +kernel
theorem dL_refuses_1090 : decode cL_refuses 1090 = .ok (.iload 12, 2) := by decide +kernel
theorem dL_refuses_1092 : decode cL_refuses 1092 = .ok (.iconst 1, 1) := by decide +kernel
theorem dL_refuses_1093 : decode cL_refuses 1093 = .ok (.iadd, 1) := by decide +kernel
theorem dL_refuses_1094 : decode cL_refuses 1094 = .ok (.aload_n 1, 1) := by decide +kernel
theorem dL_refuses_1095 : decode cL_refuses 1095 = .ok (.iconst 1, 1) := by decide +kernel
theorem dL_refuses_1096 : decode cL_refuses 1096 = .ok (.iaload, 1) := by decide +kernel
theorem dL_refuses_1097 : decode cL_refuses 1097 = .ok (.irem, 1) := by decide +kernel
theorem dL_refuses_1098 : decode cL_refuses 1098 = .ok (.invokestatic 110, 3) := by decide +kernel
theorem dL_refuses_1101 : decode cL_refuses 1101 = .ok (.ldc 21, 2) := by decide +kernel
theorem dL_refuses_1103 : decode cL_refuses 1103 = .ok (.if_icmp .ne 7, 3) := by decide +kernel
theorem dL_refuses_1106 : decode cL_refuses 1106 = .ok (.iconst 1, 1) := by decide +kernel
theorem dL_refuses_1107 : decode cL_refuses 1107 = .ok (.goto 4, 3) := by decide +kernel
theorem dL_refuses_1110 : decode cL_refuses 1110 = .ok (.iconst 0, 1) := by decide +kernel
theorem dL_refuses_1111 : decode cL_refuses 1111 = .ok (.istore 11, 2) := by decide +kernel
theorem dL_refuses_1113 : decode cL_refuses 1113 = .ok (.aload_n 1, 1) := by decide +kernel
theorem dL_refuses_1114 : decode cL_refuses 1114 = .ok (.iconst 2, 1) := by decide +kernel
theorem dL_refuses_1115 : decode cL_refuses 1115 = .ok (.iaload, 1) := by decide +kernel
theorem dL_refuses_1116 : decode cL_refuses 1116 = .ok (.ifCond .ne 7, 3) := by decide +kernel
theorem dL_refuses_1119 : decode cL_refuses 1119 = .ok (.iconst 0, 1) := by decide +kernel
theorem dL_refuses_1120 : decode cL_refuses 1120 = .ok (.goto 11, 3) := by decide +kernel
theorem dL_refuses_1123 : decode cL_refuses 1123 = .ok (.iload_n 2, 1) := by decide +kernel
theorem dL_refuses_1124 : decode cL_refuses 1124 = .ok (.bipush 7, 2) := by decide +kernel
theorem dL_refuses_1126 : decode cL_refuses 1126 = .ok (.idiv, 1) := by decide +kernel
theorem dL_refuses_1127 : decode cL_refuses 1127 = .ok (.aload_n 1, 1) := by decide +kernel
theorem dL_refuses_1128 : decode cL_refuses 1128 = .ok (.iconst 2, 1) := by decide +kernel
theorem dL_refuses_1129 : decode cL_refuses 1129 = .ok (.iaload, 1) := by decide +kernel
theorem dL_refuses_1130 : decode cL_refuses 1130 = .ok (.irem, 1) := by decide +kernel
theorem dL_refuses_1131 : decode cL_refuses 1131 = .ok (.istore 12, 2) := by decide +kernel
theorem dL_refuses_1133 : decode cL_refuses 1133 = .ok (.iload 11, 2) := by decide +kernel
theorem dL_refuses_1135 : decode cL_refuses 1135 = .ok (.ifCond .eq 84, 3) := by decide +kernel
theorem dL_refuses_1138 : decode cL_refuses 1138 = .ok (.aload_n 1, 1) := by decide +kernel
theorem dL_refuses_1139 : decode cL_refuses 1139 = .ok (.iconst 2, 1) := by decide +kernel
theorem dL_refuses_1140 : decode cL_refuses 1140 = .ok (.iaload, 1) := by decide +kernel
theorem dL_refuses_1141 : decode cL_refuses 1141 = .ok (.ifCond .eq 74, 3) := by decide +kernel
theorem dL_refuses_1144 : decode cL_refuses 1144 = .ok (.aload_n 0, 1) := by decide +kernel
theorem dL_refuses_1145 : decode cL_refuses 1145 = .ok (.iload 12, 2) := by decide +kernel
theorem dL_refuses_1147 : decode cL_refuses 1147 = .ok (.iload_n 3, 1) := by decide +kernel
theorem dL_refuses_1148 : decode cL_refuses 1148 = .ok (.ifCond .eq 9, 3) := by decide +kernel
theorem dL_refuses_1151 : decode cL_refuses 1151 = .ok (.iconst (-1), 1) := by decide +kernel
theorem dL_refuses_1152 : decode cL_refuses 1152 = .ok (.iload_n 2, 1) := by decide +kernel
theorem dL_refuses_1153 : decode cL_refuses 1153 = .ok (.isub, 1) := by decide +kernel
theorem dL_refuses_1154 : decode cL_refuses 1154 = .ok (.goto 7, 3) := by decide +kernel
theorem dL_refuses_1157 : decode cL_refuses 1157 = .ok (.bipush 10, 2) := by decide +kernel
theorem dL_refuses_1159 : decode cL_refuses 1159 = .ok (.iload_n 2, 1) := by decide +kernel
theorem dL_refuses_1160 : decode cL_refuses 1160 = .ok (.iadd, 1) := by decide +kernel
theorem dL_refuses_1161 : decode cL_refuses 1161 = .ok (.invokestatic 116, 3) := by decide +kernel
theorem dL_refuses_1164 : decode cL_refuses 1164 = .ok (.ldc 18, 2) := by decide +kernel
theorem dL_refuses_1166 : decode cL_refuses 1166 = .ok (.if_icmp .ne 53, 3) := by decide +kernel
theorem dL_refuses_1169 : decode cL_refuses 1169 = .ok (.aload_n 0, 1) := by decide +kernel
theorem dL_refuses_1170 : decode cL_refuses 1170 = .ok (.iload 12, 2) := by decide +kernel
theorem dL_refuses_1172 : decode cL_refuses 1172 = .ok (.iload_n 3, 1) := by decide +kernel
theorem dL_refuses_1173 : decode cL_refuses 1173 = .ok (.ifCond .eq 9, 3) := by decide +kernel
theorem dL_refuses_1176 : decode cL_refuses 1176 = .ok (.iconst (-1), 1) := by decide +kernel
theorem dL_refuses_1177 : decode cL_refuses 1177 = .ok (.iload_n 2, 1) := by decide +kernel
theorem dL_refuses_1178 : decode cL_refuses 1178 = .ok (.isub, 1) := by decide +kernel
theorem dL_refuses_1179 : decode cL_refuses 1179 = .ok (.goto 6, 3) := by decide +kernel
theorem dL_refuses_1182 : decode cL_refuses 1182 = .ok (.iconst 4, 1) := by decide +kernel
theorem dL_refuses_1183 : decode cL_refuses 1183 = .ok (.iload_n 2, 1) := by decide +kernel
theorem dL_refuses_1184 : decode cL_refuses 1184 = .ok (.iadd, 1) := by decide +kernel
theorem dL_refuses_1185 : decode cL_refuses 1185 = .ok (.invokestatic 124, 3) := by decide +kernel
theorem dL_refuses_1188 : decode cL_refuses 1188 = .ok (.ldc 18, 2) := by decide +kernel
theorem dL_refuses_1190 : decode cL_refuses 1190 = .ok (.if_icmp .ne 29, 3) := by decide +kernel
theorem dL_refuses_1193 : decode cL_refuses 1193 = .ok (.aload_n 0, 1) := by decide +kernel
theorem dL_refuses_1194 : decode cL_refuses 1194 = .ok (.iload 12, 2) := by decide +kernel
theorem dL_refuses_1196 : decode cL_refuses 1196 = .ok (.iconst 0, 1) := by decide +kernel
theorem dL_refuses_1197 : decode cL_refuses 1197 = .ok (.invokestatic 124, 3) := by decide +kernel
theorem dL_refuses_1200 : decode cL_refuses 1200 = .ok (.ifCond .eq 15, 3) := by decide +kernel
theorem dL_refuses_1203 : decode cL_refuses 1203 = .ok (.aload_n 0, 1) := by decide +kernel
theorem dL_refuses_1204 : decode cL_refuses 1204 = .ok (.iload 12, 2) := by decide +kernel
theorem dL_refuses_1206 : decode cL_refuses 1206 = .ok (.iconst 5, 1) := by decide +kernel
theorem dL_refuses_1207 : decode cL_refuses 1207 = .ok (.invokestatic 116, 3) := by decide +kernel
theorem dL_refuses_1210 : decode cL_refuses 1210 = .ok (.ldc 21, 2) := by decide +kernel
theorem dL_refuses_1212 : decode cL_refuses 1212 = .ok (.if_icmp .ne 7, 3) := by decide +kernel
theorem dL_refuses_1215 : decode cL_refuses 1215 = .ok (.iconst 1, 1) := by decide +kernel
theorem dL_refuses_1216 : decode cL_refuses 1216 = .ok (.goto 4, 3) := by decide +kernel
theorem dL_refuses_1219 : decode cL_refuses 1219 = .ok (.iconst 0, 1) := by decide +kernel
theorem dL_refuses_1220 : decode cL_refuses 1220 = .ok (.istore 11, 2) := by decide +kernel
theorem dL_refuses_1222 : decode cL_refuses 1222 = .ok (.iload 11, 2) := by decide +kernel
theorem dL_refuses_1224 : decode cL_refuses 1224 = .ok (.ifCond .eq 43, 3) := by decide +kernel
theorem dL_refuses_1227 : decode cL_refuses 1227 = .ok (.aload_n 1, 1) := by decide +kernel
theorem dL_refuses_1228 : decode cL_refuses 1228 = .ok (.iconst 3, 1) := by decide +kernel
theorem dL_refuses_1229 : decode cL_refuses 1229 = .ok (.iaload, 1) := by decide +kernel
theorem dL_refuses_1230 : decode cL_refuses 1230 = .ok (.ifCond .eq 33, 3) := by decide +kernel
theorem dL_refuses_1233 : decode cL_refuses 1233 = .ok (.aload_n 0, 1) := by decide +kernel
theorem dL_refuses_1234 : decode cL_refuses 1234 = .ok (.iload_n 2, 1) := by decide +kernel
theorem dL_refuses_1235 : decode cL_refuses 1235 = .ok (.aload_n 1, 1) := by decide +kernel
theorem dL_refuses_1236 : decode cL_refuses 1236 = .ok (.iconst 3, 1) := by decide +kernel
theorem dL_refuses_1237 : decode cL_refuses 1237 = .ok (.iaload, 1) := by decide +kernel
theorem dL_refuses_1238 : decode cL_refuses 1238 = .ok (.irem, 1) := by decide +kernel
theorem dL_refuses_1239 : decode cL_refuses 1239 = .ok (.invokestatic 122, 3) := by decide +kernel
theorem dL_refuses_1242 : decode cL_refuses 1242 = .ok (.ifCond .eq 21, 3) := by decide +kernel
theorem dL_refuses_1245 : decode cL_refuses 1245 = .ok (.aload_n 0, 1) := by decide +kernel
theorem dL_refuses_1246 : decode cL_refuses 1246 = .ok (.iload_n 2, 1) := by decide +kernel
theorem dL_refuses_1247 : decode cL_refuses 1247 = .ok (.bipush 10, 2) := by decide +kernel
theorem dL_refuses_1249 : decode cL_refuses 1249 = .ok (.irem, 1) := by decide +kernel
theorem dL_refuses_1250 : decode cL_refuses 1250 = .ok (.iload_n 2, 1) := by decide +kernel
theorem dL_refuses_1251 : decode cL_refuses 1251 = .ok (.aload_n 1, 1) := by decide +kernel
theorem dL_refuses_1252 : decode cL_refuses 1252 = .ok (.iconst 3, 1) := by decide +kernel
theorem dL_refuses_1253 : decode cL_refuses 1253 = .ok (.iaload, 1) := by decide +kernel
theorem dL_refuses_1254 : decode cL_refuses 1254 = .ok (.irem, 1) := by decide +kernel
theorem dL_refuses_1255 : decode cL_refuses 1255 = .ok (.invokestatic 112, 3) := by decide +kernel
theorem dL_refuses_1258 : decode cL_refuses 1258 = .ok (.ldc 21, 2) := by decide +kernel
theorem dL_refuses_1260 : decode cL_refuses 1260 = .ok (.if_icmp .ne 7, 3) := by decide +kernel
theorem dL_refuses_1263 : decode cL_refuses 1263 = .ok (.iconst 1, 1) := by decide +kernel
theorem dL_refuses_1264 : decode cL_refuses 1264 = .ok (.goto 4, 3) := by decide +kernel
theorem dL_refuses_1267 : decode cL_refuses 1267 = .ok (.iconst 0, 1) := by decide +kernel
theorem dL_refuses_1268 : decode cL_refuses 1268 = .ok (.ireturn, 1) := by decide +kernel
set_option maxRecDepth 20000 in
theorem ggL_act_L_machine : GoodIn wsL_act wsL_machine := goodIn_ca (goodIn_ca (goodIn_ca (goodIn_r _ [4, 5, 6, 7, 8, 9, 10, 11, 12, 13, 14, 15, 16, 17, 18, 19, 20, 21, 22, 23, 24, 25, 26, 27, 28, 29, 30, 31, 32, 33, 34, 35, 36, 37, 38, 39, 40, 41, 42, 43, 44, 45, 46, 47, 48, 49, 50, 51, 52, 53, 54, 55, 56, 57, 58, 59, 60, 61, 62, 63, 64, 65, 66, 67, 68, 69, 70, 71, 72, 73, 74, 75, 76, 77, 78, 79, 80, 81, 82, 83, 84, 85, 86, 87, 88, 89, 90, 91, 92, 93, 94, 95, 96, 97, 98, 99, 100, 101, 102, 103, 104, 105, 106, 107, 108, 109, 110, 111, 112, 113, 114, 115, 116, 117, 118, 119, 120, 121, 122, 123, 124, 125, 126, 127, 128, 129, 130, 131, 132, 133, 134, 135, 136, 137, 138, 139, 140, 141, 142, 143, 144, 145, 146, 147, 148, 149, 150, 151, 152, 153, 154, 155, 156, 157, 158, 408, 409, 410, 411, 412, 413, 414, 415, 416, 417, 418, 419, 420, 421, 422, 423, 424, 425, 426, 427, 428, 429, 430, 431, 432, 433, 434, 435, 436, 437, 438, 439, 440, 441, 442, 443, 444, 445, 446, 447, 448, 449, 450, 451] (by decide +kernel) (by decide +kernel)) (goodIn_sub (fun _ h => List.mem_cons_of_mem _ (List.mem_append_left _ (List.mem_append_left _ (List.mem_append_right _ h)))) (by decide +kernel))) (goodIn_sub (fun _ h => List.mem_cons_of_mem _ (List.mem_append_left _ (List.mem_append_right _ h))) (by decide +kernel))) (goodIn_sub (fun _ h => List.mem_cons_of_mem _ (List.mem_append_right _ h)) (by decide +kernel))
set_option maxRecDepth 20000 in
theorem gL_act_L_machine : GoodIn wsL_act (va_wsS RL 90 yL_machine wsL_machine) := goodIn_app (goodIn_of _ (by decide +kernel)) ggL_act_L_machine
set_option maxRecDepth 20000 in
theorem ggL_act_X8_slot : GoodIn wsL_act wsX8_slot := goodIn_r _ [162, 16, 39, 408, 409, 410, 411, 412, 413, 414, 415, 416, 417] (by decide +kernel) (by decide +kernel)
set_option maxRecDepth 20000 in
theorem gL_act_X8_slot : GoodIn wsL_act (wsV RL 86 RX8 yX8_slot wsX8_slot) := goodIn_app (goodIn_of _ (by decide +kernel)) ggL_act_X8_slot
set_option maxRecDepth 20000 in
theorem ggL_act_L_meeting : GoodIn wsL_act wsL_meeting := goodIn_ca (goodIn_ca (goodIn_ca (goodIn_r _ [165, 5, 6, 7, 8, 9, 10, 166, 167, 168, 14, 169, 16, 39, 170, 171, 172, 173, 174, 175, 22, 23, 17, 176, 98, 99, 65, 100, 67, 24, 25, 26, 27, 28, 177, 178, 179, 180, 181, 182, 29, 30, 31, 32, 33, 183, 184, 185, 55, 186, 60, 58, 57, 187, 188, 189, 117, 190, 119, 124, 121, 122, 120, 191, 192, 193, 194, 195, 76, 196, 197, 198, 199, 200, 78, 201, 202, 203, 204, 123, 205, 206, 207, 208, 96, 61, 209, 210, 97, 211, 110, 111, 104, 112, 113, 212, 213, 214, 215, 70, 71, 216, 34, 35, 36, 37, 38, 40, 41, 42, 43, 44, 45, 46, 47, 48, 49, 50, 51, 52, 53, 54, 56, 59, 62, 63, 64, 66, 68, 69, 72, 73, 74, 75, 77, 79, 80, 81, 82, 83, 84, 85, 86, 87, 88, 89, 90, 91, 92, 93, 94, 95, 101, 102, 103, 105, 106, 107, 108, 109, 114, 115, 116, 118, 125, 126, 127, 128, 129, 130, 131, 132, 133, 134, 135, 136, 137, 138, 139, 140, 141, 142, 143, 144, 145, 146, 147, 148, 149, 150, 151, 152, 153, 154, 155, 156, 157, 158, 408, 409, 410, 411, 412, 413, 414, 415, 416, 417, 445, 446, 447, 448, 449, 450, 451, 418, 419, 420, 421, 422, 423, 431, 437, 438, 439, 440, 441, 442, 443, 444, 424, 425, 426, 427, 428, 429, 430, 432, 433, 434, 435, 436] (by decide +kernel) (by decide +kernel)) (goodIn_sub (fun _ h => List.mem_cons_of_mem _ (List.mem_append_left _ (List.mem_append_left _ (List.mem_append_right _ h)))) (by decide +kernel))) (goodIn_sub (fun _ h => List.mem_cons_of_mem _ (List.mem_append_left _ (List.mem_append_right _ h))) (by decide +kernel))) (goodIn_sub (fun _ h => List.mem_cons_of_mem _ (List.mem_append_right _ h)) (by decide +kernel))
set_option maxRecDepth 20000 in
theorem gL_act_L_meeting : GoodIn wsL_act (va_wsS RL 103 yL_meeting wsL_meeting) := goodIn_app (goodIn_of _ (by decide +kernel)) ggL_act_L_meeting
set_option maxRecDepth 20000 in
theorem ggL_act_L_move : GoodIn wsL_act wsL_move := goodIn_ca (goodIn_ca (goodIn_ca (goodIn_r _ [219, 5, 6, 7, 8, 9, 10, 220, 221, 222, 14, 223, 16, 39, 170, 224, 225, 226, 227, 228, 22, 23, 229, 131, 132, 117, 133, 119, 24, 25, 26, 27, 28, 177, 178, 179, 180, 181, 182, 230, 231, 232, 55, 233, 60, 234, 235, 94, 236, 29, 30, 31, 32, 33, 237, 238, 239, 240, 241, 242, 243, 244, 184, 185, 186, 58, 57, 187, 188, 189, 190, 124, 121, 122, 120, 191, 192, 193, 194, 195, 76, 196, 197, 198, 199, 200, 78, 201, 202, 203, 204, 123, 205, 206, 207, 208, 96, 61, 209, 210, 97, 98, 99, 65, 100, 67, 211, 110, 111, 104, 112, 113, 212, 213, 214, 215, 70, 71, 216, 34, 35, 36, 37, 38, 40, 41, 42, 43, 44, 45, 46, 47, 48, 49, 50, 51, 52, 53, 54, 56, 59, 62, 63, 64, 66, 68, 69, 72, 73, 74, 75, 77, 79, 80, 81, 82, 83, 84, 85, 86, 87, 88, 89, 90, 91, 92, 93, 95, 101, 102, 103, 105, 106, 107, 108, 109, 114, 115, 116, 118, 125, 126, 127, 128, 129, 130, 134, 135, 136, 137, 138, 139, 140, 141, 142, 143, 144, 145, 146, 147, 148, 149, 150, 151, 152, 153, 154, 155, 156, 157, 158, 408, 409, 410, 411, 412, 413, 414, 415, 416, 417, 445, 446, 447, 448, 449, 450, 451, 431, 418, 419, 420, 421, 422, 423, 437, 438, 439, 440, 441, 442, 443, 444, 424, 425, 426, 427, 428, 429, 430, 432, 433, 434, 435, 436] (by decide +kernel) (by decide +kernel)) (goodIn_sub (fun _ h => List.mem_cons_of_mem _ (List.mem_append_left _ (List.mem_append_left _ (List.mem_append_right _ h)))) (by decide +kernel))) (goodIn_sub (fun _ h => List.mem_cons_of_mem _ (List.mem_append_left _ (List.mem_append_right _ h))) (by decide +kernel))) (goodIn_sub (fun _ h => List.mem_cons_of_mem _ (List.mem_append_right _ h)) (by decide +kernel))
set_option maxRecDepth 20000 in
theorem gL_act_L_move : GoodIn wsL_act (va_wsS RL 105 yL_move wsL_move) := goodIn_app (goodIn_of _ (by decide +kernel)) ggL_act_L_move
set_option maxRecDepth 20000 in
theorem ggL_act_L_cancel : GoodIn wsL_act wsL_cancel := goodIn_ca (goodIn_ca (goodIn_r _ [247, 5, 7, 8, 10, 248, 249, 250, 14, 251, 16, 225, 226, 227, 228, 22, 23, 170, 229, 131, 132, 117, 133, 119, 230, 231, 232, 55, 233, 60, 234, 235, 94, 236, 29, 30, 31, 32, 33, 34, 35, 36, 37, 38, 39, 40, 41, 42, 43, 44, 45, 46, 47, 48, 49, 50, 51, 52, 53, 54, 56, 57, 58, 59, 61, 62, 63, 64, 65, 66, 67, 68, 69, 70, 71, 72, 73, 74, 75, 76, 77, 78, 79, 80, 81, 82, 83, 84, 85, 86, 87, 88, 89, 90, 91, 92, 93, 95, 96, 97, 98, 99, 100, 101, 102, 103, 104, 105, 106, 107, 108, 109, 110, 111, 112, 113, 114, 115, 116, 118, 120, 121, 122, 123, 124, 125, 126, 127, 128, 129, 130, 134, 135, 136, 137, 138, 139, 140, 141, 142, 143, 144, 145, 146, 147, 148, 149, 150, 151, 152, 153, 154, 155, 156, 157, 158, 408, 409, 410, 411, 412, 413, 414, 415, 416, 417, 445, 446, 447, 448, 449, 450, 451, 424, 425, 426, 427, 428, 429, 430, 418, 419, 420, 421, 422, 423, 431, 432, 433, 434, 435, 436, 437, 438, 439, 440, 441, 442, 443, 444] (by decide +kernel) (by decide +kernel)) (goodIn_sub (fun _ h => List.mem_cons_of_mem _ (List.mem_append_left _ (List.mem_append_left _ (List.mem_append_right _ h)))) (by decide +kernel))) (goodIn_sub (fun _ h => List.mem_cons_of_mem _ (List.mem_append_right _ h)) (by decide +kernel))
set_option maxRecDepth 20000 in
theorem gL_act_L_cancel : GoodIn wsL_act (va_wsS RL 107 yL_cancel wsL_cancel) := goodIn_app (goodIn_of _ (by decide +kernel)) ggL_act_L_cancel
set_option maxRecDepth 20000 in
theorem ggL_act_L_breakDown : GoodIn wsL_act wsL_breakDown := goodIn_ca (goodIn_ca (goodIn_r _ [254, 5, 6, 8, 9, 255, 256, 257, 14, 258, 16, 17, 259, 172, 173, 174, 175, 22, 23, 176, 98, 99, 65, 100, 67, 24, 25, 26, 27, 28, 34, 35, 36, 37, 38, 39, 40, 41, 42, 43, 44, 45, 46, 47, 48, 49, 50, 51, 52, 53, 54, 55, 56, 57, 58, 59, 60, 61, 62, 63, 64, 66, 68, 69, 70, 71, 72, 73, 74, 75, 76, 77, 78, 79, 80, 81, 82, 83, 84, 85, 86, 87, 88, 89, 90, 91, 92, 93, 94, 95, 96, 97, 101, 102, 103, 104, 105, 106, 107, 108, 109, 110, 111, 112, 113, 114, 115, 116, 117, 118, 119, 120, 121, 122, 123, 124, 125, 126, 127, 128, 129, 130, 131, 132, 133, 134, 135, 136, 137, 138, 139, 140, 141, 142, 143, 144, 145, 146, 147, 148, 149, 150, 151, 152, 153, 154, 155, 156, 157, 158, 408, 409, 410, 411, 412, 413, 414, 415, 416, 417, 418, 419, 420, 421, 422, 423, 424, 425, 426, 427, 428, 429, 430, 431, 432, 433, 434, 435, 436, 437, 438, 439, 440, 441, 442, 443, 444, 445, 446, 447, 448, 449, 450, 451] (by decide +kernel) (by decide +kernel)) (goodIn_sub (fun _ h => List.mem_cons_of_mem _ (List.mem_append_left _ (List.mem_append_left _ (List.mem_append_right _ h)))) (by decide +kernel))) (goodIn_sub (fun _ h => List.mem_cons_of_mem _ (List.mem_append_left _ (List.mem_append_right _ h))) (by decide +kernel))
set_option maxRecDepth 20000 in
theorem gL_act_L_breakDown : GoodIn wsL_act (va_wsS RL 101 yL_breakDown wsL_breakDown) := goodIn_app (goodIn_of _ (by decide +kernel)) ggL_act_L_breakDown
set_option maxRecDepth 20000 in
theorem ggL_act_L_swap : GoodIn wsL_act wsL_swap := goodIn_ca (goodIn_ca (goodIn_ca (goodIn_r _ [262, 5, 6, 7, 8, 9, 10, 263, 264, 265, 14, 266, 27, 28, 16, 267, 268, 170, 269, 225, 226, 227, 228, 22, 23, 229, 131, 132, 117, 133, 119, 230, 231, 232, 55, 233, 60, 234, 235, 94, 236, 29, 30, 31, 32, 33, 270, 271, 272, 273, 274, 275, 276, 277, 278, 279, 280, 281, 408, 409, 410, 411, 452, 453, 454, 455, 456, 457, 458, 412, 413, 414, 415, 416, 417, 445, 446, 447, 448, 449, 450, 451] (by decide +kernel) (by decide +kernel)) (goodIn_sub (fun _ h => List.mem_cons_of_mem _ (List.mem_append_left _ (List.mem_append_right _ h))) (by decide +kernel))) (goodIn_sub (fun _ h => List.mem_cons_of_mem _ (List.mem_append_left _ (List.mem_append_left _ (List.mem_append_right _ h)))) (by decide +kernel))) (goodIn_sub (fun _ h => List.mem_cons_of_mem _ (List.mem_append_right _ h)) (by decide +kernel))
set_option maxRecDepth 20000 in
theorem gL_act_L_swap : GoodIn wsL_act (va_wsS RL 110 yL_swap wsL_swap) := goodIn_app (goodIn_of _ (by decide +kernel)) ggL_act_L_swap
set_option maxRecDepth 20000 in
theorem ggL_act_L_agree : GoodIn wsL_act wsL_agree := goodIn_ca (goodIn_ca (goodIn_r _ [284, 5, 7, 8, 10, 285, 286, 287, 14, 288, 267, 289, 16, 170, 290, 291, 292, 19, 20, 21, 22, 23, 293, 294, 295, 296, 268, 29, 30, 31, 32, 33, 297, 298, 299, 117, 300, 120, 130, 131, 132, 133, 119, 301, 302, 303, 304, 305, 306, 307, 269, 308, 309, 230, 231, 232, 55, 233, 60, 234, 235, 94, 236, 310, 311, 312, 313, 314, 315, 316, 317, 318, 143, 144, 145, 121, 319, 238, 239, 240, 241, 242, 243, 181, 182, 244, 184, 185, 186, 58, 57, 187, 188, 189, 190, 124, 122, 191, 192, 193, 194, 195, 76, 196, 197, 198, 199, 200, 78, 201, 202, 203, 204, 123, 205, 206, 207, 208, 96, 61, 209, 210, 97, 98, 99, 65, 100, 67, 211, 110, 111, 104, 112, 113, 212, 213, 214, 215, 70, 71, 216, 34, 35, 36, 37, 38, 39, 40, 41, 42, 43, 44, 45, 46, 47, 48, 49, 50, 51, 52, 53, 54, 56, 59, 62, 63, 64, 66, 68, 69, 72, 73, 74, 75, 77, 79, 80, 81, 82, 83, 84, 85, 86, 87, 88, 89, 90, 91, 92, 93, 95, 101, 102, 103, 105, 106, 107, 108, 109, 114, 115, 116, 118, 125, 126, 127, 128, 129, 134, 135, 136, 137, 138, 139, 140, 141, 142, 146, 147, 148, 149, 150, 151, 152, 153, 154, 155, 156, 157, 158, 408, 409, 410, 411, 452, 453, 454, 455, 456, 457, 458, 412, 413, 414, 415, 416, 417, 445, 446, 447, 448, 449, 450, 451, 431, 418, 419, 420, 421, 422, 423, 437, 438, 439, 440, 441, 442, 443, 444, 424, 425, 426, 427, 428, 429, 430, 432, 433, 434, 435, 436] (by decide +kernel) (by decide +kernel)) (goodIn_sub (fun _ h => List.mem_cons_of_mem _ (List.mem_append_left _ (List.mem_append_left _ (List.mem_append_right _ h)))) (by decide +kernel))) (goodIn_sub (fun _ h => List.mem_cons_of_mem _ (List.mem_append_right _ h)) (by decide +kernel))
set_option maxRecDepth 20000 in
theorem gL_act_L_agree : GoodIn wsL_act (va_wsS RL 112 yL_agree wsL_agree) := goodIn_app (goodIn_of _ (by decide +kernel)) ggL_act_L_agree
set_option maxRecDepth 20000 in
theorem ggL_act_L_leave : GoodIn wsL_act wsL_leave := goodIn_ca (goodIn_ca (goodIn_ca (goodIn_r _ [322, 5, 6, 7, 8, 9, 10, 323, 324, 325, 14, 326, 16, 39, 170, 19, 20, 21, 22, 23, 24, 25, 26, 27, 28, 327, 188, 189, 117, 190, 119, 124, 121, 122, 120, 191, 192, 301, 302, 303, 29, 30, 31, 32, 33, 34, 35, 36, 37, 38, 40, 41, 42, 43, 44, 45, 46, 47, 48, 49, 50, 51, 52, 53, 54, 55, 56, 57, 58, 59, 60, 61, 62, 63, 64, 65, 66, 67, 68, 69, 70, 71, 72, 73, 74, 75, 76, 77, 78, 79, 80, 81, 82, 83, 84, 85, 86, 87, 88, 89, 90, 91, 92, 93, 94, 95, 96, 97, 98, 99, 100, 101, 102, 103, 104, 105, 106, 107, 108, 109, 110, 111, 112, 113, 114, 115, 116, 118, 123, 125, 126, 127, 128, 129, 130, 131, 132, 133, 134, 135, 136, 137, 138, 139, 140, 141, 142, 143, 144, 145, 146, 147, 148, 149, 150, 151, 152, 153, 154, 155, 156, 157, 158, 408, 409, 410, 411, 412, 413, 414, 415, 416, 417, 445, 446, 447, 448, 449, 450, 451, 424, 425, 426, 427, 428, 429, 430, 418, 419, 420, 421, 422, 423, 431, 432, 433, 434, 435, 436, 437, 438, 439, 440, 441, 442, 443, 444] (by decide +kernel) (by decide +kernel)) (goodIn_sub (fun _ h => List.mem_cons_of_mem _ (List.mem_append_left _ (List.mem_append_left _ (List.mem_append_right _ h)))) (by decide +kernel))) (goodIn_sub (fun _ h => List.mem_cons_of_mem _ (List.mem_append_left _ (List.mem_append_right _ h))) (by decide +kernel))) (goodIn_sub (fun _ h => List.mem_cons_of_mem _ (List.mem_append_right _ h)) (by decide +kernel))
set_option maxRecDepth 20000 in
theorem gL_act_L_leave : GoodIn wsL_act (va_wsS RL 95 yL_leave wsL_leave) := goodIn_app (goodIn_of _ (by decide +kernel)) ggL_act_L_leave
set_option maxRecDepth 20000 in
theorem ggL_act_L_lend : GoodIn wsL_act wsL_lend := goodIn_ca (goodIn_ca (goodIn_ca (goodIn_r _ [330, 5, 6, 7, 8, 9, 10, 331, 332, 333, 14, 334, 16, 39, 335, 336, 172, 173, 174, 175, 22, 23, 17, 176, 98, 99, 65, 100, 67, 19, 20, 21, 24, 25, 26, 27, 28, 29, 30, 31, 32, 33, 34, 35, 36, 37, 38, 40, 41, 42, 43, 44, 45, 46, 47, 48, 49, 50, 51, 52, 53, 54, 55, 56, 57, 58, 59, 60, 61, 62, 63, 64, 66, 68, 69, 70, 71, 72, 73, 74, 75, 76, 77, 78, 79, 80, 81, 82, 83, 84, 85, 86, 87, 88, 89, 90, 91, 92, 93, 94, 95, 96, 97, 101, 102, 103, 104, 105, 106, 107, 108, 109, 110, 111, 112, 113, 114, 115, 116, 117, 118, 119, 120, 121, 122, 123, 124, 125, 126, 127, 128, 129, 130, 131, 132, 133, 134, 135, 136, 137, 138, 139, 140, 141, 142, 143, 144, 145, 146, 147, 148, 149, 150, 151, 152, 153, 154, 155, 156, 157, 158, 408, 409, 410, 411, 412, 413, 414, 415, 416, 417, 432, 433, 434, 435, 436, 418, 419, 420, 421, 422, 423, 424, 425, 426, 427, 428, 429, 430, 431, 437, 438, 439, 440, 441, 442, 443, 444, 445, 446, 447, 448, 449, 450, 451] (by decide +kernel) (by decide +kernel)) (goodIn_sub (fun _ h => List.mem_cons_of_mem _ (List.mem_append_left _ (List.mem_append_left _ (List.mem_append_right _ h)))) (by decide +kernel))) (goodIn_sub (fun _ h => List.mem_cons_of_mem _ (List.mem_append_left _ (List.mem_append_right _ h))) (by decide +kernel))) (goodIn_sub (fun _ h => List.mem_cons_of_mem _ (List.mem_append_right _ h)) (by decide +kernel))
set_option maxRecDepth 20000 in
theorem gL_act_L_lend : GoodIn wsL_act (va_wsS RL 98 yL_lend wsL_lend) := goodIn_app (goodIn_of _ (by decide +kernel)) ggL_act_L_lend
set_option maxRecDepth 20000 in
theorem ggL_act_L_build : GoodIn wsL_act wsL_build := goodIn_ca (goodIn_ca (goodIn_r _ [339, 6, 7, 9, 10, 340, 341, 342, 14, 343, 16, 344, 345, 24, 25, 26, 27, 28, 29, 30, 31, 32, 33, 34, 35, 36, 37, 38, 39, 40, 41, 42, 43, 44, 45, 46, 47, 48, 49, 50, 51, 52, 53, 54, 55, 56, 57, 58, 59, 60, 61, 62, 63, 64, 65, 66, 67, 68, 69, 70, 71, 72, 73, 74, 75, 76, 77, 78, 79, 80, 81, 82, 83, 84, 85, 86, 87, 88, 89, 90, 91, 92, 93, 94, 95, 96, 97, 98, 99, 100, 101, 102, 103, 104, 105, 106, 107, 108, 109, 110, 111, 112, 113, 114, 115, 116, 117, 118, 119, 120, 121, 122, 123, 124, 125, 126, 127, 128, 129, 130, 131, 132, 133, 134, 135, 136, 137, 138, 139, 140, 141, 142, 143, 144, 145, 146, 147, 148, 149, 150, 151, 152, 153, 154, 155, 156, 157, 158, 408, 409, 410, 411, 412, 413, 414, 415, 416, 417, 437, 438, 439, 440, 441, 442, 443, 444, 424, 425, 426, 427, 428, 429, 430, 418, 419, 420, 421, 422, 423, 431, 432, 433, 434, 435, 436, 445, 446, 447, 448, 449, 450, 451] (by decide +kernel) (by decide +kernel)) (goodIn_sub (fun _ h => List.mem_cons_of_mem _ (List.mem_append_left _ (List.mem_append_right _ h))) (by decide +kernel))) (goodIn_sub (fun _ h => List.mem_cons_of_mem _ (List.mem_append_right _ h)) (by decide +kernel))
set_option maxRecDepth 20000 in
theorem gL_act_L_build : GoodIn wsL_act (va_wsS RL 114 yL_build wsL_build) := goodIn_app (goodIn_of _ (by decide +kernel)) ggL_act_L_build
set_option maxRecDepth 20000 in
theorem ggL_act_L_urge : GoodIn wsL_act wsL_urge := goodIn_ca (goodIn_ca (goodIn_ca (goodIn_r _ [348, 5, 6, 7, 8, 9, 10, 349, 350, 351, 14, 352, 16, 344, 353, 354, 355, 356, 357, 358, 22, 23, 359, 110, 111, 104, 112, 113, 24, 25, 26, 27, 28, 29, 30, 31, 32, 33, 34, 35, 36, 37, 38, 39, 40, 41, 42, 43, 44, 45, 46, 47, 48, 49, 50, 51, 52, 53, 54, 55, 56, 57, 58, 59, 60, 61, 62, 63, 64, 65, 66, 67, 68, 69, 70, 71, 72, 73, 74, 75, 76, 77, 78, 79, 80, 81, 82, 83, 84, 85, 86, 87, 88, 89, 90, 91, 92, 93, 94, 95, 96, 97, 98, 99, 100, 101, 102, 103, 105, 106, 107, 108, 109, 114, 115, 116, 117, 118, 119, 120, 121, 122, 123, 124, 125, 126, 127, 128, 129, 130, 131, 132, 133, 134, 135, 136, 137, 138, 139, 140, 141, 142, 143, 144, 145, 146, 147, 148, 149, 150, 151, 152, 153, 154, 155, 156, 157, 158, 408, 409, 410, 411, 412, 413, 414, 415, 416, 417, 437, 438, 439, 440, 441, 442, 443, 444, 424, 425, 426, 427, 428, 429, 430, 418, 419, 420, 421, 422, 423, 431, 432, 433, 434, 435, 436, 445, 446, 447, 448, 449, 450, 451] (by decide +kernel) (by decide +kernel)) (goodIn_sub (fun _ h => List.mem_cons_of_mem _ (List.mem_append_left _ (List.mem_append_left _ (List.mem_append_right _ h)))) (by decide +kernel))) (goodIn_sub (fun _ h => List.mem_cons_of_mem _ (List.mem_append_left _ (List.mem_append_right _ h))) (by decide +kernel))) (goodIn_sub (fun _ h => List.mem_cons_of_mem _ (List.mem_append_right _ h)) (by decide +kernel))
set_option maxRecDepth 20000 in
theorem gL_act_L_urge : GoodIn wsL_act (va_wsS RL 116 yL_urge wsL_urge) := goodIn_app (goodIn_of _ (by decide +kernel)) ggL_act_L_urge
set_option maxRecDepth 20000 in
theorem ggL_act_L_pass : GoodIn wsL_act wsL_pass := goodIn_ca (goodIn_ca (goodIn_r _ [362, 6, 7, 9, 10, 363, 364, 365, 14, 366, 16, 39, 24, 25, 26, 27, 28, 29, 30, 31, 32, 33, 367, 368, 369, 55, 370, 94, 57, 371, 372, 373, 374, 375, 96, 376, 61, 97, 98, 99, 65, 100, 67, 377, 378, 379, 104, 380, 113, 106, 150, 152, 151, 381, 382, 383, 384, 58, 60, 212, 213, 214, 215, 70, 71, 216, 191, 192, 385, 386, 387, 388, 59, 389, 390, 391, 392, 82, 393, 84, 85, 87, 88, 86, 394, 198, 199, 76, 200, 78, 201, 202, 203, 117, 204, 119, 123, 124, 121, 122, 395, 396, 397, 398, 107, 108, 153, 109, 110, 111, 112, 399, 400, 401, 402, 209, 210, 403, 211, 404, 405, 406, 407, 408, 409, 410, 411, 412, 413, 414, 415, 416, 417, 418, 419, 420, 421, 422, 423, 437, 438, 439, 440, 441, 442, 443, 444, 432, 433, 434, 435, 436, 431, 445, 446, 447, 448, 449, 450, 451] (by decide +kernel) (by decide +kernel)) (goodIn_sub (fun _ h => List.mem_cons_of_mem _ (List.mem_append_left _ (List.mem_append_right _ h))) (by decide +kernel))) (goodIn_sub (fun _ h => List.mem_cons_of_mem _ (List.mem_append_right _ h)) (by decide +kernel))
set_option maxRecDepth 20000 in
theorem gL_act_L_pass : GoodIn wsL_act (va_wsS RL 118 yL_pass wsL_pass) := goodIn_app (goodIn_of _ (by decide +kernel)) ggL_act_L_pass
theorem dL_act_0 : decode cL_act 0 = .ok (.iload_n 2, 1) := by decide +kernel
theorem dL_act_1 : decode cL_act 1 = .ok (.bipush 20, 2) := by decide +kernel
theorem dL_act_3 : decode cL_act 3 = .ok (.idiv, 1) := by decide +kernel
theorem dL_act_4 : decode cL_act 4 = .ok (.istore_n 3, 1) := by decide +kernel
theorem dL_act_5 : decode cL_act 5 = .ok (.aload_n 1, 1) := by decide +kernel
theorem dL_act_6 : decode cL_act 6 = .ok (.iconst 0, 1) := by decide +kernel
theorem dL_act_7 : decode cL_act 7 = .ok (.iaload, 1) := by decide +kernel
theorem dL_act_8 : decode cL_act 8 = .ok (.ifCond .ne 7, 3) := by decide +kernel
theorem dL_act_11 : decode cL_act 11 = .ok (.iconst 0, 1) := by decide +kernel
theorem dL_act_12 : decode cL_act 12 = .ok (.goto 8, 3) := by decide +kernel
theorem dL_act_15 : decode cL_act 15 = .ok (.iload_n 3, 1) := by decide +kernel
theorem dL_act_16 : decode cL_act 16 = .ok (.aload_n 1, 1) := by decide +kernel
theorem dL_act_17 : decode cL_act 17 = .ok (.iconst 0, 1) := by decide +kernel
theorem dL_act_18 : decode cL_act 18 = .ok (.iaload, 1) := by decide +kernel
theorem dL_act_19 : decode cL_act 19 = .ok (.irem, 1) := by decide +kernel
theorem dL_act_20 : decode cL_act 20 = .ok (.istore 4, 2) := by decide +kernel
theorem dL_act_22 : decode cL_act 22 = .ok (.aload_n 1, 1) := by decide +kernel
theorem dL_act_23 : decode cL_act 23 = .ok (.iconst 1, 1) := by decide +kernel
theorem dL_act_24 : decode cL_act 24 = .ok (.iaload, 1) := by decide +kernel
theorem dL_act_25 : decode cL_act 25 = .ok (.ifCond .ne 7, 3) := by decide +kernel
theorem dL_act_28 : decode cL_act 28 = .ok (.iconst 0, 1) := by decide +kernel
theorem dL_act_29 : decode cL_act 29 = .ok (.goto 25, 3) := by decide +kernel
theorem dL_act_32 : decode cL_act 32 = .ok (.aload_n 1, 1) := by decide +kernel
theorem dL_act_33 : decode cL_act 33 = .ok (.iconst 1, 1) := by decide +kernel
theorem dL_act_34 : decode cL_act 34 = .ok (.iaload, 1) := by decide +kernel
theorem dL_act_35 : decode cL_act 35 = .ok (.iconst 1, 1) := by decide +kernel
theorem dL_act_36 : decode cL_act 36 = .ok (.isub, 1) := by decide +kernel
theorem dL_act_37 : decode cL_act 37 = .ok (.iload_n 3, 1) := by decide +kernel
theorem dL_act_38 : decode cL_act 38 = .ok (.aload_n 1, 1) := by decide +kernel
theorem dL_act_39 : decode cL_act 39 = .ok (.iconst 1, 1) := by decide +kernel
theorem dL_act_40 : decode cL_act 40 = .ok (.iaload, 1) := by decide +kernel
theorem dL_act_41 : decode cL_act 41 = .ok (.iconst 4, 1) := by decide +kernel
theorem dL_act_42 : decode cL_act 42 = .ok (.if_icmp .le 7, 3) := by decide +kernel
theorem dL_act_45 : decode cL_act 45 = .ok (.iconst 4, 1) := by decide +kernel
theorem dL_act_46 : decode cL_act 46 = .ok (.goto 6, 3) := by decide +kernel
theorem dL_act_49 : decode cL_act 49 = .ok (.aload_n 1, 1) := by decide +kernel
theorem dL_act_50 : decode cL_act 50 = .ok (.iconst 1, 1) := by decide +kernel
theorem dL_act_51 : decode cL_act 51 = .ok (.iaload, 1) := by decide +kernel
theorem dL_act_52 : decode cL_act 52 = .ok (.irem, 1) := by decide +kernel
theorem dL_act_53 : decode cL_act 53 = .ok (.isub, 1) := by decide +kernel
theorem dL_act_54 : decode cL_act 54 = .ok (.istore 5, 2) := by decide +kernel
theorem dL_act_56 : decode cL_act 56 = .ok (.iload_n 2, 1) := by decide +kernel
theorem dL_act_57 : decode cL_act 57 = .ok (.bipush 20, 2) := by decide +kernel
theorem dL_act_59 : decode cL_act 59 = .ok (.irem, 1) := by decide +kernel
theorem dL_act_60 : decode cL_act 60 = .ok (.tableswitch 419 0 15 #[80, 98, 98, 98, 151, 151, 169, 197, 221, 221, 221, 265, 354, 354, 354, 392], 80) := by decide +kernel
theorem dL_act_140 : decode cL_act 140 = .ok (.aload_n 0, 1) := by decide +kernel
theorem dL_act_141 : decode cL_act 141 = .ok (.iconst 1, 1) := by decide +kernel
theorem dL_act_142 : decode cL_act 142 = .ok (.iload_n 3, 1) := by decide +kernel
theorem dL_act_143 : decode cL_act 143 = .ok (.bipush 15, 2) := by decide +kernel
theorem dL_act_145 : decode cL_act 145 = .ok (.irem, 1) := by decide +kernel
theorem dL_act_146 : decode cL_act 146 = .ok (.iadd, 1) := by decide +kernel
theorem dL_act_147 : decode cL_act 147 = .ok (.iload_n 3, 1) := by decide +kernel
theorem dL_act_148 : decode cL_act 148 = .ok (.bipush 15, 2) := by decide +kernel
theorem dL_act_150 : decode cL_act 150 = .ok (.idiv, 1) := by decide +kernel
theorem dL_act_151 : decode cL_act 151 = .ok (.bipush 6, 2) := by decide +kernel
theorem dL_act_153 : decode cL_act 153 = .ok (.irem, 1) := by decide +kernel
theorem dL_act_154 : decode cL_act 154 = .ok (.invokestatic 90, 3) := by decide +kernel
theorem dL_act_157 : decode cL_act 157 = .ok (.ireturn, 1) := by decide +kernel
theorem dL_act_158 : decode cL_act 158 = .ok (.aload_n 0, 1) := by decide +kernel
theorem dL_act_159 : decode cL_act 159 = .ok (.iconst 1, 1) := by decide +kernel
theorem dL_act_160 : decode cL_act 160 = .ok (.iload_n 3, 1) := by decide +kernel
theorem dL_act_161 : decode cL_act 161 = .ok (.bipush 80, 2) := by decide +kernel
theorem dL_act_163 : decode cL_act 163 = .ok (.idiv, 1) := by decide +kernel
theorem dL_act_164 : decode cL_act 164 = .ok (.bipush 63, 2) := by decide +kernel
theorem dL_act_166 : decode cL_act 166 = .ok (.irem, 1) := by decide +kernel
theorem dL_act_167 : decode cL_act 167 = .ok (.iadd, 1) := by decide +kernel
theorem dL_act_168 : decode cL_act 168 = .ok (.aload_n 0, 1) := by decide +kernel
theorem dL_act_169 : decode cL_act 169 = .ok (.invokevirtual 86, 3) := by decide +kernel
theorem dL_act_172 : decode cL_act 172 = .ok (.iload_n 3, 1) := by decide +kernel
theorem dL_act_173 : decode cL_act 173 = .ok (.bipush 24, 2) := by decide +kernel
theorem dL_act_175 : decode cL_act 175 = .ok (.irem, 1) := by decide +kernel
theorem dL_act_176 : decode cL_act 176 = .ok (.iadd, 1) := by decide +kernel
theorem dL_act_177 : decode cL_act 177 = .ok (.iconst 1, 1) := by decide +kernel
theorem dL_act_178 : decode cL_act 178 = .ok (.iload_n 3, 1) := by decide +kernel
theorem dL_act_179 : decode cL_act 179 = .ok (.bipush 24, 2) := by decide +kernel
theorem dL_act_181 : decode cL_act 181 = .ok (.idiv, 1) := by decide +kernel
theorem dL_act_182 : decode cL_act 182 = .ok (.iconst 3, 1) := by decide +kernel
theorem dL_act_183 : decode cL_act 183 = .ok (.irem, 1) := by decide +kernel
theorem dL_act_184 : decode cL_act 184 = .ok (.iadd, 1) := by decide +kernel
theorem dL_act_185 : decode cL_act 185 = .ok (.aload_n 1, 1) := by decide +kernel
theorem dL_act_186 : decode cL_act 186 = .ok (.iconst 0, 1) := by decide +kernel
theorem dL_act_187 : decode cL_act 187 = .ok (.iaload, 1) := by decide +kernel
theorem dL_act_188 : decode cL_act 188 = .ok (.ifCond .ne 7, 3) := by decide +kernel
theorem dL_act_191 : decode cL_act 191 = .ok (.iconst (-1), 1) := by decide +kernel
theorem dL_act_192 : decode cL_act 192 = .ok (.goto 15, 3) := by decide +kernel
theorem dL_act_195 : decode cL_act 195 = .ok (.iload_n 3, 1) := by decide +kernel
theorem dL_act_196 : decode cL_act 196 = .ok (.bipush 72, 2) := by decide +kernel
theorem dL_act_198 : decode cL_act 198 = .ok (.idiv, 1) := by decide +kernel
theorem dL_act_199 : decode cL_act 199 = .ok (.aload_n 1, 1) := by decide +kernel
theorem dL_act_200 : decode cL_act 200 = .ok (.iconst 0, 1) := by decide +kernel
theorem dL_act_201 : decode cL_act 201 = .ok (.iaload, 1) := by decide +kernel
theorem dL_act_202 : decode cL_act 202 = .ok (.iconst 1, 1) := by decide +kernel
theorem dL_act_203 : decode cL_act 203 = .ok (.iadd, 1) := by decide +kernel
theorem dL_act_204 : decode cL_act 204 = .ok (.irem, 1) := by decide +kernel
theorem dL_act_205 : decode cL_act 205 = .ok (.iconst 1, 1) := by decide +kernel
theorem dL_act_206 : decode cL_act 206 = .ok (.isub, 1) := by decide +kernel
theorem dL_act_207 : decode cL_act 207 = .ok (.invokestatic 103, 3) := by decide +kernel
theorem dL_act_210 : decode cL_act 210 = .ok (.ireturn, 1) := by decide +kernel
theorem dL_act_211 : decode cL_act 211 = .ok (.aload_n 0, 1) := by decide +kernel
theorem dL_act_212 : decode cL_act 212 = .ok (.iload 5, 2) := by decide +kernel
theorem dL_act_214 : decode cL_act 214 = .ok (.aload_n 0, 1) := by decide +kernel
theorem dL_act_215 : decode cL_act 215 = .ok (.invokevirtual 86, 3) := by decide +kernel
theorem dL_act_218 : decode cL_act 218 = .ok (.iload_n 3, 1) := by decide +kernel
theorem dL_act_219 : decode cL_act 219 = .ok (.iconst 4, 1) := by decide +kernel
theorem dL_act_220 : decode cL_act 220 = .ok (.idiv, 1) := by decide +kernel
theorem dL_act_221 : decode cL_act 221 = .ok (.bipush 24, 2) := by decide +kernel
theorem dL_act_223 : decode cL_act 223 = .ok (.irem, 1) := by decide +kernel
theorem dL_act_224 : decode cL_act 224 = .ok (.iadd, 1) := by decide +kernel
theorem dL_act_225 : decode cL_act 225 = .ok (.invokestatic 105, 3) := by decide +kernel
theorem dL_act_228 : decode cL_act 228 = .ok (.ireturn, 1) := by decide +kernel
theorem dL_act_229 : decode cL_act 229 = .ok (.iload_n 3, 1) := by decide +kernel
theorem dL_act_230 : decode cL_act 230 = .ok (.iconst 4, 1) := by decide +kernel
theorem dL_act_231 : decode cL_act 231 = .ok (.irem, 1) := by decide +kernel
theorem dL_act_232 : decode cL_act 232 = .ok (.ifCond .ne 12, 3) := by decide +kernel
theorem dL_act_235 : decode cL_act 235 = .ok (.aload_n 0, 1) := by decide +kernel
theorem dL_act_236 : decode cL_act 236 = .ok (.iload 5, 2) := by decide +kernel
theorem dL_act_238 : decode cL_act 238 = .ok (.invokestatic 107, 3) := by decide +kernel
theorem dL_act_241 : decode cL_act 241 = .ok (.goto 15, 3) := by decide +kernel
theorem dL_act_244 : decode cL_act 244 = .ok (.aload_n 0, 1) := by decide +kernel
theorem dL_act_245 : decode cL_act 245 = .ok (.iload 4, 2) := by decide +kernel
theorem dL_act_247 : decode cL_act 247 = .ok (.iload_n 3, 1) := by decide +kernel
theorem dL_act_248 : decode cL_act 248 = .ok (.iconst 4, 1) := by decide +kernel
theorem dL_act_249 : decode cL_act 249 = .ok (.idiv, 1) := by decide +kernel
theorem dL_act_250 : decode cL_act 250 = .ok (.bipush 10, 2) := by decide +kernel
theorem dL_act_252 : decode cL_act 252 = .ok (.irem, 1) := by decide +kernel
theorem dL_act_253 : decode cL_act 253 = .ok (.invokestatic 101, 3) := by decide +kernel
theorem dL_act_256 : decode cL_act 256 = .ok (.ireturn, 1) := by decide +kernel
theorem dL_act_257 : decode cL_act 257 = .ok (.aload_n 0, 1) := by decide +kernel
theorem dL_act_258 : decode cL_act 258 = .ok (.iload 5, 2) := by decide +kernel
theorem dL_act_260 : decode cL_act 260 = .ok (.aload_n 1, 1) := by decide +kernel
theorem dL_act_261 : decode cL_act 261 = .ok (.iconst 1, 1) := by decide +kernel
theorem dL_act_262 : decode cL_act 262 = .ok (.iaload, 1) := by decide +kernel
theorem dL_act_263 : decode cL_act 263 = .ok (.ifCond .ne 7, 3) := by decide +kernel
theorem dL_act_266 : decode cL_act 266 = .ok (.iconst 0, 1) := by decide +kernel
theorem dL_act_267 : decode cL_act 267 = .ok (.goto 10, 3) := by decide +kernel
theorem dL_act_270 : decode cL_act 270 = .ok (.iload_n 3, 1) := by decide +kernel
theorem dL_act_271 : decode cL_act 271 = .ok (.iconst 4, 1) := by decide +kernel
theorem dL_act_272 : decode cL_act 272 = .ok (.idiv, 1) := by decide +kernel
theorem dL_act_273 : decode cL_act 273 = .ok (.aload_n 1, 1) := by decide +kernel
theorem dL_act_274 : decode cL_act 274 = .ok (.iconst 1, 1) := by decide +kernel
theorem dL_act_275 : decode cL_act 275 = .ok (.iaload, 1) := by decide +kernel
theorem dL_act_276 : decode cL_act 276 = .ok (.irem, 1) := by decide +kernel
theorem dL_act_277 : decode cL_act 277 = .ok (.invokestatic 110, 3) := by decide +kernel
theorem dL_act_280 : decode cL_act 280 = .ok (.ireturn, 1) := by decide +kernel
theorem dL_act_281 : decode cL_act 281 = .ok (.aload_n 0, 1) := by decide +kernel
theorem dL_act_282 : decode cL_act 282 = .ok (.iload_n 3, 1) := by decide +kernel
theorem dL_act_283 : decode cL_act 283 = .ok (.bipush 6, 2) := by decide +kernel
theorem dL_act_285 : decode cL_act 285 = .ok (.irem, 1) := by decide +kernel
theorem dL_act_286 : decode cL_act 286 = .ok (.aload_n 1, 1) := by decide +kernel
theorem dL_act_287 : decode cL_act 287 = .ok (.iconst 3, 1) := by decide +kernel
theorem dL_act_288 : decode cL_act 288 = .ok (.iaload, 1) := by decide +kernel
theorem dL_act_289 : decode cL_act 289 = .ok (.ifCond .ne 7, 3) := by decide +kernel
theorem dL_act_292 : decode cL_act 292 = .ok (.iconst 0, 1) := by decide +kernel
theorem dL_act_293 : decode cL_act 293 = .ok (.goto 28, 3) := by decide +kernel
theorem dL_act_296 : decode cL_act 296 = .ok (.aload_n 1, 1) := by decide +kernel
theorem dL_act_297 : decode cL_act 297 = .ok (.iconst 3, 1) := by decide +kernel
theorem dL_act_298 : decode cL_act 298 = .ok (.iaload, 1) := by decide +kernel
theorem dL_act_299 : decode cL_act 299 = .ok (.iconst 1, 1) := by decide +kernel
theorem dL_act_300 : decode cL_act 300 = .ok (.isub, 1) := by decide +kernel
theorem dL_act_301 : decode cL_act 301 = .ok (.iload_n 3, 1) := by decide +kernel
theorem dL_act_302 : decode cL_act 302 = .ok (.bipush 6, 2) := by decide +kernel
theorem dL_act_304 : decode cL_act 304 = .ok (.idiv, 1) := by decide +kernel
theorem dL_act_305 : decode cL_act 305 = .ok (.aload_n 1, 1) := by decide +kernel
theorem dL_act_306 : decode cL_act 306 = .ok (.iconst 3, 1) := by decide +kernel
theorem dL_act_307 : decode cL_act 307 = .ok (.iaload, 1) := by decide +kernel
theorem dL_act_308 : decode cL_act 308 = .ok (.iconst 2, 1) := by decide +kernel
theorem dL_act_309 : decode cL_act 309 = .ok (.if_icmp .le 7, 3) := by decide +kernel
theorem dL_act_312 : decode cL_act 312 = .ok (.iconst 2, 1) := by decide +kernel
theorem dL_act_313 : decode cL_act 313 = .ok (.goto 6, 3) := by decide +kernel
theorem dL_act_316 : decode cL_act 316 = .ok (.aload_n 1, 1) := by decide +kernel
theorem dL_act_317 : decode cL_act 317 = .ok (.iconst 3, 1) := by decide +kernel
theorem dL_act_318 : decode cL_act 318 = .ok (.iaload, 1) := by decide +kernel
theorem dL_act_319 : decode cL_act 319 = .ok (.irem, 1) := by decide +kernel
theorem dL_act_320 : decode cL_act 320 = .ok (.isub, 1) := by decide +kernel
theorem dL_act_321 : decode cL_act 321 = .ok (.invokestatic 112, 3) := by decide +kernel
theorem dL_act_324 : decode cL_act 324 = .ok (.ireturn, 1) := by decide +kernel
theorem dL_act_325 : decode cL_act 325 = .ok (.iload_n 3, 1) := by decide +kernel
theorem dL_act_326 : decode cL_act 326 = .ok (.iconst 2, 1) := by decide +kernel
theorem dL_act_327 : decode cL_act 327 = .ok (.irem, 1) := by decide +kernel
theorem dL_act_328 : decode cL_act 328 = .ok (.ifCond .ne 46, 3) := by decide +kernel
theorem dL_act_331 : decode cL_act 331 = .ok (.aload_n 0, 1) := by decide +kernel
theorem dL_act_332 : decode cL_act 332 = .ok (.iload_n 3, 1) := by decide +kernel
theorem dL_act_333 : decode cL_act 333 = .ok (.iconst 2, 1) := by decide +kernel
theorem dL_act_334 : decode cL_act 334 = .ok (.idiv, 1) := by decide +kernel
theorem dL_act_335 : decode cL_act 335 = .ok (.bipush 6, 2) := by decide +kernel
theorem dL_act_337 : decode cL_act 337 = .ok (.irem, 1) := by decide +kernel
theorem dL_act_338 : decode cL_act 338 = .ok (.aload_n 0, 1) := by decide +kernel
theorem dL_act_339 : decode cL_act 339 = .ok (.invokevirtual 86, 3) := by decide +kernel
theorem dL_act_342 : decode cL_act 342 = .ok (.bipush 8, 2) := by decide +kernel
theorem dL_act_344 : decode cL_act 344 = .ok (.idiv, 1) := by decide +kernel
theorem dL_act_345 : decode cL_act 345 = .ok (.iload_n 3, 1) := by decide +kernel
theorem dL_act_346 : decode cL_act 346 = .ok (.bipush 12, 2) := by decide +kernel
theorem dL_act_348 : decode cL_act 348 = .ok (.idiv, 1) := by decide +kernel
theorem dL_act_349 : decode cL_act 349 = .ok (.iconst 3, 1) := by decide +kernel
theorem dL_act_350 : decode cL_act 350 = .ok (.irem, 1) := by decide +kernel
theorem dL_act_351 : decode cL_act 351 = .ok (.iadd, 1) := by decide +kernel
theorem dL_act_352 : decode cL_act 352 = .ok (.aload_n 0, 1) := by decide +kernel
theorem dL_act_353 : decode cL_act 353 = .ok (.invokevirtual 86, 3) := by decide +kernel
theorem dL_act_356 : decode cL_act 356 = .ok (.bipush 8, 2) := by decide +kernel
theorem dL_act_358 : decode cL_act 358 = .ok (.idiv, 1) := by decide +kernel
theorem dL_act_359 : decode cL_act 359 = .ok (.iconst 2, 1) := by decide +kernel
theorem dL_act_360 : decode cL_act 360 = .ok (.iadd, 1) := by decide +kernel
theorem dL_act_361 : decode cL_act 361 = .ok (.iload_n 3, 1) := by decide +kernel
theorem dL_act_362 : decode cL_act 362 = .ok (.bipush 36, 2) := by decide +kernel
theorem dL_act_364 : decode cL_act 364 = .ok (.idiv, 1) := by decide +kernel
theorem dL_act_365 : decode cL_act 365 = .ok (.iconst 2, 1) := by decide +kernel
theorem dL_act_366 : decode cL_act 366 = .ok (.irem, 1) := by decide +kernel
theorem dL_act_367 : decode cL_act 367 = .ok (.iadd, 1) := by decide +kernel
theorem dL_act_368 : decode cL_act 368 = .ok (.invokestatic 95, 3) := by decide +kernel
theorem dL_act_371 : decode cL_act 371 = .ok (.goto 42, 3) := by decide +kernel
theorem dL_act_374 : decode cL_act 374 = .ok (.aload_n 0, 1) := by decide +kernel
theorem dL_act_375 : decode cL_act 375 = .ok (.iload 4, 2) := by decide +kernel
theorem dL_act_377 : decode cL_act 377 = .ok (.iload_n 3, 1) := by decide +kernel
theorem dL_act_378 : decode cL_act 378 = .ok (.iconst 2, 1) := by decide +kernel
theorem dL_act_379 : decode cL_act 379 = .ok (.idiv, 1) := by decide +kernel
theorem dL_act_380 : decode cL_act 380 = .ok (.bipush 6, 2) := by decide +kernel
theorem dL_act_382 : decode cL_act 382 = .ok (.irem, 1) := by decide +kernel
theorem dL_act_383 : decode cL_act 383 = .ok (.aload_n 0, 1) := by decide +kernel
theorem dL_act_384 : decode cL_act 384 = .ok (.invokevirtual 86, 3) := by decide +kernel
theorem dL_act_387 : decode cL_act 387 = .ok (.iload_n 3, 1) := by decide +kernel
theorem dL_act_388 : decode cL_act 388 = .ok (.bipush 12, 2) := by decide +kernel
theorem dL_act_390 : decode cL_act 390 = .ok (.idiv, 1) := by decide +kernel
theorem dL_act_391 : decode cL_act 391 = .ok (.bipush 8, 2) := by decide +kernel
theorem dL_act_393 : decode cL_act 393 = .ok (.irem, 1) := by decide +kernel
theorem dL_act_394 : decode cL_act 394 = .ok (.iadd, 1) := by decide +kernel
theorem dL_act_395 : decode cL_act 395 = .ok (.aload_n 0, 1) := by decide +kernel
theorem dL_act_396 : decode cL_act 396 = .ok (.invokevirtual 86, 3) := by decide +kernel
theorem dL_act_399 : decode cL_act 399 = .ok (.bipush 8, 2) := by decide +kernel
theorem dL_act_401 : decode cL_act 401 = .ok (.iadd, 1) := by decide +kernel
theorem dL_act_402 : decode cL_act 402 = .ok (.iload_n 3, 1) := by decide +kernel
theorem dL_act_403 : decode cL_act 403 = .ok (.bipush 12, 2) := by decide +kernel
theorem dL_act_405 : decode cL_act 405 = .ok (.idiv, 1) := by decide +kernel
theorem dL_act_406 : decode cL_act 406 = .ok (.bipush 20, 2) := by decide +kernel
theorem dL_act_408 : decode cL_act 408 = .ok (.irem, 1) := by decide +kernel
theorem dL_act_409 : decode cL_act 409 = .ok (.iadd, 1) := by decide +kernel
theorem dL_act_410 : decode cL_act 410 = .ok (.invokestatic 98, 3) := by decide +kernel
theorem dL_act_413 : decode cL_act 413 = .ok (.ireturn, 1) := by decide +kernel
theorem dL_act_414 : decode cL_act 414 = .ok (.aload_n 0, 1) := by decide +kernel
theorem dL_act_415 : decode cL_act 415 = .ok (.iload_n 3, 1) := by decide +kernel
theorem dL_act_416 : decode cL_act 416 = .ok (.iconst 3, 1) := by decide +kernel
theorem dL_act_417 : decode cL_act 417 = .ok (.irem, 1) := by decide +kernel
theorem dL_act_418 : decode cL_act 418 = .ok (.ifCond .le 7, 3) := by decide +kernel
theorem dL_act_421 : decode cL_act 421 = .ok (.iconst 0, 1) := by decide +kernel
theorem dL_act_422 : decode cL_act 422 = .ok (.goto 9, 3) := by decide +kernel
theorem dL_act_425 : decode cL_act 425 = .ok (.iload_n 3, 1) := by decide +kernel
theorem dL_act_426 : decode cL_act 426 = .ok (.iconst 3, 1) := by decide +kernel
theorem dL_act_427 : decode cL_act 427 = .ok (.idiv, 1) := by decide +kernel
theorem dL_act_428 : decode cL_act 428 = .ok (.bipush 16, 2) := by decide +kernel
theorem dL_act_430 : decode cL_act 430 = .ok (.irem, 1) := by decide +kernel
theorem dL_act_431 : decode cL_act 431 = .ok (.iload_n 3, 1) := by decide +kernel
theorem dL_act_432 : decode cL_act 432 = .ok (.bipush 48, 2) := by decide +kernel
theorem dL_act_434 : decode cL_act 434 = .ok (.idiv, 1) := by decide +kernel
theorem dL_act_435 : decode cL_act 435 = .ok (.bipush 10, 2) := by decide +kernel
theorem dL_act_437 : decode cL_act 437 = .ok (.irem, 1) := by decide +kernel
theorem dL_act_438 : decode cL_act 438 = .ok (.iconst 1, 1) := by decide +kernel
theorem dL_act_439 : decode cL_act 439 = .ok (.iload_n 3, 1) := by decide +kernel
theorem dL_act_440 : decode cL_act 440 = .ok (.sipush 480, 3) := by decide +kernel
theorem dL_act_443 : decode cL_act 443 = .ok (.idiv, 1) := by decide +kernel
theorem dL_act_444 : decode cL_act 444 = .ok (.bipush 6, 2) := by decide +kernel
theorem dL_act_446 : decode cL_act 446 = .ok (.irem, 1) := by decide +kernel
theorem dL_act_447 : decode cL_act 447 = .ok (.iadd, 1) := by decide +kernel
theorem dL_act_448 : decode cL_act 448 = .ok (.invokestatic 114, 3) := by decide +kernel
theorem dL_act_451 : decode cL_act 451 = .ok (.ireturn, 1) := by decide +kernel
theorem dL_act_452 : decode cL_act 452 = .ok (.aload_n 0, 1) := by decide +kernel
theorem dL_act_453 : decode cL_act 453 = .ok (.aload_n 1, 1) := by decide +kernel
theorem dL_act_454 : decode cL_act 454 = .ok (.iconst 2, 1) := by decide +kernel
theorem dL_act_455 : decode cL_act 455 = .ok (.iaload, 1) := by decide +kernel
theorem dL_act_456 : decode cL_act 456 = .ok (.ifCond .ne 7, 3) := by decide +kernel
theorem dL_act_459 : decode cL_act 459 = .ok (.iconst 0, 1) := by decide +kernel
theorem dL_act_460 : decode cL_act 460 = .ok (.goto 8, 3) := by decide +kernel
theorem dL_act_463 : decode cL_act 463 = .ok (.iload_n 3, 1) := by decide +kernel
theorem dL_act_464 : decode cL_act 464 = .ok (.aload_n 1, 1) := by decide +kernel
theorem dL_act_465 : decode cL_act 465 = .ok (.iconst 2, 1) := by decide +kernel
theorem dL_act_466 : decode cL_act 466 = .ok (.iaload, 1) := by decide +kernel
theorem dL_act_467 : decode cL_act 467 = .ok (.irem, 1) := by decide +kernel
theorem dL_act_468 : decode cL_act 468 = .ok (.iload_n 3, 1) := by decide +kernel
theorem dL_act_469 : decode cL_act 469 = .ok (.bipush 40, 2) := by decide +kernel
theorem dL_act_471 : decode cL_act 471 = .ok (.idiv, 1) := by decide +kernel
theorem dL_act_472 : decode cL_act 472 = .ok (.bipush 10, 2) := by decide +kernel
theorem dL_act_474 : decode cL_act 474 = .ok (.irem, 1) := by decide +kernel
theorem dL_act_475 : decode cL_act 475 = .ok (.invokestatic 116, 3) := by decide +kernel
theorem dL_act_478 : decode cL_act 478 = .ok (.ireturn, 1) := by decide +kernel
theorem dL_act_479 : decode cL_act 479 = .ok (.aload_n 0, 1) := by decide +kernel
theorem dL_act_480 : decode cL_act 480 = .ok (.iconst 1, 1) := by decide +kernel
theorem dL_act_481 : decode cL_act 481 = .ok (.iload_n 3, 1) := by decide +kernel
theorem dL_act_482 : decode cL_act 482 = .ok (.iload_n 3, 1) := by decide +kernel
theorem dL_act_483 : decode cL_act 483 = .ok (.iconst 4, 1) := by decide +kernel
theorem dL_act_484 : decode cL_act 484 = .ok (.irem, 1) := by decide +kernel
theorem dL_act_485 : decode cL_act 485 = .ok (.ifCond .ne 8, 3) := by decide +kernel
theorem dL_act_488 : decode cL_act 488 = .ok (.bipush 12, 2) := by decide +kernel
theorem dL_act_490 : decode cL_act 490 = .ok (.goto 4, 3) := by decide +kernel
theorem dL_act_493 : decode cL_act 493 = .ok (.iconst 3, 1) := by decide +kernel
theorem dL_act_494 : decode cL_act 494 = .ok (.irem, 1) := by decide +kernel
theorem dL_act_495 : decode cL_act 495 = .ok (.iadd, 1) := by decide +kernel
theorem dL_act_496 : decode cL_act 496 = .ok (.invokestatic 118, 3) := by decide +kernel
theorem dL_act_499 : decode cL_act 499 = .ok (.ireturn, 1) := by decide +kernel
set_option maxRecDepth 20000 in
theorem ggL_isAlike_X8_slot : GoodIn wsL_isAlike wsX8_slot := goodIn_r _ [5, 6, 7, 320, 321, 322, 323, 324, 325, 326, 327, 328, 329] (by decide +kernel) (by decide +kernel)
set_option maxRecDepth 20000 in
theorem gL_isAlike_X8_slot : GoodIn wsL_isAlike (wsV RL 86 RX8 yX8_slot wsX8_slot) := goodIn_app (goodIn_of _ (by decide +kernel)) ggL_isAlike_X8_slot
set_option maxRecDepth 20000 in
theorem ggL_isAlike_L_swapOf : GoodIn wsL_isAlike wsL_swapOf := goodIn_ca (goodIn_r _ [11, 12, 13, 14, 15, 16, 4, 17, 18, 19, 20, 21, 22, 23, 24, 25, 26, 320, 321, 322, 323, 330, 331, 332, 333, 334, 335, 336] (by decide +kernel) (by decide +kernel)) (goodIn_sub (fun _ h => List.mem_cons_of_mem _ (List.mem_append_left _ (List.mem_append_right _ h))) (by decide +kernel))
set_option maxRecDepth 20000 in
theorem gL_isAlike_L_swapOf : GoodIn wsL_isAlike (va_wsS RL 122 yL_swapOf wsL_swapOf) := goodIn_app (goodIn_of _ (by decide +kernel)) ggL_isAlike_L_swapOf
set_option maxRecDepth 20000 in
theorem ggL_isAlike_L_anew : GoodIn wsL_isAlike wsL_anew := goodIn_ca (goodIn_r _ [29, 12, 13, 30, 31, 32, 4, 33, 34, 35, 36, 37, 38, 39, 40, 24, 25, 6, 41, 42, 43, 44, 45, 46, 47, 48, 49, 50, 51, 52, 53, 54, 55, 56, 57, 58, 7, 59, 60, 61, 62, 63, 64, 65, 66, 67, 68, 69, 70, 71, 72, 73, 74, 75, 76, 77, 78, 79, 80, 81, 82, 83, 84, 85, 86, 87, 88, 89, 90, 91, 92, 93, 94, 95, 96, 97, 98, 99, 100, 101, 102, 103, 104, 105, 106, 107, 108, 109, 110, 111, 112, 113, 114, 115, 116, 117, 118, 119, 120, 121, 122, 123, 124, 125, 126, 127, 128, 129, 130, 131, 132, 133, 134, 135, 136, 137, 138, 139, 140, 141, 142, 143, 144, 145, 146, 147, 148, 149, 150, 151, 152, 153, 154, 155, 156, 157, 158, 159, 160, 161, 162, 163, 164, 165, 166, 167, 168, 169, 170, 171, 172, 173, 174, 175, 176, 177, 178, 179, 180, 181, 182, 183, 184, 185, 186, 187, 188, 189, 190, 191, 192, 193, 194, 195, 196, 197, 198, 199, 200, 201, 202, 203, 204, 205, 206, 207, 208, 209, 210, 211, 212, 213, 214, 215, 216, 217, 218, 219, 220, 221, 222, 223, 224, 225, 226, 227, 228, 229, 320, 321, 322, 323, 324, 325, 326, 327, 328, 329, 337, 338, 339, 340, 341, 342, 343, 344, 345, 346, 347, 348, 349, 350, 351, 352, 353, 354, 355, 356, 357, 358, 359, 360, 361, 362, 363, 364, 365, 366, 367, 368, 369, 370] (by decide +kernel) (by decide +kernel)) (goodIn_sub (fun _ h => List.mem_cons_of_mem _ (List.mem_append_left _ (List.mem_append_right _ h))) (by decide +kernel))
set_option maxRecDepth 20000 in
theorem gL_isAlike_L_anew : GoodIn wsL_isAlike (va_wsS RL 126 yL_anew wsL_anew) := goodIn_app (goodIn_of _ (by decide +kernel)) ggL_isAlike_L_anew
set_option maxRecDepth 20000 in
theorem ggL_isAlike_L_has : GoodIn wsL_isAlike wsL_has := goodIn_ca (goodIn_ca (goodIn_r _ [232, 12, 233, 13, 234, 235, 236, 237, 4, 238, 6, 239, 240, 241, 242, 24, 25, 243, 244, 91, 92, 93, 94, 95, 245, 246, 247, 248, 249, 250, 118, 119, 62, 120, 66, 64, 121, 122, 123, 124, 125, 126, 127, 128, 129, 130, 131, 90, 320, 321, 322, 323, 324, 325, 326, 327, 328, 329, 352, 353, 354, 355, 356, 357, 358, 359, 360, 361, 362] (by decide +kernel) (by decide +kernel)) (goodIn_sub (fun _ h => List.mem_cons_of_mem _ (List.mem_append_left _ (List.mem_append_right _ h))) (by decide +kernel))) (goodIn_sub (fun _ h => List.mem_cons_of_mem _ (List.mem_append_right _ h)) (by decide +kernel))
set_option maxRecDepth 20000 in
theorem gL_isAlike_L_has : GoodIn wsL_isAlike (va_wsS RL 129 yL_has wsL_has) := goodIn_app (goodIn_of _ (by decide +kernel)) ggL_isAlike_L_has
set_option maxRecDepth 20000 in
theorem ggL_isAlike_L_isFree : GoodIn wsL_isAlike wsL_isFree := goodIn_ca (goodIn_ca (goodIn_r _ [253, 12, 233, 13, 234, 254, 255, 256, 4, 257, 6, 258, 259, 260, 261, 262, 24, 25, 245, 246, 247, 248, 249, 263, 264, 265, 139, 266, 141, 143, 144, 145, 199, 115, 116, 267, 268, 269, 77, 270, 271, 133, 134, 135, 79, 272, 273, 274, 320, 321, 322, 323, 324, 325, 326, 327, 328, 329, 363, 364, 365, 366, 367, 368, 369, 370] (by decide +kernel) (by decide +kernel)) (goodIn_sub (fun _ h => List.mem_cons_of_mem _ (List.mem_append_left _ (List.mem_append_right _ h))) (by decide +kernel))) (goodIn_sub (fun _ h => List.mem_cons_of_mem _ (List.mem_append_right _ h)) (by decide +kernel))
set_option maxRecDepth 20000 in
theorem gL_isAlike_L_isFree : GoodIn wsL_isAlike (va_wsS RL 131 yL_isFree wsL_isFree) := goodIn_app (goodIn_of _ (by decide +kernel)) ggL_isAlike_L_isFree
set_option maxRecDepth 20000 in
theorem ggL_isAlike_L_meetingOf : GoodIn wsL_isAlike wsL_meetingOf := goodIn_ca (goodIn_ca (goodIn_r _ [277, 12, 233, 13, 234, 278, 279, 280, 4, 281, 248, 249, 6, 258, 282, 283, 284, 285, 286, 287, 288, 289, 290, 24, 25, 291, 206, 207, 139, 208, 141, 320, 321, 322, 323, 324, 325, 326, 327, 328, 329, 363, 364, 365, 366, 367, 368, 369] (by decide +kernel) (by decide +kernel)) (goodIn_sub (fun _ h => List.mem_cons_of_mem _ (List.mem_append_right _ h)) (by decide +kernel))) (goodIn_sub (fun _ h => List.mem_cons_of_mem _ (List.mem_append_left _ (List.mem_append_right _ h))) (by decide +kernel))
set_option maxRecDepth 20000 in
theorem gL_isAlike_L_meetingOf : GoodIn wsL_isAlike (va_wsS RL 120 yL_meetingOf wsL_meetingOf) := goodIn_app (goodIn_of _ (by decide +kernel)) ggL_isAlike_L_meetingOf
set_option maxRecDepth 20000 in
theorem ggL_isAlike_L_buildOf : GoodIn wsL_isAlike wsL_buildOf := goodIn_ca (goodIn_ca (goodIn_r _ [294, 12, 233, 13, 234, 295, 296, 297, 4, 298, 248, 249, 6, 35, 299, 300, 36, 301, 37, 38, 39, 40, 24, 25, 41, 42, 43, 44, 45, 46, 320, 321, 322, 323, 324, 325, 326, 327, 328, 329, 337, 338, 339, 340, 341, 342, 343, 344] (by decide +kernel) (by decide +kernel)) (goodIn_sub (fun _ h => List.mem_cons_of_mem _ (List.mem_append_right _ h)) (by decide +kernel))) (goodIn_sub (fun _ h => List.mem_cons_of_mem _ (List.mem_append_left _ (List.mem_append_right _ h))) (by decide +kernel))
set_option maxRecDepth 20000 in
theorem gL_isAlike_L_buildOf : GoodIn wsL_isAlike (va_wsS RL 124 yL_buildOf wsL_buildOf) := goodIn_app (goodIn_of _ (by decide +kernel)) ggL_isAlike_L_buildOf
set_option maxRecDepth 20000 in
theorem ggL_isAlike_L_diary : GoodIn wsL_isAlike wsL_diary := goodIn_ca (goodIn_ca (goodIn_r _ [304, 12, 233, 13, 234, 305, 306, 307, 4, 308, 24, 25, 6, 309, 310, 239, 240, 241, 242, 243, 244, 91, 92, 93, 94, 95, 245, 246, 247, 248, 249, 311, 312, 313, 62, 314, 69, 64, 315, 136, 137, 138, 139, 140, 141, 142, 143, 144, 145, 115, 116, 316, 317, 318, 319, 88, 71, 158, 159, 90, 161, 42, 43, 44, 45, 46, 108, 109, 110, 111, 112, 113, 114, 320, 321, 322, 323, 324, 325, 326, 327, 328, 329, 352, 353, 354, 355, 356, 357, 363, 364, 365, 366, 367, 368, 369, 337, 338, 339, 340, 341, 342, 343, 344] (by decide +kernel) (by decide +kernel)) (goodIn_sub (fun _ h => List.mem_cons_of_mem _ (List.mem_append_left _ (List.mem_append_right _ h))) (by decide +kernel))) (goodIn_sub (fun _ h => List.mem_cons_of_mem _ (List.mem_append_right _ h)) (by decide +kernel))
set_option maxRecDepth 20000 in
theorem gL_isAlike_L_diary : GoodIn wsL_isAlike (va_wsS RL 133 yL_diary wsL_diary) := goodIn_app (goodIn_of _ (by decide +kernel)) ggL_isAlike_L_diary
theorem dL_isAlike_0 : decode cL_isAlike 0 = .ok (.aload_n 2, 1) := by decide +kernel
theorem dL_isAlike_1 : decode cL_isAlike 1 = .ok (.iconst 0, 1) := by decide +kernel
theorem dL_isAlike_2 : decode cL_isAlike 2 = .ok (.iaload, 1) := by decide +kernel
theorem dL_isAlike_3 : decode cL_isAlike 3 = .ok (.ifCond .ne 7, 3) := by decide +kernel
theorem dL_isAlike_6 : decode cL_isAlike 6 = .ok (.iconst 0, 1) := by decide +kernel
theorem dL_isAlike_7 : decode cL_isAlike 7 = .ok (.goto 8, 3) := by decide +kernel
theorem dL_isAlike_10 : decode cL_isAlike 10 = .ok (.iload_n 3, 1) := by decide +kernel
theorem dL_isAlike_11 : decode cL_isAlike 11 = .ok (.aload_n 2, 1) := by decide +kernel
theorem dL_isAlike_12 : decode cL_isAlike 12 = .ok (.iconst 0, 1) := by decide +kernel
theorem dL_isAlike_13 : decode cL_isAlike 13 = .ok (.iaload, 1) := by decide +kernel
theorem dL_isAlike_14 : decode cL_isAlike 14 = .ok (.irem, 1) := by decide +kernel
theorem dL_isAlike_15 : decode cL_isAlike 15 = .ok (.istore 4, 2) := by decide +kernel
theorem dL_isAlike_17 : decode cL_isAlike 17 = .ok (.aload_n 2, 1) := by decide +kernel
theorem dL_isAlike_18 : decode cL_isAlike 18 = .ok (.iconst 1, 1) := by decide +kernel
theorem dL_isAlike_19 : decode cL_isAlike 19 = .ok (.iaload, 1) := by decide +kernel
theorem dL_isAlike_20 : decode cL_isAlike 20 = .ok (.ifCond .ne 7, 3) := by decide +kernel
theorem dL_isAlike_23 : decode cL_isAlike 23 = .ok (.iconst 0, 1) := by decide +kernel
theorem dL_isAlike_24 : decode cL_isAlike 24 = .ok (.goto 8, 3) := by decide +kernel
theorem dL_isAlike_27 : decode cL_isAlike 27 = .ok (.iload_n 3, 1) := by decide +kernel
theorem dL_isAlike_28 : decode cL_isAlike 28 = .ok (.aload_n 2, 1) := by decide +kernel
theorem dL_isAlike_29 : decode cL_isAlike 29 = .ok (.iconst 1, 1) := by decide +kernel
theorem dL_isAlike_30 : decode cL_isAlike 30 = .ok (.iaload, 1) := by decide +kernel
theorem dL_isAlike_31 : decode cL_isAlike 31 = .ok (.irem, 1) := by decide +kernel
theorem dL_isAlike_32 : decode cL_isAlike 32 = .ok (.istore 5, 2) := by decide +kernel
theorem dL_isAlike_34 : decode cL_isAlike 34 = .ok (.aload_n 2, 1) := by decide +kernel
theorem dL_isAlike_35 : decode cL_isAlike 35 = .ok (.iconst 2, 1) := by decide +kernel
theorem dL_isAlike_36 : decode cL_isAlike 36 = .ok (.iaload, 1) := by decide +kernel
theorem dL_isAlike_37 : decode cL_isAlike 37 = .ok (.ifCond .ne 7, 3) := by decide +kernel
theorem dL_isAlike_40 : decode cL_isAlike 40 = .ok (.iconst 0, 1) := by decide +kernel
theorem dL_isAlike_41 : decode cL_isAlike 41 = .ok (.goto 8, 3) := by decide +kernel
theorem dL_isAlike_44 : decode cL_isAlike 44 = .ok (.iload_n 3, 1) := by decide +kernel
theorem dL_isAlike_45 : decode cL_isAlike 45 = .ok (.aload_n 2, 1) := by decide +kernel
theorem dL_isAlike_46 : decode cL_isAlike 46 = .ok (.iconst 2, 1) := by decide +kernel
theorem dL_isAlike_47 : decode cL_isAlike 47 = .ok (.iaload, 1) := by decide +kernel
theorem dL_isAlike_48 : decode cL_isAlike 48 = .ok (.irem, 1) := by decide +kernel
theorem dL_isAlike_49 : decode cL_isAlike 49 = .ok (.istore 6, 2) := by decide +kernel
theorem dL_isAlike_51 : decode cL_isAlike 51 = .ok (.iload_n 3, 1) := by decide +kernel
theorem dL_isAlike_52 : decode cL_isAlike 52 = .ok (.iconst 3, 1) := by decide +kernel
theorem dL_isAlike_53 : decode cL_isAlike 53 = .ok (.idiv, 1) := by decide +kernel
theorem dL_isAlike_54 : decode cL_isAlike 54 = .ok (.sipush 400, 3) := by decide +kernel
theorem dL_isAlike_57 : decode cL_isAlike 57 = .ok (.irem, 1) := by decide +kernel
theorem dL_isAlike_58 : decode cL_isAlike 58 = .ok (.istore 7, 2) := by decide +kernel
theorem dL_isAlike_60 : decode cL_isAlike 60 = .ok (.aload_n 0, 1) := by decide +kernel
theorem dL_isAlike_61 : decode cL_isAlike 61 = .ok (.invokevirtual 86, 3) := by decide +kernel
theorem dL_isAlike_64 : decode cL_isAlike 64 = .ok (.aload_n 1, 1) := by decide +kernel
theorem dL_isAlike_65 : decode cL_isAlike 65 = .ok (.invokevirtual 86, 3) := by decide +kernel
theorem dL_isAlike_68 : decode cL_isAlike 68 = .ok (.if_icmp .ne 83, 3) := by decide +kernel
theorem dL_isAlike_71 : decode cL_isAlike 71 = .ok (.aload_n 0, 1) := by decide +kernel
theorem dL_isAlike_72 : decode cL_isAlike 72 = .ok (.iload_n 3, 1) := by decide +kernel
theorem dL_isAlike_73 : decode cL_isAlike 73 = .ok (.bipush 20, 2) := by decide +kernel
theorem dL_isAlike_75 : decode cL_isAlike 75 = .ok (.irem, 1) := by decide +kernel
theorem dL_isAlike_76 : decode cL_isAlike 76 = .ok (.invokestatic 122, 3) := by decide +kernel
theorem dL_isAlike_79 : decode cL_isAlike 79 = .ok (.aload_n 1, 1) := by decide +kernel
theorem dL_isAlike_80 : decode cL_isAlike 80 = .ok (.iload_n 3, 1) := by decide +kernel
theorem dL_isAlike_81 : decode cL_isAlike 81 = .ok (.bipush 20, 2) := by decide +kernel
theorem dL_isAlike_83 : decode cL_isAlike 83 = .ok (.irem, 1) := by decide +kernel
theorem dL_isAlike_84 : decode cL_isAlike 84 = .ok (.invokestatic 122, 3) := by decide +kernel
theorem dL_isAlike_87 : decode cL_isAlike 87 = .ok (.if_icmp .ne 64, 3) := by decide +kernel
theorem dL_isAlike_90 : decode cL_isAlike 90 = .ok (.aload_n 0, 1) := by decide +kernel
theorem dL_isAlike_91 : decode cL_isAlike 91 = .ok (.iload 6, 2) := by decide +kernel
theorem dL_isAlike_93 : decode cL_isAlike 93 = .ok (.invokestatic 126, 3) := by decide +kernel
theorem dL_isAlike_96 : decode cL_isAlike 96 = .ok (.aload_n 1, 1) := by decide +kernel
theorem dL_isAlike_97 : decode cL_isAlike 97 = .ok (.iload 6, 2) := by decide +kernel
theorem dL_isAlike_99 : decode cL_isAlike 99 = .ok (.invokestatic 126, 3) := by decide +kernel
theorem dL_isAlike_102 : decode cL_isAlike 102 = .ok (.if_icmp .ne 49, 3) := by decide +kernel
theorem dL_isAlike_105 : decode cL_isAlike 105 = .ok (.aload_n 0, 1) := by decide +kernel
theorem dL_isAlike_106 : decode cL_isAlike 106 = .ok (.iload 4, 2) := by decide +kernel
theorem dL_isAlike_108 : decode cL_isAlike 108 = .ok (.iload 7, 2) := by decide +kernel
theorem dL_isAlike_110 : decode cL_isAlike 110 = .ok (.invokestatic 129, 3) := by decide +kernel
theorem dL_isAlike_113 : decode cL_isAlike 113 = .ok (.aload_n 1, 1) := by decide +kernel
theorem dL_isAlike_114 : decode cL_isAlike 114 = .ok (.iload 4, 2) := by decide +kernel
theorem dL_isAlike_116 : decode cL_isAlike 116 = .ok (.iload 7, 2) := by decide +kernel
theorem dL_isAlike_118 : decode cL_isAlike 118 = .ok (.invokestatic 129, 3) := by decide +kernel
theorem dL_isAlike_121 : decode cL_isAlike 121 = .ok (.if_icmp .ne 30, 3) := by decide +kernel
theorem dL_isAlike_124 : decode cL_isAlike 124 = .ok (.aload_n 0, 1) := by decide +kernel
theorem dL_isAlike_125 : decode cL_isAlike 125 = .ok (.iload_n 3, 1) := by decide +kernel
theorem dL_isAlike_126 : decode cL_isAlike 126 = .ok (.bipush 10, 2) := by decide +kernel
theorem dL_isAlike_128 : decode cL_isAlike 128 = .ok (.irem, 1) := by decide +kernel
theorem dL_isAlike_129 : decode cL_isAlike 129 = .ok (.iload 7, 2) := by decide +kernel
theorem dL_isAlike_131 : decode cL_isAlike 131 = .ok (.invokestatic 131, 3) := by decide +kernel
theorem dL_isAlike_134 : decode cL_isAlike 134 = .ok (.aload_n 1, 1) := by decide +kernel
theorem dL_isAlike_135 : decode cL_isAlike 135 = .ok (.iload_n 3, 1) := by decide +kernel
theorem dL_isAlike_136 : decode cL_isAlike 136 = .ok (.bipush 10, 2) := by decide +kernel
theorem dL_isAlike_138 : decode cL_isAlike 138 = .ok (.irem, 1) := by decide +kernel
theorem dL_isAlike_139 : decode cL_isAlike 139 = .ok (.iload 7, 2) := by decide +kernel
theorem dL_isAlike_141 : decode cL_isAlike 141 = .ok (.invokestatic 131, 3) := by decide +kernel
theorem dL_isAlike_144 : decode cL_isAlike 144 = .ok (.if_icmp .ne 7, 3) := by decide +kernel
theorem dL_isAlike_147 : decode cL_isAlike 147 = .ok (.iconst 1, 1) := by decide +kernel
theorem dL_isAlike_148 : decode cL_isAlike 148 = .ok (.goto 4, 3) := by decide +kernel
theorem dL_isAlike_151 : decode cL_isAlike 151 = .ok (.iconst 0, 1) := by decide +kernel
theorem dL_isAlike_152 : decode cL_isAlike 152 = .ok (.istore 8, 2) := by decide +kernel
theorem dL_isAlike_154 : decode cL_isAlike 154 = .ok (.iconst 0, 1) := by decide +kernel
theorem dL_isAlike_155 : decode cL_isAlike 155 = .ok (.istore 9, 2) := by decide +kernel
theorem dL_isAlike_157 : decode cL_isAlike 157 = .ok (.iload 9, 2) := by decide +kernel
theorem dL_isAlike_159 : decode cL_isAlike 159 = .ok (.bipush 9, 2) := by decide +kernel
theorem dL_isAlike_161 : decode cL_isAlike 161 = .ok (.if_icmp .ge 88, 3) := by decide +kernel
theorem dL_isAlike_164 : decode cL_isAlike 164 = .ok (.iload 8, 2) := by decide +kernel
theorem dL_isAlike_166 : decode cL_isAlike 166 = .ok (.ifCond .eq 83, 3) := by decide +kernel
theorem dL_isAlike_169 : decode cL_isAlike 169 = .ok (.aload_n 0, 1) := by decide +kernel
theorem dL_isAlike_170 : decode cL_isAlike 170 = .ok (.iload 5, 2) := by decide +kernel
theorem dL_isAlike_172 : decode cL_isAlike 172 = .ok (.iload 9, 2) := by decide +kernel
theorem dL_isAlike_174 : decode cL_isAlike 174 = .ok (.invokestatic 120, 3) := by decide +kernel
theorem dL_isAlike_177 : decode cL_isAlike 177 = .ok (.aload_n 1, 1) := by decide +kernel
theorem dL_isAlike_178 : decode cL_isAlike 178 = .ok (.iload 5, 2) := by decide +kernel
theorem dL_isAlike_180 : decode cL_isAlike 180 = .ok (.iload 9, 2) := by decide +kernel
theorem dL_isAlike_182 : decode cL_isAlike 182 = .ok (.invokestatic 120, 3) := by decide +kernel
theorem dL_isAlike_185 : decode cL_isAlike 185 = .ok (.if_icmp .ne 55, 3) := by decide +kernel
theorem dL_isAlike_188 : decode cL_isAlike 188 = .ok (.aload_n 0, 1) := by decide +kernel
theorem dL_isAlike_189 : decode cL_isAlike 189 = .ok (.iload 6, 2) := by decide +kernel
theorem dL_isAlike_191 : decode cL_isAlike 191 = .ok (.iload 9, 2) := by decide +kernel
theorem dL_isAlike_193 : decode cL_isAlike 193 = .ok (.invokestatic 124, 3) := by decide +kernel
theorem dL_isAlike_196 : decode cL_isAlike 196 = .ok (.aload_n 1, 1) := by decide +kernel
theorem dL_isAlike_197 : decode cL_isAlike 197 = .ok (.iload 6, 2) := by decide +kernel
theorem dL_isAlike_199 : decode cL_isAlike 199 = .ok (.iload 9, 2) := by decide +kernel
theorem dL_isAlike_201 : decode cL_isAlike 201 = .ok (.invokestatic 124, 3) := by decide +kernel
theorem dL_isAlike_204 : decode cL_isAlike 204 = .ok (.if_icmp .ne 36, 3) := by decide +kernel
theorem dL_isAlike_207 : decode cL_isAlike 207 = .ok (.aload_n 0, 1) := by decide +kernel
theorem dL_isAlike_208 : decode cL_isAlike 208 = .ok (.iload 4, 2) := by decide +kernel
theorem dL_isAlike_210 : decode cL_isAlike 210 = .ok (.iload 7, 2) := by decide +kernel
theorem dL_isAlike_212 : decode cL_isAlike 212 = .ok (.bipush 8, 2) := by decide +kernel
theorem dL_isAlike_214 : decode cL_isAlike 214 = .ok (.idiv, 1) := by decide +kernel
theorem dL_isAlike_215 : decode cL_isAlike 215 = .ok (.iload 9, 2) := by decide +kernel
theorem dL_isAlike_217 : decode cL_isAlike 217 = .ok (.invokestatic 133, 3) := by decide +kernel
theorem dL_isAlike_220 : decode cL_isAlike 220 = .ok (.aload_n 1, 1) := by decide +kernel
theorem dL_isAlike_221 : decode cL_isAlike 221 = .ok (.iload 4, 2) := by decide +kernel
theorem dL_isAlike_223 : decode cL_isAlike 223 = .ok (.iload 7, 2) := by decide +kernel
theorem dL_isAlike_225 : decode cL_isAlike 225 = .ok (.bipush 8, 2) := by decide +kernel
theorem dL_isAlike_227 : decode cL_isAlike 227 = .ok (.idiv, 1) := by decide +kernel
theorem dL_isAlike_228 : decode cL_isAlike 228 = .ok (.iload 9, 2) := by decide +kernel
theorem dL_isAlike_230 : decode cL_isAlike 230 = .ok (.invokestatic 133, 3) := by decide +kernel
theorem dL_isAlike_233 : decode cL_isAlike 233 = .ok (.if_icmp .ne 7, 3) := by decide +kernel
theorem dL_isAlike_236 : decode cL_isAlike 236 = .ok (.iconst 1, 1) := by decide +kernel
theorem dL_isAlike_237 : decode cL_isAlike 237 = .ok (.goto 4, 3) := by decide +kernel
theorem dL_isAlike_240 : decode cL_isAlike 240 = .ok (.iconst 0, 1) := by decide +kernel
theorem dL_isAlike_241 : decode cL_isAlike 241 = .ok (.istore 8, 2) := by decide +kernel
theorem dL_isAlike_243 : decode cL_isAlike 243 = .ok (.iinc 9 1, 3) := by decide +kernel
theorem dL_isAlike_246 : decode cL_isAlike 246 = .ok (.goto (-89), 3) := by decide +kernel
theorem dL_isAlike_249 : decode cL_isAlike 249 = .ok (.iload 8, 2) := by decide +kernel
theorem dL_isAlike_251 : decode cL_isAlike 251 = .ok (.ireturn, 1) := by decide +kernel
set_option maxRecDepth 20000 in
theorem ggL_isWhole_L_buildOf : GoodIn wsL_isWhole wsL_buildOf := goodIn_ca (goodIn_ca (goodIn_r _ [4, 5, 6, 7, 8, 9, 10, 11, 12, 13, 14, 15, 16, 17, 18, 19, 20, 21, 22, 23, 24, 25, 26, 27, 28, 29, 30, 31, 32, 33, 274, 275, 276, 277, 278, 279, 280, 281, 282, 283, 284, 285, 286, 287, 288, 289, 290, 291] (by decide +kernel) (by decide +kernel)) (goodIn_sub (fun _ h => List.mem_cons_of_mem _ (List.mem_append_left _ (List.mem_append_right _ h))) (by decide +kernel))) (goodIn_sub (fun _ h => List.mem_cons_of_mem _ (List.mem_append_right _ h)) (by decide +kernel))
set_option maxRecDepth 20000 in
theorem gL_isWhole_L_buildOf : GoodIn wsL_isWhole (va_wsS RL 124 yL_buildOf wsL_buildOf) := goodIn_app (goodIn_of _ (by decide +kernel)) ggL_isWhole_L_buildOf
set_option maxRecDepth 20000 in
theorem ggL_isWhole_L_anew : GoodIn wsL_isWhole wsL_anew := goodIn_ca (goodIn_r _ [36, 5, 7, 37, 38, 39, 12, 40, 41, 17, 20, 22, 23, 24, 25, 26, 27, 16, 28, 29, 30, 31, 32, 33, 42, 43, 44, 45, 46, 47, 48, 49, 50, 51, 52, 53, 54, 55, 56, 57, 58, 59, 60, 61, 62, 63, 64, 65, 66, 67, 68, 69, 70, 71, 72, 73, 74, 75, 76, 77, 78, 79, 80, 81, 82, 83, 84, 85, 86, 87, 88, 89, 90, 91, 92, 93, 94, 95, 96, 97, 98, 99, 100, 101, 102, 103, 104, 105, 106, 107, 108, 109, 110, 111, 112, 113, 114, 115, 116, 117, 118, 119, 120, 121, 122, 123, 124, 125, 126, 127, 128, 129, 130, 131, 132, 133, 134, 135, 136, 137, 138, 139, 140, 141, 142, 143, 144, 145, 146, 147, 148, 149, 150, 151, 152, 153, 154, 155, 156, 157, 158, 159, 160, 161, 162, 163, 164, 165, 166, 167, 168, 169, 170, 171, 172, 173, 174, 175, 176, 177, 178, 179, 180, 181, 182, 183, 184, 185, 186, 187, 188, 189, 190, 191, 192, 193, 194, 195, 196, 197, 198, 199, 200, 201, 202, 203, 204, 205, 206, 207, 208, 209, 210, 211, 212, 213, 214, 215, 216, 217, 218, 219, 220, 221, 222, 223, 224, 225, 274, 275, 276, 277, 278, 279, 280, 281, 282, 283, 284, 285, 286, 287, 288, 289, 290, 291, 292, 293, 294, 295, 296, 297, 298, 299, 300, 301, 302, 303, 304, 305, 306, 307, 308, 309, 310, 311, 312, 313, 314, 315, 316, 317] (by decide +kernel) (by decide +kernel)) (goodIn_sub (fun _ h => List.mem_cons_of_mem _ (List.mem_append_right _ h)) (by decide +kernel))
set_option maxRecDepth 20000 in
theorem gL_isWhole_L_anew : GoodIn wsL_isWhole (va_wsS RL 126 yL_anew wsL_anew) := goodIn_app (goodIn_of _ (by decide +kernel)) ggL_isWhole_L_anew
set_option maxRecDepth 20000 in
theorem ggL_isWhole_X8_slot : GoodIn wsL_isWhole wsX8_slot := goodIn_r _ [229, 16, 54, 274, 275, 276, 277, 278, 279, 280, 281, 282, 283] (by decide +kernel) (by decide +kernel)
set_option maxRecDepth 20000 in
theorem gL_isWhole_X8_slot : GoodIn wsL_isWhole (wsV RL 86 RX8 yX8_slot wsX8_slot) := goodIn_app (goodIn_of _ (by decide +kernel)) ggL_isWhole_X8_slot
set_option maxRecDepth 20000 in
theorem ggL_isWhole_L_meetingOf : GoodIn wsL_isWhole wsL_meetingOf := goodIn_ca (goodIn_ca (goodIn_r _ [232, 5, 6, 7, 8, 233, 234, 235, 12, 236, 14, 15, 16, 237, 238, 239, 240, 241, 242, 243, 244, 245, 246, 26, 27, 247, 202, 203, 135, 204, 137, 274, 275, 276, 277, 278, 279, 280, 281, 282, 283, 310, 311, 312, 313, 314, 315, 316] (by decide +kernel) (by decide +kernel)) (goodIn_sub (fun _ h => List.mem_cons_of_mem _ (List.mem_append_left _ (List.mem_append_right _ h))) (by decide +kernel))) (goodIn_sub (fun _ h => List.mem_cons_of_mem _ (List.mem_append_right _ h)) (by decide +kernel))
set_option maxRecDepth 20000 in
theorem gL_isWhole_L_meetingOf : GoodIn wsL_isWhole (va_wsS RL 120 yL_meetingOf wsL_meetingOf) := goodIn_app (goodIn_of _ (by decide +kernel)) ggL_isWhole_L_meetingOf
set_option maxRecDepth 20000 in
theorem ggL_isWhole_L_isFree : GoodIn wsL_isWhole wsL_isFree := goodIn_ca (goodIn_ca (goodIn_r _ [250, 5, 6, 7, 8, 251, 252, 253, 12, 254, 16, 237, 255, 256, 257, 258, 26, 27, 259, 260, 261, 14, 15, 262, 263, 264, 135, 265, 137, 139, 140, 141, 195, 111, 112, 266, 267, 268, 73, 269, 270, 129, 130, 131, 75, 271, 272, 273, 274, 275, 276, 277, 278, 279, 280, 281, 282, 283, 310, 311, 312, 313, 314, 315, 316, 317] (by decide +kernel) (by decide +kernel)) (goodIn_sub (fun _ h => List.mem_cons_of_mem _ (List.mem_append_right _ h)) (by decide +kernel))) (goodIn_sub (fun _ h => List.mem_cons_of_mem _ (List.mem_append_left _ (List.mem_append_right _ h))) (by decide +kernel))
set_option maxRecDepth 20000 in
theorem gL_isWhole_L_isFree : GoodIn wsL_isWhole (va_wsS RL 131 yL_isFree wsL_isFree) := goodIn_app (goodIn_of _ (by decide +kernel)) ggL_isWhole_L_isFree
theorem dL_isWhole_0 : decode cL_isWhole 0 = .ok (.iconst 1, 1) := by decide +kernel
theorem dL_isWhole_1 : decode cL_isWhole 1 = .ok (.istore_n 2, 1) := by decide +kernel
theorem dL_isWhole_2 : decode cL_isWhole 2 = .ok (.iconst 0, 1) := by decide +kernel
theorem dL_isWhole_3 : decode cL_isWhole 3 = .ok (.istore_n 3, 1) := by decide +kernel
theorem dL_isWhole_4 : decode cL_isWhole 4 = .ok (.iload_n 3, 1) := by decide +kernel
theorem dL_isWhole_5 : decode cL_isWhole 5 = .ok (.aload_n 1, 1) := by decide +kernel
theorem dL_isWhole_6 : decode cL_isWhole 6 = .ok (.iconst 2, 1) := by decide +kernel
theorem dL_isWhole_7 : decode cL_isWhole 7 = .ok (.iaload, 1) := by decide +kernel
theorem dL_isWhole_8 : decode cL_isWhole 8 = .ok (.if_icmp .ge 178, 3) := by decide +kernel
theorem dL_isWhole_11 : decode cL_isWhole 11 = .ok (.iload_n 2, 1) := by decide +kernel
theorem dL_isWhole_12 : decode cL_isWhole 12 = .ok (.ifCond .eq 174, 3) := by decide +kernel
theorem dL_isWhole_15 : decode cL_isWhole 15 = .ok (.aload_n 0, 1) := by decide +kernel
theorem dL_isWhole_16 : decode cL_isWhole 16 = .ok (.iload_n 3, 1) := by decide +kernel
theorem dL_isWhole_17 : decode cL_isWhole 17 = .ok (.iconst 0, 1) := by decide +kernel
theorem dL_isWhole_18 : decode cL_isWhole 18 = .ok (.invokestatic 124, 3) := by decide +kernel
theorem dL_isWhole_21 : decode cL_isWhole 21 = .ok (.istore 4, 2) := by decide +kernel
theorem dL_isWhole_23 : decode cL_isWhole 23 = .ok (.aload_n 0, 1) := by decide +kernel
theorem dL_isWhole_24 : decode cL_isWhole 24 = .ok (.iload_n 3, 1) := by decide +kernel
theorem dL_isWhole_25 : decode cL_isWhole 25 = .ok (.iconst 2, 1) := by decide +kernel
theorem dL_isWhole_26 : decode cL_isWhole 26 = .ok (.invokestatic 124, 3) := by decide +kernel
theorem dL_isWhole_29 : decode cL_isWhole 29 = .ok (.istore 5, 2) := by decide +kernel
theorem dL_isWhole_31 : decode cL_isWhole 31 = .ok (.aload_n 0, 1) := by decide +kernel
theorem dL_isWhole_32 : decode cL_isWhole 32 = .ok (.iload_n 3, 1) := by decide +kernel
theorem dL_isWhole_33 : decode cL_isWhole 33 = .ok (.invokestatic 126, 3) := by decide +kernel
theorem dL_isWhole_36 : decode cL_isWhole 36 = .ok (.iload 5, 2) := by decide +kernel
theorem dL_isWhole_38 : decode cL_isWhole 38 = .ok (.if_icmp .ne 82, 3) := by decide +kernel
theorem dL_isWhole_41 : decode cL_isWhole 41 = .ok (.iload 4, 2) := by decide +kernel
theorem dL_isWhole_43 : decode cL_isWhole 43 = .ok (.ifCond .ne 7, 3) := by decide +kernel
theorem dL_isWhole_46 : decode cL_isWhole 46 = .ok (.iconst 1, 1) := by decide +kernel
theorem dL_isWhole_47 : decode cL_isWhole 47 = .ok (.goto 4, 3) := by decide +kernel
theorem dL_isWhole_50 : decode cL_isWhole 50 = .ok (.iconst 0, 1) := by decide +kernel
theorem dL_isWhole_51 : decode cL_isWhole 51 = .ok (.iload 5, 2) := by decide +kernel
theorem dL_isWhole_53 : decode cL_isWhole 53 = .ok (.iconst (-1), 1) := by decide +kernel
theorem dL_isWhole_54 : decode cL_isWhole 54 = .ok (.if_icmp .ne 7, 3) := by decide +kernel
theorem dL_isWhole_57 : decode cL_isWhole 57 = .ok (.iconst 1, 1) := by decide +kernel
theorem dL_isWhole_58 : decode cL_isWhole 58 = .ok (.goto 4, 3) := by decide +kernel
theorem dL_isWhole_61 : decode cL_isWhole 61 = .ok (.iconst 0, 1) := by decide +kernel
theorem dL_isWhole_62 : decode cL_isWhole 62 = .ok (.if_icmp .ne 58, 3) := by decide +kernel
theorem dL_isWhole_65 : decode cL_isWhole 65 = .ok (.iload 4, 2) := by decide +kernel
theorem dL_isWhole_67 : decode cL_isWhole 67 = .ok (.ifCond .ne 7, 3) := by decide +kernel
theorem dL_isWhole_70 : decode cL_isWhole 70 = .ok (.iconst 1, 1) := by decide +kernel
theorem dL_isWhole_71 : decode cL_isWhole 71 = .ok (.goto 4, 3) := by decide +kernel
theorem dL_isWhole_74 : decode cL_isWhole 74 = .ok (.iconst 0, 1) := by decide +kernel
theorem dL_isWhole_75 : decode cL_isWhole 75 = .ok (.aload_n 0, 1) := by decide +kernel
theorem dL_isWhole_76 : decode cL_isWhole 76 = .ok (.iload_n 3, 1) := by decide +kernel
theorem dL_isWhole_77 : decode cL_isWhole 77 = .ok (.iconst 1, 1) := by decide +kernel
theorem dL_isWhole_78 : decode cL_isWhole 78 = .ok (.invokestatic 124, 3) := by decide +kernel
theorem dL_isWhole_81 : decode cL_isWhole 81 = .ok (.iconst (-1), 1) := by decide +kernel
theorem dL_isWhole_82 : decode cL_isWhole 82 = .ok (.if_icmp .ne 7, 3) := by decide +kernel
theorem dL_isWhole_85 : decode cL_isWhole 85 = .ok (.iconst 1, 1) := by decide +kernel
theorem dL_isWhole_86 : decode cL_isWhole 86 = .ok (.goto 4, 3) := by decide +kernel
theorem dL_isWhole_89 : decode cL_isWhole 89 = .ok (.iconst 0, 1) := by decide +kernel
theorem dL_isWhole_90 : decode cL_isWhole 90 = .ok (.if_icmp .ne 30, 3) := by decide +kernel
theorem dL_isWhole_93 : decode cL_isWhole 93 = .ok (.iload 4, 2) := by decide +kernel
theorem dL_isWhole_95 : decode cL_isWhole 95 = .ok (.ifCond .eq 12, 3) := by decide +kernel
theorem dL_isWhole_98 : decode cL_isWhole 98 = .ok (.aload_n 0, 1) := by decide +kernel
theorem dL_isWhole_99 : decode cL_isWhole 99 = .ok (.iload_n 3, 1) := by decide +kernel
theorem dL_isWhole_100 : decode cL_isWhole 100 = .ok (.iconst 3, 1) := by decide +kernel
theorem dL_isWhole_101 : decode cL_isWhole 101 = .ok (.invokestatic 124, 3) := by decide +kernel
theorem dL_isWhole_104 : decode cL_isWhole 104 = .ok (.ifCond .le 16, 3) := by decide +kernel
theorem dL_isWhole_107 : decode cL_isWhole 107 = .ok (.iload 5, 2) := by decide +kernel
theorem dL_isWhole_109 : decode cL_isWhole 109 = .ok (.aload_n 0, 1) := by decide +kernel
theorem dL_isWhole_110 : decode cL_isWhole 110 = .ok (.invokevirtual 86, 3) := by decide +kernel
theorem dL_isWhole_113 : decode cL_isWhole 113 = .ok (.if_icmp .ge 7, 3) := by decide +kernel
theorem dL_isWhole_116 : decode cL_isWhole 116 = .ok (.iconst 1, 1) := by decide +kernel
theorem dL_isWhole_117 : decode cL_isWhole 117 = .ok (.goto 4, 3) := by decide +kernel
theorem dL_isWhole_120 : decode cL_isWhole 120 = .ok (.iconst 0, 1) := by decide +kernel
theorem dL_isWhole_121 : decode cL_isWhole 121 = .ok (.istore_n 2, 1) := by decide +kernel
theorem dL_isWhole_122 : decode cL_isWhole 122 = .ok (.iconst 0, 1) := by decide +kernel
theorem dL_isWhole_123 : decode cL_isWhole 123 = .ok (.istore 6, 2) := by decide +kernel
theorem dL_isWhole_125 : decode cL_isWhole 125 = .ok (.iload 6, 2) := by decide +kernel
theorem dL_isWhole_127 : decode cL_isWhole 127 = .ok (.iload_n 3, 1) := by decide +kernel
theorem dL_isWhole_128 : decode cL_isWhole 128 = .ok (.if_icmp .ge 52, 3) := by decide +kernel
theorem dL_isWhole_131 : decode cL_isWhole 131 = .ok (.iload_n 2, 1) := by decide +kernel
theorem dL_isWhole_132 : decode cL_isWhole 132 = .ok (.ifCond .eq 48, 3) := by decide +kernel
theorem dL_isWhole_135 : decode cL_isWhole 135 = .ok (.iload 4, 2) := by decide +kernel
theorem dL_isWhole_137 : decode cL_isWhole 137 = .ok (.iconst 1, 1) := by decide +kernel
theorem dL_isWhole_138 : decode cL_isWhole 138 = .ok (.if_icmp .ne 30, 3) := by decide +kernel
theorem dL_isWhole_141 : decode cL_isWhole 141 = .ok (.aload_n 0, 1) := by decide +kernel
theorem dL_isWhole_142 : decode cL_isWhole 142 = .ok (.iload 6, 2) := by decide +kernel
theorem dL_isWhole_144 : decode cL_isWhole 144 = .ok (.iconst 0, 1) := by decide +kernel
theorem dL_isWhole_145 : decode cL_isWhole 145 = .ok (.invokestatic 124, 3) := by decide +kernel
theorem dL_isWhole_148 : decode cL_isWhole 148 = .ok (.iconst 1, 1) := by decide +kernel
theorem dL_isWhole_149 : decode cL_isWhole 149 = .ok (.if_icmp .ne 19, 3) := by decide +kernel
theorem dL_isWhole_152 : decode cL_isWhole 152 = .ok (.aload_n 0, 1) := by decide +kernel
theorem dL_isWhole_153 : decode cL_isWhole 153 = .ok (.iload 6, 2) := by decide +kernel
theorem dL_isWhole_155 : decode cL_isWhole 155 = .ok (.iconst 1, 1) := by decide +kernel
theorem dL_isWhole_156 : decode cL_isWhole 156 = .ok (.invokestatic 124, 3) := by decide +kernel
theorem dL_isWhole_159 : decode cL_isWhole 159 = .ok (.aload_n 0, 1) := by decide +kernel
theorem dL_isWhole_160 : decode cL_isWhole 160 = .ok (.iload_n 3, 1) := by decide +kernel
theorem dL_isWhole_161 : decode cL_isWhole 161 = .ok (.iconst 1, 1) := by decide +kernel
theorem dL_isWhole_162 : decode cL_isWhole 162 = .ok (.invokestatic 124, 3) := by decide +kernel
theorem dL_isWhole_165 : decode cL_isWhole 165 = .ok (.if_icmp .eq 7, 3) := by decide +kernel
theorem dL_isWhole_168 : decode cL_isWhole 168 = .ok (.iconst 1, 1) := by decide +kernel
theorem dL_isWhole_169 : decode cL_isWhole 169 = .ok (.goto 4, 3) := by decide +kernel
theorem dL_isWhole_172 : decode cL_isWhole 172 = .ok (.iconst 0, 1) := by decide +kernel
theorem dL_isWhole_173 : decode cL_isWhole 173 = .ok (.istore_n 2, 1) := by decide +kernel
theorem dL_isWhole_174 : decode cL_isWhole 174 = .ok (.iinc 6 1, 3) := by decide +kernel
theorem dL_isWhole_177 : decode cL_isWhole 177 = .ok (.goto (-52), 3) := by decide +kernel
theorem dL_isWhole_180 : decode cL_isWhole 180 = .ok (.iinc 3 1, 3) := by decide +kernel
theorem dL_isWhole_183 : decode cL_isWhole 183 = .ok (.goto (-179), 3) := by decide +kernel
theorem dL_isWhole_186 : decode cL_isWhole 186 = .ok (.iconst 0, 1) := by decide +kernel
theorem dL_isWhole_187 : decode cL_isWhole 187 = .ok (.istore_n 3, 1) := by decide +kernel
theorem dL_isWhole_188 : decode cL_isWhole 188 = .ok (.iload_n 3, 1) := by decide +kernel
theorem dL_isWhole_189 : decode cL_isWhole 189 = .ok (.aload_n 1, 1) := by decide +kernel
theorem dL_isWhole_190 : decode cL_isWhole 190 = .ok (.iconst 1, 1) := by decide +kernel
theorem dL_isWhole_191 : decode cL_isWhole 191 = .ok (.iaload, 1) := by decide +kernel
theorem dL_isWhole_192 : decode cL_isWhole 192 = .ok (.if_icmp .ge 389, 3) := by decide +kernel
theorem dL_isWhole_195 : decode cL_isWhole 195 = .ok (.iload_n 2, 1) := by decide +kernel
theorem dL_isWhole_196 : decode cL_isWhole 196 = .ok (.ifCond .eq 385, 3) := by decide +kernel
theorem dL_isWhole_199 : decode cL_isWhole 199 = .ok (.aload_n 0, 1) := by decide +kernel
theorem dL_isWhole_200 : decode cL_isWhole 200 = .ok (.iload_n 3, 1) := by decide +kernel
theorem dL_isWhole_201 : decode cL_isWhole 201 = .ok (.iconst 1, 1) := by decide +kernel
theorem dL_isWhole_202 : decode cL_isWhole 202 = .ok (.invokestatic 120, 3) := by decide +kernel
theorem dL_isWhole_205 : decode cL_isWhole 205 = .ok (.istore 4, 2) := by decide +kernel
theorem dL_isWhole_207 : decode cL_isWhole 207 = .ok (.iload 4, 2) := by decide +kernel
theorem dL_isWhole_209 : decode cL_isWhole 209 = .ok (.aload_n 0, 1) := by decide +kernel
theorem dL_isWhole_210 : decode cL_isWhole 210 = .ok (.iload_n 3, 1) := by decide +kernel
theorem dL_isWhole_211 : decode cL_isWhole 211 = .ok (.iconst 2, 1) := by decide +kernel
theorem dL_isWhole_212 : decode cL_isWhole 212 = .ok (.invokestatic 120, 3) := by decide +kernel
theorem dL_isWhole_215 : decode cL_isWhole 215 = .ok (.iadd, 1) := by decide +kernel
theorem dL_isWhole_216 : decode cL_isWhole 216 = .ok (.iconst 1, 1) := by decide +kernel
theorem dL_isWhole_217 : decode cL_isWhole 217 = .ok (.isub, 1) := by decide +kernel
theorem dL_isWhole_218 : decode cL_isWhole 218 = .ok (.istore 5, 2) := by decide +kernel
theorem dL_isWhole_220 : decode cL_isWhole 220 = .ok (.aload_n 0, 1) := by decide +kernel
theorem dL_isWhole_221 : decode cL_isWhole 221 = .ok (.iload_n 3, 1) := by decide +kernel
theorem dL_isWhole_222 : decode cL_isWhole 222 = .ok (.iconst 0, 1) := by decide +kernel
theorem dL_isWhole_223 : decode cL_isWhole 223 = .ok (.invokestatic 120, 3) := by decide +kernel
theorem dL_isWhole_226 : decode cL_isWhole 226 = .ok (.ifCond .ne 7, 3) := by decide +kernel
theorem dL_isWhole_229 : decode cL_isWhole 229 = .ok (.iconst 1, 1) := by decide +kernel
theorem dL_isWhole_230 : decode cL_isWhole 230 = .ok (.goto 4, 3) := by decide +kernel
theorem dL_isWhole_233 : decode cL_isWhole 233 = .ok (.iconst 0, 1) := by decide +kernel
theorem dL_isWhole_234 : decode cL_isWhole 234 = .ok (.istore 6, 2) := by decide +kernel
theorem dL_isWhole_236 : decode cL_isWhole 236 = .ok (.iload 4, 2) := by decide +kernel
theorem dL_isWhole_238 : decode cL_isWhole 238 = .ok (.bipush 8, 2) := by decide +kernel
theorem dL_isWhole_240 : decode cL_isWhole 240 = .ok (.idiv, 1) := by decide +kernel
theorem dL_isWhole_241 : decode cL_isWhole 241 = .ok (.iload 5, 2) := by decide +kernel
theorem dL_isWhole_243 : decode cL_isWhole 243 = .ok (.bipush 8, 2) := by decide +kernel
theorem dL_isWhole_245 : decode cL_isWhole 245 = .ok (.idiv, 1) := by decide +kernel
theorem dL_isWhole_246 : decode cL_isWhole 246 = .ok (.if_icmp .ne 40, 3) := by decide +kernel
theorem dL_isWhole_249 : decode cL_isWhole 249 = .ok (.iload 6, 2) := by decide +kernel
theorem dL_isWhole_251 : decode cL_isWhole 251 = .ok (.ifCond .eq 12, 3) := by decide +kernel
theorem dL_isWhole_254 : decode cL_isWhole 254 = .ok (.iload 5, 2) := by decide +kernel
theorem dL_isWhole_256 : decode cL_isWhole 256 = .ok (.aload_n 0, 1) := by decide +kernel
theorem dL_isWhole_257 : decode cL_isWhole 257 = .ok (.invokevirtual 86, 3) := by decide +kernel
theorem dL_isWhole_260 : decode cL_isWhole 260 = .ok (.if_icmp .lt 26, 3) := by decide +kernel
theorem dL_isWhole_263 : decode cL_isWhole 263 = .ok (.aload_n 0, 1) := by decide +kernel
theorem dL_isWhole_264 : decode cL_isWhole 264 = .ok (.iload_n 3, 1) := by decide +kernel
theorem dL_isWhole_265 : decode cL_isWhole 265 = .ok (.iconst 0, 1) := by decide +kernel
theorem dL_isWhole_266 : decode cL_isWhole 266 = .ok (.invokestatic 120, 3) := by decide +kernel
theorem dL_isWhole_269 : decode cL_isWhole 269 = .ok (.iconst 2, 1) := by decide +kernel
theorem dL_isWhole_270 : decode cL_isWhole 270 = .ok (.if_icmp .ne 12, 3) := by decide +kernel
theorem dL_isWhole_273 : decode cL_isWhole 273 = .ok (.iload 5, 2) := by decide +kernel
theorem dL_isWhole_275 : decode cL_isWhole 275 = .ok (.aload_n 0, 1) := by decide +kernel
theorem dL_isWhole_276 : decode cL_isWhole 276 = .ok (.invokevirtual 86, 3) := by decide +kernel
theorem dL_isWhole_279 : decode cL_isWhole 279 = .ok (.if_icmp .ge 7, 3) := by decide +kernel
theorem dL_isWhole_282 : decode cL_isWhole 282 = .ok (.iconst 1, 1) := by decide +kernel
theorem dL_isWhole_283 : decode cL_isWhole 283 = .ok (.goto 4, 3) := by decide +kernel
theorem dL_isWhole_286 : decode cL_isWhole 286 = .ok (.iconst 0, 1) := by decide +kernel
theorem dL_isWhole_287 : decode cL_isWhole 287 = .ok (.istore_n 2, 1) := by decide +kernel
theorem dL_isWhole_288 : decode cL_isWhole 288 = .ok (.iconst 0, 1) := by decide +kernel
theorem dL_isWhole_289 : decode cL_isWhole 289 = .ok (.istore 7, 2) := by decide +kernel
theorem dL_isWhole_291 : decode cL_isWhole 291 = .ok (.iload 7, 2) := by decide +kernel
theorem dL_isWhole_293 : decode cL_isWhole 293 = .ok (.iload_n 3, 1) := by decide +kernel
theorem dL_isWhole_294 : decode cL_isWhole 294 = .ok (.if_icmp .ge 124, 3) := by decide +kernel
theorem dL_isWhole_297 : decode cL_isWhole 297 = .ok (.iload_n 2, 1) := by decide +kernel
theorem dL_isWhole_298 : decode cL_isWhole 298 = .ok (.ifCond .eq 120, 3) := by decide +kernel
theorem dL_isWhole_301 : decode cL_isWhole 301 = .ok (.iload 6, 2) := by decide +kernel
theorem dL_isWhole_303 : decode cL_isWhole 303 = .ok (.ifCond .eq 51, 3) := by decide +kernel
theorem dL_isWhole_306 : decode cL_isWhole 306 = .ok (.aload_n 0, 1) := by decide +kernel
theorem dL_isWhole_307 : decode cL_isWhole 307 = .ok (.iload 7, 2) := by decide +kernel
theorem dL_isWhole_309 : decode cL_isWhole 309 = .ok (.iconst 0, 1) := by decide +kernel
theorem dL_isWhole_310 : decode cL_isWhole 310 = .ok (.invokestatic 120, 3) := by decide +kernel
theorem dL_isWhole_313 : decode cL_isWhole 313 = .ok (.ifCond .ne 41, 3) := by decide +kernel
theorem dL_isWhole_316 : decode cL_isWhole 316 = .ok (.aload_n 0, 1) := by decide +kernel
theorem dL_isWhole_317 : decode cL_isWhole 317 = .ok (.iload 7, 2) := by decide +kernel
theorem dL_isWhole_319 : decode cL_isWhole 319 = .ok (.iconst 1, 1) := by decide +kernel
theorem dL_isWhole_320 : decode cL_isWhole 320 = .ok (.invokestatic 120, 3) := by decide +kernel
theorem dL_isWhole_323 : decode cL_isWhole 323 = .ok (.iload 5, 2) := by decide +kernel
theorem dL_isWhole_325 : decode cL_isWhole 325 = .ok (.if_icmp .gt 29, 3) := by decide +kernel
theorem dL_isWhole_328 : decode cL_isWhole 328 = .ok (.iload 4, 2) := by decide +kernel
theorem dL_isWhole_330 : decode cL_isWhole 330 = .ok (.aload_n 0, 1) := by decide +kernel
theorem dL_isWhole_331 : decode cL_isWhole 331 = .ok (.iload 7, 2) := by decide +kernel
theorem dL_isWhole_333 : decode cL_isWhole 333 = .ok (.iconst 1, 1) := by decide +kernel
theorem dL_isWhole_334 : decode cL_isWhole 334 = .ok (.invokestatic 120, 3) := by decide +kernel
theorem dL_isWhole_337 : decode cL_isWhole 337 = .ok (.aload_n 0, 1) := by decide +kernel
theorem dL_isWhole_338 : decode cL_isWhole 338 = .ok (.iload 7, 2) := by decide +kernel
theorem dL_isWhole_340 : decode cL_isWhole 340 = .ok (.iconst 2, 1) := by decide +kernel
theorem dL_isWhole_341 : decode cL_isWhole 341 = .ok (.invokestatic 120, 3) := by decide +kernel
theorem dL_isWhole_344 : decode cL_isWhole 344 = .ok (.iadd, 1) := by decide +kernel
theorem dL_isWhole_345 : decode cL_isWhole 345 = .ok (.iconst 1, 1) := by decide +kernel
theorem dL_isWhole_346 : decode cL_isWhole 346 = .ok (.isub, 1) := by decide +kernel
theorem dL_isWhole_347 : decode cL_isWhole 347 = .ok (.if_icmp .gt 7, 3) := by decide +kernel
theorem dL_isWhole_350 : decode cL_isWhole 350 = .ok (.iconst 1, 1) := by decide +kernel
theorem dL_isWhole_351 : decode cL_isWhole 351 = .ok (.goto 4, 3) := by decide +kernel
theorem dL_isWhole_354 : decode cL_isWhole 354 = .ok (.iconst 0, 1) := by decide +kernel
theorem dL_isWhole_355 : decode cL_isWhole 355 = .ok (.istore 8, 2) := by decide +kernel
theorem dL_isWhole_357 : decode cL_isWhole 357 = .ok (.iload 8, 2) := by decide +kernel
theorem dL_isWhole_359 : decode cL_isWhole 359 = .ok (.ifCond .eq 47, 3) := by decide +kernel
theorem dL_isWhole_362 : decode cL_isWhole 362 = .ok (.aload_n 0, 1) := by decide +kernel
theorem dL_isWhole_363 : decode cL_isWhole 363 = .ok (.iload 7, 2) := by decide +kernel
theorem dL_isWhole_365 : decode cL_isWhole 365 = .ok (.iconst 4, 1) := by decide +kernel
theorem dL_isWhole_366 : decode cL_isWhole 366 = .ok (.invokestatic 120, 3) := by decide +kernel
theorem dL_isWhole_369 : decode cL_isWhole 369 = .ok (.aload_n 0, 1) := by decide +kernel
theorem dL_isWhole_370 : decode cL_isWhole 370 = .ok (.iload_n 3, 1) := by decide +kernel
theorem dL_isWhole_371 : decode cL_isWhole 371 = .ok (.iconst 4, 1) := by decide +kernel
theorem dL_isWhole_372 : decode cL_isWhole 372 = .ok (.invokestatic 120, 3) := by decide +kernel
theorem dL_isWhole_375 : decode cL_isWhole 375 = .ok (.iand, 1) := by decide +kernel
theorem dL_isWhole_376 : decode cL_isWhole 376 = .ok (.ifCond .ne 34, 3) := by decide +kernel
theorem dL_isWhole_379 : decode cL_isWhole 379 = .ok (.aload_n 0, 1) := by decide +kernel
theorem dL_isWhole_380 : decode cL_isWhole 380 = .ok (.iload 7, 2) := by decide +kernel
theorem dL_isWhole_382 : decode cL_isWhole 382 = .ok (.iconst 3, 1) := by decide +kernel
theorem dL_isWhole_383 : decode cL_isWhole 383 = .ok (.invokestatic 120, 3) := by decide +kernel
theorem dL_isWhole_386 : decode cL_isWhole 386 = .ok (.iconst (-1), 1) := by decide +kernel
theorem dL_isWhole_387 : decode cL_isWhole 387 = .ok (.if_icmp .eq 19, 3) := by decide +kernel
theorem dL_isWhole_390 : decode cL_isWhole 390 = .ok (.aload_n 0, 1) := by decide +kernel
theorem dL_isWhole_391 : decode cL_isWhole 391 = .ok (.iload 7, 2) := by decide +kernel
theorem dL_isWhole_393 : decode cL_isWhole 393 = .ok (.iconst 3, 1) := by decide +kernel
theorem dL_isWhole_394 : decode cL_isWhole 394 = .ok (.invokestatic 120, 3) := by decide +kernel
theorem dL_isWhole_397 : decode cL_isWhole 397 = .ok (.aload_n 0, 1) := by decide +kernel
theorem dL_isWhole_398 : decode cL_isWhole 398 = .ok (.iload_n 3, 1) := by decide +kernel
theorem dL_isWhole_399 : decode cL_isWhole 399 = .ok (.iconst 3, 1) := by decide +kernel
theorem dL_isWhole_400 : decode cL_isWhole 400 = .ok (.invokestatic 120, 3) := by decide +kernel
theorem dL_isWhole_403 : decode cL_isWhole 403 = .ok (.if_icmp .eq 7, 3) := by decide +kernel
theorem dL_isWhole_406 : decode cL_isWhole 406 = .ok (.iconst 1, 1) := by decide +kernel
theorem dL_isWhole_407 : decode cL_isWhole 407 = .ok (.goto 4, 3) := by decide +kernel
theorem dL_isWhole_410 : decode cL_isWhole 410 = .ok (.iconst 0, 1) := by decide +kernel
theorem dL_isWhole_411 : decode cL_isWhole 411 = .ok (.istore_n 2, 1) := by decide +kernel
theorem dL_isWhole_412 : decode cL_isWhole 412 = .ok (.iinc 7 1, 3) := by decide +kernel
theorem dL_isWhole_415 : decode cL_isWhole 415 = .ok (.goto (-124), 3) := by decide +kernel
theorem dL_isWhole_418 : decode cL_isWhole 418 = .ok (.iconst 0, 1) := by decide +kernel
theorem dL_isWhole_419 : decode cL_isWhole 419 = .ok (.istore 7, 2) := by decide +kernel
theorem dL_isWhole_421 : decode cL_isWhole 421 = .ok (.iload 7, 2) := by decide +kernel
theorem dL_isWhole_423 : decode cL_isWhole 423 = .ok (.bipush 10, 2) := by decide +kernel
theorem dL_isWhole_425 : decode cL_isWhole 425 = .ok (.if_icmp .ge 49, 3) := by decide +kernel
theorem dL_isWhole_428 : decode cL_isWhole 428 = .ok (.iload_n 2, 1) := by decide +kernel
theorem dL_isWhole_429 : decode cL_isWhole 429 = .ok (.ifCond .eq 45, 3) := by decide +kernel
theorem dL_isWhole_432 : decode cL_isWhole 432 = .ok (.iload 6, 2) := by decide +kernel
theorem dL_isWhole_434 : decode cL_isWhole 434 = .ok (.ifCond .eq 28, 3) := by decide +kernel
theorem dL_isWhole_437 : decode cL_isWhole 437 = .ok (.aload_n 0, 1) := by decide +kernel
theorem dL_isWhole_438 : decode cL_isWhole 438 = .ok (.iload_n 3, 1) := by decide +kernel
theorem dL_isWhole_439 : decode cL_isWhole 439 = .ok (.iconst 4, 1) := by decide +kernel
theorem dL_isWhole_440 : decode cL_isWhole 440 = .ok (.invokestatic 120, 3) := by decide +kernel
theorem dL_isWhole_443 : decode cL_isWhole 443 = .ok (.iload 7, 2) := by decide +kernel
theorem dL_isWhole_445 : decode cL_isWhole 445 = .ok (.ishr, 1) := by decide +kernel
theorem dL_isWhole_446 : decode cL_isWhole 446 = .ok (.iconst 1, 1) := by decide +kernel
theorem dL_isWhole_447 : decode cL_isWhole 447 = .ok (.iand, 1) := by decide +kernel
theorem dL_isWhole_448 : decode cL_isWhole 448 = .ok (.ifCond .eq 14, 3) := by decide +kernel
theorem dL_isWhole_451 : decode cL_isWhole 451 = .ok (.aload_n 0, 1) := by decide +kernel
theorem dL_isWhole_452 : decode cL_isWhole 452 = .ok (.iload 7, 2) := by decide +kernel
theorem dL_isWhole_454 : decode cL_isWhole 454 = .ok (.iload 4, 2) := by decide +kernel
theorem dL_isWhole_456 : decode cL_isWhole 456 = .ok (.invokestatic 131, 3) := by decide +kernel
theorem dL_isWhole_459 : decode cL_isWhole 459 = .ok (.ifCond .ne 7, 3) := by decide +kernel
theorem dL_isWhole_462 : decode cL_isWhole 462 = .ok (.iconst 1, 1) := by decide +kernel
theorem dL_isWhole_463 : decode cL_isWhole 463 = .ok (.goto 4, 3) := by decide +kernel
theorem dL_isWhole_466 : decode cL_isWhole 466 = .ok (.iconst 0, 1) := by decide +kernel
theorem dL_isWhole_467 : decode cL_isWhole 467 = .ok (.istore_n 2, 1) := by decide +kernel
theorem dL_isWhole_468 : decode cL_isWhole 468 = .ok (.iinc 7 1, 3) := by decide +kernel
theorem dL_isWhole_471 : decode cL_isWhole 471 = .ok (.goto (-50), 3) := by decide +kernel
theorem dL_isWhole_474 : decode cL_isWhole 474 = .ok (.iconst 0, 1) := by decide +kernel
theorem dL_isWhole_475 : decode cL_isWhole 475 = .ok (.istore 7, 2) := by decide +kernel
theorem dL_isWhole_477 : decode cL_isWhole 477 = .ok (.iload 7, 2) := by decide +kernel
theorem dL_isWhole_479 : decode cL_isWhole 479 = .ok (.aload_n 1, 1) := by decide +kernel
theorem dL_isWhole_480 : decode cL_isWhole 480 = .ok (.iconst 2, 1) := by decide +kernel
theorem dL_isWhole_481 : decode cL_isWhole 481 = .ok (.iaload, 1) := by decide +kernel
theorem dL_isWhole_482 : decode cL_isWhole 482 = .ok (.if_icmp .ge 93, 3) := by decide +kernel
theorem dL_isWhole_485 : decode cL_isWhole 485 = .ok (.iload_n 2, 1) := by decide +kernel
theorem dL_isWhole_486 : decode cL_isWhole 486 = .ok (.ifCond .eq 89, 3) := by decide +kernel
theorem dL_isWhole_489 : decode cL_isWhole 489 = .ok (.iload 6, 2) := by decide +kernel
theorem dL_isWhole_491 : decode cL_isWhole 491 = .ok (.ifCond .eq 52, 3) := by decide +kernel
theorem dL_isWhole_494 : decode cL_isWhole 494 = .ok (.aload_n 0, 1) := by decide +kernel
theorem dL_isWhole_495 : decode cL_isWhole 495 = .ok (.iload 7, 2) := by decide +kernel
theorem dL_isWhole_497 : decode cL_isWhole 497 = .ok (.iconst 0, 1) := by decide +kernel
theorem dL_isWhole_498 : decode cL_isWhole 498 = .ok (.invokestatic 124, 3) := by decide +kernel
theorem dL_isWhole_501 : decode cL_isWhole 501 = .ok (.iconst 1, 1) := by decide +kernel
theorem dL_isWhole_502 : decode cL_isWhole 502 = .ok (.if_icmp .ne 41, 3) := by decide +kernel
theorem dL_isWhole_505 : decode cL_isWhole 505 = .ok (.aload_n 0, 1) := by decide +kernel
theorem dL_isWhole_506 : decode cL_isWhole 506 = .ok (.iload 7, 2) := by decide +kernel
theorem dL_isWhole_508 : decode cL_isWhole 508 = .ok (.iconst 1, 1) := by decide +kernel
theorem dL_isWhole_509 : decode cL_isWhole 509 = .ok (.invokestatic 124, 3) := by decide +kernel
theorem dL_isWhole_512 : decode cL_isWhole 512 = .ok (.aload_n 0, 1) := by decide +kernel
theorem dL_isWhole_513 : decode cL_isWhole 513 = .ok (.iload_n 3, 1) := by decide +kernel
theorem dL_isWhole_514 : decode cL_isWhole 514 = .ok (.iconst 3, 1) := by decide +kernel
theorem dL_isWhole_515 : decode cL_isWhole 515 = .ok (.invokestatic 120, 3) := by decide +kernel
theorem dL_isWhole_518 : decode cL_isWhole 518 = .ok (.if_icmp .ne 25, 3) := by decide +kernel
theorem dL_isWhole_521 : decode cL_isWhole 521 = .ok (.iload 4, 2) := by decide +kernel
theorem dL_isWhole_523 : decode cL_isWhole 523 = .ok (.aload_n 0, 1) := by decide +kernel
theorem dL_isWhole_524 : decode cL_isWhole 524 = .ok (.invokevirtual 86, 3) := by decide +kernel
theorem dL_isWhole_527 : decode cL_isWhole 527 = .ok (.if_icmp .gt 16, 3) := by decide +kernel
theorem dL_isWhole_530 : decode cL_isWhole 530 = .ok (.aload_n 0, 1) := by decide +kernel
theorem dL_isWhole_531 : decode cL_isWhole 531 = .ok (.invokevirtual 86, 3) := by decide +kernel
theorem dL_isWhole_534 : decode cL_isWhole 534 = .ok (.iload 5, 2) := by decide +kernel
theorem dL_isWhole_536 : decode cL_isWhole 536 = .ok (.if_icmp .gt 7, 3) := by decide +kernel
theorem dL_isWhole_539 : decode cL_isWhole 539 = .ok (.iconst 1, 1) := by decide +kernel
theorem dL_isWhole_540 : decode cL_isWhole 540 = .ok (.goto 4, 3) := by decide +kernel
theorem dL_isWhole_543 : decode cL_isWhole 543 = .ok (.iconst 0, 1) := by decide +kernel
theorem dL_isWhole_544 : decode cL_isWhole 544 = .ok (.istore 8, 2) := by decide +kernel
theorem dL_isWhole_546 : decode cL_isWhole 546 = .ok (.iload 8, 2) := by decide +kernel
theorem dL_isWhole_548 : decode cL_isWhole 548 = .ok (.ifCond .eq 15, 3) := by decide +kernel
theorem dL_isWhole_551 : decode cL_isWhole 551 = .ok (.aload_n 0, 1) := by decide +kernel
theorem dL_isWhole_552 : decode cL_isWhole 552 = .ok (.iload 7, 2) := by decide +kernel
theorem dL_isWhole_554 : decode cL_isWhole 554 = .ok (.iconst 2, 1) := by decide +kernel
theorem dL_isWhole_555 : decode cL_isWhole 555 = .ok (.invokestatic 124, 3) := by decide +kernel
theorem dL_isWhole_558 : decode cL_isWhole 558 = .ok (.iload 5, 2) := by decide +kernel
theorem dL_isWhole_560 : decode cL_isWhole 560 = .ok (.if_icmp .le 7, 3) := by decide +kernel
theorem dL_isWhole_563 : decode cL_isWhole 563 = .ok (.iconst 1, 1) := by decide +kernel
theorem dL_isWhole_564 : decode cL_isWhole 564 = .ok (.goto 4, 3) := by decide +kernel
theorem dL_isWhole_567 : decode cL_isWhole 567 = .ok (.iconst 0, 1) := by decide +kernel
theorem dL_isWhole_568 : decode cL_isWhole 568 = .ok (.istore_n 2, 1) := by decide +kernel
theorem dL_isWhole_569 : decode cL_isWhole 569 = .ok (.iinc 7 1, 3) := by decide +kernel
theorem dL_isWhole_572 : decode cL_isWhole 572 = .ok (.goto (-95), 3) := by decide +kernel
theorem dL_isWhole_575 : decode cL_isWhole 575 = .ok (.iinc 3 1, 3) := by decide +kernel
theorem dL_isWhole_578 : decode cL_isWhole 578 = .ok (.goto (-390), 3) := by decide +kernel
theorem dL_isWhole_581 : decode cL_isWhole 581 = .ok (.iload_n 2, 1) := by decide +kernel
theorem dL_isWhole_582 : decode cL_isWhole 582 = .ok (.ireturn, 1) := by decide +kernel
set_option maxRecDepth 20000 in
theorem ggL_law_X8_init : GoodIn wsL_law wsX8_init := goodIn_r _ [7, 8, 9, 10, 11, 12, 13, 14, 15, 16, 17, 18, 19, 20, 21, 22, 23, 24, 25, 26, 27, 28, 29, 30, 31, 32, 33, 34, 35, 36, 37, 38, 39, 40, 41, 42, 43, 44, 45, 46, 47, 48, 49, 50, 3, 51, 52, 53, 54, 55, 56, 57, 58, 59, 60, 61, 62, 63, 64, 65, 66, 67, 68, 69, 70, 71, 72, 73, 74, 75, 76, 77, 78, 79, 80, 81, 82, 83, 84, 85, 86, 87, 88, 89, 90, 91, 92, 93, 94, 95, 96, 97, 98, 99, 100, 101, 102, 103, 104, 105, 106, 107, 108, 109, 110, 568, 569, 570, 571, 572, 573, 564, 565, 566, 567, 574, 575, 576, 577, 578, 579, 580, 581, 582, 583, 584, 585, 586, 587, 588, 589, 590, 591, 592, 593, 594, 595, 596, 597, 598, 599, 600, 601, 602, 603, 604, 605, 606, 607, 608, 609, 610, 611, 612, 613, 614] (by decide +kernel) (by decide +kernel)
set_option maxRecDepth 20000 in
theorem gL_law_X8_init : GoodIn wsL_law (wsX8_init) := ggL_law_X8_init
set_option maxRecDepth 20000 in
theorem ggL_law_L_drawn : GoodIn wsL_law wsL_drawn := goodIn_r _ [114, 115, 116] (by decide +kernel) (by decide +kernel)
set_option maxRecDepth 20000 in
theorem gL_law_L_drawn : GoodIn wsL_law (va_wsS RL 136 yL_drawn wsL_drawn) := goodIn_app (goodIn_of _ (by decide +kernel)) ggL_law_L_drawn
set_option maxRecDepth 20000 in
theorem ggL_law_L_act : GoodIn wsL_law wsL_act := goodIn_ca (goodIn_ca (goodIn_ca (goodIn_r _ [119, 120, 121, 113, 122, 123, 124, 125, 126, 127, 128, 129, 130, 131, 2, 132, 14, 133, 134, 135, 136, 137, 138, 139, 140, 141, 142, 143, 144, 145, 146, 147, 148, 149, 150, 151, 152, 153, 19, 154, 155, 156, 157, 18, 158, 100, 94, 95, 96, 97, 98, 99, 159, 160, 161, 13, 162, 30, 38, 34, 42, 46, 163, 164, 165, 29, 166, 56, 51, 52, 53, 54, 55, 167, 168, 169, 37, 170, 69, 171, 172, 173, 33, 174, 64, 60, 61, 62, 63, 175, 176, 177, 178, 179, 47, 180, 181, 182, 183, 184, 185, 186, 187, 188, 45, 189, 86, 87, 88, 190, 191, 192, 193, 90, 194, 195, 196, 41, 197, 79, 73, 74, 75, 76, 77, 78, 198, 199, 200, 201, 202, 203, 204, 205, 206, 207, 208, 209, 210, 211, 212, 213, 214, 215, 216, 217, 218, 219, 220, 221, 83, 84, 85, 89, 222, 223, 224, 225, 226, 227, 228, 229, 230, 231, 232, 233, 234, 235, 236, 237, 238, 239, 240, 241, 242, 243, 244, 245, 246, 247, 248, 249, 250, 251, 252, 253, 254, 255, 256, 257, 258, 259, 260, 261, 262, 263, 264, 265, 266, 267, 268, 269, 270, 271, 272, 273, 274, 275, 276, 277, 278, 279, 280, 281, 282, 283, 284, 285, 286, 287, 288, 289, 290, 291, 292, 293, 294, 295, 296, 297, 298, 299, 300, 301, 302, 303, 304, 305, 306, 307, 308, 309, 310, 311, 312, 313, 314, 315, 316, 317, 318, 319, 320, 321, 322, 323, 324, 325, 326, 327, 328, 329, 330, 331, 332, 333, 334, 23, 335, 336, 337, 338, 339, 22, 340, 110, 104, 105, 106, 107, 108, 109, 341, 342, 343, 344, 345, 346, 347, 348, 349, 350, 351, 352, 353, 354, 355, 356, 357, 358, 359, 360, 361, 362, 363, 364, 365, 366, 367, 368, 369, 370, 371, 372, 373, 374, 375, 376, 377, 378, 379, 380, 381, 382, 383, 384, 385, 386, 387, 388, 389, 390, 391, 392, 393, 394, 395, 396, 397, 398, 399, 400, 401, 402, 403, 404, 405, 406, 407, 408, 409, 410, 411, 412, 413, 414, 415, 416, 417, 418, 419, 420, 421, 422, 423, 424, 425, 426, 427, 428, 429, 430, 431, 432, 433, 434, 435, 436, 437, 438, 439, 440, 441, 442, 443, 444, 445, 446, 447, 448, 449, 450, 451, 452, 453, 454, 455, 456, 457, 458, 459, 460, 461, 462, 463, 464, 465, 466, 564, 565, 566, 567, 568, 569, 570, 571, 572, 573, 588, 589, 590, 591, 592, 593, 574, 575, 576, 577, 578, 579, 580, 599, 594, 595, 596, 597, 598, 607, 608, 609, 610, 611, 612, 613, 614, 600, 601, 602, 603, 604, 605, 606, 581, 582, 583, 584, 585, 586, 587] (by decide +kernel) (by decide +kernel)) (goodIn_sub (fun _ h => List.mem_append_left _ (List.mem_append_left _ (List.mem_append_right _ h))) (by decide +kernel))) (goodIn_sub (fun _ h => List.mem_append_left _ (List.mem_append_right _ h)) (by decide +kernel))) (goodIn_sub (fun _ h => List.mem_append_right _ h) (by decide +kernel))
set_option maxRecDepth 20000 in
theorem gL_law_L_act : GoodIn wsL_law (va_wsS RL 141 yL_act wsL_act) := goodIn_app (goodIn_of _ (by decide +kernel)) ggL_law_L_act
set_option maxRecDepth 20000 in
theorem ggL_law_L_refuses : GoodIn wsL_law wsL_refuses := goodIn_ca (goodIn_ca (goodIn_ca (goodIn_r _ [469, 126, 127, 128, 227, 228, 229, 2, 230, 14, 154, 120, 121, 113, 122, 123, 124, 125, 129, 130, 131, 132, 133, 134, 135, 136, 137, 138, 139, 140, 141, 142, 143, 144, 145, 146, 147, 148, 149, 150, 151, 152, 153, 19, 155, 156, 157, 18, 158, 100, 94, 95, 96, 97, 98, 99, 159, 160, 161, 13, 162, 30, 38, 34, 42, 46, 163, 164, 165, 29, 166, 56, 51, 52, 53, 54, 55, 167, 168, 169, 37, 170, 69, 171, 172, 173, 33, 174, 64, 60, 61, 62, 63, 175, 176, 177, 178, 179, 47, 180, 181, 182, 183, 184, 185, 186, 187, 188, 45, 189, 86, 87, 88, 190, 191, 192, 193, 90, 194, 195, 196, 41, 197, 79, 73, 74, 75, 76, 77, 78, 198, 199, 200, 201, 202, 203, 204, 205, 206, 207, 208, 209, 210, 211, 212, 213, 214, 215, 216, 217, 218, 219, 220, 221, 83, 84, 85, 89, 222, 223, 224, 225, 226, 379, 380, 381, 382, 383, 384, 385, 238, 386, 256, 257, 258, 259, 260, 360, 361, 362, 387, 388, 389, 390, 391, 392, 393, 394, 395, 240, 241, 242, 243, 244, 320, 321, 322, 323, 324, 325, 326, 327, 231, 232, 233, 234, 235, 236, 237, 239, 245, 246, 247, 248, 249, 250, 251, 252, 253, 254, 255, 261, 262, 263, 264, 265, 266, 267, 268, 269, 270, 271, 272, 273, 274, 275, 276, 277, 278, 279, 280, 281, 282, 283, 284, 285, 286, 287, 288, 289, 290, 291, 292, 293, 294, 295, 296, 297, 298, 299, 300, 301, 302, 303, 304, 305, 306, 307, 308, 309, 310, 311, 312, 313, 314, 315, 316, 317, 318, 319, 328, 329, 330, 331, 332, 333, 334, 23, 335, 336, 337, 338, 339, 22, 340, 110, 104, 105, 106, 107, 108, 109, 341, 342, 343, 344, 345, 346, 347, 348, 349, 350, 351, 352, 353, 354, 355, 356, 357, 358, 359, 363, 364, 365, 366, 367, 368, 369, 370, 371, 372, 373, 374, 375, 376, 377, 378, 396, 397, 398, 399, 400, 401, 402, 403, 404, 405, 406, 407, 408, 409, 410, 411, 412, 413, 414, 415, 416, 417, 418, 419, 420, 421, 422, 423, 424, 425, 426, 427, 428, 429, 430, 431, 432, 433, 434, 435, 436, 437, 438, 439, 440, 441, 442, 443, 444, 445, 446, 447, 448, 449, 450, 451, 452, 453, 454, 455, 456, 457, 458, 459, 460, 461, 462, 463, 464, 465, 466, 470, 471, 472, 473, 474, 475, 476, 477, 478, 479, 480, 481, 482, 483, 484, 485, 486, 487, 488, 489, 490, 491, 492, 493, 494, 495, 496, 497, 498, 499, 500, 501, 502, 503, 504, 15, 505, 506, 507, 508, 509, 510, 511, 512, 513, 514, 515, 516, 517, 518, 519, 520, 521, 522, 523, 524, 525, 526, 527, 528, 529, 530, 531, 532, 533, 534, 535, 536, 537, 538, 539, 540, 541, 542, 543, 544, 545, 546, 547, 548, 549, 550, 551, 552, 553, 554, 555, 556, 557, 564, 565, 566, 567, 568, 569, 570, 571, 572, 573, 588, 589, 590, 591, 592, 593, 574, 575, 576, 577, 578, 579, 580, 599, 594, 595, 596, 597, 598, 607, 608, 609, 610, 611, 612, 613, 614, 600, 601, 602, 603, 604, 605, 606, 581, 582, 583, 584, 585, 586, 587] (by decide +kernel) (by decide +kernel)) (goodIn_sub (fun _ h => List.mem_append_left _ (List.mem_append_left _ (List.mem_append_right _ h))) (by decide +kernel))) (goodIn_sub (fun _ h => List.mem_append_left _ (List.mem_append_right _ h)) (by decide +kernel))) (goodIn_sub (fun _ h => List.mem_append_right _ h) (by decide +kernel))
set_option maxRecDepth 20000 in
theorem gL_law_L_refuses : GoodIn wsL_law (va_wsS RL 145 yL_refuses wsL_refuses) := goodIn_app (goodIn_of _ (by decide +kernel)) ggL_law_L_refuses
set_option maxRecDepth 20000 in
theorem ggL_law_X8_slot : GoodIn wsL_law wsX8_slot := goodIn_r _ [230, 14, 154, 564, 565, 566, 567, 568, 569, 570, 571, 572, 573] (by decide +kernel) (by decide +kernel)
set_option maxRecDepth 20000 in
theorem gL_law_X8_slot : GoodIn wsL_law (wsV RL 86 RX8 yX8_slot wsX8_slot) := goodIn_app (goodIn_of _ (by decide +kernel)) ggL_law_X8_slot
set_option maxRecDepth 20000 in
theorem ggL_law_L_isAlike : GoodIn wsL_law wsL_isAlike := goodIn_ca (goodIn_ca (goodIn_r _ [560, 227, 228, 229, 2, 230, 14, 154, 481, 482, 113, 483, 123, 126, 484, 485, 486, 487, 23, 348, 352, 353, 354, 355, 138, 139, 335, 498, 499, 500, 501, 502, 503, 504, 15, 403, 496, 414, 415, 416, 417, 418, 191, 192, 45, 193, 90, 505, 506, 507, 508, 19, 509, 510, 511, 512, 513, 514, 515, 516, 517, 518, 13, 519, 30, 430, 34, 520, 38, 42, 521, 46, 522, 47, 523, 524, 525, 37, 526, 69, 426, 427, 428, 429, 431, 432, 433, 434, 181, 435, 182, 183, 184, 29, 185, 56, 436, 437, 438, 439, 86, 83, 85, 84, 440, 441, 442, 443, 280, 281, 282, 283, 53, 54, 284, 259, 260, 444, 445, 446, 447, 448, 449, 450, 451, 33, 452, 64, 60, 62, 63, 61, 453, 266, 267, 268, 269, 270, 271, 41, 272, 79, 76, 77, 74, 75, 454, 455, 456, 457, 87, 88, 89, 190, 458, 459, 460, 461, 277, 278, 462, 279, 463, 464, 465, 466, 159, 160, 161, 162, 163, 164, 165, 166, 51, 52, 55, 167, 168, 169, 170, 171, 172, 173, 174, 175, 176, 177, 178, 179, 180, 186, 187, 188, 189, 194, 195, 196, 197, 73, 78, 198, 199, 200, 201, 202, 203, 204, 205, 206, 207, 208, 209, 210, 211, 212, 213, 214, 215, 216, 217, 218, 219, 220, 221, 222, 223, 224, 225, 226, 527, 528, 529, 124, 127, 530, 531, 532, 533, 240, 241, 242, 243, 133, 244, 140, 141, 142, 143, 144, 534, 535, 536, 537, 538, 539, 540, 541, 238, 542, 135, 136, 137, 386, 256, 257, 258, 543, 262, 263, 264, 265, 360, 361, 362, 470, 471, 472, 473, 474, 475, 476, 477, 478, 292, 479, 480, 293, 294, 295, 296, 297, 488, 489, 490, 491, 492, 493, 494, 412, 495, 497, 544, 545, 546, 547, 548, 549, 550, 551, 552, 553, 554, 555, 556, 557, 273, 274, 275, 276, 564, 565, 566, 567, 568, 569, 570, 571, 572, 573, 581, 582, 583, 584, 585, 586, 587, 607, 608, 609, 610, 611, 612, 613, 614, 574, 575, 576, 577, 578, 579, 580, 588, 589, 590, 591, 592, 593, 594, 595, 596, 597, 598, 600, 601, 602, 603, 604, 605, 606, 599] (by decide +kernel) (by decide +kernel)) (goodIn_sub (fun _ h => List.mem_append_left _ (List.mem_append_left _ (List.mem_append_right _ h))) (by decide +kernel))) (goodIn_sub (fun _ h => List.mem_append_left _ (List.mem_append_right _ h)) (by decide +kernel))
set_option maxRecDepth 20000 in
theorem gL_law_L_isAlike : GoodIn wsL_law (va_wsS RL 149 yL_isAlike wsL_isAlike) := goodIn_app (goodIn_of _ (by decide +kernel)) ggL_law_L_isAlike
set_option maxRecDepth 20000 in
theorem ggL_law_L_isWhole : GoodIn wsL_law wsL_isWhole := goodIn_ca (goodIn_ca (goodIn_r _ [563, 488, 489, 113, 490, 123, 124, 126, 127, 491, 492, 493, 2, 494, 143, 144, 14, 403, 412, 495, 496, 497, 414, 415, 416, 417, 138, 139, 418, 191, 192, 45, 193, 90, 498, 499, 500, 501, 502, 503, 504, 15, 505, 506, 507, 508, 19, 509, 510, 511, 512, 513, 514, 515, 154, 516, 517, 518, 13, 519, 30, 430, 34, 520, 38, 42, 521, 46, 522, 47, 523, 524, 525, 37, 526, 69, 426, 427, 428, 429, 431, 432, 433, 434, 181, 435, 182, 183, 184, 29, 185, 56, 436, 437, 438, 439, 86, 83, 85, 84, 440, 441, 442, 443, 280, 281, 282, 283, 53, 54, 284, 259, 260, 444, 445, 446, 447, 448, 449, 450, 451, 33, 452, 64, 60, 62, 63, 61, 453, 266, 267, 268, 269, 270, 271, 41, 272, 79, 76, 77, 74, 75, 454, 455, 456, 457, 87, 88, 89, 190, 458, 459, 460, 461, 277, 278, 462, 279, 463, 464, 465, 466, 159, 160, 161, 162, 163, 164, 165, 166, 51, 52, 55, 167, 168, 169, 170, 171, 172, 173, 174, 175, 176, 177, 178, 179, 180, 186, 187, 188, 189, 194, 195, 196, 197, 73, 78, 198, 199, 200, 201, 202, 203, 204, 205, 206, 207, 208, 209, 210, 211, 212, 213, 214, 215, 216, 217, 218, 219, 220, 221, 222, 223, 224, 225, 226, 227, 228, 229, 230, 470, 471, 472, 473, 474, 475, 476, 238, 477, 478, 292, 479, 480, 293, 294, 295, 296, 297, 535, 536, 537, 538, 539, 540, 541, 542, 135, 136, 137, 140, 141, 142, 386, 256, 257, 258, 543, 262, 263, 264, 265, 360, 361, 362, 564, 565, 566, 567, 568, 569, 570, 571, 572, 573, 607, 608, 609, 610, 611, 612, 613, 614, 574, 575, 576, 577, 578, 579, 580, 588, 589, 590, 591, 592, 593, 594, 595, 596, 597, 598, 600, 601, 602, 603, 604, 605, 606, 599] (by decide +kernel) (by decide +kernel)) (goodIn_sub (fun _ h => List.mem_append_left _ (List.mem_append_right _ h)) (by decide +kernel))) (goodIn_sub (fun _ h => List.mem_append_left _ (List.mem_append_left _ (List.mem_append_right _ h))) (by decide +kernel))
set_option maxRecDepth 20000 in
theorem gL_law_L_isWhole : GoodIn wsL_law (va_wsS RL 153 yL_isWhole wsL_isWhole) := goodIn_app (goodIn_of _ (by decide +kernel)) ggL_law_L_isWhole
theorem dL_law_0 : decode cL_law 0 = .ok (.new 8, 3) := by decide +kernel
theorem dL_law_3 : decode cL_law 3 = .ok (.dup, 1) := by decide +kernel
theorem dL_law_4 : decode cL_law 4 = .ok (.invokespecial 135, 3) := by decide +kernel
theorem dL_law_7 : decode cL_law 7 = .ok (.astore_n 1, 1) := by decide +kernel
theorem dL_law_8 : decode cL_law 8 = .ok (.new 8, 3) := by decide +kernel
theorem dL_law_11 : decode cL_law 11 = .ok (.dup, 1) := by decide +kernel
theorem dL_law_12 : decode cL_law 12 = .ok (.invokespecial 135, 3) := by decide +kernel
theorem dL_law_15 : decode cL_law 15 = .ok (.astore_n 2, 1) := by decide +kernel
theorem dL_law_16 : decode cL_law 16 = .ok (.iconst 4, 1) := by decide +kernel
theorem dL_law_17 : decode cL_law 17 = .ok (.newarray .int, 2) := by decide +kernel
theorem dL_law_19 : decode cL_law 19 = .ok (.astore_n 3, 1) := by decide +kernel
theorem dL_law_20 : decode cL_law 20 = .ok (.bipush 40, 2) := by decide +kernel
theorem dL_law_22 : decode cL_law 22 = .ok (.aload_n 0, 1) := by decide +kernel
theorem dL_law_23 : decode cL_law 23 = .ok (.iconst 0, 1) := by decide +kernel
theorem dL_law_24 : decode cL_law 24 = .ok (.invokestatic 136, 3) := by decide +kernel
theorem dL_law_27 : decode cL_law 27 = .ok (.bipush 31, 2) := by decide +kernel
theorem dL_law_29 : decode cL_law 29 = .ok (.irem, 1) := by decide +kernel
theorem dL_law_30 : decode cL_law 30 = .ok (.iadd, 1) := by decide +kernel
theorem dL_law_31 : decode cL_law 31 = .ok (.istore 4, 2) := by decide +kernel
theorem dL_law_33 : decode cL_law 33 = .ok (.iconst 1, 1) := by decide +kernel
theorem dL_law_34 : decode cL_law 34 = .ok (.istore 5, 2) := by decide +kernel
theorem dL_law_36 : decode cL_law 36 = .ok (.iconst 0, 1) := by decide +kernel
theorem dL_law_37 : decode cL_law 37 = .ok (.istore 6, 2) := by decide +kernel
theorem dL_law_39 : decode cL_law 39 = .ok (.iload 6, 2) := by decide +kernel
theorem dL_law_41 : decode cL_law 41 = .ok (.iload 4, 2) := by decide +kernel
theorem dL_law_43 : decode cL_law 43 = .ok (.if_icmp .ge 321, 3) := by decide +kernel
theorem dL_law_46 : decode cL_law 46 = .ok (.iload 5, 2) := by decide +kernel
theorem dL_law_48 : decode cL_law 48 = .ok (.ifCond .eq 316, 3) := by decide +kernel
theorem dL_law_51 : decode cL_law 51 = .ok (.aload_n 0, 1) := by decide +kernel
theorem dL_law_52 : decode cL_law 52 = .ok (.iconst 1, 1) := by decide +kernel
theorem dL_law_53 : decode cL_law 53 = .ok (.iload 6, 2) := by decide +kernel
theorem dL_law_55 : decode cL_law 55 = .ok (.iadd, 1) := by decide +kernel
theorem dL_law_56 : decode cL_law 56 = .ok (.invokestatic 136, 3) := by decide +kernel
theorem dL_law_59 : decode cL_law 59 = .ok (.ldc 140, 2) := by decide +kernel
theorem dL_law_61 : decode cL_law 61 = .ok (.irem, 1) := by decide +kernel
theorem dL_law_62 : decode cL_law 62 = .ok (.istore 7, 2) := by decide +kernel
theorem dL_law_64 : decode cL_law 64 = .ok (.iload 6, 2) := by decide +kernel
theorem dL_law_66 : decode cL_law 66 = .ok (.iconst 2, 1) := by decide +kernel
theorem dL_law_67 : decode cL_law 67 = .ok (.if_icmp .ge 14, 3) := by decide +kernel
theorem dL_law_70 : decode cL_law 70 = .ok (.bipush 20, 2) := by decide +kernel
theorem dL_law_72 : decode cL_law 72 = .ok (.iload 7, 2) := by decide +kernel
theorem dL_law_74 : decode cL_law 74 = .ok (.bipush 20, 2) := by decide +kernel
theorem dL_law_76 : decode cL_law 76 = .ok (.idiv, 1) := by decide +kernel
theorem dL_law_77 : decode cL_law 77 = .ok (.imul, 1) := by decide +kernel
theorem dL_law_78 : decode cL_law 78 = .ok (.goto 45, 3) := by decide +kernel
theorem dL_law_81 : decode cL_law 81 = .ok (.iload 6, 2) := by decide +kernel
theorem dL_law_83 : decode cL_law 83 = .ok (.iconst 5, 1) := by decide +kernel
theorem dL_law_84 : decode cL_law 84 = .ok (.if_icmp .ge 16, 3) := by decide +kernel
theorem dL_law_87 : decode cL_law 87 = .ok (.bipush 20, 2) := by decide +kernel
theorem dL_law_89 : decode cL_law 89 = .ok (.iload 7, 2) := by decide +kernel
theorem dL_law_91 : decode cL_law 91 = .ok (.bipush 20, 2) := by decide +kernel
theorem dL_law_93 : decode cL_law 93 = .ok (.idiv, 1) := by decide +kernel
theorem dL_law_94 : decode cL_law 94 = .ok (.imul, 1) := by decide +kernel
theorem dL_law_95 : decode cL_law 95 = .ok (.iconst 1, 1) := by decide +kernel
theorem dL_law_96 : decode cL_law 96 = .ok (.iadd, 1) := by decide +kernel
theorem dL_law_97 : decode cL_law 97 = .ok (.goto 26, 3) := by decide +kernel
theorem dL_law_100 : decode cL_law 100 = .ok (.iload 6, 2) := by decide +kernel
theorem dL_law_102 : decode cL_law 102 = .ok (.bipush 8, 2) := by decide +kernel
theorem dL_law_104 : decode cL_law 104 = .ok (.if_icmp .ge 17, 3) := by decide +kernel
theorem dL_law_107 : decode cL_law 107 = .ok (.bipush 20, 2) := by decide +kernel
theorem dL_law_109 : decode cL_law 109 = .ok (.iload 7, 2) := by decide +kernel
theorem dL_law_111 : decode cL_law 111 = .ok (.bipush 20, 2) := by decide +kernel
theorem dL_law_113 : decode cL_law 113 = .ok (.idiv, 1) := by decide +kernel
theorem dL_law_114 : decode cL_law 114 = .ok (.imul, 1) := by decide +kernel
theorem dL_law_115 : decode cL_law 115 = .ok (.bipush 12, 2) := by decide +kernel
theorem dL_law_117 : decode cL_law 117 = .ok (.iadd, 1) := by decide +kernel
theorem dL_law_118 : decode cL_law 118 = .ok (.goto 5, 3) := by decide +kernel
theorem dL_law_121 : decode cL_law 121 = .ok (.iload 7, 2) := by decide +kernel
theorem dL_law_123 : decode cL_law 123 = .ok (.istore 7, 2) := by decide +kernel
theorem dL_law_125 : decode cL_law 125 = .ok (.aload_n 1, 1) := by decide +kernel
theorem dL_law_126 : decode cL_law 126 = .ok (.aload_n 3, 1) := by decide +kernel
theorem dL_law_127 : decode cL_law 127 = .ok (.iload 7, 2) := by decide +kernel
theorem dL_law_129 : decode cL_law 129 = .ok (.invokestatic 141, 3) := by decide +kernel
theorem dL_law_132 : decode cL_law 132 = .ok (.istore 8, 2) := by decide +kernel
theorem dL_law_134 : decode cL_law 134 = .ok (.aload_n 2, 1) := by decide +kernel
theorem dL_law_135 : decode cL_law 135 = .ok (.aload_n 3, 1) := by decide +kernel
theorem dL_law_136 : decode cL_law 136 = .ok (.iload 7, 2) := by decide +kernel
theorem dL_law_138 : decode cL_law 138 = .ok (.sipush 9973, 3) := by decide +kernel
theorem dL_law_141 : decode cL_law 141 = .ok (.irem, 1) := by decide +kernel
theorem dL_law_142 : decode cL_law 142 = .ok (.invokestatic 145, 3) := by decide +kernel
theorem dL_law_145 : decode cL_law 145 = .ok (.ifCond .eq 19, 3) := by decide +kernel
theorem dL_law_148 : decode cL_law 148 = .ok (.aload_n 2, 1) := by decide +kernel
theorem dL_law_149 : decode cL_law 149 = .ok (.aload_n 3, 1) := by decide +kernel
theorem dL_law_150 : decode cL_law 150 = .ok (.iload 7, 2) := by decide +kernel
theorem dL_law_152 : decode cL_law 152 = .ok (.invokestatic 141, 3) := by decide +kernel
theorem dL_law_155 : decode cL_law 155 = .ok (.iload 8, 2) := by decide +kernel
theorem dL_law_157 : decode cL_law 157 = .ok (.if_icmp .ne 7, 3) := by decide +kernel
theorem dL_law_160 : decode cL_law 160 = .ok (.iconst 1, 1) := by decide +kernel
theorem dL_law_161 : decode cL_law 161 = .ok (.goto 4, 3) := by decide +kernel
theorem dL_law_164 : decode cL_law 164 = .ok (.iconst 0, 1) := by decide +kernel
theorem dL_law_165 : decode cL_law 165 = .ok (.istore 5, 2) := by decide +kernel
theorem dL_law_167 : decode cL_law 167 = .ok (.iload 7, 2) := by decide +kernel
theorem dL_law_169 : decode cL_law 169 = .ok (.bipush 20, 2) := by decide +kernel
theorem dL_law_171 : decode cL_law 171 = .ok (.irem, 1) := by decide +kernel
theorem dL_law_172 : decode cL_law 172 = .ok (.istore 9, 2) := by decide +kernel
theorem dL_law_174 : decode cL_law 174 = .ok (.iload 8, 2) := by decide +kernel
theorem dL_law_176 : decode cL_law 176 = .ok (.ifCond .lt 7, 3) := by decide +kernel
theorem dL_law_179 : decode cL_law 179 = .ok (.iconst 1, 1) := by decide +kernel
theorem dL_law_180 : decode cL_law 180 = .ok (.goto 4, 3) := by decide +kernel
theorem dL_law_183 : decode cL_law 183 = .ok (.iconst 0, 1) := by decide +kernel
theorem dL_law_184 : decode cL_law 184 = .ok (.istore 10, 2) := by decide +kernel
theorem dL_law_186 : decode cL_law 186 = .ok (.aload_n 3, 1) := by decide +kernel
theorem dL_law_187 : decode cL_law 187 = .ok (.iconst 0, 1) := by decide +kernel
theorem dL_law_188 : decode cL_law 188 = .ok (.dup2, 1) := by decide +kernel
theorem dL_law_189 : decode cL_law 189 = .ok (.iaload, 1) := by decide +kernel
theorem dL_law_190 : decode cL_law 190 = .ok (.iload 9, 2) := by decide +kernel
theorem dL_law_192 : decode cL_law 192 = .ok (.ifCond .ne 12, 3) := by decide +kernel
theorem dL_law_195 : decode cL_law 195 = .ok (.iload 10, 2) := by decide +kernel
theorem dL_law_197 : decode cL_law 197 = .ok (.ifCond .eq 7, 3) := by decide +kernel
theorem dL_law_200 : decode cL_law 200 = .ok (.iconst 1, 1) := by decide +kernel
theorem dL_law_201 : decode cL_law 201 = .ok (.goto 4, 3) := by decide +kernel
theorem dL_law_204 : decode cL_law 204 = .ok (.iconst 0, 1) := by decide +kernel
theorem dL_law_205 : decode cL_law 205 = .ok (.iadd, 1) := by decide +kernel
theorem dL_law_206 : decode cL_law 206 = .ok (.iastore, 1) := by decide +kernel
theorem dL_law_207 : decode cL_law 207 = .ok (.aload_n 3, 1) := by decide +kernel
theorem dL_law_208 : decode cL_law 208 = .ok (.iconst 1, 1) := by decide +kernel
theorem dL_law_209 : decode cL_law 209 = .ok (.dup2, 1) := by decide +kernel
theorem dL_law_210 : decode cL_law 210 = .ok (.iaload, 1) := by decide +kernel
theorem dL_law_211 : decode cL_law 211 = .ok (.iload 9, 2) := by decide +kernel
theorem dL_law_213 : decode cL_law 213 = .ok (.iconst 1, 1) := by decide +kernel
theorem dL_law_214 : decode cL_law 214 = .ok (.if_icmp .lt 18, 3) := by decide +kernel
theorem dL_law_217 : decode cL_law 217 = .ok (.iload 9, 2) := by decide +kernel
theorem dL_law_219 : decode cL_law 219 = .ok (.iconst 3, 1) := by decide +kernel
theorem dL_law_220 : decode cL_law 220 = .ok (.if_icmp .gt 12, 3) := by decide +kernel
theorem dL_law_223 : decode cL_law 223 = .ok (.iload 10, 2) := by decide +kernel
theorem dL_law_225 : decode cL_law 225 = .ok (.ifCond .eq 7, 3) := by decide +kernel
theorem dL_law_228 : decode cL_law 228 = .ok (.iconst 1, 1) := by decide +kernel
theorem dL_law_229 : decode cL_law 229 = .ok (.goto 4, 3) := by decide +kernel
theorem dL_law_232 : decode cL_law 232 = .ok (.iconst 0, 1) := by decide +kernel
theorem dL_law_233 : decode cL_law 233 = .ok (.iadd, 1) := by decide +kernel
theorem dL_law_234 : decode cL_law 234 = .ok (.iastore, 1) := by decide +kernel
theorem dL_law_235 : decode cL_law 235 = .ok (.aload_n 3, 1) := by decide +kernel
theorem dL_law_236 : decode cL_law 236 = .ok (.iconst 2, 1) := by decide +kernel
theorem dL_law_237 : decode cL_law 237 = .ok (.dup2, 1) := by decide +kernel
theorem dL_law_238 : decode cL_law 238 = .ok (.iaload, 1) := by decide +kernel
theorem dL_law_239 : decode cL_law 239 = .ok (.iload 9, 2) := by decide +kernel
theorem dL_law_241 : decode cL_law 241 = .ok (.bipush 12, 2) := by decide +kernel
theorem dL_law_243 : decode cL_law 243 = .ok (.if_icmp .lt 19, 3) := by decide +kernel
theorem dL_law_246 : decode cL_law 246 = .ok (.iload 9, 2) := by decide +kernel
theorem dL_law_248 : decode cL_law 248 = .ok (.bipush 14, 2) := by decide +kernel
theorem dL_law_250 : decode cL_law 250 = .ok (.if_icmp .gt 12, 3) := by decide +kernel
theorem dL_law_253 : decode cL_law 253 = .ok (.iload 10, 2) := by decide +kernel
theorem dL_law_255 : decode cL_law 255 = .ok (.ifCond .eq 7, 3) := by decide +kernel
theorem dL_law_258 : decode cL_law 258 = .ok (.iconst 1, 1) := by decide +kernel
theorem dL_law_259 : decode cL_law 259 = .ok (.goto 4, 3) := by decide +kernel
theorem dL_law_262 : decode cL_law 262 = .ok (.iconst 0, 1) := by decide +kernel
theorem dL_law_263 : decode cL_law 263 = .ok (.iadd, 1) := by decide +kernel
theorem dL_law_264 : decode cL_law 264 = .ok (.iastore, 1) := by decide +kernel
theorem dL_law_265 : decode cL_law 265 = .ok (.aload_n 3, 1) := by decide +kernel
theorem dL_law_266 : decode cL_law 266 = .ok (.iconst 3, 1) := by decide +kernel
theorem dL_law_267 : decode cL_law 267 = .ok (.dup2, 1) := by decide +kernel
theorem dL_law_268 : decode cL_law 268 = .ok (.iaload, 1) := by decide +kernel
theorem dL_law_269 : decode cL_law 269 = .ok (.iload 9, 2) := by decide +kernel
theorem dL_law_271 : decode cL_law 271 = .ok (.bipush 7, 2) := by decide +kernel
theorem dL_law_273 : decode cL_law 273 = .ok (.if_icmp .ne 12, 3) := by decide +kernel
theorem dL_law_276 : decode cL_law 276 = .ok (.iload 10, 2) := by decide +kernel
theorem dL_law_278 : decode cL_law 278 = .ok (.ifCond .eq 7, 3) := by decide +kernel
theorem dL_law_281 : decode cL_law 281 = .ok (.iconst 1, 1) := by decide +kernel
theorem dL_law_282 : decode cL_law 282 = .ok (.goto 4, 3) := by decide +kernel
theorem dL_law_285 : decode cL_law 285 = .ok (.iconst 0, 1) := by decide +kernel
theorem dL_law_286 : decode cL_law 286 = .ok (.iadd, 1) := by decide +kernel
theorem dL_law_287 : decode cL_law 287 = .ok (.iastore, 1) := by decide +kernel
theorem dL_law_288 : decode cL_law 288 = .ok (.iload 5, 2) := by decide +kernel
theorem dL_law_290 : decode cL_law 290 = .ok (.ifCond .eq 65, 3) := by decide +kernel
theorem dL_law_293 : decode cL_law 293 = .ok (.aload_n 2, 1) := by decide +kernel
theorem dL_law_294 : decode cL_law 294 = .ok (.aload_n 3, 1) := by decide +kernel
theorem dL_law_295 : decode cL_law 295 = .ok (.iload 7, 2) := by decide +kernel
theorem dL_law_297 : decode cL_law 297 = .ok (.sipush 499, 3) := by decide +kernel
theorem dL_law_300 : decode cL_law 300 = .ok (.irem, 1) := by decide +kernel
theorem dL_law_301 : decode cL_law 301 = .ok (.invokestatic 145, 3) := by decide +kernel
theorem dL_law_304 : decode cL_law 304 = .ok (.ifCond .eq 51, 3) := by decide +kernel
theorem dL_law_307 : decode cL_law 307 = .ok (.aload_n 1, 1) := by decide +kernel
theorem dL_law_308 : decode cL_law 308 = .ok (.aload_n 2, 1) := by decide +kernel
theorem dL_law_309 : decode cL_law 309 = .ok (.aload_n 3, 1) := by decide +kernel
theorem dL_law_310 : decode cL_law 310 = .ok (.iload 6, 2) := by decide +kernel
theorem dL_law_312 : decode cL_law 312 = .ok (.iconst 2, 1) := by decide +kernel
theorem dL_law_313 : decode cL_law 313 = .ok (.irem, 1) := by decide +kernel
theorem dL_law_314 : decode cL_law 314 = .ok (.ifCond .ne 12, 3) := by decide +kernel
theorem dL_law_317 : decode cL_law 317 = .ok (.iconst 3, 1) := by decide +kernel
theorem dL_law_318 : decode cL_law 318 = .ok (.aload_n 1, 1) := by decide +kernel
theorem dL_law_319 : decode cL_law 319 = .ok (.invokevirtual 86, 3) := by decide +kernel
theorem dL_law_322 : decode cL_law 322 = .ok (.imul, 1) := by decide +kernel
theorem dL_law_323 : decode cL_law 323 = .ok (.goto 7, 3) := by decide +kernel
theorem dL_law_326 : decode cL_law 326 = .ok (.iload 7, 2) := by decide +kernel
theorem dL_law_328 : decode cL_law 328 = .ok (.iconst 3, 1) := by decide +kernel
theorem dL_law_329 : decode cL_law 329 = .ok (.idiv, 1) := by decide +kernel
theorem dL_law_330 : decode cL_law 330 = .ok (.invokestatic 149, 3) := by decide +kernel
theorem dL_law_333 : decode cL_law 333 = .ok (.ifCond .eq 22, 3) := by decide +kernel
theorem dL_law_336 : decode cL_law 336 = .ok (.iload 6, 2) := by decide +kernel
theorem dL_law_338 : decode cL_law 338 = .ok (.iconst 4, 1) := by decide +kernel
theorem dL_law_339 : decode cL_law 339 = .ok (.irem, 1) := by decide +kernel
theorem dL_law_340 : decode cL_law 340 = .ok (.ifCond .gt 11, 3) := by decide +kernel
theorem dL_law_343 : decode cL_law 343 = .ok (.aload_n 2, 1) := by decide +kernel
theorem dL_law_344 : decode cL_law 344 = .ok (.aload_n 3, 1) := by decide +kernel
theorem dL_law_345 : decode cL_law 345 = .ok (.invokestatic 153, 3) := by decide +kernel
theorem dL_law_348 : decode cL_law 348 = .ok (.ifCond .eq 7, 3) := by decide +kernel
theorem dL_law_351 : decode cL_law 351 = .ok (.iconst 1, 1) := by decide +kernel
theorem dL_law_352 : decode cL_law 352 = .ok (.goto 4, 3) := by decide +kernel
theorem dL_law_355 : decode cL_law 355 = .ok (.iconst 0, 1) := by decide +kernel
theorem dL_law_356 : decode cL_law 356 = .ok (.istore 5, 2) := by decide +kernel
theorem dL_law_358 : decode cL_law 358 = .ok (.iinc 6 1, 3) := by decide +kernel
theorem dL_law_361 : decode cL_law 361 = .ok (.goto (-322), 3) := by decide +kernel
theorem dL_law_364 : decode cL_law 364 = .ok (.iload 5, 2) := by decide +kernel
theorem dL_law_366 : decode cL_law 366 = .ok (.ifCond .eq 40, 3) := by decide +kernel
theorem dL_law_369 : decode cL_law 369 = .ok (.aload_n 1, 1) := by decide +kernel
theorem dL_law_370 : decode cL_law 370 = .ok (.aload_n 3, 1) := by decide +kernel
theorem dL_law_371 : decode cL_law 371 = .ok (.invokestatic 153, 3) := by decide +kernel
theorem dL_law_374 : decode cL_law 374 = .ok (.ifCond .eq 32, 3) := by decide +kernel
theorem dL_law_377 : decode cL_law 377 = .ok (.aload_n 2, 1) := by decide +kernel
theorem dL_law_378 : decode cL_law 378 = .ok (.aload_n 3, 1) := by decide +kernel
theorem dL_law_379 : decode cL_law 379 = .ok (.invokestatic 153, 3) := by decide +kernel
theorem dL_law_382 : decode cL_law 382 = .ok (.ifCond .eq 24, 3) := by decide +kernel
theorem dL_law_385 : decode cL_law 385 = .ok (.aload_n 1, 1) := by decide +kernel
theorem dL_law_386 : decode cL_law 386 = .ok (.aload_n 2, 1) := by decide +kernel
theorem dL_law_387 : decode cL_law 387 = .ok (.aload_n 3, 1) := by decide +kernel
theorem dL_law_388 : decode cL_law 388 = .ok (.aload_n 0, 1) := by decide +kernel
theorem dL_law_389 : decode cL_law 389 = .ok (.iconst 0, 1) := by decide +kernel
theorem dL_law_390 : decode cL_law 390 = .ok (.invokestatic 136, 3) := by decide +kernel
theorem dL_law_393 : decode cL_law 393 = .ok (.bipush 37, 2) := by decide +kernel
theorem dL_law_395 : decode cL_law 395 = .ok (.idiv, 1) := by decide +kernel
theorem dL_law_396 : decode cL_law 396 = .ok (.invokestatic 149, 3) := by decide +kernel
theorem dL_law_399 : decode cL_law 399 = .ok (.ifCond .eq 7, 3) := by decide +kernel
theorem dL_law_402 : decode cL_law 402 = .ok (.iconst 1, 1) := by decide +kernel
theorem dL_law_403 : decode cL_law 403 = .ok (.goto 4, 3) := by decide +kernel
theorem dL_law_406 : decode cL_law 406 = .ok (.iconst 0, 1) := by decide +kernel
theorem dL_law_407 : decode cL_law 407 = .ok (.ireturn, 1) := by decide +kernel
