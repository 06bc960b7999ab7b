/-! ===== the names of the law's methods (printed) ===== -/
set_option maxRecDepth 20000 in
theorem ggL_machine_X8_machine : GoodIn wsL_machine wsX8_machine := goodIn_ca (goodIn_ca (goodIn_ca (goodIn_r _ [11, 12, 13, 14, 15, 16, 10, 17, 18, 19, 20, 21, 22, 23, 24, 25, 26, 27, 28, 29, 30, 31, 32, 33, 34, 35, 36, 37, 38, 39, 40, 41, 42, 43, 44, 45, 46, 47, 48, 49, 50, 51, 52, 53, 54, 55, 56, 57, 58, 59, 60, 61, 62, 63, 64, 65, 66, 67, 68, 69, 70, 71, 72, 73, 74, 75, 76, 77, 78, 79, 80, 81, 82, 83, 84, 85, 86, 87, 88, 89, 90, 91, 92, 93, 94, 95, 96, 97, 98, 99, 100, 101, 102, 103, 104, 105, 106, 107, 108, 109, 110, 111, 112, 113, 114, 115, 116, 117, 118, 119, 120, 121, 122, 123, 124, 125, 126, 127, 128, 129, 130, 131, 132, 133, 134, 135, 136, 137, 138, 139, 140, 141, 142, 143, 144, 145, 146, 147, 148, 149, 150, 151, 152, 153, 154, 155, 156, 157, 158, 159, 160, 161, 162, 163, 164, 165, 166, 167, 168, 169, 170, 171, 172, 173, 174, 175, 176, 177, 178, 179, 180, 181, 182, 183, 184, 185, 186, 187, 188, 189, 190, 191, 192, 193, 194, 195, 196, 197, 198] (by decide +kernel) (by decide +kernel)) (goodIn_sub (fun _ h => List.mem_cons_of_mem _ (List.mem_append_left _ (List.mem_append_left _ (List.mem_append_right _ h)))) (by decide +kernel))) (goodIn_sub (fun _ h => List.mem_cons_of_mem _ (List.mem_append_left _ (List.mem_append_right _ h))) (by decide +kernel))) (goodIn_sub (fun _ h => List.mem_cons_of_mem _ (List.mem_append_right _ h)) (by decide +kernel))
set_option maxRecDepth 20000 in
theorem gL_machine_X8_machine : GoodIn wsL_machine (wsV RL 7 RX8 yX8_machine wsX8_machine) := goodIn_app (goodIn_of _ (by decide +kernel)) ggL_machine_X8_machine
theorem dL_machine_0 : decode cL_machine 0 = .ok (.aload_n 0, 1) := by decide +kernel
theorem dL_machine_1 : decode cL_machine 1 = .ok (.iload_n 1, 1) := by decide +kernel
theorem dL_machine_2 : decode cL_machine 2 = .ok (.iload_n 2, 1) := by decide +kernel
theorem dL_machine_3 : decode cL_machine 3 = .ok (.invokevirtual 7, 3) := by decide +kernel
theorem dL_machine_6 : decode cL_machine 6 = .ok (.ireturn, 1) := by decide +kernel
theorem dL_machine_7 : decode cL_machine 7 = .ok (.astore_n 3, 1) := by decide +kernel
theorem dL_machine_8 : decode cL_machine 8 = .ok (.ldc 15, 2) := by decide +kernel
theorem dL_machine_10 : decode cL_machine 10 = .ok (.ireturn, 1) := by decide +kernel
theorem dL_machine_11 : decode cL_machine 11 = .ok (.astore_n 3, 1) := by decide +kernel
theorem dL_machine_12 : decode cL_machine 12 = .ok (.ldc 18, 2) := by decide +kernel
theorem dL_machine_14 : decode cL_machine 14 = .ok (.ireturn, 1) := by decide +kernel
theorem dL_machine_15 : decode cL_machine 15 = .ok (.astore_n 3, 1) := by decide +kernel
theorem dL_machine_16 : decode cL_machine 16 = .ok (.ldc 21, 2) := by decide +kernel
theorem dL_machine_18 : decode cL_machine 18 = .ok (.ireturn, 1) := by decide +kernel
set_option maxRecDepth 20000 in
theorem ggL_leave_X8_leave : GoodIn wsL_leave wsX8_leave := goodIn_ca (goodIn_ca (goodIn_ca (goodIn_r _ [11, 12, 13, 14, 15, 16, 10, 17, 18, 19, 20, 21, 22, 23, 24, 25, 26, 27, 28, 29, 30, 31, 32, 33, 34, 35, 36, 37, 38, 39, 40, 41, 42, 43, 44, 45, 46, 47, 48, 49, 50, 51, 52, 53, 54, 55, 56, 57, 58, 59, 60, 61, 62, 63, 64, 65, 66, 67, 68, 69, 70, 71, 72, 73, 74, 75, 76, 77, 78, 79, 80, 81, 82, 83, 84, 85, 86, 87, 88, 89, 90, 91, 92, 93, 94, 95, 96, 97, 98, 99, 100, 101, 102, 103, 104, 105, 106, 107, 108, 109, 110, 111, 112, 113, 114, 115, 116, 117, 118, 119, 120, 121, 122, 123, 124, 125, 126, 127, 128, 129, 130, 131, 132, 133, 134, 135, 136, 137, 138, 139, 140, 141, 142, 143, 144, 145, 146, 147, 148, 149, 150, 151, 152, 153, 154, 155, 156, 157, 158, 159, 160, 161, 162, 163, 164, 165, 166, 167, 168, 169, 170, 171, 172, 173, 174, 175, 176, 177, 178, 179, 180, 181, 182, 183, 184, 185, 186, 187, 188, 189, 190, 191, 192, 193, 194, 195, 196, 197, 198, 199, 200, 201, 202, 203, 204, 205, 206] (by decide +kernel) (by decide +kernel)) (goodIn_sub (fun _ h => List.mem_cons_of_mem _ (List.mem_append_left _ (List.mem_append_left _ (List.mem_append_right _ h)))) (by decide +kernel))) (goodIn_sub (fun _ h => List.mem_cons_of_mem _ (List.mem_append_left _ (List.mem_append_right _ h))) (by decide +kernel))) (goodIn_sub (fun _ h => List.mem_cons_of_mem _ (List.mem_append_right _ h)) (by decide +kernel))
set_option maxRecDepth 20000 in
theorem gL_leave_X8_leave : GoodIn wsL_leave (wsV RL 22 RX8 yX8_leave wsX8_leave) := goodIn_app (goodIn_of _ (by decide +kernel)) ggL_leave_X8_leave
theorem dL_leave_0 : decode cL_leave 0 = .ok (.aload_n 0, 1) := by decide +kernel
theorem dL_leave_1 : decode cL_leave 1 = .ok (.iload_n 1, 1) := by decide +kernel
theorem dL_leave_2 : decode cL_leave 2 = .ok (.iload_n 2, 1) := by decide +kernel
theorem dL_leave_3 : decode cL_leave 3 = .ok (.iload_n 3, 1) := by decide +kernel
theorem dL_leave_4 : decode cL_leave 4 = .ok (.invokevirtual 22, 3) := by decide +kernel
theorem dL_leave_7 : decode cL_leave 7 = .ok (.iconst 0, 1) := by decide +kernel
theorem dL_leave_8 : decode cL_leave 8 = .ok (.ireturn, 1) := by decide +kernel
theorem dL_leave_9 : decode cL_leave 9 = .ok (.astore 4, 2) := by decide +kernel
theorem dL_leave_11 : decode cL_leave 11 = .ok (.ldc 15, 2) := by decide +kernel
theorem dL_leave_13 : decode cL_leave 13 = .ok (.ireturn, 1) := by decide +kernel
theorem dL_leave_14 : decode cL_leave 14 = .ok (.astore 4, 2) := by decide +kernel
theorem dL_leave_16 : decode cL_leave 16 = .ok (.ldc 18, 2) := by decide +kernel
theorem dL_leave_18 : decode cL_leave 18 = .ok (.ireturn, 1) := by decide +kernel
theorem dL_leave_19 : decode cL_leave 19 = .ok (.astore 4, 2) := by decide +kernel
theorem dL_leave_21 : decode cL_leave 21 = .ok (.ldc 21, 2) := by decide +kernel
theorem dL_leave_23 : decode cL_leave 23 = .ok (.ireturn, 1) := by decide +kernel
set_option maxRecDepth 20000 in
theorem ggL_lend_X8_lend : GoodIn wsL_lend wsX8_lend := goodIn_ca (goodIn_ca (goodIn_ca (goodIn_r _ [11, 12, 13, 14, 15, 16, 17, 18, 10, 19, 20, 21, 22, 23, 24, 25, 26, 27, 28, 29, 30, 31, 32, 33, 34, 35, 36, 37, 38, 39, 40, 41, 42, 43, 44, 45, 46, 47, 48, 49, 50, 51, 52, 53, 54, 55, 56, 57, 58, 59, 60, 61, 62, 63, 64, 65, 66, 67, 68, 69, 70, 71, 72, 73, 74, 75, 76, 77, 78, 79, 80, 81, 82, 83, 84, 85, 86, 87, 88, 89, 90, 91, 92, 93, 94, 95, 96, 97, 98, 99, 100, 101, 102, 103, 104, 105, 106, 107, 108, 109, 110, 111, 112, 113, 114, 115, 116, 117, 118, 119, 120, 121, 122, 123, 124, 125, 126, 127, 128, 129, 130, 131, 132, 133, 134, 135, 136, 137, 138, 139, 140, 141, 142, 143, 144, 145, 146, 147, 148, 149, 150, 151, 152, 153, 154, 155, 156, 157, 158, 159, 160, 161, 162, 163, 164, 165, 166, 167, 168, 169, 170, 171, 172, 173, 174, 175, 176, 177, 178, 179, 180, 181, 182, 183, 184, 185, 186, 187, 188, 189, 190, 191, 192, 193, 194, 195, 196, 197, 198, 199, 200, 201, 202, 203, 204] (by decide +kernel) (by decide +kernel)) (goodIn_sub (fun _ h => List.mem_cons_of_mem _ (List.mem_append_left _ (List.mem_append_left _ (List.mem_append_right _ h)))) (by decide +kernel))) (goodIn_sub (fun _ h => List.mem_cons_of_mem _ (List.mem_append_left _ (List.mem_append_right _ h))) (by decide +kernel))) (goodIn_sub (fun _ h => List.mem_cons_of_mem _ (List.mem_append_right _ h)) (by decide +kernel))
set_option maxRecDepth 20000 in
theorem gL_lend_X8_lend : GoodIn wsL_lend (wsV RL 26 RX8 yX8_lend wsX8_lend) := goodIn_app (goodIn_of _ (by decide +kernel)) ggL_lend_X8_lend
theorem dL_lend_0 : decode cL_lend 0 = .ok (.aload_n 0, 1) := by decide +kernel
theorem dL_lend_1 : decode cL_lend 1 = .ok (.iload_n 1, 1) := by decide +kernel
theorem dL_lend_2 : decode cL_lend 2 = .ok (.iload_n 2, 1) := by decide +kernel
theorem dL_lend_3 : decode cL_lend 3 = .ok (.iload_n 3, 1) := by decide +kernel
theorem dL_lend_4 : decode cL_lend 4 = .ok (.iload 4, 2) := by decide +kernel
theorem dL_lend_6 : decode cL_lend 6 = .ok (.invokevirtual 26, 3) := by decide +kernel
theorem dL_lend_9 : decode cL_lend 9 = .ok (.iconst 0, 1) := by decide +kernel
theorem dL_lend_10 : decode cL_lend 10 = .ok (.ireturn, 1) := by decide +kernel
theorem dL_lend_11 : decode cL_lend 11 = .ok (.astore 5, 2) := by decide +kernel
theorem dL_lend_13 : decode cL_lend 13 = .ok (.ldc 15, 2) := by decide +kernel
theorem dL_lend_15 : decode cL_lend 15 = .ok (.ireturn, 1) := by decide +kernel
theorem dL_lend_16 : decode cL_lend 16 = .ok (.astore 5, 2) := by decide +kernel
theorem dL_lend_18 : decode cL_lend 18 = .ok (.ldc 18, 2) := by decide +kernel
theorem dL_lend_20 : decode cL_lend 20 = .ok (.ireturn, 1) := by decide +kernel
theorem dL_lend_21 : decode cL_lend 21 = .ok (.astore 5, 2) := by decide +kernel
theorem dL_lend_23 : decode cL_lend 23 = .ok (.ldc 21, 2) := by decide +kernel
theorem dL_lend_25 : decode cL_lend 25 = .ok (.ireturn, 1) := by decide +kernel
set_option maxRecDepth 20000 in
theorem ggL_breakDown_X8_breakDown : GoodIn wsL_breakDown wsX8_breakDown := goodIn_ca (goodIn_ca (goodIn_r _ [9, 10, 11, 12, 13, 14, 15, 8, 16, 17, 18, 19, 20, 21, 22, 23, 24, 25, 26, 27, 28, 29, 30, 31, 32, 33, 34, 35, 36, 37, 38, 39, 40, 41, 42, 43, 44, 45, 46, 47, 48, 49, 50, 51, 52, 53, 54, 55, 56, 57, 58, 59, 60, 61, 62, 63, 64, 65, 66, 67, 68, 69, 70, 71, 72, 73, 74, 75, 76, 77, 78, 79, 80, 81, 82, 83, 84, 85, 86, 87, 88, 89, 90, 91, 92, 93, 94, 95, 96, 97, 98, 99, 100, 101, 102, 103, 104, 105, 106, 107, 108, 109, 110, 111, 112, 113, 114, 115, 116, 117, 118, 119, 120, 121, 122, 123, 124, 125, 126, 127, 128, 129, 130, 131, 132, 133, 134, 135, 136, 137, 138, 139, 140, 141, 142, 143, 144, 145, 146, 147, 148, 149, 150, 151, 152, 153, 154, 155, 156, 157, 158, 159, 160, 161, 162, 163, 164, 165, 166, 167, 168, 169, 170, 171, 172, 173, 174, 175, 176, 177, 178, 179, 180, 181, 182, 183, 184, 185, 186, 187, 188, 189, 190, 191, 192, 193] (by decide +kernel) (by decide +kernel)) (goodIn_sub (fun _ h => List.mem_cons_of_mem _ (List.mem_append_left _ (List.mem_append_right _ h))) (by decide +kernel))) (goodIn_sub (fun _ h => List.mem_cons_of_mem _ (List.mem_append_right _ h)) (by decide +kernel))
set_option maxRecDepth 20000 in
theorem gL_breakDown_X8_breakDown : GoodIn wsL_breakDown (wsV RL 30 RX8 yX8_breakDown wsX8_breakDown) := goodIn_app (goodIn_of _ (by decide +kernel)) ggL_breakDown_X8_breakDown
theorem dL_breakDown_0 : decode cL_breakDown 0 = .ok (.aload_n 0, 1) := by decide +kernel
theorem dL_breakDown_1 : decode cL_breakDown 1 = .ok (.iload_n 1, 1) := by decide +kernel
theorem dL_breakDown_2 : decode cL_breakDown 2 = .ok (.iload_n 2, 1) := by decide +kernel
theorem dL_breakDown_3 : decode cL_breakDown 3 = .ok (.invokevirtual 30, 3) := by decide +kernel
theorem dL_breakDown_6 : decode cL_breakDown 6 = .ok (.ireturn, 1) := by decide +kernel
theorem dL_breakDown_7 : decode cL_breakDown 7 = .ok (.astore_n 3, 1) := by decide +kernel
theorem dL_breakDown_8 : decode cL_breakDown 8 = .ok (.ldc 15, 2) := by decide +kernel
theorem dL_breakDown_10 : decode cL_breakDown 10 = .ok (.ireturn, 1) := by decide +kernel
theorem dL_breakDown_11 : decode cL_breakDown 11 = .ok (.astore_n 3, 1) := by decide +kernel
theorem dL_breakDown_12 : decode cL_breakDown 12 = .ok (.ldc 18, 2) := by decide +kernel
theorem dL_breakDown_14 : decode cL_breakDown 14 = .ok (.ireturn, 1) := by decide +kernel
set_option maxRecDepth 20000 in
theorem ggL_meeting_X8_meeting : GoodIn wsL_meeting wsX8_meeting := goodIn_ca (goodIn_ca (goodIn_ca (goodIn_r _ [11, 12, 13, 14, 15, 16, 17, 18, 10, 19, 20, 21, 22, 23, 24, 25, 26, 27, 28, 29, 30, 31, 32, 33, 34, 35, 36, 37, 38, 39, 40, 41, 42, 43, 44, 45, 46, 47, 48, 49, 50, 51, 52, 53, 54, 55, 56, 57, 58, 59, 60, 61, 62, 63, 64, 65, 66, 67, 68, 69, 70, 71, 72, 73, 74, 75, 76, 77, 78, 79, 80, 81, 82, 83, 84, 85, 86, 87, 88, 89, 90, 91, 92, 93, 94, 95, 96, 97, 98, 99, 100, 101, 102, 103, 104, 105, 106, 107, 108, 109, 110, 111, 112, 113, 114, 115, 116, 117, 118, 119, 120, 121, 122, 123, 124, 125, 126, 127, 128, 129, 130, 131, 132, 133, 134, 135, 136, 137, 138, 139, 140, 141, 142, 143, 144, 145, 146, 147, 148, 149, 150, 151, 152, 153, 154, 155, 156, 157, 158, 159, 160, 161, 162, 163, 164, 165, 166, 167, 168, 169, 170, 171, 172, 173, 174, 175, 176, 177, 178, 179, 180, 181, 182, 183, 184, 185, 186, 187, 188, 189, 190, 191, 192, 193, 194, 195, 196, 197, 198, 199, 200, 201, 202, 203, 204, 205, 206, 207, 208, 209, 210, 211, 212, 213, 214, 215, 216, 217, 218, 219, 220, 221, 222, 223, 224, 225, 226, 227, 228, 229, 230, 231, 232, 233, 234, 235, 236, 237, 238, 239, 240, 241] (by decide +kernel) (by decide +kernel)) (goodIn_sub (fun _ h => List.mem_cons_of_mem _ (List.mem_append_left _ (List.mem_append_left _ (List.mem_append_right _ h)))) (by decide +kernel))) (goodIn_sub (fun _ h => List.mem_cons_of_mem _ (List.mem_append_left _ (List.mem_append_right _ h))) (by decide +kernel))) (goodIn_sub (fun _ h => List.mem_cons_of_mem _ (List.mem_append_right _ h)) (by decide +kernel))
set_option maxRecDepth 20000 in
theorem gL_meeting_X8_meeting : GoodIn wsL_meeting (wsV RL 33 RX8 yX8_meeting wsX8_meeting) := goodIn_app (goodIn_of _ (by decide +kernel)) ggL_meeting_X8_meeting
theorem dL_meeting_0 : decode cL_meeting 0 = .ok (.aload_n 0, 1) := by decide +kernel
theorem dL_meeting_1 : decode cL_meeting 1 = .ok (.iload_n 1, 1) := by decide +kernel
theorem dL_meeting_2 : decode cL_meeting 2 = .ok (.iload_n 2, 1) := by decide +kernel
theorem dL_meeting_3 : decode cL_meeting 3 = .ok (.iload_n 3, 1) := by decide +kernel
theorem dL_meeting_4 : decode cL_meeting 4 = .ok (.iload 4, 2) := by decide +kernel
theorem dL_meeting_6 : decode cL_meeting 6 = .ok (.invokevirtual 33, 3) := by decide +kernel
theorem dL_meeting_9 : decode cL_meeting 9 = .ok (.ireturn, 1) := by decide +kernel
theorem dL_meeting_10 : decode cL_meeting 10 = .ok (.astore 5, 2) := by decide +kernel
theorem dL_meeting_12 : decode cL_meeting 12 = .ok (.ldc 15, 2) := by decide +kernel
theorem dL_meeting_14 : decode cL_meeting 14 = .ok (.ireturn, 1) := by decide +kernel
theorem dL_meeting_15 : decode cL_meeting 15 = .ok (.astore 5, 2) := by decide +kernel
theorem dL_meeting_17 : decode cL_meeting 17 = .ok (.ldc 18, 2) := by decide +kernel
theorem dL_meeting_19 : decode cL_meeting 19 = .ok (.ireturn, 1) := by decide +kernel
theorem dL_meeting_20 : decode cL_meeting 20 = .ok (.astore 5, 2) := by decide +kernel
theorem dL_meeting_22 : decode cL_meeting 22 = .ok (.ldc 21, 2) := by decide +kernel
theorem dL_meeting_24 : decode cL_meeting 24 = .ok (.ireturn, 1) := by decide +kernel
set_option maxRecDepth 20000 in
theorem ggL_move_X8_move : GoodIn wsL_move wsX8_move := goodIn_ca (goodIn_ca (goodIn_ca (goodIn_r _ [11, 12, 13, 14, 15, 16, 17, 18, 10, 19, 20, 21, 22, 23, 24, 25, 26, 27, 28, 29, 30, 31, 32, 33, 34, 35, 36, 37, 38, 39, 40, 41, 42, 43, 44, 45, 46, 47, 48, 49, 50, 51, 52, 53, 54, 55, 56, 57, 58, 59, 60, 61, 62, 63, 64, 65, 66, 67, 68, 69, 70, 71, 72, 73, 74, 75, 76, 77, 78, 79, 80, 81, 82, 83, 84, 85, 86, 87, 88, 89, 90, 91, 92, 93, 94, 95, 96, 97, 98, 99, 100, 101, 102, 103, 104, 105, 106, 107, 108, 109, 110, 111, 112, 113, 114, 115, 116, 117, 118, 119, 120, 121, 122, 123, 124, 125, 126, 127, 128, 129, 130, 131, 132, 133, 134, 135, 136, 137, 138, 139, 140, 141, 142, 143, 144, 145, 146, 147, 148, 149, 150, 151, 152, 153, 154, 155, 156, 157, 158, 159, 160, 161, 162, 163, 164, 165, 166, 167, 168, 169, 170, 171, 172, 173, 174, 175, 176, 177, 178, 179, 180, 181, 182, 183, 184, 185, 186, 187, 188, 189, 190, 191, 192, 193, 194, 195, 196, 197, 198, 199, 200, 201, 202, 203, 204, 205, 206, 207, 208, 209, 210, 211, 212, 213, 214, 215, 216, 217, 218, 219, 220, 221, 222, 223, 224, 225, 226, 227, 228, 229, 230, 231, 232, 233, 234, 235, 236, 237, 238, 239, 240, 241, 242, 243, 244, 245, 246, 247, 248, 249, 250, 251, 252, 253, 254] (by decide +kernel) (by decide +kernel)) (goodIn_sub (fun _ h => List.mem_cons_of_mem _ (List.mem_append_left _ (List.mem_append_left _ (List.mem_append_right _ h)))) (by decide +kernel))) (goodIn_sub (fun _ h => List.mem_cons_of_mem _ (List.mem_append_left _ (List.mem_append_right _ h))) (by decide +kernel))) (goodIn_sub (fun _ h => List.mem_cons_of_mem _ (List.mem_append_right _ h)) (by decide +kernel))
set_option maxRecDepth 20000 in
theorem gL_move_X8_move : GoodIn wsL_move (wsV RL 37 RX8 yX8_move wsX8_move) := goodIn_app (goodIn_of _ (by decide +kernel)) ggL_move_X8_move
theorem dL_move_0 : decode cL_move 0 = .ok (.aload_n 0, 1) := by decide +kernel
theorem dL_move_1 : decode cL_move 1 = .ok (.iload_n 1, 1) := by decide +kernel
theorem dL_move_2 : decode cL_move 2 = .ok (.iload_n 2, 1) := by decide +kernel
theorem dL_move_3 : decode cL_move 3 = .ok (.invokevirtual 37, 3) := by decide +kernel
theorem dL_move_6 : decode cL_move 6 = .ok (.ifCond .eq 7, 3) := by decide +kernel
theorem dL_move_9 : decode cL_move 9 = .ok (.iconst 1, 1) := by decide +kernel
theorem dL_move_10 : decode cL_move 10 = .ok (.goto 4, 3) := by decide +kernel
theorem dL_move_13 : decode cL_move 13 = .ok (.iconst 0, 1) := by decide +kernel
theorem dL_move_14 : decode cL_move 14 = .ok (.ireturn, 1) := by decide +kernel
theorem dL_move_15 : decode cL_move 15 = .ok (.astore_n 3, 1) := by decide +kernel
theorem dL_move_16 : decode cL_move 16 = .ok (.ldc 15, 2) := by decide +kernel
theorem dL_move_18 : decode cL_move 18 = .ok (.ireturn, 1) := by decide +kernel
theorem dL_move_19 : decode cL_move 19 = .ok (.astore_n 3, 1) := by decide +kernel
theorem dL_move_20 : decode cL_move 20 = .ok (.ldc 18, 2) := by decide +kernel
theorem dL_move_22 : decode cL_move 22 = .ok (.ireturn, 1) := by decide +kernel
theorem dL_move_23 : decode cL_move 23 = .ok (.astore_n 3, 1) := by decide +kernel
theorem dL_move_24 : decode cL_move 24 = .ok (.ldc 21, 2) := by decide +kernel
theorem dL_move_26 : decode cL_move 26 = .ok (.ireturn, 1) := by decide +kernel
set_option maxRecDepth 20000 in
theorem ggL_cancel_X8_cancel : GoodIn wsL_cancel wsX8_cancel := goodIn_ca (goodIn_ca (goodIn_r _ [9, 10, 11, 12, 13, 8, 14, 15, 16, 17, 18, 19, 20, 21, 22, 23, 24, 25, 26, 27, 28, 29, 30, 31, 32, 33, 34, 35, 36, 37, 38, 39, 40, 41, 42, 43, 44, 45, 46, 47, 48, 49, 50, 51, 52, 53, 54, 55, 56, 57, 58, 59, 60, 61, 62, 63, 64, 65, 66, 67, 68, 69, 70, 71, 72, 73, 74, 75, 76, 77, 78, 79, 80, 81, 82, 83, 84, 85, 86, 87, 88, 89, 90, 91, 92, 93, 94, 95, 96, 97, 98, 99, 100, 101, 102, 103, 104, 105, 106, 107, 108, 109, 110, 111, 112, 113, 114, 115, 116, 117, 118, 119, 120, 121, 122, 123, 124, 125, 126, 127, 128, 129, 130, 131, 132, 133, 134, 135, 136, 137, 138, 139, 140, 141, 142, 143, 144, 145, 146, 147, 148, 149, 150, 151, 152, 153, 154, 155, 156, 157, 158, 159, 160, 161, 162, 163, 164, 165, 166, 167, 168, 169, 170, 171, 172, 173, 174, 175, 176, 177, 178, 179, 180, 181, 182, 183, 184, 185, 186, 187, 188, 189, 190, 191, 192, 193, 194, 195, 196, 197, 198, 199] (by decide +kernel) (by decide +kernel)) (goodIn_sub (fun _ h => List.mem_cons_of_mem _ (List.mem_append_left _ (List.mem_append_right _ h))) (by decide +kernel))) (goodIn_sub (fun _ h => List.mem_cons_of_mem _ (List.mem_append_right _ h)) (by decide +kernel))
set_option maxRecDepth 20000 in
theorem gL_cancel_X8_cancel : GoodIn wsL_cancel (wsV RL 41 RX8 yX8_cancel wsX8_cancel) := goodIn_app (goodIn_of _ (by decide +kernel)) ggL_cancel_X8_cancel
theorem dL_cancel_0 : decode cL_cancel 0 = .ok (.aload_n 0, 1) := by decide +kernel
theorem dL_cancel_1 : decode cL_cancel 1 = .ok (.iload_n 1, 1) := by decide +kernel
theorem dL_cancel_2 : decode cL_cancel 2 = .ok (.invokevirtual 41, 3) := by decide +kernel
theorem dL_cancel_5 : decode cL_cancel 5 = .ok (.iconst 0, 1) := by decide +kernel
theorem dL_cancel_6 : decode cL_cancel 6 = .ok (.ireturn, 1) := by decide +kernel
theorem dL_cancel_7 : decode cL_cancel 7 = .ok (.astore_n 2, 1) := by decide +kernel
theorem dL_cancel_8 : decode cL_cancel 8 = .ok (.ldc 15, 2) := by decide +kernel
theorem dL_cancel_10 : decode cL_cancel 10 = .ok (.ireturn, 1) := by decide +kernel
theorem dL_cancel_11 : decode cL_cancel 11 = .ok (.astore_n 2, 1) := by decide +kernel
theorem dL_cancel_12 : decode cL_cancel 12 = .ok (.ldc 21, 2) := by decide +kernel
theorem dL_cancel_14 : decode cL_cancel 14 = .ok (.ireturn, 1) := by decide +kernel
set_option maxRecDepth 20000 in
theorem ggL_swap_X8_swap : GoodIn wsL_swap wsX8_swap := goodIn_ca (goodIn_ca (goodIn_ca (goodIn_r _ [11, 12, 13, 14, 15, 16, 17, 18, 19, 20, 21, 10, 22, 23, 24, 25, 26, 27, 28, 29, 30, 31, 32, 33, 34, 35, 36, 37, 38, 39, 40, 41, 42, 43, 44, 45, 46, 47, 48, 49, 50, 51, 52, 53, 54, 55, 56, 57, 58, 59, 60, 61, 62, 63, 64, 65, 66, 67, 68, 69, 70, 71, 72, 73, 74, 75, 76, 77, 78, 79, 80, 81] (by decide +kernel) (by decide +kernel)) (goodIn_sub (fun _ h => List.mem_cons_of_mem _ (List.mem_append_left _ (List.mem_append_left _ (List.mem_append_right _ h)))) (by decide +kernel))) (goodIn_sub (fun _ h => List.mem_cons_of_mem _ (List.mem_append_left _ (List.mem_append_right _ h))) (by decide +kernel))) (goodIn_sub (fun _ h => List.mem_cons_of_mem _ (List.mem_append_right _ h)) (by decide +kernel))
set_option maxRecDepth 20000 in
theorem gL_swap_X8_swap : GoodIn wsL_swap (wsV RL 45 RX8 yX8_swap wsX8_swap) := goodIn_app (goodIn_of _ (by decide +kernel)) ggL_swap_X8_swap
theorem dL_swap_0 : decode cL_swap 0 = .ok (.aload_n 0, 1) := by decide +kernel
theorem dL_swap_1 : decode cL_swap 1 = .ok (.iload_n 1, 1) := by decide +kernel
theorem dL_swap_2 : decode cL_swap 2 = .ok (.iload_n 2, 1) := by decide +kernel
theorem dL_swap_3 : decode cL_swap 3 = .ok (.invokevirtual 45, 3) := by decide +kernel
theorem dL_swap_6 : decode cL_swap 6 = .ok (.ireturn, 1) := by decide +kernel
theorem dL_swap_7 : decode cL_swap 7 = .ok (.astore_n 3, 1) := by decide +kernel
theorem dL_swap_8 : decode cL_swap 8 = .ok (.ldc 15, 2) := by decide +kernel
theorem dL_swap_10 : decode cL_swap 10 = .ok (.ireturn, 1) := by decide +kernel
theorem dL_swap_11 : decode cL_swap 11 = .ok (.astore_n 3, 1) := by decide +kernel
theorem dL_swap_12 : decode cL_swap 12 = .ok (.ldc 18, 2) := by decide +kernel
theorem dL_swap_14 : decode cL_swap 14 = .ok (.ireturn, 1) := by decide +kernel
theorem dL_swap_15 : decode cL_swap 15 = .ok (.astore_n 3, 1) := by decide +kernel
theorem dL_swap_16 : decode cL_swap 16 = .ok (.ldc 21, 2) := by decide +kernel
theorem dL_swap_18 : decode cL_swap 18 = .ok (.ireturn, 1) := by decide +kernel
set_option maxRecDepth 20000 in
theorem ggL_agree_X8_agree : GoodIn wsL_agree wsX8_agree := goodIn_ca (goodIn_ca (goodIn_r _ [9, 10, 11, 12, 13, 14, 15, 16, 17, 18, 8, 19, 20, 21, 22, 23, 24, 25, 26, 27, 28, 29, 30, 31, 32, 33, 34, 35, 36, 37, 38, 39, 40, 41, 42, 43, 44, 45, 46, 47, 48, 49, 50, 51, 52, 53, 54, 55, 56, 57, 58, 59, 60, 61, 62, 63, 64, 65, 66, 67, 68, 69, 70, 71, 72, 73, 74, 75, 76, 77, 78, 79, 80, 81, 82, 83, 84, 85, 86, 87, 88, 89, 90, 91, 92, 93, 94, 95, 96, 97, 98, 99, 100, 101, 102, 103, 104, 105, 106, 107, 108, 109, 110, 111, 112, 113, 114, 115, 116, 117, 118, 119, 120, 121, 122, 123, 124, 125, 126, 127, 128, 129, 130, 131, 132, 133, 134, 135, 136, 137, 138, 139, 140, 141, 142, 143, 144, 145, 146, 147, 148, 149, 150, 151, 152, 153, 154, 155, 156, 157, 158, 159, 160, 161, 162, 163, 164, 165, 166, 167, 168, 169, 170, 171, 172, 173, 174, 175, 176, 177, 178, 179, 180, 181, 182, 183, 184, 185, 186, 187, 188, 189, 190, 191, 192, 193, 194, 195, 196, 197, 198, 199, 200, 201, 202, 203, 204, 205, 206, 207, 208, 209, 210, 211, 212, 213, 214, 215, 216, 217, 218, 219, 220, 221, 222, 223, 224, 225, 226, 227, 228, 229, 230, 231, 232, 233, 234, 235, 236, 237, 238, 239, 240, 241, 242, 243, 244, 245, 246, 247, 248, 249, 250, 251, 252, 253, 254, 255, 256, 257, 258, 259, 260, 261, 262, 263, 264, 265, 266, 267, 268, 269, 270, 271, 272, 273, 274, 275, 276, 277, 278, 279, 280] (by decide +kernel) (by decide +kernel)) (goodIn_sub (fun _ h => List.mem_cons_of_mem _ (List.mem_append_left _ (List.mem_append_right _ h))) (by decide +kernel))) (goodIn_sub (fun _ h => List.mem_cons_of_mem _ (List.mem_append_right _ h)) (by decide +kernel))
set_option maxRecDepth 20000 in
theorem gL_agree_X8_agree : GoodIn wsL_agree (wsV RL 48 RX8 yX8_agree wsX8_agree) := goodIn_app (goodIn_of _ (by decide +kernel)) ggL_agree_X8_agree
theorem dL_agree_0 : decode cL_agree 0 = .ok (.aload_n 0, 1) := by decide +kernel
theorem dL_agree_1 : decode cL_agree 1 = .ok (.iload_n 1, 1) := by decide +kernel
theorem dL_agree_2 : decode cL_agree 2 = .ok (.iload_n 2, 1) := by decide +kernel
theorem dL_agree_3 : decode cL_agree 3 = .ok (.invokevirtual 48, 3) := by decide +kernel
theorem dL_agree_6 : decode cL_agree 6 = .ok (.ireturn, 1) := by decide +kernel
theorem dL_agree_7 : decode cL_agree 7 = .ok (.astore_n 3, 1) := by decide +kernel
theorem dL_agree_8 : decode cL_agree 8 = .ok (.ldc 15, 2) := by decide +kernel
theorem dL_agree_10 : decode cL_agree 10 = .ok (.ireturn, 1) := by decide +kernel
theorem dL_agree_11 : decode cL_agree 11 = .ok (.astore_n 3, 1) := by decide +kernel
theorem dL_agree_12 : decode cL_agree 12 = .ok (.ldc 21, 2) := by decide +kernel
theorem dL_agree_14 : decode cL_agree 14 = .ok (.ireturn, 1) := by decide +kernel
set_option maxRecDepth 20000 in
theorem ggL_build_X8_build : GoodIn wsL_build wsX8_build := goodIn_ca (goodIn_ca (goodIn_r _ [9, 10, 11, 12, 13, 14, 8, 15, 16, 17, 18, 19, 20, 21, 22, 23, 24, 25, 26, 27, 28, 29, 30, 31, 32, 33, 34, 35, 36, 37, 38, 39, 40, 41, 42, 43, 44, 45, 46, 47, 48, 49, 50, 51, 52, 53, 54, 55, 56, 57, 58, 59, 60, 61, 62, 63, 64, 65, 66, 67, 68, 69, 70, 71, 72, 73, 74, 75, 76, 77, 78, 79, 80, 81, 82, 83, 84, 85, 86, 87, 88, 89, 90, 91, 92, 93, 94, 95, 96, 97, 98, 99, 100, 101, 102, 103, 104, 105, 106, 107, 108, 109, 110, 111, 112, 113, 114, 115, 116, 117, 118, 119, 120, 121, 122, 123, 124, 125, 126, 127, 128, 129, 130, 131, 132, 133, 134, 135, 136, 137, 138, 139, 140, 141, 142, 143, 144, 145, 146, 147, 148, 149, 150, 151, 152, 153, 154, 155, 156, 157, 158, 159, 160, 161, 162, 163, 164, 165, 166, 167, 168, 169, 170, 171, 172, 173, 174, 175, 176, 177, 178, 179, 180, 181, 182, 183, 184, 185, 186, 187, 188, 189, 190, 191] (by decide +kernel) (by decide +kernel)) (goodIn_sub (fun _ h => List.mem_cons_of_mem _ (List.mem_append_left _ (List.mem_append_right _ h))) (by decide +kernel))) (goodIn_sub (fun _ h => List.mem_cons_of_mem _ (List.mem_append_right _ h)) (by decide +kernel))
set_option maxRecDepth 20000 in
theorem gL_build_X8_build : GoodIn wsL_build (wsV RL 51 RX8 yX8_build wsX8_build) := goodIn_app (goodIn_of _ (by decide +kernel)) ggL_build_X8_build
theorem dL_build_0 : decode cL_build 0 = .ok (.aload_n 0, 1) := by decide +kernel
theorem dL_build_1 : decode cL_build 1 = .ok (.iload_n 1, 1) := by decide +kernel
theorem dL_build_2 : decode cL_build 2 = .ok (.iload_n 2, 1) := by decide +kernel
theorem dL_build_3 : decode cL_build 3 = .ok (.iload_n 3, 1) := by decide +kernel
theorem dL_build_4 : decode cL_build 4 = .ok (.invokevirtual 51, 3) := by decide +kernel
theorem dL_build_7 : decode cL_build 7 = .ok (.ireturn, 1) := by decide +kernel
theorem dL_build_8 : decode cL_build 8 = .ok (.astore 4, 2) := by decide +kernel
theorem dL_build_10 : decode cL_build 10 = .ok (.ldc 18, 2) := by decide +kernel
theorem dL_build_12 : decode cL_build 12 = .ok (.ireturn, 1) := by decide +kernel
theorem dL_build_13 : decode cL_build 13 = .ok (.astore 4, 2) := by decide +kernel
theorem dL_build_15 : decode cL_build 15 = .ok (.ldc 21, 2) := by decide +kernel
theorem dL_build_17 : decode cL_build 17 = .ok (.ireturn, 1) := by decide +kernel
set_option maxRecDepth 20000 in
theorem ggL_urge_X8_urge : GoodIn wsL_urge wsX8_urge := goodIn_ca (goodIn_ca (goodIn_ca (goodIn_r _ [11, 12, 13, 14, 15, 16, 17, 18, 10, 19, 20, 21, 22, 23, 24, 25, 26, 27, 28, 29, 30, 31, 32, 33, 34, 35, 36, 37, 38, 39, 40, 41, 42, 43, 44, 45, 46, 47, 48, 49, 50, 51, 52, 53, 54, 55, 56, 57, 58, 59, 60, 61, 62, 63, 64, 65, 66, 67, 68, 69, 70, 71, 72, 73, 74, 75, 76, 77, 78, 79, 80, 81, 82, 83, 84, 85, 86, 87, 88, 89, 90, 91, 92, 93, 94, 95, 96, 97, 98, 99, 100, 101, 102, 103, 104, 105, 106, 107, 108, 109, 110, 111, 112, 113, 114, 115, 116, 117, 118, 119, 120, 121, 122, 123, 124, 125, 126, 127, 128, 129, 130, 131, 132, 133, 134, 135, 136, 137, 138, 139, 140, 141, 142, 143, 144, 145, 146, 147, 148, 149, 150, 151, 152, 153, 154, 155, 156, 157, 158, 159, 160, 161, 162, 163, 164, 165, 166, 167, 168, 169, 170, 171, 172, 173, 174, 175, 176, 177, 178, 179, 180, 181, 182, 183, 184, 185, 186, 187, 188, 189, 190, 191, 192, 193, 194, 195, 196, 197, 198, 199, 200, 201] (by decide +kernel) (by decide +kernel)) (goodIn_sub (fun _ h => List.mem_cons_of_mem _ (List.mem_append_left _ (List.mem_append_left _ (List.mem_append_right _ h)))) (by decide +kernel))) (goodIn_sub (fun _ h => List.mem_cons_of_mem _ (List.mem_append_left _ (List.mem_append_right _ h))) (by decide +kernel))) (goodIn_sub (fun _ h => List.mem_cons_of_mem _ (List.mem_append_right _ h)) (by decide +kernel))
set_option maxRecDepth 20000 in
theorem gL_urge_X8_urge : GoodIn wsL_urge (wsV RL 55 RX8 yX8_urge wsX8_urge) := goodIn_app (goodIn_of _ (by decide +kernel)) ggL_urge_X8_urge
theorem dL_urge_0 : decode cL_urge 0 = .ok (.aload_n 0, 1) := by decide +kernel
theorem dL_urge_1 : decode cL_urge 1 = .ok (.iload_n 1, 1) := by decide +kernel
theorem dL_urge_2 : decode cL_urge 2 = .ok (.iload_n 2, 1) := by decide +kernel
theorem dL_urge_3 : decode cL_urge 3 = .ok (.invokevirtual 55, 3) := by decide +kernel
theorem dL_urge_6 : decode cL_urge 6 = .ok (.ireturn, 1) := by decide +kernel
theorem dL_urge_7 : decode cL_urge 7 = .ok (.astore_n 3, 1) := by decide +kernel
theorem dL_urge_8 : decode cL_urge 8 = .ok (.ldc 15, 2) := by decide +kernel
theorem dL_urge_10 : decode cL_urge 10 = .ok (.ireturn, 1) := by decide +kernel
theorem dL_urge_11 : decode cL_urge 11 = .ok (.astore_n 3, 1) := by decide +kernel
theorem dL_urge_12 : decode cL_urge 12 = .ok (.ldc 18, 2) := by decide +kernel
theorem dL_urge_14 : decode cL_urge 14 = .ok (.ireturn, 1) := by decide +kernel
theorem dL_urge_15 : decode cL_urge 15 = .ok (.astore_n 3, 1) := by decide +kernel
theorem dL_urge_16 : decode cL_urge 16 = .ok (.ldc 21, 2) := by decide +kernel
theorem dL_urge_18 : decode cL_urge 18 = .ok (.ireturn, 1) := by decide +kernel
set_option maxRecDepth 20000 in
theorem ggL_pass_X8_pass : GoodIn wsL_pass wsX8_pass := goodIn_ca (goodIn_ca (goodIn_r _ [9, 10, 11, 12, 13, 8, 14, 15, 16, 17, 18, 19, 20, 21, 22, 23, 24, 25, 26, 27, 28, 29, 30, 31, 32, 33, 34, 35, 36, 37, 38, 39, 40, 41, 42, 43, 44, 45, 46, 47, 48, 49, 50, 51, 52, 53, 54, 55, 56, 57, 58, 59, 60, 61, 62, 63, 64, 65, 66, 67, 68, 69, 70, 71, 72, 73, 74, 75, 76, 77, 78, 79, 80, 81, 82, 83, 84, 85, 86, 87, 88, 89, 90, 91, 92, 93, 94, 95, 96, 97, 98, 99, 100, 101, 102, 103, 104, 105, 106, 107, 108, 109, 110, 111, 112, 113, 114, 115, 116, 117, 118, 119, 120, 121, 122, 123, 124, 125, 126, 127, 128, 129, 130, 131, 132, 133, 134, 135, 136, 137, 138, 139, 140, 141, 142, 143, 144, 145, 146, 147, 148, 149, 150, 151, 152, 153, 154, 155, 156, 157, 158, 159] (by decide +kernel) (by decide +kernel)) (goodIn_sub (fun _ h => List.mem_cons_of_mem _ (List.mem_append_left _ (List.mem_append_right _ h))) (by decide +kernel))) (goodIn_sub (fun _ h => List.mem_cons_of_mem _ (List.mem_append_right _ h)) (by decide +kernel))
set_option maxRecDepth 20000 in
theorem gL_pass_X8_pass : GoodIn wsL_pass (wsV RL 58 RX8 yX8_pass wsX8_pass) := goodIn_app (goodIn_of _ (by decide +kernel)) ggL_pass_X8_pass
theorem dL_pass_0 : decode cL_pass 0 = .ok (.aload_n 0, 1) := by decide +kernel
theorem dL_pass_1 : decode cL_pass 1 = .ok (.iload_n 1, 1) := by decide +kernel
theorem dL_pass_2 : decode cL_pass 2 = .ok (.invokevirtual 58, 3) := by decide +kernel
theorem dL_pass_5 : decode cL_pass 5 = .ok (.ireturn, 1) := by decide +kernel
theorem dL_pass_6 : decode cL_pass 6 = .ok (.astore_n 2, 1) := by decide +kernel
theorem dL_pass_7 : decode cL_pass 7 = .ok (.ldc 18, 2) := by decide +kernel
theorem dL_pass_9 : decode cL_pass 9 = .ok (.ireturn, 1) := by decide +kernel
theorem dL_pass_10 : decode cL_pass 10 = .ok (.astore_n 2, 1) := by decide +kernel
theorem dL_pass_11 : decode cL_pass 11 = .ok (.ldc 21, 2) := by decide +kernel
theorem dL_pass_13 : decode cL_pass 13 = .ok (.ireturn, 1) := by decide +kernel
set_option maxRecDepth 20000 in
theorem ggL_meetingOf_X8_meetingOf : GoodIn wsL_meetingOf wsX8_meetingOf := goodIn_ca (goodIn_ca (goodIn_r _ [9, 10, 11, 12, 13, 14, 15, 16, 17, 18, 19, 20, 21, 8, 22, 23, 24, 25, 26, 27, 28, 29, 30, 31, 32, 33, 34, 35, 36, 37, 38, 39, 40, 41, 42, 43, 44, 45, 46, 47] (by decide +kernel) (by decide +kernel)) (goodIn_sub (fun _ h => List.mem_cons_of_mem _ (List.mem_append_left _ (List.mem_append_right _ h))) (by decide +kernel))) (goodIn_sub (fun _ h => List.mem_cons_of_mem _ (List.mem_append_right _ h)) (by decide +kernel))
set_option maxRecDepth 20000 in
theorem gL_meetingOf_X8_meetingOf : GoodIn wsL_meetingOf (wsV RL 62 RX8 yX8_meetingOf wsX8_meetingOf) := goodIn_app (goodIn_of _ (by decide +kernel)) ggL_meetingOf_X8_meetingOf
theorem dL_meetingOf_0 : decode cL_meetingOf 0 = .ok (.aload_n 0, 1) := by decide +kernel
theorem dL_meetingOf_1 : decode cL_meetingOf 1 = .ok (.iload_n 1, 1) := by decide +kernel
theorem dL_meetingOf_2 : decode cL_meetingOf 2 = .ok (.iload_n 2, 1) := by decide +kernel
theorem dL_meetingOf_3 : decode cL_meetingOf 3 = .ok (.invokevirtual 62, 3) := by decide +kernel
theorem dL_meetingOf_6 : decode cL_meetingOf 6 = .ok (.ireturn, 1) := by decide +kernel
theorem dL_meetingOf_7 : decode cL_meetingOf 7 = .ok (.astore_n 3, 1) := by decide +kernel
theorem dL_meetingOf_8 : decode cL_meetingOf 8 = .ok (.ldc 15, 2) := by decide +kernel
theorem dL_meetingOf_10 : decode cL_meetingOf 10 = .ok (.ireturn, 1) := by decide +kernel
theorem dL_meetingOf_11 : decode cL_meetingOf 11 = .ok (.astore_n 3, 1) := by decide +kernel
theorem dL_meetingOf_12 : decode cL_meetingOf 12 = .ok (.ldc 18, 2) := by decide +kernel
theorem dL_meetingOf_14 : decode cL_meetingOf 14 = .ok (.ireturn, 1) := by decide +kernel
set_option maxRecDepth 20000 in
theorem ggL_swapOf_X8_swapOf : GoodIn wsL_swapOf wsX8_swapOf := goodIn_ca (goodIn_r _ [7, 8, 9, 10, 11, 12, 6, 13, 14, 15, 16, 17, 18, 19, 20, 21, 22, 23, 24, 25, 26, 27] (by decide +kernel) (by decide +kernel)) (goodIn_sub (fun _ h => List.mem_cons_of_mem _ (List.mem_append_right _ h)) (by decide +kernel))
set_option maxRecDepth 20000 in
theorem gL_swapOf_X8_swapOf : GoodIn wsL_swapOf (wsV RL 65 RX8 yX8_swapOf wsX8_swapOf) := goodIn_app (goodIn_of _ (by decide +kernel)) ggL_swapOf_X8_swapOf
theorem dL_swapOf_0 : decode cL_swapOf 0 = .ok (.aload_n 0, 1) := by decide +kernel
theorem dL_swapOf_1 : decode cL_swapOf 1 = .ok (.iload_n 1, 1) := by decide +kernel
theorem dL_swapOf_2 : decode cL_swapOf 2 = .ok (.invokevirtual 65, 3) := by decide +kernel
theorem dL_swapOf_5 : decode cL_swapOf 5 = .ok (.ireturn, 1) := by decide +kernel
theorem dL_swapOf_6 : decode cL_swapOf 6 = .ok (.astore_n 2, 1) := by decide +kernel
theorem dL_swapOf_7 : decode cL_swapOf 7 = .ok (.ldc 15, 2) := by decide +kernel
theorem dL_swapOf_9 : decode cL_swapOf 9 = .ok (.ireturn, 1) := by decide +kernel
set_option maxRecDepth 20000 in
theorem ggL_buildOf_X8_buildOf : GoodIn wsL_buildOf wsX8_buildOf := goodIn_ca (goodIn_ca (goodIn_r _ [9, 10, 11, 12, 13, 14, 15, 16, 17, 18, 19, 20, 8, 21, 22, 23, 24, 25, 26, 27, 28, 29, 30, 31, 32, 33, 34, 35, 36, 37, 38, 39, 40, 41, 42, 43, 44, 45, 46, 47] (by decide +kernel) (by decide +kernel)) (goodIn_sub (fun _ h => List.mem_cons_of_mem _ (List.mem_append_left _ (List.mem_append_right _ h))) (by decide +kernel))) (goodIn_sub (fun _ h => List.mem_cons_of_mem _ (List.mem_append_right _ h)) (by decide +kernel))
set_option maxRecDepth 20000 in
theorem gL_buildOf_X8_buildOf : GoodIn wsL_buildOf (wsV RL 68 RX8 yX8_buildOf wsX8_buildOf) := goodIn_app (goodIn_of _ (by decide +kernel)) ggL_buildOf_X8_buildOf
theorem dL_buildOf_0 : decode cL_buildOf 0 = .ok (.aload_n 0, 1) := by decide +kernel
theorem dL_buildOf_1 : decode cL_buildOf 1 = .ok (.iload_n 1, 1) := by decide +kernel
theorem dL_buildOf_2 : decode cL_buildOf 2 = .ok (.iload_n 2, 1) := by decide +kernel
theorem dL_buildOf_3 : decode cL_buildOf 3 = .ok (.invokevirtual 68, 3) := by decide +kernel
theorem dL_buildOf_6 : decode cL_buildOf 6 = .ok (.ireturn, 1) := by decide +kernel
theorem dL_buildOf_7 : decode cL_buildOf 7 = .ok (.astore_n 3, 1) := by decide +kernel
theorem dL_buildOf_8 : decode cL_buildOf 8 = .ok (.ldc 15, 2) := by decide +kernel
theorem dL_buildOf_10 : decode cL_buildOf 10 = .ok (.ireturn, 1) := by decide +kernel
theorem dL_buildOf_11 : decode cL_buildOf 11 = .ok (.astore_n 3, 1) := by decide +kernel
theorem dL_buildOf_12 : decode cL_buildOf 12 = .ok (.ldc 18, 2) := by decide +kernel
theorem dL_buildOf_14 : decode cL_buildOf 14 = .ok (.ireturn, 1) := by decide +kernel
set_option maxRecDepth 20000 in
theorem ggL_anew_X8_beganAnew : GoodIn wsL_anew wsX8_beganAnew := goodIn_ca (goodIn_r _ [7, 8, 9, 10, 11, 12, 13, 6, 14, 15, 16, 17, 18, 19, 20, 21, 22, 23, 24, 25, 26, 27, 28, 29, 30, 31, 32, 33, 34, 35, 36, 37, 38, 39, 40, 41, 42, 43, 44, 45, 46, 47, 48, 49, 50, 51, 52, 53, 54, 55, 56, 57, 58, 59, 60, 61, 62, 63, 64, 65, 66, 67, 68, 69, 70, 71, 72, 73, 74, 75, 76, 77, 78, 79, 80, 81, 82, 83, 84, 85, 86, 87, 88, 89, 90, 91, 92, 93, 94, 95, 96, 97, 98, 99, 100, 101, 102, 103, 104, 105, 106, 107, 108, 109, 110, 111, 112, 113, 114, 115, 116, 117, 118, 119, 120, 121, 122, 123, 124, 125, 126, 127, 128, 129, 130, 131, 132, 133, 134, 135, 136, 137, 138, 139, 140, 141, 142, 143, 144, 145, 146, 147, 148, 149, 150, 151, 152, 153, 154, 155, 156, 157, 158, 159, 160, 161, 162, 163, 164, 165, 166, 167, 168, 169, 170, 171, 172, 173, 174, 175, 176, 177, 178, 179, 180, 181, 182, 183, 184, 185, 186, 187, 188, 189, 190, 191, 192, 193, 194, 195, 196, 197, 198, 199, 200, 201, 202, 203, 204, 205, 206, 207, 208, 209, 210, 211, 212, 213, 214, 215, 216, 217, 218, 219, 220, 221, 222, 223, 224, 225, 226, 227, 228, 229, 230, 231, 232, 233, 234, 235, 236, 237, 238, 239, 240, 241, 242, 243, 244, 245, 246, 247, 248, 249, 250, 251] (by decide +kernel) (by decide +kernel)) (goodIn_sub (fun _ h => List.mem_cons_of_mem _ (List.mem_append_right _ h)) (by decide +kernel))
set_option maxRecDepth 20000 in
theorem gL_anew_X8_beganAnew : GoodIn wsL_anew (wsV RL 71 RX8 yX8_beganAnew wsX8_beganAnew) := goodIn_app (goodIn_of _ (by decide +kernel)) ggL_anew_X8_beganAnew
theorem dL_anew_0 : decode cL_anew 0 = .ok (.aload_n 0, 1) := by decide +kernel
theorem dL_anew_1 : decode cL_anew 1 = .ok (.iload_n 1, 1) := by decide +kernel
theorem dL_anew_2 : decode cL_anew 2 = .ok (.invokevirtual 71, 3) := by decide +kernel
theorem dL_anew_5 : decode cL_anew 5 = .ok (.ireturn, 1) := by decide +kernel
theorem dL_anew_6 : decode cL_anew 6 = .ok (.astore_n 2, 1) := by decide +kernel
theorem dL_anew_7 : decode cL_anew 7 = .ok (.ldc 15, 2) := by decide +kernel
theorem dL_anew_9 : decode cL_anew 9 = .ok (.ireturn, 1) := by decide +kernel
set_option maxRecDepth 20000 in
theorem ggL_has_X8_has : GoodIn wsL_has wsX8_has := goodIn_ca (goodIn_ca (goodIn_r _ [9, 10, 11, 12, 13, 8, 14, 15, 16, 17, 18, 19, 20, 21, 22, 23, 24, 25, 26, 27, 28, 29, 30, 31, 32, 33, 34, 35, 36, 37, 38, 39, 40, 41, 42, 43, 44, 45, 46, 47, 48, 49, 50, 51, 52, 53, 54, 55, 56, 57, 58, 59, 60, 61, 62, 63, 64, 65, 66, 67, 68] (by decide +kernel) (by decide +kernel)) (goodIn_sub (fun _ h => List.mem_cons_of_mem _ (List.mem_append_left _ (List.mem_append_right _ h))) (by decide +kernel))) (goodIn_sub (fun _ h => List.mem_cons_of_mem _ (List.mem_append_right _ h)) (by decide +kernel))
set_option maxRecDepth 20000 in
theorem gL_has_X8_has : GoodIn wsL_has (wsV RL 74 RX8 yX8_has wsX8_has) := goodIn_app (goodIn_of _ (by decide +kernel)) ggL_has_X8_has
theorem dL_has_0 : decode cL_has 0 = .ok (.aload_n 0, 1) := by decide +kernel
theorem dL_has_1 : decode cL_has 1 = .ok (.iload_n 1, 1) := by decide +kernel
theorem dL_has_2 : decode cL_has 2 = .ok (.iload_n 2, 1) := by decide +kernel
theorem dL_has_3 : decode cL_has 3 = .ok (.invokevirtual 74, 3) := by decide +kernel
theorem dL_has_6 : decode cL_has 6 = .ok (.ireturn, 1) := by decide +kernel
theorem dL_has_7 : decode cL_has 7 = .ok (.astore_n 3, 1) := by decide +kernel
theorem dL_has_8 : decode cL_has 8 = .ok (.ldc 15, 2) := by decide +kernel
theorem dL_has_10 : decode cL_has 10 = .ok (.ireturn, 1) := by decide +kernel
theorem dL_has_11 : decode cL_has 11 = .ok (.astore_n 3, 1) := by decide +kernel
theorem dL_has_12 : decode cL_has 12 = .ok (.ldc 18, 2) := by decide +kernel
theorem dL_has_14 : decode cL_has 14 = .ok (.ireturn, 1) := by decide +kernel
set_option maxRecDepth 20000 in
theorem ggL_isFree_X8_isFree : GoodIn wsL_isFree wsX8_isFree := goodIn_ca (goodIn_ca (goodIn_r _ [9, 10, 11, 12, 13, 14, 8, 15, 16, 17, 18, 19, 20, 21, 22, 23, 24, 25, 26, 27, 28, 29, 30, 31, 32, 33, 34, 35, 36, 37, 38, 39, 40, 41, 42, 43, 44, 45, 46, 47, 48, 49, 50, 51, 52, 53, 54, 55, 56, 57, 58, 59, 60, 61, 62, 63, 64, 65] (by decide +kernel) (by decide +kernel)) (goodIn_sub (fun _ h => List.mem_cons_of_mem _ (List.mem_append_left _ (List.mem_append_right _ h))) (by decide +kernel))) (goodIn_sub (fun _ h => List.mem_cons_of_mem _ (List.mem_append_right _ h)) (by decide +kernel))
set_option maxRecDepth 20000 in
theorem gL_isFree_X8_isFree : GoodIn wsL_isFree (wsV RL 77 RX8 yX8_isFree wsX8_isFree) := goodIn_app (goodIn_of _ (by decide +kernel)) ggL_isFree_X8_isFree
theorem dL_isFree_0 : decode cL_isFree 0 = .ok (.aload_n 0, 1) := by decide +kernel
theorem dL_isFree_1 : decode cL_isFree 1 = .ok (.iload_n 1, 1) := by decide +kernel
theorem dL_isFree_2 : decode cL_isFree 2 = .ok (.iload_n 2, 1) := by decide +kernel
theorem dL_isFree_3 : decode cL_isFree 3 = .ok (.invokevirtual 77, 3) := by decide +kernel
theorem dL_isFree_6 : decode cL_isFree 6 = .ok (.ifCond .eq 7, 3) := by decide +kernel
theorem dL_isFree_9 : decode cL_isFree 9 = .ok (.iconst 1, 1) := by decide +kernel
theorem dL_isFree_10 : decode cL_isFree 10 = .ok (.goto 4, 3) := by decide +kernel
theorem dL_isFree_13 : decode cL_isFree 13 = .ok (.iconst 0, 1) := by decide +kernel
theorem dL_isFree_14 : decode cL_isFree 14 = .ok (.ireturn, 1) := by decide +kernel
theorem dL_isFree_15 : decode cL_isFree 15 = .ok (.astore_n 3, 1) := by decide +kernel
theorem dL_isFree_16 : decode cL_isFree 16 = .ok (.ldc 15, 2) := by decide +kernel
theorem dL_isFree_18 : decode cL_isFree 18 = .ok (.ireturn, 1) := by decide +kernel
theorem dL_isFree_19 : decode cL_isFree 19 = .ok (.astore_n 3, 1) := by decide +kernel
theorem dL_isFree_20 : decode cL_isFree 20 = .ok (.ldc 18, 2) := by decide +kernel
theorem dL_isFree_22 : decode cL_isFree 22 = .ok (.ireturn, 1) := by decide +kernel
set_option maxRecDepth 20000 in
theorem ggL_diary_X8_diary : GoodIn wsL_diary wsX8_diary := goodIn_ca (goodIn_ca (goodIn_r _ [9, 10, 11, 12, 13, 14, 15, 16, 17, 8, 18, 19, 20, 21, 22, 23, 24, 25, 26, 27, 28, 29, 30, 31, 32, 33, 34, 35, 36, 37, 38, 39, 40, 41, 42, 43, 44, 45, 46, 47, 48, 49, 50, 51, 52, 53, 54, 55, 56, 57, 58, 59, 60, 61, 62, 63, 64, 65, 66, 67, 68, 69, 70, 71, 72, 73, 74, 75, 76, 77, 78, 79, 80, 81, 82, 83, 84, 85, 86, 87, 88, 89, 90, 91, 92, 93, 94, 95, 96, 97, 98, 99, 100, 101, 102, 103] (by decide +kernel) (by decide +kernel)) (goodIn_sub (fun _ h => List.mem_cons_of_mem _ (List.mem_append_left _ (List.mem_append_right _ h))) (by decide +kernel))) (goodIn_sub (fun _ h => List.mem_cons_of_mem _ (List.mem_append_right _ h)) (by decide +kernel))
set_option maxRecDepth 20000 in
theorem gL_diary_X8_diary : GoodIn wsL_diary (wsV RL 80 RX8 yX8_diary wsX8_diary) := goodIn_app (goodIn_of _ (by decide +kernel)) ggL_diary_X8_diary
theorem dL_diary_0 : decode cL_diary 0 = .ok (.aload_n 0, 1) := by decide +kernel
theorem dL_diary_1 : decode cL_diary 1 = .ok (.iload_n 1, 1) := by decide +kernel
theorem dL_diary_2 : decode cL_diary 2 = .ok (.iload_n 2, 1) := by decide +kernel
theorem dL_diary_3 : decode cL_diary 3 = .ok (.iload_n 3, 1) := by decide +kernel
theorem dL_diary_4 : decode cL_diary 4 = .ok (.invokevirtual 80, 3) := by decide +kernel
theorem dL_diary_7 : decode cL_diary 7 = .ok (.ireturn, 1) := by decide +kernel
theorem dL_diary_8 : decode cL_diary 8 = .ok (.astore 4, 2) := by decide +kernel
theorem dL_diary_10 : decode cL_diary 10 = .ok (.ldc 15, 2) := by decide +kernel
theorem dL_diary_12 : decode cL_diary 12 = .ok (.ireturn, 1) := by decide +kernel
theorem dL_diary_13 : decode cL_diary 13 = .ok (.astore 4, 2) := by decide +kernel
theorem dL_diary_15 : decode cL_diary 15 = .ok (.ldc 18, 2) := by decide +kernel
theorem dL_diary_17 : decode cL_diary 17 = .ok (.ireturn, 1) := by decide +kernel
theorem dL_drawn_0 : decode cL_drawn 0 = .ok (.iload_n 1, 1) := by decide +kernel
theorem dL_drawn_1 : decode cL_drawn 1 = .ok (.aload_n 0, 1) := by decide +kernel
theorem dL_drawn_2 : decode cL_drawn 2 = .ok (.arraylength, 1) := by decide +kernel
theorem dL_drawn_3 : decode cL_drawn 3 = .ok (.if_icmp .ge 9, 3) := by decide +kernel
theorem dL_drawn_6 : decode cL_drawn 6 = .ok (.aload_n 0, 1) := by decide +kernel
theorem dL_drawn_7 : decode cL_drawn 7 = .ok (.iload_n 1, 1) := by decide +kernel
theorem dL_drawn_8 : decode cL_drawn 8 = .ok (.iaload, 1) := by decide +kernel
theorem dL_drawn_9 : decode cL_drawn 9 = .ok (.goto 13, 3) := by decide +kernel
theorem dL_drawn_12 : decode cL_drawn 12 = .ok (.ldc 84, 2) := by decide +kernel
theorem dL_drawn_14 : decode cL_drawn 14 = .ok (.iload_n 1, 1) := by decide +kernel
theorem dL_drawn_15 : decode cL_drawn 15 = .ok (.iconst 3, 1) := by decide +kernel
theorem dL_drawn_16 : decode cL_drawn 16 = .ok (.iadd, 1) := by decide +kernel
theorem dL_drawn_17 : decode cL_drawn 17 = .ok (.imul, 1) := by decide +kernel
theorem dL_drawn_18 : decode cL_drawn 18 = .ok (.sipush 14831, 3) := by decide +kernel
theorem dL_drawn_21 : decode cL_drawn 21 = .ok (.iadd, 1) := by decide +kernel
theorem dL_drawn_22 : decode cL_drawn 22 = .ok (.ldc 85, 2) := by decide +kernel
theorem dL_drawn_24 : decode cL_drawn 24 = .ok (.iand, 1) := by decide +kernel
theorem dL_drawn_25 : decode cL_drawn 25 = .ok (.ireturn, 1) := by decide +kernel
