set_option maxRecDepth 20000 in
theorem ggL_rank_X3_rank : GoodIn wsL_rank wsX3_rank := goodIn_ca (goodIn_ca (goodIn_r _ [9, 10, 11, 12, 8, 13, 14, 15, 16, 17, 18, 19, 20, 21, 22, 23, 24, 25, 26, 27, 28, 29, 30, 31, 32, 33, 34, 35] (by decide +kernel) (by decide +kernel)) (goodIn_sub (fun _ h => List.mem_cons_of_mem _ (List.mem_append_left _ (List.mem_append_right _ h))) (by decide +kernel))) (goodIn_sub (fun _ h => List.mem_cons_of_mem _ (List.mem_append_right _ h)) (by decide +kernel))
set_option maxRecDepth 20000 in
theorem gL_rank_X3_rank : GoodIn wsL_rank (wsV RL 7 RX3 yX3_rank wsX3_rank) := goodIn_app (goodIn_of _ (by decide +kernel)) ggL_rank_X3_rank
theorem dL_rank_0 : decode cL_rank 0 = .ok (.aload_n 0, 1) := by decide +kernel
theorem dL_rank_1 : decode cL_rank 1 = .ok (.iload_n 1, 1) := by decide +kernel
theorem dL_rank_2 : decode cL_rank 2 = .ok (.iload_n 2, 1) := by decide +kernel
theorem dL_rank_3 : decode cL_rank 3 = .ok (.invokevirtual 7, 3) := by decide +kernel
theorem dL_rank_6 : decode cL_rank 6 = .ok (.ireturn, 1) := by decide +kernel
theorem dL_rank_7 : decode cL_rank 7 = .ok (.astore_n 3, 1) := by decide +kernel
theorem dL_rank_8 : decode cL_rank 8 = .ok (.ldc 15, 2) := by decide +kernel
theorem dL_rank_10 : decode cL_rank 10 = .ok (.ireturn, 1) := by decide +kernel
theorem dL_rank_11 : decode cL_rank 11 = .ok (.astore_n 3, 1) := by decide +kernel
theorem dL_rank_12 : decode cL_rank 12 = .ok (.ldc 18, 2) := by decide +kernel
theorem dL_rank_14 : decode cL_rank 14 = .ok (.ireturn, 1) := by decide +kernel
set_option maxRecDepth 20000 in
theorem ggL_fight_X3_fight : GoodIn wsL_fight wsX3_fight := goodIn_ca (goodIn_ca (goodIn_ca (goodIn_r _ [11, 12, 13, 14, 15, 10, 16, 17, 18, 19, 20, 21, 22, 23, 24, 25, 26, 27, 28, 29, 30, 31, 32, 33, 34, 35, 36, 37, 38, 39, 40, 41, 42, 43, 44, 45, 46, 47, 48, 49, 50, 51, 52, 53, 54, 55, 56, 57, 58, 59, 60, 61, 62, 63, 64, 65, 66, 67, 68, 69, 70, 71, 72, 73, 74, 75, 76, 77, 78, 79, 80, 81, 82, 83, 84, 85, 86, 87, 88, 89, 90, 91, 92, 93, 94, 95, 96, 97, 98, 99, 100, 101, 102, 103, 104, 105, 106, 107, 108, 109, 110, 111, 112, 113, 114, 115, 116, 117, 118, 119, 120, 121, 122, 123, 124, 125, 126, 127, 128, 129, 130, 131, 132, 133, 134, 135, 136, 137, 138, 139, 140, 141, 142, 143, 144, 145, 146, 147, 148, 149, 150] (by decide +kernel) (by decide +kernel)) (goodIn_sub (fun _ h => List.mem_cons_of_mem _ (List.mem_append_left _ (List.mem_append_left _ (List.mem_append_right _ h)))) (by decide +kernel))) (goodIn_sub (fun _ h => List.mem_cons_of_mem _ (List.mem_append_left _ (List.mem_append_right _ h))) (by decide +kernel))) (goodIn_sub (fun _ h => List.mem_cons_of_mem _ (List.mem_append_right _ h)) (by decide +kernel))
set_option maxRecDepth 20000 in
theorem gL_fight_X3_fight : GoodIn wsL_fight (wsV RL 19 RX3 yX3_fight wsX3_fight) := goodIn_app (goodIn_of _ (by decide +kernel)) ggL_fight_X3_fight
theorem dL_fight_0 : decode cL_fight 0 = .ok (.aload_n 0, 1) := by decide +kernel
theorem dL_fight_1 : decode cL_fight 1 = .ok (.iload_n 1, 1) := by decide +kernel
theorem dL_fight_2 : decode cL_fight 2 = .ok (.iload_n 2, 1) := by decide +kernel
theorem dL_fight_3 : decode cL_fight 3 = .ok (.invokevirtual 19, 3) := by decide +kernel
theorem dL_fight_6 : decode cL_fight 6 = .ok (.ireturn, 1) := by decide +kernel
theorem dL_fight_7 : decode cL_fight 7 = .ok (.astore_n 3, 1) := by decide +kernel
theorem dL_fight_8 : decode cL_fight 8 = .ok (.ldc 15, 2) := by decide +kernel
theorem dL_fight_10 : decode cL_fight 10 = .ok (.ireturn, 1) := by decide +kernel
theorem dL_fight_11 : decode cL_fight 11 = .ok (.astore_n 3, 1) := by decide +kernel
theorem dL_fight_12 : decode cL_fight 12 = .ok (.ldc 18, 2) := by decide +kernel
theorem dL_fight_14 : decode cL_fight 14 = .ok (.ireturn, 1) := by decide +kernel
theorem dL_fight_15 : decode cL_fight 15 = .ok (.astore_n 3, 1) := by decide +kernel
theorem dL_fight_16 : decode cL_fight 16 = .ok (.ldc 24, 2) := by decide +kernel
theorem dL_fight_18 : decode cL_fight 18 = .ok (.ireturn, 1) := by decide +kernel
set_option maxRecDepth 20000 in
theorem ggL_end_X3_end : GoodIn wsL_end wsX3_end := goodIn_ca (goodIn_ca (goodIn_r _ [9, 10, 11, 12, 13, 14, 15, 16, 17, 18, 8, 19, 20, 21, 22, 23, 24, 25, 26, 27, 28, 29, 30, 31, 32, 33, 34, 35, 36, 37, 38, 39, 40, 41, 42, 43, 44, 45, 46, 47, 48, 49, 50, 51, 52, 53, 54, 55, 56, 57, 58, 59, 60, 61, 62, 63, 64, 65, 66, 67, 68, 69, 70, 71, 72, 73, 74, 75, 76, 77, 78, 79, 80, 81, 82, 83, 84, 85, 86, 87, 88, 89, 90, 91, 92] (by decide +kernel) (by decide +kernel)) (goodIn_sub (fun _ h => List.mem_cons_of_mem _ (List.mem_append_left _ (List.mem_append_right _ h))) (by decide +kernel))) (goodIn_sub (fun _ h => List.mem_cons_of_mem _ (List.mem_append_right _ h)) (by decide +kernel))
set_option maxRecDepth 20000 in
theorem gL_end_X3_end : GoodIn wsL_end (wsV RL 25 RX3 yX3_end wsX3_end) := goodIn_app (goodIn_of _ (by decide +kernel)) ggL_end_X3_end
theorem dL_end_0 : decode cL_end 0 = .ok (.aload_n 0, 1) := by decide +kernel
theorem dL_end_1 : decode cL_end 1 = .ok (.iload_n 1, 1) := by decide +kernel
theorem dL_end_2 : decode cL_end 2 = .ok (.invokevirtual 25, 3) := by decide +kernel
theorem dL_end_5 : decode cL_end 5 = .ok (.ireturn, 1) := by decide +kernel
theorem dL_end_6 : decode cL_end 6 = .ok (.astore_n 2, 1) := by decide +kernel
theorem dL_end_7 : decode cL_end 7 = .ok (.ldc 15, 2) := by decide +kernel
theorem dL_end_9 : decode cL_end 9 = .ok (.ireturn, 1) := by decide +kernel
theorem dL_end_10 : decode cL_end 10 = .ok (.astore_n 2, 1) := by decide +kernel
theorem dL_end_11 : decode cL_end 11 = .ok (.ldc 24, 2) := by decide +kernel
theorem dL_end_13 : decode cL_end 13 = .ok (.ireturn, 1) := by decide +kernel
set_option maxRecDepth 20000 in
theorem ggL_replay_X3_replay : GoodIn wsL_replay wsX3_replay := goodIn_ca (goodIn_ca (goodIn_r _ [9, 10, 11, 12, 13, 14, 15, 16, 17, 18, 19, 8, 20, 21, 22, 23, 24, 25, 26, 27, 28, 29, 30, 31, 32, 33, 34, 35, 36, 37, 38, 39, 40, 41, 42, 43, 44, 45, 46, 47, 48, 49, 50, 51, 52, 53, 54, 55, 56, 57, 58, 59, 60, 61, 62, 63, 64, 65, 66, 67, 68, 69, 70, 71, 72, 73, 74, 75, 76, 77, 78, 79, 80, 81, 82, 83, 84, 85, 86, 87, 88, 89, 90, 91, 92, 93, 94, 95, 96, 97, 98, 99, 100, 101, 102, 103, 104, 105, 106, 107, 108, 109, 110, 111, 112, 113, 114, 115, 116, 117, 118, 119, 120, 121, 122, 123, 124, 125, 126, 127, 128, 129, 130, 131, 132, 133, 134, 135, 136, 137, 138, 139, 140, 141, 142, 143, 144, 145, 146, 147, 148, 149, 150, 151, 152, 153, 154, 155, 156, 157, 158, 159, 160, 161, 162, 163, 164, 165, 166, 167, 168, 169, 170, 171, 172, 173] (by decide +kernel) (by decide +kernel)) (goodIn_sub (fun _ h => List.mem_cons_of_mem _ (List.mem_append_left _ (List.mem_append_right _ h))) (by decide +kernel))) (goodIn_sub (fun _ h => List.mem_cons_of_mem _ (List.mem_append_right _ h)) (by decide +kernel))
set_option maxRecDepth 20000 in
theorem gL_replay_X3_replay : GoodIn wsL_replay (wsV RL 29 RX3 yX3_replay wsX3_replay) := goodIn_app (goodIn_of _ (by decide +kernel)) ggL_replay_X3_replay
theorem dL_replay_0 : decode cL_replay 0 = .ok (.aload_n 0, 1) := by decide +kernel
theorem dL_replay_1 : decode cL_replay 1 = .ok (.iload_n 1, 1) := by decide +kernel
theorem dL_replay_2 : decode cL_replay 2 = .ok (.invokevirtual 29, 3) := by decide +kernel
theorem dL_replay_5 : decode cL_replay 5 = .ok (.ireturn, 1) := by decide +kernel
theorem dL_replay_6 : decode cL_replay 6 = .ok (.astore_n 2, 1) := by decide +kernel
theorem dL_replay_7 : decode cL_replay 7 = .ok (.ldc 15, 2) := by decide +kernel
theorem dL_replay_9 : decode cL_replay 9 = .ok (.ireturn, 1) := by decide +kernel
theorem dL_replay_10 : decode cL_replay 10 = .ok (.astore_n 2, 1) := by decide +kernel
theorem dL_replay_11 : decode cL_replay 11 = .ok (.ldc 24, 2) := by decide +kernel
theorem dL_replay_13 : decode cL_replay 13 = .ok (.ireturn, 1) := by decide +kernel
set_option maxRecDepth 20000 in
theorem ggL_camera_X3_camera : GoodIn wsL_camera wsX3_camera := goodIn_ca (goodIn_ca (goodIn_r _ [9, 10, 11, 12, 13, 14, 15, 16, 17, 8, 18, 19, 20, 21, 22, 23, 24, 25, 26, 27, 28, 29, 30, 31, 32, 33, 34, 35, 36, 37, 38, 39, 40, 41, 42, 43, 44, 45, 46, 47, 48, 49, 50, 51, 52, 53, 54, 55, 56, 57, 58, 59, 60, 61, 62, 63, 64, 65, 66, 67, 68, 69, 70, 71, 72, 73, 74, 75, 76, 77, 78, 79, 80, 81, 82, 83, 84, 85, 86, 87, 88, 89, 90, 91, 92, 93, 94, 95, 96, 97, 98, 99, 100, 101, 102, 103, 104, 105, 106, 107, 108, 109, 110] (by decide +kernel) (by decide +kernel)) (goodIn_sub (fun _ h => List.mem_cons_of_mem _ (List.mem_append_left _ (List.mem_append_right _ h))) (by decide +kernel))) (goodIn_sub (fun _ h => List.mem_cons_of_mem _ (List.mem_append_right _ h)) (by decide +kernel))
set_option maxRecDepth 20000 in
theorem gL_camera_X3_camera : GoodIn wsL_camera (wsV RL 32 RX3 yX3_camera wsX3_camera) := goodIn_app (goodIn_of _ (by decide +kernel)) ggL_camera_X3_camera
theorem dL_camera_0 : decode cL_camera 0 = .ok (.aload_n 0, 1) := by decide +kernel
theorem dL_camera_1 : decode cL_camera 1 = .ok (.iload_n 1, 1) := by decide +kernel
theorem dL_camera_2 : decode cL_camera 2 = .ok (.iload_n 2, 1) := by decide +kernel
theorem dL_camera_3 : decode cL_camera 3 = .ok (.invokevirtual 32, 3) := by decide +kernel
theorem dL_camera_6 : decode cL_camera 6 = .ok (.ireturn, 1) := by decide +kernel
theorem dL_camera_7 : decode cL_camera 7 = .ok (.astore_n 3, 1) := by decide +kernel
theorem dL_camera_8 : decode cL_camera 8 = .ok (.ldc 18, 2) := by decide +kernel
theorem dL_camera_10 : decode cL_camera 10 = .ok (.ireturn, 1) := by decide +kernel
theorem dL_camera_11 : decode cL_camera 11 = .ok (.astore_n 3, 1) := by decide +kernel
theorem dL_camera_12 : decode cL_camera 12 = .ok (.ldc 24, 2) := by decide +kernel
theorem dL_camera_14 : decode cL_camera 14 = .ok (.ireturn, 1) := by decide +kernel
set_option maxRecDepth 20000 in
theorem ggL_delay_X3_delay : GoodIn wsL_delay wsX3_delay := goodIn_ca (goodIn_r _ [7, 8, 9, 10, 6, 11, 12, 13, 14, 15, 16, 17, 18, 19, 20, 21, 22, 23, 24, 25, 26, 27, 28, 29, 30, 31, 32, 33, 34, 35, 36, 37, 38] (by decide +kernel) (by decide +kernel)) (goodIn_sub (fun _ h => List.mem_cons_of_mem _ (List.mem_append_right _ h)) (by decide +kernel))
set_option maxRecDepth 20000 in
theorem gL_delay_X3_delay : GoodIn wsL_delay (wsV RL 35 RX3 yX3_delay wsX3_delay) := goodIn_app (goodIn_of _ (by decide +kernel)) ggL_delay_X3_delay
theorem dL_delay_0 : decode cL_delay 0 = .ok (.aload_n 0, 1) := by decide +kernel
theorem dL_delay_1 : decode cL_delay 1 = .ok (.iload_n 1, 1) := by decide +kernel
theorem dL_delay_2 : decode cL_delay 2 = .ok (.invokevirtual 35, 3) := by decide +kernel
theorem dL_delay_5 : decode cL_delay 5 = .ok (.ireturn, 1) := by decide +kernel
theorem dL_delay_6 : decode cL_delay 6 = .ok (.astore_n 2, 1) := by decide +kernel
theorem dL_delay_7 : decode cL_delay 7 = .ok (.ldc 18, 2) := by decide +kernel
theorem dL_delay_9 : decode cL_delay 9 = .ok (.ireturn, 1) := by decide +kernel
set_option maxRecDepth 20000 in
theorem ggL_pass_X3_pass : GoodIn wsL_pass wsX3_pass := goodIn_ca (goodIn_ca (goodIn_r _ [9, 10, 11, 12, 13, 14, 8, 15, 16, 17, 18, 19, 20, 21, 22, 23, 24, 25, 26, 27, 28, 29, 30, 31, 32, 33, 34, 35, 36, 37, 38, 39, 40, 41, 42, 43, 44, 45, 46, 47, 48, 49, 50, 51, 52, 53, 54, 55, 56, 57, 58, 59, 60, 61, 62, 63, 64, 65, 66, 67, 68, 69, 70, 71, 72, 73, 74, 75, 76, 77, 78, 79, 80, 81, 82, 83, 84, 85, 86, 87, 88, 89, 90, 91, 92, 93, 94, 95, 96, 97, 98, 99, 100, 101, 102, 103, 104, 105, 106, 107, 108, 109, 110, 111, 112, 113, 114, 115, 116, 117, 118, 119, 120, 121, 122, 123, 124, 125, 126, 127, 128, 129, 130, 131, 132, 133, 134, 135, 136, 137, 138, 139, 140, 141, 142, 143, 144, 145, 146, 147, 148, 149, 150, 151, 152, 153, 154, 155, 156, 157, 158, 159, 160, 161, 162, 163, 164, 165, 166, 167] (by decide +kernel) (by decide +kernel)) (goodIn_sub (fun _ h => List.mem_cons_of_mem _ (List.mem_append_left _ (List.mem_append_right _ h))) (by decide +kernel))) (goodIn_sub (fun _ h => List.mem_cons_of_mem _ (List.mem_append_right _ h)) (by decide +kernel))
set_option maxRecDepth 20000 in
theorem gL_pass_X3_pass : GoodIn wsL_pass (wsV RL 38 RX3 yX3_pass wsX3_pass) := goodIn_app (goodIn_of _ (by decide +kernel)) ggL_pass_X3_pass
theorem dL_pass_0 : decode cL_pass 0 = .ok (.aload_n 0, 1) := by decide +kernel
theorem dL_pass_1 : decode cL_pass 1 = .ok (.iload_n 1, 1) := by decide +kernel
theorem dL_pass_2 : decode cL_pass 2 = .ok (.invokevirtual 38, 3) := by decide +kernel
theorem dL_pass_5 : decode cL_pass 5 = .ok (.ireturn, 1) := by decide +kernel
theorem dL_pass_6 : decode cL_pass 6 = .ok (.astore_n 2, 1) := by decide +kernel
theorem dL_pass_7 : decode cL_pass 7 = .ok (.ldc 18, 2) := by decide +kernel
theorem dL_pass_9 : decode cL_pass 9 = .ok (.ireturn, 1) := by decide +kernel
theorem dL_pass_10 : decode cL_pass 10 = .ok (.astore_n 2, 1) := by decide +kernel
theorem dL_pass_11 : decode cL_pass 11 = .ok (.ldc 24, 2) := by decide +kernel
theorem dL_pass_13 : decode cL_pass 13 = .ok (.ireturn, 1) := by decide +kernel
set_option maxRecDepth 20000 in
theorem ggL_blow_X3_blow : GoodIn wsL_blow wsX3_blow := goodIn_ca (goodIn_ca (goodIn_ca (goodIn_r _ [11, 12, 13, 14, 15, 16, 17, 18, 19, 20, 21, 22, 23, 10, 24, 25, 26, 27, 28, 29, 30, 31, 32, 33, 34, 35, 36, 37, 38, 39, 40, 41, 42, 43, 44, 45, 46, 47, 48, 49, 50, 51, 52, 53, 54, 55, 56, 57, 58, 59, 60, 61, 62, 63, 64, 65, 66, 67, 68, 69, 70, 71, 72, 73, 74, 75, 76, 77, 78, 79, 80, 81, 82, 83, 84, 85, 86, 87, 88, 89, 90, 91, 92, 93, 94, 95, 96, 97, 98, 99, 100, 101, 102, 103, 104, 105, 106, 107, 108, 109, 110, 111, 112, 113, 114, 115, 116, 117, 118, 119, 120, 121, 122, 123, 124, 125, 126, 127, 128, 129, 130, 131, 132, 133, 134, 135, 136, 137, 138, 139, 140, 141, 142, 143, 144, 145, 146, 147, 148, 149, 150, 151, 152, 153, 154, 155, 156, 157, 158, 159, 160, 161, 162, 163, 164, 165, 166] (by decide +kernel) (by decide +kernel)) (goodIn_sub (fun _ h => List.mem_cons_of_mem _ (List.mem_append_left _ (List.mem_append_left _ (List.mem_append_right _ h)))) (by decide +kernel))) (goodIn_sub (fun _ h => List.mem_cons_of_mem _ (List.mem_append_left _ (List.mem_append_right _ h))) (by decide +kernel))) (goodIn_sub (fun _ h => List.mem_cons_of_mem _ (List.mem_append_right _ h)) (by decide +kernel))
set_option maxRecDepth 20000 in
theorem gL_blow_X3_blow : GoodIn wsL_blow (wsV RL 41 RX3 yX3_blow wsX3_blow) := goodIn_app (goodIn_of _ (by decide +kernel)) ggL_blow_X3_blow
theorem dL_blow_0 : decode cL_blow 0 = .ok (.aload_n 0, 1) := by decide +kernel
theorem dL_blow_1 : decode cL_blow 1 = .ok (.iload_n 1, 1) := by decide +kernel
theorem dL_blow_2 : decode cL_blow 2 = .ok (.iload_n 2, 1) := by decide +kernel
theorem dL_blow_3 : decode cL_blow 3 = .ok (.iload_n 3, 1) := by decide +kernel
theorem dL_blow_4 : decode cL_blow 4 = .ok (.invokevirtual 41, 3) := by decide +kernel
theorem dL_blow_7 : decode cL_blow 7 = .ok (.ireturn, 1) := by decide +kernel
theorem dL_blow_8 : decode cL_blow 8 = .ok (.astore 4, 2) := by decide +kernel
theorem dL_blow_10 : decode cL_blow 10 = .ok (.ldc 15, 2) := by decide +kernel
theorem dL_blow_12 : decode cL_blow 12 = .ok (.ireturn, 1) := by decide +kernel
theorem dL_blow_13 : decode cL_blow 13 = .ok (.astore 4, 2) := by decide +kernel
theorem dL_blow_15 : decode cL_blow 15 = .ok (.ldc 18, 2) := by decide +kernel
theorem dL_blow_17 : decode cL_blow 17 = .ok (.ireturn, 1) := by decide +kernel
theorem dL_blow_18 : decode cL_blow 18 = .ok (.astore 4, 2) := by decide +kernel
theorem dL_blow_20 : decode cL_blow 20 = .ok (.ldc 24, 2) := by decide +kernel
theorem dL_blow_22 : decode cL_blow 22 = .ok (.ireturn, 1) := by decide +kernel
set_option maxRecDepth 20000 in
theorem ggL_strike_X3_strike : GoodIn wsL_strike wsX3_strike := goodIn_ca (goodIn_ca (goodIn_r _ [9, 10, 11, 12, 13, 14, 8, 15, 16, 17, 18, 19, 20, 21, 22, 23, 24, 25, 26, 27, 28, 29, 30, 31, 32, 33, 34, 35, 36, 37, 38, 39, 40, 41, 42, 43, 44, 45, 46, 47, 48, 49, 50, 51, 52, 53, 54, 55, 56, 57, 58, 59, 60, 61, 62, 63, 64, 65, 66, 67, 68, 69, 70, 71, 72, 73, 74, 75, 76, 77, 78, 79, 80, 81, 82, 83, 84, 85] (by decide +kernel) (by decide +kernel)) (goodIn_sub (fun _ h => List.mem_cons_of_mem _ (List.mem_append_left _ (List.mem_append_right _ h))) (by decide +kernel))) (goodIn_sub (fun _ h => List.mem_cons_of_mem _ (List.mem_append_right _ h)) (by decide +kernel))
set_option maxRecDepth 20000 in
theorem gL_strike_X3_strike : GoodIn wsL_strike (wsV RL 45 RX3 yX3_strike wsX3_strike) := goodIn_app (goodIn_of _ (by decide +kernel)) ggL_strike_X3_strike
theorem dL_strike_0 : decode cL_strike 0 = .ok (.aload_n 0, 1) := by decide +kernel
theorem dL_strike_1 : decode cL_strike 1 = .ok (.iload_n 1, 1) := by decide +kernel
theorem dL_strike_2 : decode cL_strike 2 = .ok (.invokevirtual 45, 3) := by decide +kernel
theorem dL_strike_5 : decode cL_strike 5 = .ok (.ireturn, 1) := by decide +kernel
theorem dL_strike_6 : decode cL_strike 6 = .ok (.astore_n 2, 1) := by decide +kernel
theorem dL_strike_7 : decode cL_strike 7 = .ok (.ldc 15, 2) := by decide +kernel
theorem dL_strike_9 : decode cL_strike 9 = .ok (.ireturn, 1) := by decide +kernel
theorem dL_strike_10 : decode cL_strike 10 = .ok (.astore_n 2, 1) := by decide +kernel
theorem dL_strike_11 : decode cL_strike 11 = .ok (.ldc 24, 2) := by decide +kernel
theorem dL_strike_13 : decode cL_strike 13 = .ok (.ireturn, 1) := by decide +kernel
set_option maxRecDepth 20000 in
theorem ggL_mend_X3_mend : GoodIn wsL_mend wsX3_mend := goodIn_ca (goodIn_ca (goodIn_ca (goodIn_r _ [11, 12, 13, 14, 15, 10, 16, 17, 18, 19, 20, 21, 22, 23, 24, 25, 26, 27, 28, 29, 30, 31, 32, 33, 34, 35, 36, 37, 38, 39, 40, 41, 42, 43, 44, 45, 46, 47, 48, 49, 50, 51, 52, 53, 54, 55, 56, 57, 58, 59, 60, 61, 62, 63, 64, 65, 66, 67, 68, 69, 70, 71, 72, 73, 74, 75, 76, 77, 78, 79, 80, 81, 82, 83, 84, 85, 86, 87, 88, 89, 90, 91] (by decide +kernel) (by decide +kernel)) (goodIn_sub (fun _ h => List.mem_cons_of_mem _ (List.mem_append_left _ (List.mem_append_left _ (List.mem_append_right _ h)))) (by decide +kernel))) (goodIn_sub (fun _ h => List.mem_cons_of_mem _ (List.mem_append_left _ (List.mem_append_right _ h))) (by decide +kernel))) (goodIn_sub (fun _ h => List.mem_cons_of_mem _ (List.mem_append_right _ h)) (by decide +kernel))
set_option maxRecDepth 20000 in
theorem gL_mend_X3_mend : GoodIn wsL_mend (wsV RL 48 RX3 yX3_mend wsX3_mend) := goodIn_app (goodIn_of _ (by decide +kernel)) ggL_mend_X3_mend
theorem dL_mend_0 : decode cL_mend 0 = .ok (.aload_n 0, 1) := by decide +kernel
theorem dL_mend_1 : decode cL_mend 1 = .ok (.iload_n 1, 1) := by decide +kernel
theorem dL_mend_2 : decode cL_mend 2 = .ok (.iload_n 2, 1) := by decide +kernel
theorem dL_mend_3 : decode cL_mend 3 = .ok (.invokevirtual 48, 3) := by decide +kernel
theorem dL_mend_6 : decode cL_mend 6 = .ok (.ireturn, 1) := by decide +kernel
theorem dL_mend_7 : decode cL_mend 7 = .ok (.astore_n 3, 1) := by decide +kernel
theorem dL_mend_8 : decode cL_mend 8 = .ok (.ldc 15, 2) := by decide +kernel
theorem dL_mend_10 : decode cL_mend 10 = .ok (.ireturn, 1) := by decide +kernel
theorem dL_mend_11 : decode cL_mend 11 = .ok (.astore_n 3, 1) := by decide +kernel
theorem dL_mend_12 : decode cL_mend 12 = .ok (.ldc 18, 2) := by decide +kernel
theorem dL_mend_14 : decode cL_mend 14 = .ok (.ireturn, 1) := by decide +kernel
theorem dL_mend_15 : decode cL_mend 15 = .ok (.astore_n 3, 1) := by decide +kernel
theorem dL_mend_16 : decode cL_mend 16 = .ok (.ldc 24, 2) := by decide +kernel
theorem dL_mend_18 : decode cL_mend 18 = .ok (.ireturn, 1) := by decide +kernel
set_option maxRecDepth 20000 in
theorem ggL_promise_X3_promise : GoodIn wsL_promise wsX3_promise := goodIn_ca (goodIn_ca (goodIn_r _ [9, 10, 11, 12, 8, 13, 14, 15, 16, 17, 18, 19, 20, 21, 22, 23, 24, 25, 26, 27, 28, 29, 30, 31, 32, 33, 34, 35] (by decide +kernel) (by decide +kernel)) (goodIn_sub (fun _ h => List.mem_cons_of_mem _ (List.mem_append_left _ (List.mem_append_right _ h))) (by decide +kernel))) (goodIn_sub (fun _ h => List.mem_cons_of_mem _ (List.mem_append_right _ h)) (by decide +kernel))
set_option maxRecDepth 20000 in
theorem gL_promise_X3_promise : GoodIn wsL_promise (wsV RL 51 RX3 yX3_promise wsX3_promise) := goodIn_app (goodIn_of _ (by decide +kernel)) ggL_promise_X3_promise
theorem dL_promise_0 : decode cL_promise 0 = .ok (.aload_n 0, 1) := by decide +kernel
theorem dL_promise_1 : decode cL_promise 1 = .ok (.iload_n 1, 1) := by decide +kernel
theorem dL_promise_2 : decode cL_promise 2 = .ok (.iload_n 2, 1) := by decide +kernel
theorem dL_promise_3 : decode cL_promise 3 = .ok (.invokevirtual 51, 3) := by decide +kernel
theorem dL_promise_6 : decode cL_promise 6 = .ok (.ireturn, 1) := by decide +kernel
theorem dL_promise_7 : decode cL_promise 7 = .ok (.astore_n 3, 1) := by decide +kernel
theorem dL_promise_8 : decode cL_promise 8 = .ok (.ldc 15, 2) := by decide +kernel
theorem dL_promise_10 : decode cL_promise 10 = .ok (.ireturn, 1) := by decide +kernel
theorem dL_promise_11 : decode cL_promise 11 = .ok (.astore_n 3, 1) := by decide +kernel
theorem dL_promise_12 : decode cL_promise 12 = .ok (.ldc 18, 2) := by decide +kernel
theorem dL_promise_14 : decode cL_promise 14 = .ok (.ireturn, 1) := by decide +kernel
set_option maxRecDepth 20000 in
theorem ggL_slot_X3_slot : GoodIn wsL_slot wsX3_slot := goodIn_ca (goodIn_ca (goodIn_r _ [9, 10, 11, 12, 13, 14, 15, 8, 16, 17, 18, 19, 20, 21, 22, 23, 24, 25, 26, 27, 28, 29, 30, 31, 32, 33, 34, 35, 36] (by decide +kernel) (by decide +kernel)) (goodIn_sub (fun _ h => List.mem_cons_of_mem _ (List.mem_append_left _ (List.mem_append_right _ h))) (by decide +kernel))) (goodIn_sub (fun _ h => List.mem_cons_of_mem _ (List.mem_append_right _ h)) (by decide +kernel))
set_option maxRecDepth 20000 in
theorem gL_slot_X3_slot : GoodIn wsL_slot (wsV RL 54 RX3 yX3_slot wsX3_slot) := goodIn_app (goodIn_of _ (by decide +kernel)) ggL_slot_X3_slot
theorem dL_slot_0 : decode cL_slot 0 = .ok (.aload_n 0, 1) := by decide +kernel
theorem dL_slot_1 : decode cL_slot 1 = .ok (.iload_n 1, 1) := by decide +kernel
theorem dL_slot_2 : decode cL_slot 2 = .ok (.iload_n 2, 1) := by decide +kernel
theorem dL_slot_3 : decode cL_slot 3 = .ok (.invokevirtual 54, 3) := by decide +kernel
theorem dL_slot_6 : decode cL_slot 6 = .ok (.ireturn, 1) := by decide +kernel
theorem dL_slot_7 : decode cL_slot 7 = .ok (.astore_n 3, 1) := by decide +kernel
theorem dL_slot_8 : decode cL_slot 8 = .ok (.ldc 15, 2) := by decide +kernel
theorem dL_slot_10 : decode cL_slot 10 = .ok (.ireturn, 1) := by decide +kernel
theorem dL_slot_11 : decode cL_slot 11 = .ok (.astore_n 3, 1) := by decide +kernel
theorem dL_slot_12 : decode cL_slot 12 = .ok (.ldc 24, 2) := by decide +kernel
theorem dL_slot_14 : decode cL_slot 14 = .ok (.ireturn, 1) := by decide +kernel
set_option maxRecDepth 20000 in
theorem ggL_shown_X3_shown : GoodIn wsL_shown wsX3_shown := goodIn_ca (goodIn_ca (goodIn_r _ [9, 10, 11, 12, 13, 14, 15, 16, 17, 18, 19, 20, 21, 22, 23, 24, 25, 26, 27, 28, 29, 30, 31, 32] (by decide +kernel) (by decide +kernel)) (goodIn_sub (fun _ h => List.mem_cons_of_mem _ (List.mem_append_left _ (List.mem_append_right _ h))) (by decide +kernel))) (goodIn_sub (fun _ h => List.mem_cons_of_mem _ (List.mem_append_right _ h)) (by decide +kernel))
set_option maxRecDepth 20000 in
theorem gL_shown_X3_shown : GoodIn wsL_shown (wsV RL 57 RX3 yX3_shown wsX3_shown) := goodIn_app (goodIn_of _ (by decide +kernel)) ggL_shown_X3_shown
theorem dL_shown_0 : decode cL_shown 0 = .ok (.aload_n 0, 1) := by decide +kernel
theorem dL_shown_1 : decode cL_shown 1 = .ok (.iload_n 1, 1) := by decide +kernel
theorem dL_shown_2 : decode cL_shown 2 = .ok (.iload_n 2, 1) := by decide +kernel
theorem dL_shown_3 : decode cL_shown 3 = .ok (.invokevirtual 57, 3) := by decide +kernel
theorem dL_shown_6 : decode cL_shown 6 = .ok (.ireturn, 1) := by decide +kernel
theorem dL_shown_7 : decode cL_shown 7 = .ok (.astore_n 3, 1) := by decide +kernel
theorem dL_shown_8 : decode cL_shown 8 = .ok (.ldc 15, 2) := by decide +kernel
theorem dL_shown_10 : decode cL_shown 10 = .ok (.ireturn, 1) := by decide +kernel
theorem dL_shown_11 : decode cL_shown 11 = .ok (.astore_n 3, 1) := by decide +kernel
theorem dL_shown_12 : decode cL_shown 12 = .ok (.ldc 18, 2) := by decide +kernel
theorem dL_shown_14 : decode cL_shown 14 = .ok (.ireturn, 1) := by decide +kernel
set_option maxRecDepth 20000 in
theorem ggL_points_X3_points : GoodIn wsL_points wsX3_points := goodIn_ca (goodIn_r _ [7, 8, 9, 10, 11, 6, 12, 13, 14, 15, 16, 17, 18, 19, 20, 21, 22, 23, 24, 25, 26, 27, 28, 29, 30, 31, 32, 33, 34, 35, 36, 37, 38, 39, 40, 41, 42, 43, 44, 45, 46, 47, 48, 49, 50, 51, 52, 53, 54, 55, 56, 57, 58, 59, 60, 61, 62, 63, 64, 65, 66, 67, 68, 69, 70, 71, 72, 73, 74, 75, 76] (by decide +kernel) (by decide +kernel)) (goodIn_sub (fun _ h => List.mem_cons_of_mem _ (List.mem_append_right _ h)) (by decide +kernel))
set_option maxRecDepth 20000 in
theorem gL_points_X3_points : GoodIn wsL_points (wsV RL 60 RX3 yX3_points wsX3_points) := goodIn_app (goodIn_of _ (by decide +kernel)) ggL_points_X3_points
theorem dL_points_0 : decode cL_points 0 = .ok (.aload_n 0, 1) := by decide +kernel
theorem dL_points_1 : decode cL_points 1 = .ok (.iload_n 1, 1) := by decide +kernel
theorem dL_points_2 : decode cL_points 2 = .ok (.iload_n 2, 1) := by decide +kernel
theorem dL_points_3 : decode cL_points 3 = .ok (.invokevirtual 60, 3) := by decide +kernel
theorem dL_points_6 : decode cL_points 6 = .ok (.ireturn, 1) := by decide +kernel
theorem dL_points_7 : decode cL_points 7 = .ok (.astore_n 3, 1) := by decide +kernel
theorem dL_points_8 : decode cL_points 8 = .ok (.ldc 15, 2) := by decide +kernel
theorem dL_points_10 : decode cL_points 10 = .ok (.ireturn, 1) := by decide +kernel
set_option maxRecDepth 20000 in
theorem ggL_overlay_X3_overlay : GoodIn wsL_overlay wsX3_overlay := goodIn_ca (goodIn_r _ [7, 8, 9, 10, 11, 6, 12, 13, 14, 15, 16, 17, 18, 19, 20, 21, 22, 23, 24, 25, 26, 27, 28, 29, 30, 31, 32, 33, 34, 35, 36, 37, 38, 39, 40, 41, 42, 43, 44, 45, 46, 47, 48, 49, 50, 51, 52, 53, 54, 55, 56, 57, 58, 59, 60, 61, 62, 63, 64, 65, 66, 67, 68, 69, 70, 71, 72, 73, 74, 75, 76] (by decide +kernel) (by decide +kernel)) (goodIn_sub (fun _ h => List.mem_cons_of_mem _ (List.mem_append_right _ h)) (by decide +kernel))
set_option maxRecDepth 20000 in
theorem gL_overlay_X3_overlay : GoodIn wsL_overlay (wsV RL 63 RX3 yX3_overlay wsX3_overlay) := goodIn_app (goodIn_of _ (by decide +kernel)) ggL_overlay_X3_overlay
theorem dL_overlay_0 : decode cL_overlay 0 = .ok (.aload_n 0, 1) := by decide +kernel
theorem dL_overlay_1 : decode cL_overlay 1 = .ok (.iload_n 1, 1) := by decide +kernel
theorem dL_overlay_2 : decode cL_overlay 2 = .ok (.iload_n 2, 1) := by decide +kernel
theorem dL_overlay_3 : decode cL_overlay 3 = .ok (.invokevirtual 63, 3) := by decide +kernel
theorem dL_overlay_6 : decode cL_overlay 6 = .ok (.ireturn, 1) := by decide +kernel
theorem dL_overlay_7 : decode cL_overlay 7 = .ok (.astore_n 3, 1) := by decide +kernel
theorem dL_overlay_8 : decode cL_overlay 8 = .ok (.ldc 15, 2) := by decide +kernel
theorem dL_overlay_10 : decode cL_overlay 10 = .ok (.ireturn, 1) := by decide +kernel
set_option maxRecDepth 20000 in
theorem ggL_fightOf_X3_fightOf : GoodIn wsL_fightOf wsX3_fightOf := goodIn_ca (goodIn_ca (goodIn_r _ [9, 10, 11, 12, 13, 14, 15, 16, 17, 18, 19, 8, 20, 21, 22, 23, 24, 25, 26, 27, 28, 29, 30, 31, 32, 33, 34, 35, 36, 37, 38, 39, 40, 41, 42, 43, 44, 45, 46, 47, 48, 49, 50, 51, 52, 53, 54, 55, 56, 57, 58, 59, 60, 61, 62, 63, 64, 65, 66, 67, 68, 69, 70, 71, 72] (by decide +kernel) (by decide +kernel)) (goodIn_sub (fun _ h => List.mem_cons_of_mem _ (List.mem_append_left _ (List.mem_append_right _ h))) (by decide +kernel))) (goodIn_sub (fun _ h => List.mem_cons_of_mem _ (List.mem_append_right _ h)) (by decide +kernel))
set_option maxRecDepth 20000 in
theorem gL_fightOf_X3_fightOf : GoodIn wsL_fightOf (wsV RL 66 RX3 yX3_fightOf wsX3_fightOf) := goodIn_app (goodIn_of _ (by decide +kernel)) ggL_fightOf_X3_fightOf
theorem dL_fightOf_0 : decode cL_fightOf 0 = .ok (.aload_n 0, 1) := by decide +kernel
theorem dL_fightOf_1 : decode cL_fightOf 1 = .ok (.iload_n 1, 1) := by decide +kernel
theorem dL_fightOf_2 : decode cL_fightOf 2 = .ok (.iload_n 2, 1) := by decide +kernel
theorem dL_fightOf_3 : decode cL_fightOf 3 = .ok (.invokevirtual 66, 3) := by decide +kernel
theorem dL_fightOf_6 : decode cL_fightOf 6 = .ok (.ireturn, 1) := by decide +kernel
theorem dL_fightOf_7 : decode cL_fightOf 7 = .ok (.astore_n 3, 1) := by decide +kernel
theorem dL_fightOf_8 : decode cL_fightOf 8 = .ok (.ldc 15, 2) := by decide +kernel
theorem dL_fightOf_10 : decode cL_fightOf 10 = .ok (.ireturn, 1) := by decide +kernel
theorem dL_fightOf_11 : decode cL_fightOf 11 = .ok (.astore_n 3, 1) := by decide +kernel
theorem dL_fightOf_12 : decode cL_fightOf 12 = .ok (.ldc 18, 2) := by decide +kernel
theorem dL_fightOf_14 : decode cL_fightOf 14 = .ok (.ireturn, 1) := by decide +kernel
set_option maxRecDepth 20000 in
theorem ggL_cameraOf_X3_cameraOf : GoodIn wsL_cameraOf wsX3_cameraOf := goodIn_ca (goodIn_ca (goodIn_r _ [9, 10, 11, 12, 13, 14, 15, 16, 17, 18, 19, 20, 21, 22, 23, 24, 25, 26, 27, 28, 29, 30, 31, 32, 33, 34, 35, 36, 37, 38, 39, 40, 41, 42, 43, 44, 45, 46, 47, 48, 49, 50, 51, 52, 53, 54, 55, 56, 57, 58, 59, 60, 61, 62] (by decide +kernel) (by decide +kernel)) (goodIn_sub (fun _ h => List.mem_cons_of_mem _ (List.mem_append_left _ (List.mem_append_right _ h))) (by decide +kernel))) (goodIn_sub (fun _ h => List.mem_cons_of_mem _ (List.mem_append_right _ h)) (by decide +kernel))
set_option maxRecDepth 20000 in
theorem gL_cameraOf_X3_cameraOf : GoodIn wsL_cameraOf (wsV RL 69 RX3 yX3_cameraOf wsX3_cameraOf) := goodIn_app (goodIn_of _ (by decide +kernel)) ggL_cameraOf_X3_cameraOf
theorem dL_cameraOf_0 : decode cL_cameraOf 0 = .ok (.aload_n 0, 1) := by decide +kernel
theorem dL_cameraOf_1 : decode cL_cameraOf 1 = .ok (.iload_n 1, 1) := by decide +kernel
theorem dL_cameraOf_2 : decode cL_cameraOf 2 = .ok (.iload_n 2, 1) := by decide +kernel
theorem dL_cameraOf_3 : decode cL_cameraOf 3 = .ok (.invokevirtual 69, 3) := by decide +kernel
theorem dL_cameraOf_6 : decode cL_cameraOf 6 = .ok (.ireturn, 1) := by decide +kernel
theorem dL_cameraOf_7 : decode cL_cameraOf 7 = .ok (.astore_n 3, 1) := by decide +kernel
theorem dL_cameraOf_8 : decode cL_cameraOf 8 = .ok (.ldc 15, 2) := by decide +kernel
theorem dL_cameraOf_10 : decode cL_cameraOf 10 = .ok (.ireturn, 1) := by decide +kernel
theorem dL_cameraOf_11 : decode cL_cameraOf 11 = .ok (.astore_n 3, 1) := by decide +kernel
theorem dL_cameraOf_12 : decode cL_cameraOf 12 = .ok (.ldc 18, 2) := by decide +kernel
theorem dL_cameraOf_14 : decode cL_cameraOf 14 = .ok (.ireturn, 1) := by decide +kernel
set_option maxRecDepth 20000 in
theorem ggL_counted_X3_counted : GoodIn wsL_counted wsX3_counted := goodIn_ca (goodIn_r _ [7, 8, 9, 10, 6, 11, 12, 13, 14, 15, 16, 17, 18, 19, 20, 21, 22, 23, 24, 25, 26, 27, 28] (by decide +kernel) (by decide +kernel)) (goodIn_sub (fun _ h => List.mem_cons_of_mem _ (List.mem_append_right _ h)) (by decide +kernel))
set_option maxRecDepth 20000 in
theorem gL_counted_X3_counted : GoodIn wsL_counted (wsV RL 72 RX3 yX3_counted wsX3_counted) := goodIn_app (goodIn_of _ (by decide +kernel)) ggL_counted_X3_counted
theorem dL_counted_0 : decode cL_counted 0 = .ok (.aload_n 0, 1) := by decide +kernel
theorem dL_counted_1 : decode cL_counted 1 = .ok (.iload_n 1, 1) := by decide +kernel
theorem dL_counted_2 : decode cL_counted 2 = .ok (.invokevirtual 72, 3) := by decide +kernel
theorem dL_counted_5 : decode cL_counted 5 = .ok (.ireturn, 1) := by decide +kernel
theorem dL_counted_6 : decode cL_counted 6 = .ok (.astore_n 2, 1) := by decide +kernel
theorem dL_counted_7 : decode cL_counted 7 = .ok (.ldc 15, 2) := by decide +kernel
theorem dL_counted_9 : decode cL_counted 9 = .ok (.ireturn, 1) := by decide +kernel
set_option maxRecDepth 20000 in
theorem ggL_anew_X3_countedAnew : GoodIn wsL_anew wsX3_countedAnew := goodIn_ca (goodIn_r _ [7, 8, 9, 10, 11, 6, 12, 13, 14, 15, 16, 17, 18, 19, 20, 21, 22, 23, 24, 25, 26, 27, 28, 29] (by decide +kernel) (by decide +kernel)) (goodIn_sub (fun _ h => List.mem_cons_of_mem _ (List.mem_append_right _ h)) (by decide +kernel))
set_option maxRecDepth 20000 in
theorem gL_anew_X3_countedAnew : GoodIn wsL_anew (wsV RL 75 RX3 yX3_countedAnew wsX3_countedAnew) := goodIn_app (goodIn_of _ (by decide +kernel)) ggL_anew_X3_countedAnew
theorem dL_anew_0 : decode cL_anew 0 = .ok (.aload_n 0, 1) := by decide +kernel
theorem dL_anew_1 : decode cL_anew 1 = .ok (.iload_n 1, 1) := by decide +kernel
theorem dL_anew_2 : decode cL_anew 2 = .ok (.invokevirtual 75, 3) := by decide +kernel
theorem dL_anew_5 : decode cL_anew 5 = .ok (.ireturn, 1) := by decide +kernel
theorem dL_anew_6 : decode cL_anew 6 = .ok (.astore_n 2, 1) := by decide +kernel
theorem dL_anew_7 : decode cL_anew 7 = .ok (.ldc 15, 2) := by decide +kernel
theorem dL_anew_9 : decode cL_anew 9 = .ok (.ireturn, 1) := by decide +kernel
set_option maxRecDepth 20000 in
theorem ggL_owed_X3_owed : GoodIn wsL_owed wsX3_owed := goodIn_ca (goodIn_r _ [7, 8, 9, 6, 10, 11, 12, 13, 14, 15, 16, 17, 18, 19, 20, 21, 22, 23, 24, 25, 26, 27, 28, 29, 30, 31, 32, 33, 34, 35, 36, 37] (by decide +kernel) (by decide +kernel)) (goodIn_sub (fun _ h => List.mem_cons_of_mem _ (List.mem_append_right _ h)) (by decide +kernel))
set_option maxRecDepth 20000 in
theorem gL_owed_X3_owed : GoodIn wsL_owed (wsV RL 78 RX3 yX3_owed wsX3_owed) := goodIn_app (goodIn_of _ (by decide +kernel)) ggL_owed_X3_owed
theorem dL_owed_0 : decode cL_owed 0 = .ok (.aload_n 0, 1) := by decide +kernel
theorem dL_owed_1 : decode cL_owed 1 = .ok (.iload_n 1, 1) := by decide +kernel
theorem dL_owed_2 : decode cL_owed 2 = .ok (.invokevirtual 78, 3) := by decide +kernel
theorem dL_owed_5 : decode cL_owed 5 = .ok (.ireturn, 1) := by decide +kernel
theorem dL_owed_6 : decode cL_owed 6 = .ok (.astore_n 2, 1) := by decide +kernel
theorem dL_owed_7 : decode cL_owed 7 = .ok (.ldc 15, 2) := by decide +kernel
theorem dL_owed_9 : decode cL_owed 9 = .ok (.ireturn, 1) := by decide +kernel
set_option maxRecDepth 20000 in
theorem ggL_leader_X3_leader : GoodIn wsL_leader wsX3_leader := goodIn_ca (goodIn_r _ [7, 8, 9, 10, 11, 12, 6, 13, 14, 15, 16, 17, 18, 19, 20, 21, 22, 23, 24, 25, 26, 27, 28, 29] (by decide +kernel) (by decide +kernel)) (goodIn_sub (fun _ h => List.mem_cons_of_mem _ (List.mem_append_right _ h)) (by decide +kernel))
set_option maxRecDepth 20000 in
theorem gL_leader_X3_leader : GoodIn wsL_leader (wsV RL 81 RX3 yX3_leader wsX3_leader) := goodIn_app (goodIn_of _ (by decide +kernel)) ggL_leader_X3_leader
theorem dL_leader_0 : decode cL_leader 0 = .ok (.aload_n 0, 1) := by decide +kernel
theorem dL_leader_1 : decode cL_leader 1 = .ok (.iload_n 1, 1) := by decide +kernel
theorem dL_leader_2 : decode cL_leader 2 = .ok (.invokevirtual 81, 3) := by decide +kernel
theorem dL_leader_5 : decode cL_leader 5 = .ok (.ireturn, 1) := by decide +kernel
theorem dL_leader_6 : decode cL_leader 6 = .ok (.astore_n 2, 1) := by decide +kernel
theorem dL_leader_7 : decode cL_leader 7 = .ok (.ldc 15, 2) := by decide +kernel
theorem dL_leader_9 : decode cL_leader 9 = .ok (.ireturn, 1) := by decide +kernel
theorem dL_drawn_0 : decode cL_drawn 0 = .ok (.iload_n 1, 1) := by decide +kernel
theorem dL_drawn_1 : decode cL_drawn 1 = .ok (.aload_n 0, 1) := by decide +kernel
theorem dL_drawn_2 : decode cL_drawn 2 = .ok (.arraylength, 1) := by decide +kernel
theorem dL_drawn_3 : decode cL_drawn 3 = .ok (.if_icmp .ge 9, 3) := by decide +kernel
theorem dL_drawn_6 : decode cL_drawn 6 = .ok (.aload_n 0, 1) := by decide +kernel
theorem dL_drawn_7 : decode cL_drawn 7 = .ok (.iload_n 1, 1) := by decide +kernel
theorem dL_drawn_8 : decode cL_drawn 8 = .ok (.iaload, 1) := by decide +kernel
theorem dL_drawn_9 : decode cL_drawn 9 = .ok (.goto 13, 3) := by decide +kernel
theorem dL_drawn_12 : decode cL_drawn 12 = .ok (.ldc 84, 2) := by decide +kernel
theorem dL_drawn_14 : decode cL_drawn 14 = .ok (.iload_n 1, 1) := by decide +kernel
theorem dL_drawn_15 : decode cL_drawn 15 = .ok (.iconst 3, 1) := by decide +kernel
theorem dL_drawn_16 : decode cL_drawn 16 = .ok (.iadd, 1) := by decide +kernel
theorem dL_drawn_17 : decode cL_drawn 17 = .ok (.imul, 1) := by decide +kernel
theorem dL_drawn_18 : decode cL_drawn 18 = .ok (.sipush 14821, 3) := by decide +kernel
theorem dL_drawn_21 : decode cL_drawn 21 = .ok (.iadd, 1) := by decide +kernel
theorem dL_drawn_22 : decode cL_drawn 22 = .ok (.ldc 85, 2) := by decide +kernel
theorem dL_drawn_24 : decode cL_drawn 24 = .ok (.iand, 1) := by decide +kernel
theorem dL_drawn_25 : decode cL_drawn 25 = .ok (.ireturn, 1) := by decide +kernel
