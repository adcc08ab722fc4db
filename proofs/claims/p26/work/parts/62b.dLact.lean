set_option maxRecDepth 20000 in
theorem ggL_act_L_fight : GoodIn wsL_act wsL_fight := goodIn_ca (goodIn_ca (goodIn_ca (goodIn_r _ [4, 5, 6, 7, 8, 9, 10, 11, 12, 13, 14, 15, 16, 17, 18, 19, 20, 21, 22, 23, 24, 25, 26, 27, 28, 29, 30, 31, 32, 33, 34, 35, 36, 37, 38, 39, 40, 41, 42, 43, 44, 45, 46, 47, 48, 49, 50, 51, 52, 53, 54, 55, 56, 57, 58, 59, 60, 61, 62, 63, 64, 65, 66, 67, 68, 69, 70, 71, 72, 73, 74, 75, 76, 77, 78, 79, 80, 81, 82, 83, 84, 85, 86, 87, 88, 89, 90, 91, 92, 93, 94, 95, 96, 97, 98, 99, 100, 101, 102, 103, 104, 105, 106, 107, 108, 109, 110, 111, 112, 113, 114, 115, 116, 117, 118, 119, 120, 121, 122, 123, 124, 125, 126, 127, 128, 129, 368, 369, 370, 371, 372, 373, 374, 375, 376, 377, 378, 379, 380, 381, 382, 383, 384, 385, 386, 387, 388, 389, 390, 391, 392] (by decide +kernel) (by decide +kernel)) (goodIn_sub (fun _ h => List.mem_cons_of_mem _ (List.mem_append_left _ (List.mem_append_left _ (List.mem_append_right _ h)))) (by decide +kernel))) (goodIn_sub (fun _ h => List.mem_cons_of_mem _ (List.mem_append_left _ (List.mem_append_right _ h))) (by decide +kernel))) (goodIn_sub (fun _ h => List.mem_cons_of_mem _ (List.mem_append_right _ h)) (by decide +kernel))
set_option maxRecDepth 20000 in
theorem gL_act_L_fight : GoodIn wsL_act (va_wsS RL 95 yL_fight wsL_fight) := goodIn_app (goodIn_of _ (by decide +kernel)) ggL_act_L_fight
set_option maxRecDepth 20000 in
theorem ggL_act_L_end : GoodIn wsL_act wsL_end := goodIn_ca (goodIn_ca (goodIn_r _ [132, 5, 7, 8, 10, 133, 134, 135, 14, 136, 137, 138, 139, 31, 140, 141, 142, 143, 144, 145, 21, 22, 29, 30, 32, 33, 34, 35, 36, 37, 38, 39, 40, 41, 42, 43, 44, 45, 46, 47, 48, 49, 50, 51, 52, 53, 54, 146, 147, 148, 27, 28, 149, 150, 151, 152, 153, 154, 155, 156, 157, 158, 159, 368, 369, 370, 371, 372, 373, 374, 375, 376, 377, 378, 379, 380, 381, 382, 383, 384, 385, 386, 387, 388, 389, 390, 391, 392, 393, 394, 395, 396, 397] (by decide +kernel) (by decide +kernel)) (goodIn_sub (fun _ h => List.mem_cons_of_mem _ (List.mem_append_left _ (List.mem_append_right _ h))) (by decide +kernel))) (goodIn_sub (fun _ h => List.mem_cons_of_mem _ (List.mem_append_right _ h)) (by decide +kernel))
set_option maxRecDepth 20000 in
theorem gL_act_L_end : GoodIn wsL_act (va_wsS RL 97 yL_end wsL_end) := goodIn_app (goodIn_of _ (by decide +kernel)) ggL_act_L_end
set_option maxRecDepth 20000 in
theorem ggL_act_L_replay : GoodIn wsL_act wsL_replay := goodIn_ca (goodIn_ca (goodIn_r _ [162, 5, 7, 8, 10, 163, 164, 165, 14, 166, 27, 28, 31, 138, 139, 140, 141, 142, 143, 144, 145, 21, 22, 29, 30, 32, 33, 34, 35, 36, 37, 38, 39, 40, 41, 42, 43, 44, 45, 46, 47, 48, 49, 50, 51, 52, 53, 54, 23, 24, 25, 26, 55, 56, 57, 58, 59, 60, 61, 167, 168, 169, 170, 153, 154, 155, 158, 171, 172, 173, 174, 137, 175, 176, 177, 178, 62, 63, 64, 65, 66, 67, 68, 69, 70, 71, 72, 73, 74, 75, 76, 77, 78, 79, 80, 81, 82, 83, 84, 85, 86, 87, 88, 89, 90, 91, 92, 93, 94, 95, 96, 97, 98, 99, 100, 101, 102, 103, 104, 105, 106, 107, 108, 109, 110, 111, 112, 113, 114, 115, 116, 117, 118, 119, 120, 121, 122, 123, 124, 125, 126, 127, 128, 129, 383, 384, 385, 386, 387, 388, 389, 368, 369, 370, 371, 372, 373, 374, 375, 376, 377, 378, 379, 380, 381, 382, 390, 391, 392, 393, 394, 395, 396, 397] (by decide +kernel) (by decide +kernel)) (goodIn_sub (fun _ h => List.mem_cons_of_mem _ (List.mem_append_right _ h)) (by decide +kernel))) (goodIn_sub (fun _ h => List.mem_cons_of_mem _ (List.mem_append_left _ (List.mem_append_right _ h))) (by decide +kernel))
set_option maxRecDepth 20000 in
theorem gL_act_L_replay : GoodIn wsL_act (va_wsS RL 100 yL_replay wsL_replay) := goodIn_app (goodIn_of _ (by decide +kernel)) ggL_act_L_replay
set_option maxRecDepth 20000 in
theorem ggL_act_L_camera : GoodIn wsL_act wsL_camera := goodIn_ca (goodIn_ca (goodIn_r _ [181, 6, 7, 9, 10, 182, 183, 184, 14, 185, 27, 28, 186, 187, 188, 189, 190, 191, 192, 16, 17, 32, 33, 34, 35, 36, 37, 193, 194, 195, 196, 72, 73, 197, 198, 77, 78, 79, 80, 81, 82, 54, 83, 84, 85, 86, 87, 88, 89, 90, 91, 92, 93, 94, 95, 96, 97, 98, 99, 100, 101, 102, 103, 104, 105, 106, 107, 108, 109, 110, 111, 112, 113, 114, 115, 116, 117, 118, 119, 120, 121, 122, 123, 124, 125, 126, 127, 128, 129, 368, 369, 370, 371, 372, 373, 374, 375, 376, 377, 378, 379, 380, 381, 382, 398, 399, 400, 401, 390, 391, 392] (by decide +kernel) (by decide +kernel)) (goodIn_sub (fun _ h => List.mem_cons_of_mem _ (List.mem_append_right _ h)) (by decide +kernel))) (goodIn_sub (fun _ h => List.mem_cons_of_mem _ (List.mem_append_left _ (List.mem_append_left _ (List.mem_append_right _ h)))) (by decide +kernel))
set_option maxRecDepth 20000 in
theorem gL_act_L_camera : GoodIn wsL_act (va_wsS RL 102 yL_camera wsL_camera) := goodIn_app (goodIn_of _ (by decide +kernel)) ggL_act_L_camera
set_option maxRecDepth 20000 in
theorem ggL_act_L_delay : GoodIn wsL_act wsL_delay := goodIn_ca (goodIn_r _ [201, 6, 9, 202, 203, 204, 14, 205, 206, 190, 191, 192, 16, 17, 207, 208, 209, 210, 211, 137, 212, 97, 98, 99, 368, 369, 370, 371, 372, 373, 374, 375, 376, 377, 378, 379, 380, 381, 382] (by decide +kernel) (by decide +kernel)) (goodIn_sub (fun _ h => List.mem_cons_of_mem _ (List.mem_append_left _ (List.mem_append_left _ (List.mem_append_right _ h)))) (by decide +kernel))
set_option maxRecDepth 20000 in
theorem gL_act_L_delay : GoodIn wsL_act (va_wsS RL 104 yL_delay wsL_delay) := goodIn_app (goodIn_of _ (by decide +kernel)) ggL_act_L_delay
set_option maxRecDepth 20000 in
theorem ggL_act_L_rank : GoodIn wsL_act wsL_rank := goodIn_ca (goodIn_ca (goodIn_r _ [215, 5, 6, 8, 9, 216, 217, 218, 14, 219, 220, 18, 19, 20, 21, 22, 190, 191, 192, 16, 17, 368, 369, 370, 371, 372, 373, 374, 375, 376, 377, 378, 379, 380, 381, 382] (by decide +kernel) (by decide +kernel)) (goodIn_sub (fun _ h => List.mem_cons_of_mem _ (List.mem_append_left _ (List.mem_append_right _ h))) (by decide +kernel))) (goodIn_sub (fun _ h => List.mem_cons_of_mem _ (List.mem_append_left _ (List.mem_append_left _ (List.mem_append_right _ h)))) (by decide +kernel))
set_option maxRecDepth 20000 in
theorem gL_act_L_rank : GoodIn wsL_act (va_wsS RL 90 yL_rank wsL_rank) := goodIn_app (goodIn_of _ (by decide +kernel)) ggL_act_L_rank
set_option maxRecDepth 20000 in
theorem ggL_act_L_promise : GoodIn wsL_act wsL_promise := goodIn_ca (goodIn_ca (goodIn_r _ [223, 5, 6, 8, 9, 224, 225, 226, 14, 227, 228, 229, 230, 231, 21, 22, 190, 191, 192, 16, 17, 368, 369, 370, 371, 372, 373, 374, 375, 376, 377, 378, 379, 380, 381, 382] (by decide +kernel) (by decide +kernel)) (goodIn_sub (fun _ h => List.mem_cons_of_mem _ (List.mem_append_left _ (List.mem_append_right _ h))) (by decide +kernel))) (goodIn_sub (fun _ h => List.mem_cons_of_mem _ (List.mem_append_left _ (List.mem_append_left _ (List.mem_append_right _ h)))) (by decide +kernel))
set_option maxRecDepth 20000 in
theorem gL_act_L_promise : GoodIn wsL_act (va_wsS RL 115 yL_promise wsL_promise) := goodIn_app (goodIn_of _ (by decide +kernel)) ggL_act_L_promise
set_option maxRecDepth 20000 in
theorem ggL_act_L_slot : GoodIn wsL_act wsL_slot := goodIn_ca (goodIn_ca (goodIn_r _ [234, 5, 7, 8, 10, 235, 236, 237, 14, 238, 27, 28, 239, 240, 229, 230, 231, 21, 22, 18, 19, 20, 368, 369, 370, 371, 372, 373, 374, 375, 376, 377, 378, 379, 380, 381, 382] (by decide +kernel) (by decide +kernel)) (goodIn_sub (fun _ h => List.mem_cons_of_mem _ (List.mem_append_right _ h)) (by decide +kernel))) (goodIn_sub (fun _ h => List.mem_cons_of_mem _ (List.mem_append_left _ (List.mem_append_right _ h))) (by decide +kernel))
set_option maxRecDepth 20000 in
theorem gL_act_L_slot : GoodIn wsL_act (va_wsS RL 117 yL_slot wsL_slot) := goodIn_app (goodIn_of _ (by decide +kernel)) ggL_act_L_slot
set_option maxRecDepth 20000 in
theorem ggL_act_L_blow : GoodIn wsL_act wsL_blow := goodIn_ca (goodIn_ca (goodIn_ca (goodIn_r _ [243, 5, 6, 7, 8, 9, 10, 244, 245, 246, 14, 247, 16, 17, 27, 28, 153, 248, 249, 250, 137, 142, 143, 144, 145, 21, 22, 29, 30, 32, 33, 34, 35, 36, 37, 38, 39, 40, 41, 42, 43, 44, 45, 46, 47, 48, 49, 50, 51, 52, 53, 54, 18, 19, 20, 190, 191, 192, 55, 56, 57, 58, 59, 60, 61, 146, 147, 148, 31, 251, 252, 253, 254, 255, 256, 257, 258, 259, 72, 73, 260, 261, 262, 263, 77, 78, 79, 80, 81, 82, 83, 84, 85, 86, 87, 88, 89, 90, 91, 92, 93, 94, 95, 96, 97, 98, 99, 100, 101, 102, 103, 104, 105, 106, 107, 108, 109, 110, 111, 112, 113, 114, 115, 116, 117, 118, 119, 120, 121, 122, 123, 124, 125, 126, 127, 128, 129, 368, 369, 370, 371, 372, 373, 374, 375, 376, 377, 378, 379, 380, 381, 382, 393, 394, 395, 396, 397, 390, 391, 392, 383, 384, 385, 386, 387, 388, 389] (by decide +kernel) (by decide +kernel)) (goodIn_sub (fun _ h => List.mem_cons_of_mem _ (List.mem_append_left _ (List.mem_append_left _ (List.mem_append_right _ h)))) (by decide +kernel))) (goodIn_sub (fun _ h => List.mem_cons_of_mem _ (List.mem_append_right _ h)) (by decide +kernel))) (goodIn_sub (fun _ h => List.mem_cons_of_mem _ (List.mem_append_left _ (List.mem_append_right _ h))) (by decide +kernel))
set_option maxRecDepth 20000 in
theorem gL_act_L_blow : GoodIn wsL_act (va_wsS RL 108 yL_blow wsL_blow) := goodIn_app (goodIn_of _ (by decide +kernel)) ggL_act_L_blow
set_option maxRecDepth 20000 in
theorem ggL_act_L_strike : GoodIn wsL_act wsL_strike := goodIn_ca (goodIn_ca (goodIn_r _ [266, 5, 7, 8, 10, 267, 268, 269, 14, 270, 158, 159, 271, 272, 273, 274, 21, 22, 153, 154, 32, 33, 34, 35, 36, 37, 38, 39, 40, 41, 42, 43, 44, 45, 46, 47, 48, 49, 50, 51, 52, 53, 54, 275, 276, 277, 27, 28, 278, 279, 280, 250, 281, 282, 260, 283, 393, 394, 395, 396, 397, 368, 369, 370, 371, 372, 373, 374, 375, 376, 377, 378, 379, 380, 381, 382, 390, 391, 392, 383, 384, 385, 386, 387, 388, 389] (by decide +kernel) (by decide +kernel)) (goodIn_sub (fun _ h => List.mem_cons_of_mem _ (List.mem_append_left _ (List.mem_append_right _ h))) (by decide +kernel))) (goodIn_sub (fun _ h => List.mem_cons_of_mem _ (List.mem_append_right _ h)) (by decide +kernel))
set_option maxRecDepth 20000 in
theorem gL_act_L_strike : GoodIn wsL_act (va_wsS RL 111 yL_strike wsL_strike) := goodIn_app (goodIn_of _ (by decide +kernel)) ggL_act_L_strike
set_option maxRecDepth 20000 in
theorem ggL_act_L_mend : GoodIn wsL_act wsL_mend := goodIn_ca (goodIn_ca (goodIn_ca (goodIn_r _ [286, 5, 6, 7, 8, 9, 10, 287, 288, 289, 14, 290, 159, 271, 272, 273, 274, 21, 22, 153, 154, 32, 33, 34, 35, 36, 37, 38, 39, 40, 41, 42, 43, 44, 45, 46, 47, 48, 49, 50, 51, 52, 53, 54, 190, 191, 192, 16, 17, 275, 276, 277, 27, 28, 278, 279, 280, 250, 281, 282, 260, 283, 393, 394, 395, 396, 397, 368, 369, 370, 371, 372, 373, 374, 375, 376, 377, 378, 379, 380, 381, 382, 390, 391, 392, 383, 384, 385, 386, 387, 388, 389] (by decide +kernel) (by decide +kernel)) (goodIn_sub (fun _ h => List.mem_cons_of_mem _ (List.mem_append_left _ (List.mem_append_right _ h))) (by decide +kernel))) (goodIn_sub (fun _ h => List.mem_cons_of_mem _ (List.mem_append_left _ (List.mem_append_left _ (List.mem_append_right _ h)))) (by decide +kernel))) (goodIn_sub (fun _ h => List.mem_cons_of_mem _ (List.mem_append_right _ h)) (by decide +kernel))
set_option maxRecDepth 20000 in
theorem gL_act_L_mend : GoodIn wsL_act (va_wsS RL 113 yL_mend wsL_mend) := goodIn_app (goodIn_of _ (by decide +kernel)) ggL_act_L_mend
set_option maxRecDepth 20000 in
theorem ggL_act_L_pass : GoodIn wsL_act wsL_pass := goodIn_ca (goodIn_ca (goodIn_r _ [293, 6, 7, 9, 10, 294, 295, 296, 14, 297, 27, 28, 137, 190, 191, 192, 16, 17, 298, 299, 300, 301, 176, 302, 175, 29, 30, 303, 304, 305, 306, 31, 307, 308, 309, 310, 32, 33, 34, 35, 36, 37, 38, 39, 40, 41, 42, 43, 44, 45, 46, 47, 48, 49, 50, 51, 52, 53, 54, 311, 312, 313, 314, 220, 138, 139, 315, 316, 317, 58, 318, 255, 319, 320, 321, 322, 323, 324, 325, 326, 327, 328, 329, 186, 330, 331, 332, 333, 334, 335, 336, 337, 338, 339, 177, 340, 178, 341, 342, 343, 344, 239, 345, 346, 347, 348, 228, 212, 97, 98, 99, 349, 350, 351, 352, 353, 354, 355, 189, 356, 357, 197, 198, 358, 359, 360, 361, 362, 363, 364, 365, 366, 367, 207, 208, 209, 210, 211, 206, 368, 369, 370, 371, 372, 373, 374, 375, 376, 377, 378, 379, 380, 381, 382, 383, 384, 385, 386, 387, 388, 389, 390, 391, 392, 398, 399, 400, 401] (by decide +kernel) (by decide +kernel)) (goodIn_sub (fun _ h => List.mem_cons_of_mem _ (List.mem_append_right _ h)) (by decide +kernel))) (goodIn_sub (fun _ h => List.mem_cons_of_mem _ (List.mem_append_left _ (List.mem_append_left _ (List.mem_append_right _ h)))) (by decide +kernel))
set_option maxRecDepth 20000 in
theorem gL_act_L_pass : GoodIn wsL_act (va_wsS RL 106 yL_pass wsL_pass) := goodIn_app (goodIn_of _ (by decide +kernel)) ggL_act_L_pass
theorem dL_act_0 : decode cL_act 0 = .ok (.iload_n 2, 1) := by decide +kernel
theorem dL_act_1 : decode cL_act 1 = .ok (.bipush 20, 2) := by decide +kernel
theorem dL_act_3 : decode cL_act 3 = .ok (.idiv, 1) := by decide +kernel
theorem dL_act_4 : decode cL_act 4 = .ok (.istore_n 3, 1) := by decide +kernel
theorem dL_act_5 : decode cL_act 5 = .ok (.aload_n 1, 1) := by decide +kernel
theorem dL_act_6 : decode cL_act 6 = .ok (.iconst 0, 1) := by decide +kernel
theorem dL_act_7 : decode cL_act 7 = .ok (.iaload, 1) := by decide +kernel
theorem dL_act_8 : decode cL_act 8 = .ok (.ifCond .ne 7, 3) := by decide +kernel
theorem dL_act_11 : decode cL_act 11 = .ok (.iconst 0, 1) := by decide +kernel
theorem dL_act_12 : decode cL_act 12 = .ok (.goto 25, 3) := by decide +kernel
theorem dL_act_15 : decode cL_act 15 = .ok (.aload_n 1, 1) := by decide +kernel
theorem dL_act_16 : decode cL_act 16 = .ok (.iconst 0, 1) := by decide +kernel
theorem dL_act_17 : decode cL_act 17 = .ok (.iaload, 1) := by decide +kernel
theorem dL_act_18 : decode cL_act 18 = .ok (.iconst 1, 1) := by decide +kernel
theorem dL_act_19 : decode cL_act 19 = .ok (.isub, 1) := by decide +kernel
theorem dL_act_20 : decode cL_act 20 = .ok (.iload_n 3, 1) := by decide +kernel
theorem dL_act_21 : decode cL_act 21 = .ok (.aload_n 1, 1) := by decide +kernel
theorem dL_act_22 : decode cL_act 22 = .ok (.iconst 0, 1) := by decide +kernel
theorem dL_act_23 : decode cL_act 23 = .ok (.iaload, 1) := by decide +kernel
theorem dL_act_24 : decode cL_act 24 = .ok (.iconst 4, 1) := by decide +kernel
theorem dL_act_25 : decode cL_act 25 = .ok (.if_icmp .le 7, 3) := by decide +kernel
theorem dL_act_28 : decode cL_act 28 = .ok (.iconst 4, 1) := by decide +kernel
theorem dL_act_29 : decode cL_act 29 = .ok (.goto 6, 3) := by decide +kernel
theorem dL_act_32 : decode cL_act 32 = .ok (.aload_n 1, 1) := by decide +kernel
theorem dL_act_33 : decode cL_act 33 = .ok (.iconst 0, 1) := by decide +kernel
theorem dL_act_34 : decode cL_act 34 = .ok (.iaload, 1) := by decide +kernel
theorem dL_act_35 : decode cL_act 35 = .ok (.irem, 1) := by decide +kernel
theorem dL_act_36 : decode cL_act 36 = .ok (.isub, 1) := by decide +kernel
theorem dL_act_37 : decode cL_act 37 = .ok (.istore 4, 2) := by decide +kernel
theorem dL_act_39 : decode cL_act 39 = .ok (.iload_n 2, 1) := by decide +kernel
theorem dL_act_40 : decode cL_act 40 = .ok (.bipush 20, 2) := by decide +kernel
theorem dL_act_42 : decode cL_act 42 = .ok (.irem, 1) := by decide +kernel
theorem dL_act_43 : decode cL_act 43 = .ok (.tableswitch 258 0 13 #[69, 69, 85, 92, 112, 130, 139, 155, 171, 187, 187, 187, 209, 229], 69) := by decide +kernel
theorem dL_act_112 : decode cL_act 112 = .ok (.aload_n 0, 1) := by decide +kernel
theorem dL_act_113 : decode cL_act 113 = .ok (.iload_n 3, 1) := by decide +kernel
theorem dL_act_114 : decode cL_act 114 = .ok (.bipush 6, 2) := by decide +kernel
theorem dL_act_116 : decode cL_act 116 = .ok (.irem, 1) := by decide +kernel
theorem dL_act_117 : decode cL_act 117 = .ok (.iload_n 3, 1) := by decide +kernel
theorem dL_act_118 : decode cL_act 118 = .ok (.bipush 6, 2) := by decide +kernel
theorem dL_act_120 : decode cL_act 120 = .ok (.idiv, 1) := by decide +kernel
theorem dL_act_121 : decode cL_act 121 = .ok (.bipush 6, 2) := by decide +kernel
theorem dL_act_123 : decode cL_act 123 = .ok (.irem, 1) := by decide +kernel
theorem dL_act_124 : decode cL_act 124 = .ok (.invokestatic 95, 3) := by decide +kernel
theorem dL_act_127 : decode cL_act 127 = .ok (.ireturn, 1) := by decide +kernel
theorem dL_act_128 : decode cL_act 128 = .ok (.aload_n 0, 1) := by decide +kernel
theorem dL_act_129 : decode cL_act 129 = .ok (.iload 4, 2) := by decide +kernel
theorem dL_act_131 : decode cL_act 131 = .ok (.invokestatic 97, 3) := by decide +kernel
theorem dL_act_134 : decode cL_act 134 = .ok (.ireturn, 1) := by decide +kernel
theorem dL_act_135 : decode cL_act 135 = .ok (.aload_n 0, 1) := by decide +kernel
theorem dL_act_136 : decode cL_act 136 = .ok (.aload_n 1, 1) := by decide +kernel
theorem dL_act_137 : decode cL_act 137 = .ok (.iconst 0, 1) := by decide +kernel
theorem dL_act_138 : decode cL_act 138 = .ok (.iaload, 1) := by decide +kernel
theorem dL_act_139 : decode cL_act 139 = .ok (.ifCond .ne 7, 3) := by decide +kernel
theorem dL_act_142 : decode cL_act 142 = .ok (.iconst 0, 1) := by decide +kernel
theorem dL_act_143 : decode cL_act 143 = .ok (.goto 8, 3) := by decide +kernel
theorem dL_act_146 : decode cL_act 146 = .ok (.iload_n 3, 1) := by decide +kernel
theorem dL_act_147 : decode cL_act 147 = .ok (.aload_n 1, 1) := by decide +kernel
theorem dL_act_148 : decode cL_act 148 = .ok (.iconst 0, 1) := by decide +kernel
theorem dL_act_149 : decode cL_act 149 = .ok (.iaload, 1) := by decide +kernel
theorem dL_act_150 : decode cL_act 150 = .ok (.irem, 1) := by decide +kernel
theorem dL_act_151 : decode cL_act 151 = .ok (.invokestatic 100, 3) := by decide +kernel
theorem dL_act_154 : decode cL_act 154 = .ok (.ireturn, 1) := by decide +kernel
theorem dL_act_155 : decode cL_act 155 = .ok (.aload_n 0, 1) := by decide +kernel
theorem dL_act_156 : decode cL_act 156 = .ok (.iconst 1, 1) := by decide +kernel
theorem dL_act_157 : decode cL_act 157 = .ok (.iload_n 3, 1) := by decide +kernel
theorem dL_act_158 : decode cL_act 158 = .ok (.bipush 20, 2) := by decide +kernel
theorem dL_act_160 : decode cL_act 160 = .ok (.irem, 1) := by decide +kernel
theorem dL_act_161 : decode cL_act 161 = .ok (.iadd, 1) := by decide +kernel
theorem dL_act_162 : decode cL_act 162 = .ok (.iload_n 3, 1) := by decide +kernel
theorem dL_act_163 : decode cL_act 163 = .ok (.bipush 20, 2) := by decide +kernel
theorem dL_act_165 : decode cL_act 165 = .ok (.idiv, 1) := by decide +kernel
theorem dL_act_166 : decode cL_act 166 = .ok (.bipush 20, 2) := by decide +kernel
theorem dL_act_168 : decode cL_act 168 = .ok (.irem, 1) := by decide +kernel
theorem dL_act_169 : decode cL_act 169 = .ok (.invokestatic 102, 3) := by decide +kernel
theorem dL_act_172 : decode cL_act 172 = .ok (.ireturn, 1) := by decide +kernel
theorem dL_act_173 : decode cL_act 173 = .ok (.aload_n 0, 1) := by decide +kernel
theorem dL_act_174 : decode cL_act 174 = .ok (.iload_n 3, 1) := by decide +kernel
theorem dL_act_175 : decode cL_act 175 = .ok (.bipush 30, 2) := by decide +kernel
theorem dL_act_177 : decode cL_act 177 = .ok (.irem, 1) := by decide +kernel
theorem dL_act_178 : decode cL_act 178 = .ok (.invokestatic 104, 3) := by decide +kernel
theorem dL_act_181 : decode cL_act 181 = .ok (.ireturn, 1) := by decide +kernel
theorem dL_act_182 : decode cL_act 182 = .ok (.aload_n 0, 1) := by decide +kernel
theorem dL_act_183 : decode cL_act 183 = .ok (.iload_n 3, 1) := by decide +kernel
theorem dL_act_184 : decode cL_act 184 = .ok (.bipush 10, 2) := by decide +kernel
theorem dL_act_186 : decode cL_act 186 = .ok (.irem, 1) := by decide +kernel
theorem dL_act_187 : decode cL_act 187 = .ok (.iload_n 3, 1) := by decide +kernel
theorem dL_act_188 : decode cL_act 188 = .ok (.bipush 10, 2) := by decide +kernel
theorem dL_act_190 : decode cL_act 190 = .ok (.idiv, 1) := by decide +kernel
theorem dL_act_191 : decode cL_act 191 = .ok (.bipush 30, 2) := by decide +kernel
theorem dL_act_193 : decode cL_act 193 = .ok (.irem, 1) := by decide +kernel
theorem dL_act_194 : decode cL_act 194 = .ok (.invokestatic 90, 3) := by decide +kernel
theorem dL_act_197 : decode cL_act 197 = .ok (.ireturn, 1) := by decide +kernel
theorem dL_act_198 : decode cL_act 198 = .ok (.aload_n 0, 1) := by decide +kernel
theorem dL_act_199 : decode cL_act 199 = .ok (.iload_n 3, 1) := by decide +kernel
theorem dL_act_200 : decode cL_act 200 = .ok (.bipush 6, 2) := by decide +kernel
theorem dL_act_202 : decode cL_act 202 = .ok (.irem, 1) := by decide +kernel
theorem dL_act_203 : decode cL_act 203 = .ok (.iload_n 3, 1) := by decide +kernel
theorem dL_act_204 : decode cL_act 204 = .ok (.bipush 6, 2) := by decide +kernel
theorem dL_act_206 : decode cL_act 206 = .ok (.idiv, 1) := by decide +kernel
theorem dL_act_207 : decode cL_act 207 = .ok (.bipush 120, 2) := by decide +kernel
theorem dL_act_209 : decode cL_act 209 = .ok (.irem, 1) := by decide +kernel
theorem dL_act_210 : decode cL_act 210 = .ok (.invokestatic 115, 3) := by decide +kernel
theorem dL_act_213 : decode cL_act 213 = .ok (.ireturn, 1) := by decide +kernel
theorem dL_act_214 : decode cL_act 214 = .ok (.aload_n 0, 1) := by decide +kernel
theorem dL_act_215 : decode cL_act 215 = .ok (.iload_n 3, 1) := by decide +kernel
theorem dL_act_216 : decode cL_act 216 = .ok (.bipush 6, 2) := by decide +kernel
theorem dL_act_218 : decode cL_act 218 = .ok (.irem, 1) := by decide +kernel
theorem dL_act_219 : decode cL_act 219 = .ok (.iload_n 3, 1) := by decide +kernel
theorem dL_act_220 : decode cL_act 220 = .ok (.bipush 6, 2) := by decide +kernel
theorem dL_act_222 : decode cL_act 222 = .ok (.idiv, 1) := by decide +kernel
theorem dL_act_223 : decode cL_act 223 = .ok (.bipush 6, 2) := by decide +kernel
theorem dL_act_225 : decode cL_act 225 = .ok (.irem, 1) := by decide +kernel
theorem dL_act_226 : decode cL_act 226 = .ok (.invokestatic 117, 3) := by decide +kernel
theorem dL_act_229 : decode cL_act 229 = .ok (.ireturn, 1) := by decide +kernel
theorem dL_act_230 : decode cL_act 230 = .ok (.aload_n 0, 1) := by decide +kernel
theorem dL_act_231 : decode cL_act 231 = .ok (.iload 4, 2) := by decide +kernel
theorem dL_act_233 : decode cL_act 233 = .ok (.iload_n 3, 1) := by decide +kernel
theorem dL_act_234 : decode cL_act 234 = .ok (.iconst 4, 1) := by decide +kernel
theorem dL_act_235 : decode cL_act 235 = .ok (.idiv, 1) := by decide +kernel
theorem dL_act_236 : decode cL_act 236 = .ok (.bipush 6, 2) := by decide +kernel
theorem dL_act_238 : decode cL_act 238 = .ok (.irem, 1) := by decide +kernel
theorem dL_act_239 : decode cL_act 239 = .ok (.iconst 1, 1) := by decide +kernel
theorem dL_act_240 : decode cL_act 240 = .ok (.iload_n 3, 1) := by decide +kernel
theorem dL_act_241 : decode cL_act 241 = .ok (.bipush 24, 2) := by decide +kernel
theorem dL_act_243 : decode cL_act 243 = .ok (.idiv, 1) := by decide +kernel
theorem dL_act_244 : decode cL_act 244 = .ok (.bipush 9, 2) := by decide +kernel
theorem dL_act_246 : decode cL_act 246 = .ok (.irem, 1) := by decide +kernel
theorem dL_act_247 : decode cL_act 247 = .ok (.iadd, 1) := by decide +kernel
theorem dL_act_248 : decode cL_act 248 = .ok (.invokestatic 108, 3) := by decide +kernel
theorem dL_act_251 : decode cL_act 251 = .ok (.ireturn, 1) := by decide +kernel
theorem dL_act_252 : decode cL_act 252 = .ok (.aload_n 0, 1) := by decide +kernel
theorem dL_act_253 : decode cL_act 253 = .ok (.aload_n 1, 1) := by decide +kernel
theorem dL_act_254 : decode cL_act 254 = .ok (.iconst 2, 1) := by decide +kernel
theorem dL_act_255 : decode cL_act 255 = .ok (.iaload, 1) := by decide +kernel
theorem dL_act_256 : decode cL_act 256 = .ok (.ifCond .ne 7, 3) := by decide +kernel
theorem dL_act_259 : decode cL_act 259 = .ok (.iconst 0, 1) := by decide +kernel
theorem dL_act_260 : decode cL_act 260 = .ok (.goto 8, 3) := by decide +kernel
theorem dL_act_263 : decode cL_act 263 = .ok (.iload_n 3, 1) := by decide +kernel
theorem dL_act_264 : decode cL_act 264 = .ok (.aload_n 1, 1) := by decide +kernel
theorem dL_act_265 : decode cL_act 265 = .ok (.iconst 2, 1) := by decide +kernel
theorem dL_act_266 : decode cL_act 266 = .ok (.iaload, 1) := by decide +kernel
theorem dL_act_267 : decode cL_act 267 = .ok (.irem, 1) := by decide +kernel
theorem dL_act_268 : decode cL_act 268 = .ok (.invokestatic 111, 3) := by decide +kernel
theorem dL_act_271 : decode cL_act 271 = .ok (.ireturn, 1) := by decide +kernel
theorem dL_act_272 : decode cL_act 272 = .ok (.aload_n 0, 1) := by decide +kernel
theorem dL_act_273 : decode cL_act 273 = .ok (.aload_n 1, 1) := by decide +kernel
theorem dL_act_274 : decode cL_act 274 = .ok (.iconst 2, 1) := by decide +kernel
theorem dL_act_275 : decode cL_act 275 = .ok (.iaload, 1) := by decide +kernel
theorem dL_act_276 : decode cL_act 276 = .ok (.ifCond .ne 7, 3) := by decide +kernel
theorem dL_act_279 : decode cL_act 279 = .ok (.iconst 0, 1) := by decide +kernel
theorem dL_act_280 : decode cL_act 280 = .ok (.goto 8, 3) := by decide +kernel
theorem dL_act_283 : decode cL_act 283 = .ok (.iload_n 3, 1) := by decide +kernel
theorem dL_act_284 : decode cL_act 284 = .ok (.aload_n 1, 1) := by decide +kernel
theorem dL_act_285 : decode cL_act 285 = .ok (.iconst 2, 1) := by decide +kernel
theorem dL_act_286 : decode cL_act 286 = .ok (.iaload, 1) := by decide +kernel
theorem dL_act_287 : decode cL_act 287 = .ok (.irem, 1) := by decide +kernel
theorem dL_act_288 : decode cL_act 288 = .ok (.iconst 1, 1) := by decide +kernel
theorem dL_act_289 : decode cL_act 289 = .ok (.iload_n 3, 1) := by decide +kernel
theorem dL_act_290 : decode cL_act 290 = .ok (.bipush 80, 2) := by decide +kernel
theorem dL_act_292 : decode cL_act 292 = .ok (.idiv, 1) := by decide +kernel
theorem dL_act_293 : decode cL_act 293 = .ok (.bipush 9, 2) := by decide +kernel
theorem dL_act_295 : decode cL_act 295 = .ok (.irem, 1) := by decide +kernel
theorem dL_act_296 : decode cL_act 296 = .ok (.iadd, 1) := by decide +kernel
theorem dL_act_297 : decode cL_act 297 = .ok (.invokestatic 113, 3) := by decide +kernel
theorem dL_act_300 : decode cL_act 300 = .ok (.ireturn, 1) := by decide +kernel
theorem dL_act_301 : decode cL_act 301 = .ok (.aload_n 0, 1) := by decide +kernel
theorem dL_act_302 : decode cL_act 302 = .ok (.iconst 1, 1) := by decide +kernel
theorem dL_act_303 : decode cL_act 303 = .ok (.iload_n 3, 1) := by decide +kernel
theorem dL_act_304 : decode cL_act 304 = .ok (.iload_n 3, 1) := by decide +kernel
theorem dL_act_305 : decode cL_act 305 = .ok (.iconst 5, 1) := by decide +kernel
theorem dL_act_306 : decode cL_act 306 = .ok (.irem, 1) := by decide +kernel
theorem dL_act_307 : decode cL_act 307 = .ok (.ifCond .ne 8, 3) := by decide +kernel
theorem dL_act_310 : decode cL_act 310 = .ok (.bipush 60, 2) := by decide +kernel
theorem dL_act_312 : decode cL_act 312 = .ok (.goto 5, 3) := by decide +kernel
theorem dL_act_315 : decode cL_act 315 = .ok (.bipush 6, 2) := by decide +kernel
theorem dL_act_317 : decode cL_act 317 = .ok (.irem, 1) := by decide +kernel
theorem dL_act_318 : decode cL_act 318 = .ok (.iadd, 1) := by decide +kernel
theorem dL_act_319 : decode cL_act 319 = .ok (.invokestatic 106, 3) := by decide +kernel
theorem dL_act_322 : decode cL_act 322 = .ok (.ireturn, 1) := by decide +kernel
