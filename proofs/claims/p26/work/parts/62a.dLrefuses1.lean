set_option maxRecDepth 20000 in
theorem ggL_refuses_X3_frame : GoodIn wsL_refuses wsX3_frame := goodIn_r _ [8, 9, 440, 441, 442, 443, 444, 445, 446, 447, 448, 449, 450, 451, 452, 453, 454] (by decide +kernel) (by decide +kernel)
set_option maxRecDepth 20000 in
theorem gL_refuses_X3_frame : GoodIn wsL_refuses (wsV RL 86 RX3 yX3_frame wsX3_frame) := goodIn_app (goodIn_of _ (by decide +kernel)) ggL_refuses_X3_frame
set_option maxRecDepth 20000 in
theorem ggL_refuses_L_rank : GoodIn wsL_refuses wsL_rank := goodIn_ca (goodIn_ca (goodIn_r _ [13, 14, 15, 1, 2, 16, 17, 18, 7, 19, 20, 21, 22, 23, 24, 25, 26, 27, 28, 29, 30, 440, 441, 442, 443, 444, 445, 446, 447, 448, 449, 450, 451, 452, 453, 454] (by decide +kernel) (by decide +kernel)) (goodIn_sub (fun _ h => List.mem_cons_of_mem _ (List.mem_append_left _ (List.mem_append_left _ (List.mem_append_right _ h)))) (by decide +kernel))) (goodIn_sub (fun _ h => List.mem_cons_of_mem _ (List.mem_append_left _ (List.mem_append_right _ h))) (by decide +kernel))
set_option maxRecDepth 20000 in
theorem gL_refuses_L_rank : GoodIn wsL_refuses (va_wsS RL 90 yL_rank wsL_rank) := goodIn_app (goodIn_of _ (by decide +kernel)) ggL_refuses_L_rank
set_option maxRecDepth 20000 in
theorem ggL_refuses_L_fight : GoodIn wsL_refuses wsL_fight := goodIn_ca (goodIn_ca (goodIn_ca (goodIn_r _ [33, 14, 15, 34, 1, 2, 3, 35, 36, 37, 7, 38, 29, 30, 21, 22, 23, 24, 25, 39, 40, 41, 42, 43, 44, 45, 46, 47, 48, 49, 50, 51, 52, 53, 54, 55, 56, 57, 58, 59, 60, 61, 62, 63, 64, 65, 66, 67, 68, 69, 70, 71, 72, 73, 74, 75, 76, 77, 78, 79, 80, 81, 82, 83, 84, 85, 86, 87, 88, 89, 90, 91, 92, 93, 94, 95, 96, 97, 98, 99, 100, 101, 102, 103, 104, 105, 106, 107, 108, 109, 110, 111, 112, 113, 114, 115, 116, 117, 118, 119, 120, 121, 122, 123, 124, 125, 126, 127, 128, 129, 130, 131, 132, 133, 134, 135, 136, 137, 138, 139, 140, 141, 142, 143, 144, 145, 440, 441, 442, 443, 444, 445, 446, 447, 448, 449, 450, 451, 452, 453, 454, 455, 456, 457, 458, 459, 460, 461, 462, 463, 464] (by decide +kernel) (by decide +kernel)) (goodIn_sub (fun _ h => List.mem_cons_of_mem _ (List.mem_append_left _ (List.mem_append_right _ h))) (by decide +kernel))) (goodIn_sub (fun _ h => List.mem_cons_of_mem _ (List.mem_append_left _ (List.mem_append_left _ (List.mem_append_right _ h)))) (by decide +kernel))) (goodIn_sub (fun _ h => List.mem_cons_of_mem _ (List.mem_append_right _ h)) (by decide +kernel))
set_option maxRecDepth 20000 in
theorem gL_refuses_L_fight : GoodIn wsL_refuses (va_wsS RL 95 yL_fight wsL_fight) := goodIn_app (goodIn_of _ (by decide +kernel)) ggL_refuses_L_fight
set_option maxRecDepth 20000 in
theorem ggL_refuses_L_end : GoodIn wsL_refuses wsL_end := goodIn_ca (goodIn_ca (goodIn_r _ [148, 14, 34, 1, 3, 149, 150, 151, 7, 152, 9, 153, 154, 47, 155, 156, 157, 158, 159, 160, 24, 25, 45, 46, 48, 49, 50, 51, 52, 53, 54, 55, 56, 57, 58, 59, 60, 61, 62, 63, 64, 65, 66, 67, 68, 69, 70, 161, 162, 163, 43, 44, 164, 165, 166, 167, 168, 169, 170, 171, 172, 173, 174, 440, 441, 442, 443, 444, 445, 446, 447, 448, 449, 450, 451, 452, 453, 454, 455, 456, 457, 458, 459, 460, 461, 462, 463, 464, 465, 466, 467, 468, 469] (by decide +kernel) (by decide +kernel)) (goodIn_sub (fun _ h => List.mem_cons_of_mem _ (List.mem_append_left _ (List.mem_append_left _ (List.mem_append_right _ h)))) (by decide +kernel))) (goodIn_sub (fun _ h => List.mem_cons_of_mem _ (List.mem_append_right _ h)) (by decide +kernel))
set_option maxRecDepth 20000 in
theorem gL_refuses_L_end : GoodIn wsL_refuses (va_wsS RL 97 yL_end wsL_end) := goodIn_app (goodIn_of _ (by decide +kernel)) ggL_refuses_L_end
set_option maxRecDepth 20000 in
theorem ggL_refuses_L_replay : GoodIn wsL_refuses wsL_replay := goodIn_ca (goodIn_ca (goodIn_r _ [177, 14, 34, 1, 3, 178, 179, 180, 7, 181, 43, 44, 47, 153, 154, 155, 156, 157, 158, 159, 160, 24, 25, 45, 46, 48, 49, 50, 51, 52, 53, 54, 55, 56, 57, 58, 59, 60, 61, 62, 63, 64, 65, 66, 67, 68, 69, 70, 39, 40, 41, 42, 71, 72, 73, 74, 75, 76, 77, 182, 183, 184, 185, 168, 169, 170, 173, 186, 187, 188, 189, 9, 190, 191, 192, 193, 78, 79, 80, 81, 82, 83, 84, 85, 86, 87, 88, 89, 90, 91, 92, 93, 94, 95, 96, 97, 98, 99, 100, 101, 102, 103, 104, 105, 106, 107, 108, 109, 110, 111, 112, 113, 114, 115, 116, 117, 118, 119, 120, 121, 122, 123, 124, 125, 126, 127, 128, 129, 130, 131, 132, 133, 134, 135, 136, 137, 138, 139, 140, 141, 142, 143, 144, 145, 455, 456, 457, 458, 459, 460, 461, 440, 441, 442, 443, 444, 445, 446, 447, 448, 449, 450, 451, 452, 453, 454, 462, 463, 464, 465, 466, 467, 468, 469] (by decide +kernel) (by decide +kernel)) (goodIn_sub (fun _ h => List.mem_cons_of_mem _ (List.mem_append_right _ h)) (by decide +kernel))) (goodIn_sub (fun _ h => List.mem_cons_of_mem _ (List.mem_append_left _ (List.mem_append_left _ (List.mem_append_right _ h)))) (by decide +kernel))
set_option maxRecDepth 20000 in
theorem gL_refuses_L_replay : GoodIn wsL_refuses (va_wsS RL 100 yL_replay wsL_replay) := goodIn_app (goodIn_of _ (by decide +kernel)) ggL_refuses_L_replay
set_option maxRecDepth 20000 in
theorem ggL_refuses_L_camera : GoodIn wsL_refuses wsL_camera := goodIn_ca (goodIn_ca (goodIn_r _ [196, 15, 34, 2, 3, 197, 198, 199, 7, 200, 43, 44, 201, 202, 203, 204, 26, 27, 28, 29, 30, 48, 49, 50, 51, 52, 53, 205, 206, 207, 208, 88, 89, 209, 210, 93, 94, 95, 96, 97, 98, 70, 99, 100, 101, 102, 103, 104, 105, 106, 107, 108, 109, 110, 111, 112, 113, 114, 115, 116, 117, 118, 119, 120, 121, 122, 123, 124, 125, 126, 127, 128, 129, 130, 131, 132, 133, 134, 135, 136, 137, 138, 139, 140, 141, 142, 143, 144, 145, 440, 441, 442, 443, 444, 445, 446, 447, 448, 449, 450, 451, 452, 453, 454, 470, 471, 472, 473, 462, 463, 464] (by decide +kernel) (by decide +kernel)) (goodIn_sub (fun _ h => List.mem_cons_of_mem _ (List.mem_append_right _ h)) (by decide +kernel))) (goodIn_sub (fun _ h => List.mem_cons_of_mem _ (List.mem_append_left _ (List.mem_append_right _ h))) (by decide +kernel))
set_option maxRecDepth 20000 in
theorem gL_refuses_L_camera : GoodIn wsL_refuses (va_wsS RL 102 yL_camera wsL_camera) := goodIn_app (goodIn_of _ (by decide +kernel)) ggL_refuses_L_camera
set_option maxRecDepth 20000 in
theorem ggL_refuses_L_delay : GoodIn wsL_refuses wsL_delay := goodIn_ca (goodIn_r _ [213, 15, 2, 214, 215, 216, 7, 217, 218, 26, 27, 28, 29, 30, 219, 220, 221, 222, 223, 9, 224, 113, 114, 115, 440, 441, 442, 443, 444, 445, 446, 447, 448, 449, 450, 451, 452, 453, 454] (by decide +kernel) (by decide +kernel)) (goodIn_sub (fun _ h => List.mem_cons_of_mem _ (List.mem_append_left _ (List.mem_append_right _ h))) (by decide +kernel))
set_option maxRecDepth 20000 in
theorem gL_refuses_L_delay : GoodIn wsL_refuses (va_wsS RL 104 yL_delay wsL_delay) := goodIn_app (goodIn_of _ (by decide +kernel)) ggL_refuses_L_delay
set_option maxRecDepth 20000 in
theorem ggL_refuses_L_pass : GoodIn wsL_refuses wsL_pass := goodIn_ca (goodIn_ca (goodIn_r _ [227, 15, 34, 2, 3, 228, 229, 230, 7, 231, 43, 44, 9, 26, 27, 28, 29, 30, 232, 233, 234, 235, 191, 236, 190, 45, 46, 237, 238, 239, 240, 47, 241, 242, 243, 244, 48, 49, 50, 51, 52, 53, 54, 55, 56, 57, 58, 59, 60, 61, 62, 63, 64, 65, 66, 67, 68, 69, 70, 245, 246, 247, 248, 20, 153, 154, 249, 250, 251, 74, 252, 253, 254, 255, 256, 257, 258, 259, 260, 261, 262, 263, 264, 201, 265, 266, 267, 268, 269, 270, 271, 272, 273, 274, 192, 275, 193, 276, 277, 278, 279, 280, 281, 282, 283, 284, 285, 224, 113, 114, 115, 286, 287, 288, 289, 290, 291, 292, 204, 293, 294, 209, 210, 295, 296, 297, 298, 299, 300, 301, 302, 303, 304, 219, 220, 221, 222, 223, 218, 440, 441, 442, 443, 444, 445, 446, 447, 448, 449, 450, 451, 452, 453, 454, 455, 456, 457, 458, 459, 460, 461, 462, 463, 464, 470, 471, 472, 473] (by decide +kernel) (by decide +kernel)) (goodIn_sub (fun _ h => List.mem_cons_of_mem _ (List.mem_append_right _ h)) (by decide +kernel))) (goodIn_sub (fun _ h => List.mem_cons_of_mem _ (List.mem_append_left _ (List.mem_append_right _ h))) (by decide +kernel))
set_option maxRecDepth 20000 in
theorem gL_refuses_L_pass : GoodIn wsL_refuses (va_wsS RL 106 yL_pass wsL_pass) := goodIn_app (goodIn_of _ (by decide +kernel)) ggL_refuses_L_pass
set_option maxRecDepth 20000 in
theorem ggL_refuses_L_blow : GoodIn wsL_refuses wsL_blow := goodIn_ca (goodIn_ca (goodIn_ca (goodIn_r _ [307, 14, 15, 34, 1, 2, 3, 308, 309, 310, 7, 311, 29, 30, 43, 44, 168, 312, 313, 314, 9, 157, 158, 159, 160, 24, 25, 45, 46, 48, 49, 50, 51, 52, 53, 54, 55, 56, 57, 58, 59, 60, 61, 62, 63, 64, 65, 66, 67, 68, 69, 70, 21, 22, 23, 26, 27, 28, 71, 72, 73, 74, 75, 76, 77, 161, 162, 163, 47, 315, 316, 317, 318, 253, 319, 320, 321, 322, 88, 89, 323, 324, 325, 326, 93, 94, 95, 96, 97, 98, 99, 100, 101, 102, 103, 104, 105, 106, 107, 108, 109, 110, 111, 112, 113, 114, 115, 116, 117, 118, 119, 120, 121, 122, 123, 124, 125, 126, 127, 128, 129, 130, 131, 132, 133, 134, 135, 136, 137, 138, 139, 140, 141, 142, 143, 144, 145, 440, 441, 442, 443, 444, 445, 446, 447, 448, 449, 450, 451, 452, 453, 454, 465, 466, 467, 468, 469, 462, 463, 464, 455, 456, 457, 458, 459, 460, 461] (by decide +kernel) (by decide +kernel)) (goodIn_sub (fun _ h => List.mem_cons_of_mem _ (List.mem_append_left _ (List.mem_append_right _ h))) (by decide +kernel))) (goodIn_sub (fun _ h => List.mem_cons_of_mem _ (List.mem_append_right _ h)) (by decide +kernel))) (goodIn_sub (fun _ h => List.mem_cons_of_mem _ (List.mem_append_left _ (List.mem_append_left _ (List.mem_append_right _ h)))) (by decide +kernel))
set_option maxRecDepth 20000 in
theorem gL_refuses_L_blow : GoodIn wsL_refuses (va_wsS RL 108 yL_blow wsL_blow) := goodIn_app (goodIn_of _ (by decide +kernel)) ggL_refuses_L_blow
set_option maxRecDepth 20000 in
theorem ggL_refuses_L_strike : GoodIn wsL_refuses wsL_strike := goodIn_ca (goodIn_ca (goodIn_r _ [329, 14, 34, 1, 3, 330, 331, 332, 7, 333, 173, 174, 334, 335, 336, 337, 24, 25, 168, 169, 48, 49, 50, 51, 52, 53, 54, 55, 56, 57, 58, 59, 60, 61, 62, 63, 64, 65, 66, 67, 68, 69, 70, 338, 339, 340, 43, 44, 341, 342, 343, 314, 344, 345, 323, 346, 465, 466, 467, 468, 469, 440, 441, 442, 443, 444, 445, 446, 447, 448, 449, 450, 451, 452, 453, 454, 462, 463, 464, 455, 456, 457, 458, 459, 460, 461] (by decide +kernel) (by decide +kernel)) (goodIn_sub (fun _ h => List.mem_cons_of_mem _ (List.mem_append_left _ (List.mem_append_left _ (List.mem_append_right _ h)))) (by decide +kernel))) (goodIn_sub (fun _ h => List.mem_cons_of_mem _ (List.mem_append_right _ h)) (by decide +kernel))
set_option maxRecDepth 20000 in
theorem gL_refuses_L_strike : GoodIn wsL_refuses (va_wsS RL 111 yL_strike wsL_strike) := goodIn_app (goodIn_of _ (by decide +kernel)) ggL_refuses_L_strike
set_option maxRecDepth 20000 in
theorem ggL_refuses_L_mend : GoodIn wsL_refuses wsL_mend := goodIn_ca (goodIn_ca (goodIn_ca (goodIn_r _ [349, 14, 15, 34, 1, 2, 3, 350, 351, 352, 7, 353, 174, 334, 335, 336, 337, 24, 25, 168, 169, 48, 49, 50, 51, 52, 53, 54, 55, 56, 57, 58, 59, 60, 61, 62, 63, 64, 65, 66, 67, 68, 69, 70, 26, 27, 28, 29, 30, 338, 339, 340, 43, 44, 341, 342, 343, 314, 344, 345, 323, 346, 465, 466, 467, 468, 469, 440, 441, 442, 443, 444, 445, 446, 447, 448, 449, 450, 451, 452, 453, 454, 462, 463, 464, 455, 456, 457, 458, 459, 460, 461] (by decide +kernel) (by decide +kernel)) (goodIn_sub (fun _ h => List.mem_cons_of_mem _ (List.mem_append_left _ (List.mem_append_left _ (List.mem_append_right _ h)))) (by decide +kernel))) (goodIn_sub (fun _ h => List.mem_cons_of_mem _ (List.mem_append_left _ (List.mem_append_right _ h))) (by decide +kernel))) (goodIn_sub (fun _ h => List.mem_cons_of_mem _ (List.mem_append_right _ h)) (by decide +kernel))
set_option maxRecDepth 20000 in
theorem gL_refuses_L_mend : GoodIn wsL_refuses (va_wsS RL 113 yL_mend wsL_mend) := goodIn_app (goodIn_of _ (by decide +kernel)) ggL_refuses_L_mend
set_option maxRecDepth 20000 in
theorem ggL_refuses_L_promise : GoodIn wsL_refuses wsL_promise := goodIn_ca (goodIn_ca (goodIn_r _ [356, 14, 15, 1, 2, 357, 358, 359, 7, 360, 285, 361, 362, 363, 24, 25, 26, 27, 28, 29, 30, 440, 441, 442, 443, 444, 445, 446, 447, 448, 449, 450, 451, 452, 453, 454] (by decide +kernel) (by decide +kernel)) (goodIn_sub (fun _ h => List.mem_cons_of_mem _ (List.mem_append_left _ (List.mem_append_left _ (List.mem_append_right _ h)))) (by decide +kernel))) (goodIn_sub (fun _ h => List.mem_cons_of_mem _ (List.mem_append_left _ (List.mem_append_right _ h))) (by decide +kernel))
set_option maxRecDepth 20000 in
theorem gL_refuses_L_promise : GoodIn wsL_refuses (va_wsS RL 115 yL_promise wsL_promise) := goodIn_app (goodIn_of _ (by decide +kernel)) ggL_refuses_L_promise
set_option maxRecDepth 20000 in
theorem ggL_refuses_L_slot : GoodIn wsL_refuses wsL_slot := goodIn_ca (goodIn_ca (goodIn_r _ [366, 14, 34, 1, 3, 367, 368, 369, 7, 370, 43, 44, 280, 371, 361, 362, 363, 24, 25, 21, 22, 23, 440, 441, 442, 443, 444, 445, 446, 447, 448, 449, 450, 451, 452, 453, 454] (by decide +kernel) (by decide +kernel)) (goodIn_sub (fun _ h => List.mem_cons_of_mem _ (List.mem_append_right _ h)) (by decide +kernel))) (goodIn_sub (fun _ h => List.mem_cons_of_mem _ (List.mem_append_left _ (List.mem_append_left _ (List.mem_append_right _ h)))) (by decide +kernel))
set_option maxRecDepth 20000 in
theorem gL_refuses_L_slot : GoodIn wsL_refuses (va_wsS RL 117 yL_slot wsL_slot) := goodIn_app (goodIn_of _ (by decide +kernel)) ggL_refuses_L_slot
set_option maxRecDepth 20000 in
theorem ggL_refuses_L_shown : GoodIn wsL_refuses wsL_shown := goodIn_ca (goodIn_ca (goodIn_r _ [374, 14, 15, 1, 2, 375, 376, 377, 7, 378, 24, 25, 29, 30, 9, 191, 236, 190, 440, 441, 442, 443, 444, 445, 446, 447, 448, 449, 450, 451, 452, 453, 454] (by decide +kernel) (by decide +kernel)) (goodIn_sub (fun _ h => List.mem_cons_of_mem _ (List.mem_append_left _ (List.mem_append_left _ (List.mem_append_right _ h)))) (by decide +kernel))) (goodIn_sub (fun _ h => List.mem_cons_of_mem _ (List.mem_append_left _ (List.mem_append_right _ h))) (by decide +kernel))
set_option maxRecDepth 20000 in
theorem gL_refuses_L_shown : GoodIn wsL_refuses (va_wsS RL 119 yL_shown wsL_shown) := goodIn_app (goodIn_of _ (by decide +kernel)) ggL_refuses_L_shown
set_option maxRecDepth 20000 in
theorem ggL_refuses_L_points : GoodIn wsL_refuses wsL_points := goodIn_ca (goodIn_r _ [381, 14, 1, 382, 383, 384, 7, 385, 9, 157, 158, 159, 160, 24, 25, 45, 46, 48, 49, 50, 51, 52, 53, 54, 55, 56, 57, 58, 59, 60, 61, 62, 63, 64, 65, 66, 67, 68, 69, 70, 21, 22, 23, 164, 165, 166, 167, 168, 169, 170, 171, 172, 173, 174, 440, 441, 442, 443, 444, 445, 446, 447, 448, 449, 450, 451, 452, 453, 454, 462, 463, 464, 465, 466, 467, 468, 469] (by decide +kernel) (by decide +kernel)) (goodIn_sub (fun _ h => List.mem_cons_of_mem _ (List.mem_append_left _ (List.mem_append_left _ (List.mem_append_right _ h)))) (by decide +kernel))
set_option maxRecDepth 20000 in
theorem gL_refuses_L_points : GoodIn wsL_refuses (va_wsS RL 121 yL_points wsL_points) := goodIn_app (goodIn_of _ (by decide +kernel)) ggL_refuses_L_points
set_option maxRecDepth 20000 in
theorem ggL_refuses_L_overlay : GoodIn wsL_refuses wsL_overlay := goodIn_ca (goodIn_r _ [388, 14, 1, 389, 390, 391, 7, 392, 223, 157, 158, 159, 160, 24, 25, 45, 46, 48, 49, 50, 51, 52, 53, 54, 55, 56, 57, 58, 59, 60, 61, 62, 63, 64, 65, 66, 67, 68, 69, 70, 21, 22, 23, 164, 165, 166, 167, 168, 169, 170, 171, 172, 173, 174, 440, 441, 442, 443, 444, 445, 446, 447, 448, 449, 450, 451, 452, 453, 454, 462, 463, 464, 465, 466, 467, 468, 469] (by decide +kernel) (by decide +kernel)) (goodIn_sub (fun _ h => List.mem_cons_of_mem _ (List.mem_append_left _ (List.mem_append_left _ (List.mem_append_right _ h)))) (by decide +kernel))
set_option maxRecDepth 20000 in
theorem gL_refuses_L_overlay : GoodIn wsL_refuses (va_wsS RL 123 yL_overlay wsL_overlay) := goodIn_app (goodIn_of _ (by decide +kernel)) ggL_refuses_L_overlay
set_option maxRecDepth 20000 in
theorem ggL_refuses_L_fightOf : GoodIn wsL_refuses wsL_fightOf := goodIn_ca (goodIn_ca (goodIn_r _ [395, 14, 15, 1, 2, 396, 397, 398, 7, 399, 29, 30, 47, 153, 154, 155, 275, 157, 158, 159, 160, 24, 25, 45, 46, 48, 49, 50, 51, 52, 53, 54, 55, 56, 57, 58, 59, 60, 61, 62, 63, 64, 65, 66, 67, 68, 69, 70, 455, 456, 457, 458, 459, 460, 461, 440, 441, 442, 443, 444, 445, 446, 447, 448, 449, 450, 451, 452, 453, 454, 462, 463, 464] (by decide +kernel) (by decide +kernel)) (goodIn_sub (fun _ h => List.mem_cons_of_mem _ (List.mem_append_left _ (List.mem_append_right _ h))) (by decide +kernel))) (goodIn_sub (fun _ h => List.mem_cons_of_mem _ (List.mem_append_left _ (List.mem_append_left _ (List.mem_append_right _ h)))) (by decide +kernel))
set_option maxRecDepth 20000 in
theorem gL_refuses_L_fightOf : GoodIn wsL_refuses (va_wsS RL 125 yL_fightOf wsL_fightOf) := goodIn_app (goodIn_of _ (by decide +kernel)) ggL_refuses_L_fightOf
set_option maxRecDepth 20000 in
theorem ggL_refuses_L_cameraOf : GoodIn wsL_refuses wsL_cameraOf := goodIn_ca (goodIn_ca (goodIn_r _ [402, 14, 15, 1, 2, 403, 404, 405, 7, 406, 24, 25, 29, 30, 201, 269, 407, 270, 48, 49, 50, 51, 52, 53, 54, 55, 56, 57, 58, 59, 60, 61, 62, 63, 64, 65, 66, 67, 68, 69, 70, 440, 441, 442, 443, 444, 445, 446, 447, 448, 449, 450, 451, 452, 453, 454, 470, 471, 472, 473, 462, 463, 464] (by decide +kernel) (by decide +kernel)) (goodIn_sub (fun _ h => List.mem_cons_of_mem _ (List.mem_append_left _ (List.mem_append_left _ (List.mem_append_right _ h)))) (by decide +kernel))) (goodIn_sub (fun _ h => List.mem_cons_of_mem _ (List.mem_append_left _ (List.mem_append_right _ h))) (by decide +kernel))
set_option maxRecDepth 20000 in
theorem gL_refuses_L_cameraOf : GoodIn wsL_refuses (va_wsS RL 127 yL_cameraOf wsL_cameraOf) := goodIn_app (goodIn_of _ (by decide +kernel)) ggL_refuses_L_cameraOf
set_option maxRecDepth 20000 in
theorem ggL_refuses_L_counted : GoodIn wsL_refuses wsL_counted := goodIn_ca (goodIn_r _ [410, 14, 1, 411, 412, 413, 7, 414, 193, 361, 362, 363, 24, 25, 440, 441, 442, 443, 444, 445, 446, 447, 448, 449, 450, 451, 452, 453, 454] (by decide +kernel) (by decide +kernel)) (goodIn_sub (fun _ h => List.mem_cons_of_mem _ (List.mem_append_left _ (List.mem_append_left _ (List.mem_append_right _ h)))) (by decide +kernel))
set_option maxRecDepth 20000 in
theorem gL_refuses_L_counted : GoodIn wsL_refuses (va_wsS RL 129 yL_counted wsL_counted) := goodIn_app (goodIn_of _ (by decide +kernel)) ggL_refuses_L_counted
set_option maxRecDepth 20000 in
theorem ggL_refuses_L_anew : GoodIn wsL_refuses wsL_anew := goodIn_ca (goodIn_r _ [417, 14, 1, 418, 419, 420, 7, 421, 9, 190, 361, 362, 363, 24, 25, 440, 441, 442, 443, 444, 445, 446, 447, 448, 449, 450, 451, 452, 453, 454] (by decide +kernel) (by decide +kernel)) (goodIn_sub (fun _ h => List.mem_cons_of_mem _ (List.mem_append_left _ (List.mem_append_left _ (List.mem_append_right _ h)))) (by decide +kernel))
set_option maxRecDepth 20000 in
theorem gL_refuses_L_anew : GoodIn wsL_refuses (va_wsS RL 131 yL_anew wsL_anew) := goodIn_app (goodIn_of _ (by decide +kernel)) ggL_refuses_L_anew
set_option maxRecDepth 20000 in
theorem ggL_refuses_L_owed : GoodIn wsL_refuses wsL_owed := goodIn_ca (goodIn_r _ [424, 14, 1, 425, 426, 427, 7, 428, 361, 362, 363, 24, 25, 281, 282, 283, 284, 285, 193, 224, 113, 114, 115, 440, 441, 442, 443, 444, 445, 446, 447, 448, 449, 450, 451, 452, 453, 454] (by decide +kernel) (by decide +kernel)) (goodIn_sub (fun _ h => List.mem_cons_of_mem _ (List.mem_append_left _ (List.mem_append_left _ (List.mem_append_right _ h)))) (by decide +kernel))
set_option maxRecDepth 20000 in
theorem gL_refuses_L_owed : GoodIn wsL_refuses (va_wsS RL 134 yL_owed wsL_owed) := goodIn_app (goodIn_of _ (by decide +kernel)) ggL_refuses_L_owed
set_option maxRecDepth 20000 in
theorem ggL_refuses_L_leader : GoodIn wsL_refuses wsL_leader := goodIn_ca (goodIn_r _ [431, 14, 1, 432, 433, 434, 7, 435, 24, 25, 436, 437, 438, 439, 156, 440, 441, 442, 443, 444, 445, 446, 447, 448, 449, 450, 451, 452, 453, 454] (by decide +kernel) (by decide +kernel)) (goodIn_sub (fun _ h => List.mem_cons_of_mem _ (List.mem_append_left _ (List.mem_append_left _ (List.mem_append_right _ h)))) (by decide +kernel))
set_option maxRecDepth 20000 in
theorem gL_refuses_L_leader : GoodIn wsL_refuses (va_wsS RL 136 yL_leader wsL_leader) := goodIn_app (goodIn_of _ (by decide +kernel)) ggL_refuses_L_leader
theorem dL_refuses_0 : decode cL_refuses 0 = .ok (.iload_n 2, 1) := by decide +kernel
theorem dL_refuses_1 : decode cL_refuses 1 = .ok (.iconst 2, 1) := by decide +kernel
theorem dL_refuses_2 : decode cL_refuses 2 = .ok (.irem, 1) := by decide +kernel
theorem dL_refuses_3 : decode cL_refuses 3 = .ok (.ifCond .ne 7, 3) := by decide +kernel
theorem dL_refuses_6 : decode cL_refuses 6 = .ok (.iconst 1, 1) := by decide +kernel
theorem dL_refuses_7 : decode cL_refuses 7 = .ok (.goto 4, 3) := by decide +kernel
theorem dL_refuses_10 : decode cL_refuses 10 = .ok (.iconst 0, 1) := by decide +kernel
theorem dL_refuses_11 : decode cL_refuses 11 = .ok (.istore_n 3, 1) := by decide +kernel
theorem dL_refuses_12 : decode cL_refuses 12 = .ok (.iload_n 3, 1) := by decide +kernel
theorem dL_refuses_13 : decode cL_refuses 13 = .ok (.ifCond .eq 9, 3) := by decide +kernel
theorem dL_refuses_16 : decode cL_refuses 16 = .ok (.iconst (-1), 1) := by decide +kernel
theorem dL_refuses_17 : decode cL_refuses 17 = .ok (.iload_n 2, 1) := by decide +kernel
theorem dL_refuses_18 : decode cL_refuses 18 = .ok (.isub, 1) := by decide +kernel
theorem dL_refuses_19 : decode cL_refuses 19 = .ok (.goto 7, 3) := by decide +kernel
theorem dL_refuses_22 : decode cL_refuses 22 = .ok (.bipush 10, 2) := by decide +kernel
theorem dL_refuses_24 : decode cL_refuses 24 = .ok (.iload_n 2, 1) := by decide +kernel
theorem dL_refuses_25 : decode cL_refuses 25 = .ok (.iadd, 1) := by decide +kernel
theorem dL_refuses_26 : decode cL_refuses 26 = .ok (.istore 4, 2) := by decide +kernel
theorem dL_refuses_28 : decode cL_refuses 28 = .ok (.iload_n 3, 1) := by decide +kernel
theorem dL_refuses_29 : decode cL_refuses 29 = .ok (.ifCond .eq 9, 3) := by decide +kernel
theorem dL_refuses_32 : decode cL_refuses 32 = .ok (.iconst (-1), 1) := by decide +kernel
theorem dL_refuses_33 : decode cL_refuses 33 = .ok (.iload_n 2, 1) := by decide +kernel
theorem dL_refuses_34 : decode cL_refuses 34 = .ok (.isub, 1) := by decide +kernel
theorem dL_refuses_35 : decode cL_refuses 35 = .ok (.goto 8, 3) := by decide +kernel
theorem dL_refuses_38 : decode cL_refuses 38 = .ok (.aload_n 1, 1) := by decide +kernel
theorem dL_refuses_39 : decode cL_refuses 39 = .ok (.iconst 0, 1) := by decide +kernel
theorem dL_refuses_40 : decode cL_refuses 40 = .ok (.iaload, 1) := by decide +kernel
theorem dL_refuses_41 : decode cL_refuses 41 = .ok (.iload_n 2, 1) := by decide +kernel
theorem dL_refuses_42 : decode cL_refuses 42 = .ok (.iadd, 1) := by decide +kernel
theorem dL_refuses_43 : decode cL_refuses 43 = .ok (.istore 5, 2) := by decide +kernel
theorem dL_refuses_45 : decode cL_refuses 45 = .ok (.iload_n 3, 1) := by decide +kernel
theorem dL_refuses_46 : decode cL_refuses 46 = .ok (.ifCond .eq 9, 3) := by decide +kernel
theorem dL_refuses_49 : decode cL_refuses 49 = .ok (.iconst (-1), 1) := by decide +kernel
theorem dL_refuses_50 : decode cL_refuses 50 = .ok (.iload_n 2, 1) := by decide +kernel
theorem dL_refuses_51 : decode cL_refuses 51 = .ok (.isub, 1) := by decide +kernel
theorem dL_refuses_52 : decode cL_refuses 52 = .ok (.goto 8, 3) := by decide +kernel
theorem dL_refuses_55 : decode cL_refuses 55 = .ok (.aload_n 1, 1) := by decide +kernel
theorem dL_refuses_56 : decode cL_refuses 56 = .ok (.iconst 1, 1) := by decide +kernel
theorem dL_refuses_57 : decode cL_refuses 57 = .ok (.iaload, 1) := by decide +kernel
theorem dL_refuses_58 : decode cL_refuses 58 = .ok (.iload_n 2, 1) := by decide +kernel
theorem dL_refuses_59 : decode cL_refuses 59 = .ok (.iadd, 1) := by decide +kernel
theorem dL_refuses_60 : decode cL_refuses 60 = .ok (.istore 6, 2) := by decide +kernel
theorem dL_refuses_62 : decode cL_refuses 62 = .ok (.iload_n 3, 1) := by decide +kernel
theorem dL_refuses_63 : decode cL_refuses 63 = .ok (.ifCond .eq 9, 3) := by decide +kernel
theorem dL_refuses_66 : decode cL_refuses 66 = .ok (.iconst (-1), 1) := by decide +kernel
theorem dL_refuses_67 : decode cL_refuses 67 = .ok (.iload_n 2, 1) := by decide +kernel
theorem dL_refuses_68 : decode cL_refuses 68 = .ok (.isub, 1) := by decide +kernel
theorem dL_refuses_69 : decode cL_refuses 69 = .ok (.goto 8, 3) := by decide +kernel
theorem dL_refuses_72 : decode cL_refuses 72 = .ok (.aload_n 1, 1) := by decide +kernel
theorem dL_refuses_73 : decode cL_refuses 73 = .ok (.iconst 2, 1) := by decide +kernel
theorem dL_refuses_74 : decode cL_refuses 74 = .ok (.iaload, 1) := by decide +kernel
theorem dL_refuses_75 : decode cL_refuses 75 = .ok (.iload_n 2, 1) := by decide +kernel
theorem dL_refuses_76 : decode cL_refuses 76 = .ok (.iadd, 1) := by decide +kernel
theorem dL_refuses_77 : decode cL_refuses 77 = .ok (.istore 7, 2) := by decide +kernel
theorem dL_refuses_79 : decode cL_refuses 79 = .ok (.iload_n 3, 1) := by decide +kernel
theorem dL_refuses_80 : decode cL_refuses 80 = .ok (.ifCond .eq 9, 3) := by decide +kernel
theorem dL_refuses_83 : decode cL_refuses 83 = .ok (.iconst (-1), 1) := by decide +kernel
theorem dL_refuses_84 : decode cL_refuses 84 = .ok (.iload_n 2, 1) := by decide +kernel
theorem dL_refuses_85 : decode cL_refuses 85 = .ok (.isub, 1) := by decide +kernel
theorem dL_refuses_86 : decode cL_refuses 86 = .ok (.goto 7, 3) := by decide +kernel
theorem dL_refuses_89 : decode cL_refuses 89 = .ok (.bipush 6, 2) := by decide +kernel
theorem dL_refuses_91 : decode cL_refuses 91 = .ok (.iload_n 2, 1) := by decide +kernel
theorem dL_refuses_92 : decode cL_refuses 92 = .ok (.iadd, 1) := by decide +kernel
theorem dL_refuses_93 : decode cL_refuses 93 = .ok (.istore 8, 2) := by decide +kernel
theorem dL_refuses_95 : decode cL_refuses 95 = .ok (.iload_n 3, 1) := by decide +kernel
theorem dL_refuses_96 : decode cL_refuses 96 = .ok (.ifCond .eq 9, 3) := by decide +kernel
theorem dL_refuses_99 : decode cL_refuses 99 = .ok (.iconst (-1), 1) := by decide +kernel
theorem dL_refuses_100 : decode cL_refuses 100 = .ok (.iload_n 2, 1) := by decide +kernel
theorem dL_refuses_101 : decode cL_refuses 101 = .ok (.isub, 1) := by decide +kernel
theorem dL_refuses_102 : decode cL_refuses 102 = .ok (.goto 9, 3) := by decide +kernel
theorem dL_refuses_105 : decode cL_refuses 105 = .ok (.aload_n 0, 1) := by decide +kernel
theorem dL_refuses_106 : decode cL_refuses 106 = .ok (.invokevirtual 86, 3) := by decide +kernel
theorem dL_refuses_109 : decode cL_refuses 109 = .ok (.iload_n 2, 1) := by decide +kernel
theorem dL_refuses_110 : decode cL_refuses 110 = .ok (.iadd, 1) := by decide +kernel
theorem dL_refuses_111 : decode cL_refuses 111 = .ok (.istore 9, 2) := by decide +kernel
theorem dL_refuses_113 : decode cL_refuses 113 = .ok (.aload_n 0, 1) := by decide +kernel
theorem dL_refuses_114 : decode cL_refuses 114 = .ok (.iload 4, 2) := by decide +kernel
theorem dL_refuses_116 : decode cL_refuses 116 = .ok (.iconst 0, 1) := by decide +kernel
theorem dL_refuses_117 : decode cL_refuses 117 = .ok (.invokestatic 90, 3) := by decide +kernel
theorem dL_refuses_120 : decode cL_refuses 120 = .ok (.ldc 15, 2) := by decide +kernel
theorem dL_refuses_122 : decode cL_refuses 122 = .ok (.if_icmp .ne 465, 3) := by decide +kernel
theorem dL_refuses_125 : decode cL_refuses 125 = .ok (.aload_n 0, 1) := by decide +kernel
theorem dL_refuses_126 : decode cL_refuses 126 = .ok (.iload_n 2, 1) := by decide +kernel
theorem dL_refuses_127 : decode cL_refuses 127 = .ok (.bipush 10, 2) := by decide +kernel
theorem dL_refuses_129 : decode cL_refuses 129 = .ok (.irem, 1) := by decide +kernel
theorem dL_refuses_130 : decode cL_refuses 130 = .ok (.iload_n 3, 1) := by decide +kernel
theorem dL_refuses_131 : decode cL_refuses 131 = .ok (.ifCond .eq 9, 3) := by decide +kernel
theorem dL_refuses_134 : decode cL_refuses 134 = .ok (.iconst (-1), 1) := by decide +kernel
theorem dL_refuses_135 : decode cL_refuses 135 = .ok (.iload_n 2, 1) := by decide +kernel
theorem dL_refuses_136 : decode cL_refuses 136 = .ok (.isub, 1) := by decide +kernel
theorem dL_refuses_137 : decode cL_refuses 137 = .ok (.goto 7, 3) := by decide +kernel
theorem dL_refuses_140 : decode cL_refuses 140 = .ok (.bipush 100, 2) := by decide +kernel
theorem dL_refuses_142 : decode cL_refuses 142 = .ok (.iload_n 2, 1) := by decide +kernel
theorem dL_refuses_143 : decode cL_refuses 143 = .ok (.iadd, 1) := by decide +kernel
theorem dL_refuses_144 : decode cL_refuses 144 = .ok (.invokestatic 90, 3) := by decide +kernel
theorem dL_refuses_147 : decode cL_refuses 147 = .ok (.ldc 18, 2) := by decide +kernel
theorem dL_refuses_149 : decode cL_refuses 149 = .ok (.if_icmp .ne 438, 3) := by decide +kernel
theorem dL_refuses_152 : decode cL_refuses 152 = .ok (.aload_n 0, 1) := by decide +kernel
theorem dL_refuses_153 : decode cL_refuses 153 = .ok (.iload 4, 2) := by decide +kernel
theorem dL_refuses_155 : decode cL_refuses 155 = .ok (.iconst 0, 1) := by decide +kernel
theorem dL_refuses_156 : decode cL_refuses 156 = .ok (.invokestatic 95, 3) := by decide +kernel
theorem dL_refuses_159 : decode cL_refuses 159 = .ok (.ldc 15, 2) := by decide +kernel
theorem dL_refuses_161 : decode cL_refuses 161 = .ok (.if_icmp .ne 426, 3) := by decide +kernel
theorem dL_refuses_164 : decode cL_refuses 164 = .ok (.aload_n 0, 1) := by decide +kernel
theorem dL_refuses_165 : decode cL_refuses 165 = .ok (.iconst 0, 1) := by decide +kernel
theorem dL_refuses_166 : decode cL_refuses 166 = .ok (.iload 4, 2) := by decide +kernel
theorem dL_refuses_168 : decode cL_refuses 168 = .ok (.invokestatic 95, 3) := by decide +kernel
theorem dL_refuses_171 : decode cL_refuses 171 = .ok (.ldc 15, 2) := by decide +kernel
theorem dL_refuses_173 : decode cL_refuses 173 = .ok (.if_icmp .ne 414, 3) := by decide +kernel
theorem dL_refuses_176 : decode cL_refuses 176 = .ok (.aload_n 0, 1) := by decide +kernel
theorem dL_refuses_177 : decode cL_refuses 177 = .ok (.iload_n 2, 1) := by decide +kernel
theorem dL_refuses_178 : decode cL_refuses 178 = .ok (.bipush 10, 2) := by decide +kernel
theorem dL_refuses_180 : decode cL_refuses 180 = .ok (.irem, 1) := by decide +kernel
theorem dL_refuses_181 : decode cL_refuses 181 = .ok (.iload_n 2, 1) := by decide +kernel
theorem dL_refuses_182 : decode cL_refuses 182 = .ok (.bipush 10, 2) := by decide +kernel
theorem dL_refuses_184 : decode cL_refuses 184 = .ok (.irem, 1) := by decide +kernel
theorem dL_refuses_185 : decode cL_refuses 185 = .ok (.invokestatic 95, 3) := by decide +kernel
theorem dL_refuses_188 : decode cL_refuses 188 = .ok (.ldc 18, 2) := by decide +kernel
theorem dL_refuses_190 : decode cL_refuses 190 = .ok (.if_icmp .ne 397, 3) := by decide +kernel
theorem dL_refuses_193 : decode cL_refuses 193 = .ok (.aload_n 0, 1) := by decide +kernel
theorem dL_refuses_194 : decode cL_refuses 194 = .ok (.iload 5, 2) := by decide +kernel
theorem dL_refuses_196 : decode cL_refuses 196 = .ok (.invokestatic 97, 3) := by decide +kernel
theorem dL_refuses_199 : decode cL_refuses 199 = .ok (.ldc 15, 2) := by decide +kernel
theorem dL_refuses_201 : decode cL_refuses 201 = .ok (.if_icmp .ne 386, 3) := by decide +kernel
theorem dL_refuses_204 : decode cL_refuses 204 = .ok (.aload_n 0, 1) := by decide +kernel
theorem dL_refuses_205 : decode cL_refuses 205 = .ok (.iload 5, 2) := by decide +kernel
theorem dL_refuses_207 : decode cL_refuses 207 = .ok (.invokestatic 100, 3) := by decide +kernel
theorem dL_refuses_210 : decode cL_refuses 210 = .ok (.ldc 15, 2) := by decide +kernel
theorem dL_refuses_212 : decode cL_refuses 212 = .ok (.if_icmp .ne 375, 3) := by decide +kernel
theorem dL_refuses_215 : decode cL_refuses 215 = .ok (.aload_n 0, 1) := by decide +kernel
theorem dL_refuses_216 : decode cL_refuses 216 = .ok (.iload_n 3, 1) := by decide +kernel
theorem dL_refuses_217 : decode cL_refuses 217 = .ok (.ifCond .eq 8, 3) := by decide +kernel
theorem dL_refuses_220 : decode cL_refuses 220 = .ok (.iload_n 2, 1) := by decide +kernel
theorem dL_refuses_221 : decode cL_refuses 221 = .ok (.ineg, 1) := by decide +kernel
theorem dL_refuses_222 : decode cL_refuses 222 = .ok (.goto 7, 3) := by decide +kernel
theorem dL_refuses_225 : decode cL_refuses 225 = .ok (.bipush 61, 2) := by decide +kernel
theorem dL_refuses_227 : decode cL_refuses 227 = .ok (.iload_n 2, 1) := by decide +kernel
theorem dL_refuses_228 : decode cL_refuses 228 = .ok (.iadd, 1) := by decide +kernel
theorem dL_refuses_229 : decode cL_refuses 229 = .ok (.iconst 0, 1) := by decide +kernel
theorem dL_refuses_230 : decode cL_refuses 230 = .ok (.invokestatic 102, 3) := by decide +kernel
theorem dL_refuses_233 : decode cL_refuses 233 = .ok (.ldc 18, 2) := by decide +kernel
theorem dL_refuses_235 : decode cL_refuses 235 = .ok (.if_icmp .ne 352, 3) := by decide +kernel
theorem dL_refuses_238 : decode cL_refuses 238 = .ok (.aload_n 0, 1) := by decide +kernel
theorem dL_refuses_239 : decode cL_refuses 239 = .ok (.iconst 1, 1) := by decide +kernel
theorem dL_refuses_240 : decode cL_refuses 240 = .ok (.iload_n 3, 1) := by decide +kernel
theorem dL_refuses_241 : decode cL_refuses 241 = .ok (.ifCond .eq 9, 3) := by decide +kernel
theorem dL_refuses_244 : decode cL_refuses 244 = .ok (.iconst (-1), 1) := by decide +kernel
theorem dL_refuses_245 : decode cL_refuses 245 = .ok (.iload_n 2, 1) := by decide +kernel
theorem dL_refuses_246 : decode cL_refuses 246 = .ok (.isub, 1) := by decide +kernel
theorem dL_refuses_247 : decode cL_refuses 247 = .ok (.goto 7, 3) := by decide +kernel
theorem dL_refuses_250 : decode cL_refuses 250 = .ok (.bipush 61, 2) := by decide +kernel
theorem dL_refuses_252 : decode cL_refuses 252 = .ok (.iload_n 2, 1) := by decide +kernel
theorem dL_refuses_253 : decode cL_refuses 253 = .ok (.iadd, 1) := by decide +kernel
theorem dL_refuses_254 : decode cL_refuses 254 = .ok (.invokestatic 102, 3) := by decide +kernel
theorem dL_refuses_257 : decode cL_refuses 257 = .ok (.ldc 18, 2) := by decide +kernel
theorem dL_refuses_259 : decode cL_refuses 259 = .ok (.if_icmp .ne 328, 3) := by decide +kernel
theorem dL_refuses_262 : decode cL_refuses 262 = .ok (.aload_n 0, 1) := by decide +kernel
theorem dL_refuses_263 : decode cL_refuses 263 = .ok (.iload_n 3, 1) := by decide +kernel
theorem dL_refuses_264 : decode cL_refuses 264 = .ok (.ifCond .eq 9, 3) := by decide +kernel
theorem dL_refuses_267 : decode cL_refuses 267 = .ok (.iconst (-1), 1) := by decide +kernel
theorem dL_refuses_268 : decode cL_refuses 268 = .ok (.iload_n 2, 1) := by decide +kernel
theorem dL_refuses_269 : decode cL_refuses 269 = .ok (.isub, 1) := by decide +kernel
theorem dL_refuses_270 : decode cL_refuses 270 = .ok (.goto 7, 3) := by decide +kernel
theorem dL_refuses_273 : decode cL_refuses 273 = .ok (.bipush 101, 2) := by decide +kernel
theorem dL_refuses_275 : decode cL_refuses 275 = .ok (.iload_n 2, 1) := by decide +kernel
theorem dL_refuses_276 : decode cL_refuses 276 = .ok (.iadd, 1) := by decide +kernel
theorem dL_refuses_277 : decode cL_refuses 277 = .ok (.invokestatic 104, 3) := by decide +kernel
theorem dL_refuses_280 : decode cL_refuses 280 = .ok (.ldc 18, 2) := by decide +kernel
theorem dL_refuses_282 : decode cL_refuses 282 = .ok (.if_icmp .ne 305, 3) := by decide +kernel
theorem dL_refuses_285 : decode cL_refuses 285 = .ok (.aload_n 0, 1) := by decide +kernel
theorem dL_refuses_286 : decode cL_refuses 286 = .ok (.iload_n 3, 1) := by decide +kernel
theorem dL_refuses_287 : decode cL_refuses 287 = .ok (.ifCond .eq 8, 3) := by decide +kernel
theorem dL_refuses_290 : decode cL_refuses 290 = .ok (.iload_n 2, 1) := by decide +kernel
theorem dL_refuses_291 : decode cL_refuses 291 = .ok (.ineg, 1) := by decide +kernel
theorem dL_refuses_292 : decode cL_refuses 292 = .ok (.goto 8, 3) := by decide +kernel
theorem dL_refuses_295 : decode cL_refuses 295 = .ok (.sipush 201, 3) := by decide +kernel
theorem dL_refuses_298 : decode cL_refuses 298 = .ok (.iload_n 2, 1) := by decide +kernel
theorem dL_refuses_299 : decode cL_refuses 299 = .ok (.iadd, 1) := by decide +kernel
theorem dL_refuses_300 : decode cL_refuses 300 = .ok (.invokestatic 106, 3) := by decide +kernel
theorem dL_refuses_303 : decode cL_refuses 303 = .ok (.ldc 18, 2) := by decide +kernel
theorem dL_refuses_305 : decode cL_refuses 305 = .ok (.if_icmp .ne 282, 3) := by decide +kernel
theorem dL_refuses_308 : decode cL_refuses 308 = .ok (.aload_n 0, 1) := by decide +kernel
theorem dL_refuses_309 : decode cL_refuses 309 = .ok (.iload 5, 2) := by decide +kernel
theorem dL_refuses_311 : decode cL_refuses 311 = .ok (.iconst 0, 1) := by decide +kernel
theorem dL_refuses_312 : decode cL_refuses 312 = .ok (.iconst 1, 1) := by decide +kernel
theorem dL_refuses_313 : decode cL_refuses 313 = .ok (.invokestatic 108, 3) := by decide +kernel
theorem dL_refuses_316 : decode cL_refuses 316 = .ok (.ldc 15, 2) := by decide +kernel
theorem dL_refuses_318 : decode cL_refuses 318 = .ok (.if_icmp .ne 269, 3) := by decide +kernel
theorem dL_refuses_321 : decode cL_refuses 321 = .ok (.aload_n 0, 1) := by decide +kernel
theorem dL_refuses_322 : decode cL_refuses 322 = .ok (.iload 7, 2) := by decide +kernel
theorem dL_refuses_324 : decode cL_refuses 324 = .ok (.invokestatic 111, 3) := by decide +kernel
theorem dL_refuses_327 : decode cL_refuses 327 = .ok (.ldc 15, 2) := by decide +kernel
theorem dL_refuses_329 : decode cL_refuses 329 = .ok (.if_icmp .ne 258, 3) := by decide +kernel
theorem dL_refuses_332 : decode cL_refuses 332 = .ok (.aload_n 0, 1) := by decide +kernel
theorem dL_refuses_333 : decode cL_refuses 333 = .ok (.iload 7, 2) := by decide +kernel
theorem dL_refuses_335 : decode cL_refuses 335 = .ok (.iconst 1, 1) := by decide +kernel
theorem dL_refuses_336 : decode cL_refuses 336 = .ok (.invokestatic 113, 3) := by decide +kernel
theorem dL_refuses_339 : decode cL_refuses 339 = .ok (.ldc 15, 2) := by decide +kernel
theorem dL_refuses_341 : decode cL_refuses 341 = .ok (.if_icmp .ne 246, 3) := by decide +kernel
theorem dL_refuses_344 : decode cL_refuses 344 = .ok (.aload_n 0, 1) := by decide +kernel
theorem dL_refuses_345 : decode cL_refuses 345 = .ok (.iload 8, 2) := by decide +kernel
theorem dL_refuses_347 : decode cL_refuses 347 = .ok (.iconst 0, 1) := by decide +kernel
theorem dL_refuses_348 : decode cL_refuses 348 = .ok (.invokestatic 115, 3) := by decide +kernel
theorem dL_refuses_351 : decode cL_refuses 351 = .ok (.ldc 15, 2) := by decide +kernel
theorem dL_refuses_353 : decode cL_refuses 353 = .ok (.if_icmp .ne 234, 3) := by decide +kernel
theorem dL_refuses_356 : decode cL_refuses 356 = .ok (.aload_n 0, 1) := by decide +kernel
theorem dL_refuses_357 : decode cL_refuses 357 = .ok (.iload_n 2, 1) := by decide +kernel
theorem dL_refuses_358 : decode cL_refuses 358 = .ok (.bipush 6, 2) := by decide +kernel
theorem dL_refuses_360 : decode cL_refuses 360 = .ok (.irem, 1) := by decide +kernel
theorem dL_refuses_361 : decode cL_refuses 361 = .ok (.iload_n 3, 1) := by decide +kernel
theorem dL_refuses_362 : decode cL_refuses 362 = .ok (.ifCond .eq 9, 3) := by decide +kernel
theorem dL_refuses_365 : decode cL_refuses 365 = .ok (.iconst (-1), 1) := by decide +kernel
theorem dL_refuses_366 : decode cL_refuses 366 = .ok (.iload_n 2, 1) := by decide +kernel
theorem dL_refuses_367 : decode cL_refuses 367 = .ok (.isub, 1) := by decide +kernel
theorem dL_refuses_368 : decode cL_refuses 368 = .ok (.goto 8, 3) := by decide +kernel
theorem dL_refuses_371 : decode cL_refuses 371 = .ok (.sipush 1001, 3) := by decide +kernel
theorem dL_refuses_374 : decode cL_refuses 374 = .ok (.iload_n 2, 1) := by decide +kernel
theorem dL_refuses_375 : decode cL_refuses 375 = .ok (.iadd, 1) := by decide +kernel
theorem dL_refuses_376 : decode cL_refuses 376 = .ok (.invokestatic 115, 3) := by decide +kernel
theorem dL_refuses_379 : decode cL_refuses 379 = .ok (.ldc 18, 2) := by decide +kernel
theorem dL_refuses_381 : decode cL_refuses 381 = .ok (.if_icmp .ne 206, 3) := by decide +kernel
theorem dL_refuses_384 : decode cL_refuses 384 = .ok (.aload_n 0, 1) := by decide +kernel
theorem dL_refuses_385 : decode cL_refuses 385 = .ok (.iload 8, 2) := by decide +kernel
theorem dL_refuses_387 : decode cL_refuses 387 = .ok (.iconst 0, 1) := by decide +kernel
theorem dL_refuses_388 : decode cL_refuses 388 = .ok (.invokestatic 117, 3) := by decide +kernel
theorem dL_refuses_391 : decode cL_refuses 391 = .ok (.ldc 15, 2) := by decide +kernel
theorem dL_refuses_393 : decode cL_refuses 393 = .ok (.if_icmp .ne 194, 3) := by decide +kernel
theorem dL_refuses_396 : decode cL_refuses 396 = .ok (.aload_n 0, 1) := by decide +kernel
theorem dL_refuses_397 : decode cL_refuses 397 = .ok (.iload_n 2, 1) := by decide +kernel
theorem dL_refuses_398 : decode cL_refuses 398 = .ok (.bipush 6, 2) := by decide +kernel
theorem dL_refuses_400 : decode cL_refuses 400 = .ok (.irem, 1) := by decide +kernel
theorem dL_refuses_401 : decode cL_refuses 401 = .ok (.iload 4, 2) := by decide +kernel
theorem dL_refuses_403 : decode cL_refuses 403 = .ok (.invokestatic 117, 3) := by decide +kernel
theorem dL_refuses_406 : decode cL_refuses 406 = .ok (.ldc 15, 2) := by decide +kernel
theorem dL_refuses_408 : decode cL_refuses 408 = .ok (.if_icmp .ne 179, 3) := by decide +kernel
theorem dL_refuses_411 : decode cL_refuses 411 = .ok (.aload_n 0, 1) := by decide +kernel
