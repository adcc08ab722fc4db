/-! the widest call rows of the law, by pieces -/
theorem goodIn_c1 {big l : List Cond} {c : Cond} (hc : GoodIn big [c]) (h : GoodIn big l) : GoodIn big (c :: l) := fun w q => (List.mem_cons.mp q).elim (fun e => hc w (by rw [e]; exact List.mem_cons_self)) (h w)
theorem gm_refuses : Cond.code yL_refuses cL_refuses 14 (some .boolean) ∈ wsL_law := List.mem_append_left _ (List.mem_append_left _ (List.mem_append_left _ (List.mem_append_left _ (List.mem_append_left _ (List.mem_append_left _ (List.mem_append_left _ (List.mem_append_left _ (List.mem_append_left _ (List.mem_append_right _ (List.mem_append_right _ (List.mem_append_right _ (List.mem_append_right _ (List.mem_append_right _ (List.mem_append_right _ (List.mem_append_right _ (List.mem_append_right _ (List.mem_append_right _ (List.mem_append_right _ (List.mem_append_right _ (List.mem_append_right _ (List.mem_append_right _ (List.mem_append_right _ (List.mem_append_right _ (List.mem_append_right _ (List.mem_append_left _ (List.mem_of_getElem? (i := 16) rfl))))))))))))))))))))))))))
theorem gw_refuses_c : GoodIn wsL_law [Cond.code yL_refuses cL_refuses 14 (some .boolean)] := goodIn_sub (fun w h => by rw [List.mem_singleton.mp h]; exact gm_refuses) (by decide +kernel)
set_option maxRecDepth 20000 in
theorem gw_refuses_r1 : GoodIn wsL_law wsL_refuses_r1 := goodIn_r _ [57, 58, 59, 401, 402, 403, 2, 404, 179, 247, 248, 44, 249, 54, 55, 250, 251, 252, 253, 11, 66, 67, 68, 69] (by decide +kernel) (by decide +kernel)
set_option maxRecDepth 20000 in
theorem gw_refuses_r2 : GoodIn wsL_law wsL_refuses_r2 := goodIn_r _ [70, 226, 227, 228, 64, 65, 51, 52, 53, 56, 60, 61, 62, 63, 71, 72, 73, 74, 75, 76, 16, 77, 78, 79] (by decide +kernel) (by decide +kernel)
set_option maxRecDepth 20000 in
theorem gw_refuses_r3 : GoodIn wsL_law wsL_refuses_r3 := goodIn_r _ [80, 81, 15, 82, 83, 84, 85, 86, 87, 88, 89, 90, 91, 92, 93, 94, 95, 96, 97, 98, 99, 31, 100, 101] (by decide +kernel) (by decide +kernel)
set_option maxRecDepth 20000 in
theorem gw_refuses_r4 : GoodIn wsL_law wsL_refuses_r4 := goodIn_r _ [102, 103, 104, 105, 106, 107, 108, 109, 110, 111, 112, 113, 114, 115, 116, 9, 10, 117, 118, 119, 120, 121, 122, 123] (by decide +kernel) (by decide +kernel)
set_option maxRecDepth 20000 in
theorem gw_refuses_r5 : GoodIn wsL_law wsL_refuses_r5 := goodIn_r _ [124, 125, 126, 127, 128, 129, 130, 131, 132, 133, 134, 135, 136, 137, 30, 138, 139, 140, 141, 142, 143, 144, 145, 146] (by decide +kernel) (by decide +kernel)
set_option maxRecDepth 20000 in
theorem gw_refuses_r6 : GoodIn wsL_law wsL_refuses_r6 := goodIn_r _ [147, 148, 149, 150, 151, 152, 153, 154, 155, 156, 157, 158, 159, 160, 161, 162, 163, 164, 165, 166, 167, 168, 169, 170] (by decide +kernel) (by decide +kernel)
set_option maxRecDepth 20000 in
theorem gw_refuses_r7 : GoodIn wsL_law wsL_refuses_r7 := goodIn_r _ [171, 172, 173, 174, 175, 176, 177, 178, 180, 181, 182, 12, 183, 184, 185, 186, 187, 188, 189, 190, 191, 192, 193, 18] (by decide +kernel) (by decide +kernel)
set_option maxRecDepth 20000 in
theorem gw_refuses_r8 : GoodIn wsL_law wsL_refuses_r8 := goodIn_r _ [194, 195, 196, 197, 198, 199, 200, 201, 202, 203, 204, 205, 206, 207, 208, 209, 210, 211, 212, 213, 214, 26, 24, 215] (by decide +kernel) (by decide +kernel)
set_option maxRecDepth 20000 in
theorem gw_refuses_r9 : GoodIn wsL_law wsL_refuses_r9 := goodIn_r _ [20, 216, 217, 218, 219, 220, 221, 222, 17, 223, 224, 225, 229, 230, 231, 232, 233, 234, 235, 236, 237, 238, 239, 240] (by decide +kernel) (by decide +kernel)
set_option maxRecDepth 20000 in
theorem gw_refuses_r10 : GoodIn wsL_law wsL_refuses_r10 := goodIn_r _ [241, 22, 242, 243, 244, 245, 23, 246, 322, 323, 324, 325, 326, 327, 328, 329, 330, 331, 332, 25, 333, 334, 335, 336] (by decide +kernel) (by decide +kernel)
set_option maxRecDepth 20000 in
theorem gw_refuses_r11 : GoodIn wsL_law wsL_refuses_r11 := goodIn_r _ [337, 338, 339, 340, 341, 342, 343, 344, 345, 346, 347, 348, 286, 349, 350, 351, 352, 353, 354, 355, 356, 357, 358, 359] (by decide +kernel) (by decide +kernel)
set_option maxRecDepth 20000 in
theorem gw_refuses_r12 : GoodIn wsL_law wsL_refuses_r12 := goodIn_r _ [360, 361, 362, 363, 364, 365, 366, 367, 368, 369, 370, 371, 372, 373, 374, 21, 375, 376, 377, 378, 19, 379, 380, 381] (by decide +kernel) (by decide +kernel)
set_option maxRecDepth 20000 in
theorem gw_refuses_r13 : GoodIn wsL_law wsL_refuses_r13 := goodIn_r _ [382, 383, 384, 385, 386, 387, 388, 389, 390, 391, 392, 393, 394, 395, 396, 397, 272, 273, 274, 275, 276, 277, 278, 279] (by decide +kernel) (by decide +kernel)
set_option maxRecDepth 20000 in
theorem gw_refuses_r14 : GoodIn wsL_law wsL_refuses_r14 := goodIn_r _ [280, 281, 282, 283, 284, 285, 287, 288, 289, 290, 291, 292, 293, 294, 295, 296, 297, 298, 299, 300, 301, 302, 303, 304] (by decide +kernel) (by decide +kernel)
set_option maxRecDepth 20000 in
theorem gw_refuses_r15 : GoodIn wsL_law wsL_refuses_r15 := goodIn_r _ [305, 306, 307, 308, 309, 310, 311, 312, 313, 314, 315, 316, 317, 318, 319, 320, 321, 254, 255, 256, 257, 258, 259, 260] (by decide +kernel) (by decide +kernel)
set_option maxRecDepth 20000 in
theorem gw_refuses_r16 : GoodIn wsL_law wsL_refuses_r16 := goodIn_r _ [261, 262, 263, 264, 265, 266, 267, 268, 269, 270, 271, 405, 406, 407, 408, 409, 410, 411, 412, 413, 414, 415, 416, 417] (by decide +kernel) (by decide +kernel)
set_option maxRecDepth 20000 in
theorem gw_refuses_r17 : GoodIn wsL_law wsL_refuses_r17 := goodIn_r _ [418, 419, 420, 421, 422, 423, 424, 425, 426, 427, 428, 429, 430, 431, 432, 433, 434, 435, 436, 437, 438, 439, 440, 441] (by decide +kernel) (by decide +kernel)
set_option maxRecDepth 20000 in
theorem gw_refuses_r18 : GoodIn wsL_law wsL_refuses_r18 := goodIn_r _ [442, 443, 444, 445, 446, 447, 448, 449, 450, 451, 452, 453, 454, 455, 456, 457, 458, 459, 460, 461, 462, 463, 464, 465] (by decide +kernel) (by decide +kernel)
set_option maxRecDepth 20000 in
theorem gw_refuses_r19 : GoodIn wsL_law wsL_refuses_r19 := goodIn_r _ [466, 467, 468, 469, 470, 471, 472] (by decide +kernel) (by decide +kernel)
theorem gm_isWhole : Cond.code yL_isWhole cL_isWhole 11 (some .boolean) ∈ wsL_law := List.mem_append_left _ (List.mem_append_left _ (List.mem_append_left _ (List.mem_append_left _ (List.mem_append_left _ (List.mem_append_left _ (List.mem_append_left _ (List.mem_append_left _ (List.mem_append_left _ (List.mem_append_right _ (List.mem_append_right _ (List.mem_append_right _ (List.mem_append_right _ (List.mem_append_right _ (List.mem_append_right _ (List.mem_append_right _ (List.mem_append_right _ (List.mem_append_right _ (List.mem_append_right _ (List.mem_append_right _ (List.mem_append_right _ (List.mem_append_right _ (List.mem_append_right _ (List.mem_append_right _ (List.mem_append_right _ (List.mem_append_right _ (List.mem_append_right _ (List.mem_append_right _ (List.mem_append_right _ (List.mem_of_getElem? (i := 2) rfl)))))))))))))))))))))))))))))
theorem gw_isWhole_c : GoodIn wsL_law [Cond.code yL_isWhole cL_isWhole 11 (some .boolean)] := goodIn_sub (fun w h => by rw [List.mem_singleton.mp h]; exact gm_isWhole) (by decide +kernel)
set_option maxRecDepth 20000 in
theorem gw_isWhole_r1 : GoodIn wsL_law wsL_isWhole_r1 := goodIn_r _ [476, 477, 478, 2, 479, 23, 401, 402, 403, 404, 179, 441, 442, 44, 443, 54, 57, 444, 445, 446, 447, 20, 261, 262] (by decide +kernel) (by decide +kernel)
set_option maxRecDepth 20000 in
theorem gw_isWhole_r2 : GoodIn wsL_law wsL_isWhole_r2 := goodIn_r _ [263, 69, 70, 448, 449, 450, 451, 452, 453, 454, 26, 455, 456, 457, 458, 459, 460, 461, 375, 376, 377, 378, 19, 246] (by decide +kernel) (by decide +kernel)
set_option maxRecDepth 20000 in
theorem gw_isWhole_r3 : GoodIn wsL_law wsL_isWhole_r3 := goodIn_r _ [139, 140, 141, 426, 427, 428, 55, 58, 429, 430, 431, 432, 64, 65, 78, 180, 181, 182, 370, 183, 184, 185, 186, 16] (by decide +kernel) (by decide +kernel)
set_option maxRecDepth 20000 in
theorem gw_isWhole_r4 : GoodIn wsL_law wsL_isWhole_r4 := goodIn_r _ [77, 79, 80, 81, 15, 82, 83, 84, 85, 86, 87, 88, 89, 90, 91, 92, 93, 94, 95, 96, 97, 98, 99, 31] (by decide +kernel) (by decide +kernel)
set_option maxRecDepth 20000 in
theorem gw_isWhole_r5 : GoodIn wsL_law wsL_isWhole_r5 := goodIn_r _ [419, 420, 421, 422, 423, 424, 425, 66, 67, 68, 190, 191, 192, 193, 18, 194, 195, 196, 197, 198, 199, 412, 413, 414] (by decide +kernel) (by decide +kernel)
set_option maxRecDepth 20000 in
theorem gw_isWhole_r6 : GoodIn wsL_law wsL_isWhole_r6 := goodIn_r _ [415, 416, 417, 418, 433, 434, 435, 436, 437, 438, 439, 17, 364, 440, 365, 405, 406, 407, 408, 409, 410, 411, 24, 25] (by decide +kernel) (by decide +kernel)
