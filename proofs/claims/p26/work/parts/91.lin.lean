/-! the law's words among the tables', by their places -/
theorem in_r {big : List Cond} (ws : List Cond) (ps : List Nat) (hp : ws = ps.filterMap (fun i => big[i]?)) : ∀ w ∈ ws, w ∈ big := by
  intro w hw
  rw [hp] at hw
  obtain ⟨i, -, hi⟩ := List.mem_filterMap.mp hw
  first | exact List.mem_of_getElem? hi | exact List.getElem?_mem hi
theorem app_in {a b big : List Cond} (ha : ∀ w ∈ a, w ∈ big) (hb : ∀ w ∈ b, w ∈ big) : ∀ w ∈ a ++ b, w ∈ big := fun w h => (List.mem_append.mp h).elim (ha w) (hb w)
theorem con_in {a : Cond} {b big : List Cond} (ha : a ∈ big) (hb : ∀ w ∈ b, w ∈ big) : ∀ w ∈ a :: b, w ∈ big := fun w h => (List.mem_cons.mp h).elim (fun e => by rw [e]; exact ha) (hb w)
set_option maxRecDepth 20000 in
theorem wl_r1 : ∀ w ∈ wsL_law0_r1, w ∈ lw_tbl := in_r _ [44, 45, 24, 78, 705, 46, 47, 48, 49, 50, 51, 79, 80, 52, 53, 27, 81, 82, 83, 84, 85, 86, 89, 90] (by decide +kernel)
set_option maxRecDepth 20000 in
theorem wl_r2 : ∀ w ∈ wsL_law0_r2, w ∈ lw_tbl := in_r _ [91, 92, 93, 54, 55, 56, 64, 66, 57, 58, 26, 59, 68, 60, 61, 25, 62, 63, 125, 126, 23, 127, 128, 129] (by decide +kernel)
def wq_3_0 : List Cond := [Cond.methodLink RL 147 yL_act, Cond.static yL_act]
set_option maxRecDepth 20000 in
theorem wl_3_0 : ∀ w ∈ wq_3_0, w ∈ lw_tbl := in_r _ [692, 693] (by decide +kernel)
def wq_3_1 : List Cond := [Cond.methodLink RL 95 yL_fight, Cond.static yL_fight, Cond.codeWith yL_fight cL_fight 4 (some .int) [(0, 6, 7, 13), (0, 6, 11, 16), (0, 6, 15, 22)], Cond.classLink RL 13 "java/lang/IndexOutOfBoundsException", Cond.classLink RL 16 "java/lang/IllegalArgumentException", Cond.classLink RL 22 "java/lang/IllegalStateException", Cond.constant RL 15 (-2000000001), Cond.constant RL 18 (-2000000002), Cond.constant RL 24 (-2000000003), Cond.methodLink RL 19 yX3_fight, Cond.instanceMethod yX3_fight, Cond.selects RX3 yX3_fight yX3_fight, Cond.code yX3_fight cX3_fight 3 (some .int), Cond.classLink RX3 62 "java/lang/IllegalArgumentException", Cond.initialized "java/lang/IllegalArgumentException", Cond.methodLink RX3 54 yX3_checkPlayer, Cond.static yX3_checkPlayer, Cond.code yX3_checkPlayer cX3_checkPlayer 1 none, Cond.classLink RX3 180 "java/lang/IndexOutOfBoundsException", Cond.initialized "java/lang/IndexOutOfBoundsException", Cond.methodLink RX3 69 yX3_checkCanBegin]
set_option maxRecDepth 20000 in
theorem wl_3_1 : ∀ w ∈ wq_3_1, w ∈ lw_tbl := in_r _ [238, 239, 240, 140, 141, 241, 236, 237, 383, 242, 243, 244, 245, 220, 32, 146, 147, 148, 149, 31, 247] (by decide +kernel)
theorem wc_3_0 : Cond.code yL_act cL_act 5 (some .int) ∈ lw_tbl := List.mem_append_right _ (List.mem_append_right _ (List.mem_append_right _ (List.mem_of_getElem? (i := 191) rfl)))
theorem wl_r3 : ∀ w ∈ wsL_law0_r3, w ∈ lw_tbl := by
  rw [show wsL_law0_r3 = wq_3_0 ++ (Cond.code yL_act cL_act 5 (some .int) :: (wq_3_1)) from rfl]
  exact app_in wl_3_0 (con_in wc_3_0 (wl_3_1))
set_option maxRecDepth 20000 in
theorem wl_r4 : ∀ w ∈ wsL_law0_r4, w ∈ lw_tbl := in_r _ [249, 1, 250, 255, 33, 285, 308, 251, 252, 253, 254, 67, 271, 272, 273, 274, 275, 276, 34, 277, 278, 279, 35, 280] (by decide +kernel)
set_option maxRecDepth 20000 in
theorem wl_r5 : ∀ w ∈ wsL_law0_r5, w ∈ lw_tbl := in_r _ [281, 282, 283, 284, 286, 287, 288, 36, 289, 302, 304, 291, 293, 2, 294, 285, 295, 296, 297, 298, 299, 300, 306, 309] (by decide +kernel)
set_option maxRecDepth 20000 in
theorem wl_r6 : ∀ w ∈ wsL_law0_r6, w ∈ lw_tbl := in_r _ [328, 329, 330, 331, 69, 70, 332, 334, 3, 335, 336, 338, 4, 339, 340, 342, 5, 343, 381, 348, 38, 349, 382, 344] (by decide +kernel)
set_option maxRecDepth 20000 in
theorem wl_r7 : ∀ w ∈ wsL_law0_r7, w ∈ lw_tbl := in_r _ [345, 37, 346, 347, 350, 351, 352, 353, 354, 355, 39, 356, 357, 718, 358, 368, 369, 370, 371, 372, 374, 375, 376, 377] (by decide +kernel)
set_option maxRecDepth 20000 in
theorem wl_r8 : ∀ w ∈ wsL_law0_r8, w ∈ lw_tbl := in_r _ [378, 380, 379, 40, 384, 385, 386, 387, 388, 389, 390, 88, 303, 305, 310, 391, 393, 6, 394, 396, 397, 398, 400, 402] (by decide +kernel)
set_option maxRecDepth 20000 in
theorem wl_r9 : ∀ w ∈ wsL_law0_r9, w ∈ lw_tbl := in_r _ [7, 403, 404, 552, 554, 556, 560, 558, 405, 406, 407, 408, 409, 410, 411, 413, 415, 8, 416, 417, 419, 9, 420, 301] (by decide +kernel)
set_option maxRecDepth 20000 in
theorem wl_r10 : ∀ w ∈ wsL_law0_r10, w ∈ lw_tbl := in_r _ [421, 422, 423, 424, 425, 426, 427, 429, 430, 41, 217, 218, 219, 431, 432, 433, 434, 435, 436, 450, 451, 452, 453, 454] (by decide +kernel)
set_option maxRecDepth 20000 in
theorem wl_r11 : ∀ w ∈ wsL_law0_r11, w ∈ lw_tbl := in_r _ [455, 456, 457, 459, 10, 460, 461, 137, 138, 139, 142, 143, 144, 145, 599, 600, 601, 602, 603, 604, 605, 606, 607, 608] (by decide +kernel)
set_option maxRecDepth 20000 in
theorem wl_r12 : ∀ w ∈ wsL_law0_r12, w ∈ lw_tbl := in_r _ [610, 611, 612, 613, 614, 615, 616, 87, 533, 534, 535, 536, 537, 538, 539, 404, 546, 42, 542, 543, 544, 545, 312, 547] (by decide +kernel)
set_option maxRecDepth 20000 in
theorem wl_r13 : ∀ w ∈ wsL_law0_r13, w ∈ lw_tbl := in_r _ [548, 549, 550, 551, 553, 555, 557, 572, 573, 574, 575, 576, 577, 578, 579, 581, 21, 582, 584, 585, 586, 587, 588, 589] (by decide +kernel)
set_option maxRecDepth 20000 in
theorem wl_r14 : ∀ w ∈ wsL_law0_r14, w ∈ lw_tbl := in_r _ [590, 559, 307, 592, 593, 594, 595, 596, 597, 598, 462, 463, 464, 465, 466, 467, 468, 470, 472, 11, 473, 474, 476, 12] (by decide +kernel)
set_option maxRecDepth 20000 in
theorem wl_r15 : ∀ w ∈ wsL_law0_r15, w ∈ lw_tbl := in_r _ [477, 478, 480, 13, 481, 482, 484, 14, 485, 486, 487, 488, 489, 490, 491, 43, 492, 493, 494, 495, 496, 498, 15, 499] (by decide +kernel)
set_option maxRecDepth 20000 in
theorem wl_r16 : ∀ w ∈ wsL_law0_r16, w ∈ lw_tbl := in_r _ [500, 502, 16, 503, 429, 440, 504, 506, 17, 507, 311, 508, 510, 18, 511, 512, 514, 19, 515, 516, 518, 20, 519, 520] (by decide +kernel)
def wq_17_0 : List Cond := [Cond.instanceMethod yX0_passOnAir, Cond.selects RX0 yX0_passOnAir yX0_passOnAir, Cond.code yX0_passOnAir cX0_passOnAir 1 none, Cond.fieldLink RX0 16 "Castdesk$Camera" "onAir" "I", Cond.methodLink RX0 19 Lib.Math.max.name, Cond.fieldLink RX0 25 "Castdesk$Camera" "toBeOff" "I", Cond.methodLink RX3 293 yX0_passOff, Cond.instanceMethod yX0_passOff, Cond.selects RX0 yX0_passOff yX0_passOff, Cond.code yX0_passOff cX0_passOff 1 none, Cond.methodLink RX3 265 yX2_letFramePass, Cond.instanceMethod yX2_letFramePass, Cond.selects RX2 yX2_letFramePass yX2_letFramePass, Cond.code yX2_letFramePass cX2_letFramePass 1 none, Cond.methodLink RL 151 yL_refuses, Cond.static yL_refuses]
set_option maxRecDepth 20000 in
theorem wl_17_0 : ∀ w ∈ wq_17_0, w ∈ lw_tbl := in_r _ [521, 522, 523, 437, 524, 439, 525, 526, 527, 528, 529, 530, 531, 532, 130, 131] (by decide +kernel)
def wq_17_1 : List Cond := [Cond.methodLink RL 86 yX3_frame, Cond.instanceMethod yX3_frame, Cond.selects RX3 yX3_frame yX3_frame, Cond.code yX3_frame cX3_frame 1 (some .int), Cond.methodLink RL 119 yL_shown, Cond.static yL_shown, Cond.codeWith yL_shown cL_shown 4 (some .int) [(0, 6, 7, 13), (0, 6, 11, 16)]]
set_option maxRecDepth 20000 in
theorem wl_17_1 : ∀ w ∈ wq_17_1, w ∈ lw_tbl := in_r _ [133, 134, 135, 136, 619, 620, 621] (by decide +kernel)
theorem wc_17_0 : Cond.code yL_refuses cL_refuses 14 (some .boolean) ∈ lw_tbl := List.mem_append_right _ (List.mem_append_left _ (List.mem_of_getElem? (i := 109) rfl))
theorem wl_r17 : ∀ w ∈ wsL_law0_r17, w ∈ lw_tbl := by
  rw [show wsL_law0_r17 = wq_17_0 ++ (Cond.code yL_refuses cL_refuses 14 (some .boolean) :: (wq_17_1)) from rfl]
  exact app_in wl_17_0 (con_in wc_17_0 (wl_17_1))
set_option maxRecDepth 20000 in
theorem wl_r18 : ∀ w ∈ wsL_law0_r18, w ∈ lw_tbl := in_r _ [622, 623, 624, 625, 628, 629, 630, 631, 632, 633, 634, 635, 636, 637, 638, 639, 640, 641, 642, 643, 644, 645, 646, 647] (by decide +kernel)
set_option maxRecDepth 20000 in
theorem wl_r19 : ∀ w ∈ wsL_law0_r19, w ∈ lw_tbl := in_r _ [648, 650, 651, 652, 653, 654, 655, 656, 438, 659, 660, 661, 662, 663, 664, 665, 666, 667, 668, 669, 670, 671, 672, 673] (by decide +kernel)
def wq_20_0 : List Cond := [Cond.static yL_owed, Cond.codeWith yL_owed cL_owed 3 (some .int) [(0, 5, 6, 13)], Cond.methodLink RL 78 yX3_owed, Cond.instanceMethod yX3_owed, Cond.selects RX3 yX3_owed yX3_owed, Cond.code yX3_owed cX3_owed 2 (some .int), Cond.methodLink RL 136 yL_leader, Cond.static yL_leader, Cond.codeWith yL_leader cL_leader 3 (some .int) [(0, 5, 6, 13)], Cond.methodLink RL 81 yX3_leader, Cond.instanceMethod yX3_leader, Cond.selects RX3 yX3_leader yX3_leader, Cond.code yX3_leader cX3_leader 3 (some .int), Cond.methodLink RX3 212 yX3_placeOf, Cond.instanceMethod yX3_placeOf, Cond.selects RX3 yX3_placeOf yX3_placeOf, Cond.code yX3_placeOf cX3_placeOf 4 (some .int), Cond.methodLink RL 155 yL_isAlike, Cond.static yL_isAlike]
set_option maxRecDepth 20000 in
theorem wl_20_0 : ∀ w ∈ wq_20_0, w ∈ lw_tbl := in_r _ [674, 675, 676, 677, 678, 679, 680, 681, 682, 683, 684, 685, 686, 688, 690, 22, 691, 695, 696] (by decide +kernel)
def wq_20_1 : List Cond := [Cond.methodLink RL 138 yX3_seen, Cond.instanceMethod yX3_seen, Cond.selects RX3 yX3_seen yX3_seen, Cond.code yX3_seen cX3_seen 1 (some .int)]
set_option maxRecDepth 20000 in
theorem wl_20_1 : ∀ w ∈ wq_20_1, w ∈ lw_tbl := in_r _ [698, 699, 700, 701] (by decide +kernel)
theorem wc_20_0 : Cond.code yL_isAlike cL_isAlike 9 (some .boolean) ∈ lw_tbl := List.mem_append_right _ (List.mem_append_right _ (List.mem_append_right _ (List.mem_of_getElem? (i := 194) rfl)))
theorem wl_r20 : ∀ w ∈ wsL_law0_r20, w ∈ lw_tbl := by
  rw [show wsL_law0_r20 = wq_20_0 ++ (Cond.code yL_isAlike cL_isAlike 9 (some .boolean) :: (wq_20_1)) from rfl]
  exact app_in wl_20_0 (con_in wc_20_0 (wl_20_1))
def wq_21_0 : List Cond := [Cond.methodLink RL 159 yL_isWhole, Cond.static yL_isWhole]
set_option maxRecDepth 20000 in
theorem wl_21_0 : ∀ w ∈ wq_21_0, w ∈ lw_tbl := in_r _ [702, 703] (by decide +kernel)
def wq_21_1 : List Cond := []
set_option maxRecDepth 20000 in
theorem wl_21_1 : ∀ w ∈ wq_21_1, w ∈ lw_tbl := in_r _ [] (by decide +kernel)
theorem wc_21_0 : Cond.code yL_isWhole cL_isWhole 11 (some .boolean) ∈ lw_tbl := List.mem_append_right _ (List.mem_append_right _ (List.mem_append_right _ (List.mem_of_getElem? (i := 201) rfl)))
theorem wl_r21 : ∀ w ∈ wsL_law0_r21, w ∈ lw_tbl := by
  rw [show wsL_law0_r21 = wq_21_0 ++ (Cond.code yL_isWhole cL_isWhole 11 (some .boolean) :: (wq_21_1)) from rfl]
  exact app_in wl_21_0 (con_in wc_21_0 (wl_21_1))
theorem wl_x0 : ∀ w ∈ wsX00, w ∈ lw_tbl := by decide +kernel
theorem wl_x1 : ∀ w ∈ wsX10, w ∈ lw_tbl := by decide +kernel
theorem wl_x2 : ∀ w ∈ wsX20, w ∈ lw_tbl := by decide +kernel
theorem wl_x3 : ∀ w ∈ wsX30, w ∈ lw_tbl := by decide +kernel
theorem wl_j : ∀ w ∈ wsJx4a65c0, w ∈ lw_tbl := by decide +kernel
theorem wsL_law0_in : ∀ w ∈ wsL_law0, w ∈ lw_tbl := app_in (app_in (app_in (app_in (app_in (app_in (app_in wl_r1 (app_in wl_r2 (app_in wl_r3 (app_in wl_r4 (app_in wl_r5 (app_in wl_r6 (app_in wl_r7 (app_in wl_r8 (app_in wl_r9 (app_in wl_r10 (app_in wl_r11 (app_in wl_r12 (app_in wl_r13 (app_in wl_r14 (app_in wl_r15 (app_in wl_r16 (app_in wl_r17 (app_in wl_r18 (app_in wl_r19 (app_in wl_r20 (wl_r21))))))))))))))))))))) wl_x3) wl_j) wl_x2) wl_x1) wl_x0) (fun w h => absurd h List.not_mem_nil)
theorem wl_e0 : ∀ w ∈ (vx_atS RX3 66 "java/lang/IllegalArgumentException" ["java/lang/RuntimeException", "java/lang/Exception"]).filter goodWord, w ∈ lw_tbl := by decide +kernel
theorem wl_e1 : ∀ w ∈ (vx_atS RX3 184 "java/lang/IndexOutOfBoundsException" ["java/lang/RuntimeException", "java/lang/Exception"]).filter goodWord, w ∈ lw_tbl := by decide +kernel
theorem wl_e2 : ∀ w ∈ (vx_atS RX3 110 "java/lang/IllegalStateException" ["java/lang/RuntimeException", "java/lang/Exception"]).filter goodWord, w ∈ lw_tbl := by decide +kernel
theorem wsL_law_in : ∀ w ∈ wsL_law, w ∈ lw_tbl := app_in (app_in (app_in (wsL_law0_in) wl_e0) wl_e1) wl_e2
