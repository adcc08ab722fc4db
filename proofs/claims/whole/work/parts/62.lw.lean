/-! the law's words among the tables', by their places -/
theorem in_r {big : List Cond} (ws : List Cond) (ps : List Nat) (hp : ws = ps.filterMap (fun i => big[i]?)) : ∀ w ∈ ws, w ∈ big := by
  intro w hw
  rw [hp] at hw
  obtain ⟨i, -, hi⟩ := List.mem_filterMap.mp hw
  first | exact List.mem_of_getElem? hi | exact List.getElem?_mem hi
set_option maxRecDepth 20000 in
theorem wl_r1 : ∀ w ∈ wsL_law0_r1, w ∈ lw_tbl := in_r _ [61, 62, 40, 703, 704, 44, 968, 63, 64, 65, 66, 67, 68, 95, 96, 97, 69, 70, 43, 98, 99, 100, 101, 102] (by decide +kernel)
set_option maxRecDepth 20000 in
theorem wl_r2 : ∀ w ∈ wsL_law0_r2, w ∈ lw_tbl := in_r _ [103, 106, 107, 108, 109, 110, 71, 72, 73, 81, 83, 74, 75, 42, 76, 85, 77, 78, 41, 79, 80, 705, 706, 707] (by decide +kernel)
set_option maxRecDepth 20000 in
theorem wl_r3 : ∀ w ∈ wsL_law0_r3, w ∈ lw_tbl := in_r _ [708, 711, 712, 713, 715, 716, 717, 718, 720, 721, 722, 723, 724, 725, 726, 727, 728, 730, 731, 732, 733, 797, 734, 735] (by decide +kernel)
set_option maxRecDepth 20000 in
theorem wl_r4 : ∀ w ∈ wsL_law0_r4, w ∈ lw_tbl := in_r _ [736, 150, 151, 39, 152, 153, 154, 155, 156, 157, 158, 159, 160, 161, 162, 48, 230, 231, 232, 233, 49, 802, 803, 804] (by decide +kernel)
set_option maxRecDepth 20000 in
theorem wl_r5 : ∀ w ∈ wsL_law0_r5, w ∈ lw_tbl := in_r _ [805, 806, 807, 808, 809, 810, 811, 812, 814, 23, 815, 709, 798, 799, 800, 801, 249, 250, 251, 252, 253, 254, 255, 256] (by decide +kernel)
set_option maxRecDepth 20000 in
theorem wl_r6 : ∀ w ∈ wsL_law0_r6, w ∈ lw_tbl := in_r _ [258, 260, 1, 261, 266, 50, 296, 319, 262, 263, 264, 265, 84, 282, 283, 284, 285, 286, 287, 51, 288, 289, 290, 52] (by decide +kernel)
set_option maxRecDepth 20000 in
theorem wl_r7 : ∀ w ∈ wsL_law0_r7, w ∈ lw_tbl := in_r _ [291, 292, 293, 294, 295, 297, 298, 299, 53, 300, 313, 315, 302, 304, 2, 305, 296, 306, 307, 308, 309, 310, 311, 317] (by decide +kernel)
set_option maxRecDepth 20000 in
theorem wl_r8 : ∀ w ∈ wsL_law0_r8, w ∈ lw_tbl := in_r _ [320, 339, 340, 341, 342, 86, 87, 343, 345, 3, 346, 347, 349, 4, 350, 351, 353, 5, 354, 393, 359, 55, 360, 394] (by decide +kernel)
set_option maxRecDepth 20000 in
theorem wl_r9 : ∀ w ∈ wsL_law0_r9, w ∈ lw_tbl := in_r _ [355, 356, 54, 357, 358, 361, 362, 363, 364, 365, 366, 56, 367, 368, 982, 369, 380, 381, 382, 383, 384, 386, 387, 388] (by decide +kernel)
set_option maxRecDepth 20000 in
theorem wl_r10 : ∀ w ∈ wsL_law0_r10, w ∈ lw_tbl := in_r _ [389, 390, 392, 391, 57, 816, 817, 818, 819, 714, 820, 822, 24, 823, 824, 826, 25, 827, 395, 396, 397, 398, 399, 400] (by decide +kernel)
set_option maxRecDepth 20000 in
theorem wl_r11 : ∀ w ∈ wsL_law0_r11, w ∈ lw_tbl := in_r _ [401, 105, 314, 316, 321, 402, 404, 6, 405, 407, 408, 409, 411, 413, 7, 414, 415, 563, 565, 567, 571, 569, 828, 829] (by decide +kernel)
set_option maxRecDepth 20000 in
theorem wl_r12 : ∀ w ∈ wsL_law0_r12, w ∈ lw_tbl := in_r _ [830, 831, 832, 834, 26, 835, 836, 838, 27, 839, 729, 416, 417, 418, 419, 420, 421, 422, 424, 426, 8, 427, 428, 430] (by decide +kernel)
set_option maxRecDepth 20000 in
theorem wl_r13 : ∀ w ∈ wsL_law0_r13, w ∈ lw_tbl := in_r _ [9, 431, 312, 840, 841, 842, 843, 710, 432, 433, 434, 435, 436, 437, 438, 440, 441, 58, 442, 443, 444, 445, 446, 447] (by decide +kernel)
set_option maxRecDepth 20000 in
theorem wl_r14 : ∀ w ∈ wsL_law0_r14, w ∈ lw_tbl := in_r _ [844, 845, 846, 847, 719, 461, 462, 463, 464, 465, 466, 467, 468, 470, 10, 471, 472, 848, 849, 850, 851, 852, 854, 28] (by decide +kernel)
set_option maxRecDepth 20000 in
theorem wl_r15 : ∀ w ∈ wsL_law0_r15, w ∈ lw_tbl := in_r _ [855, 473, 474, 475, 476, 477, 478, 479, 481, 483, 11, 484, 485, 487, 12, 488, 489, 491, 13, 492, 493, 495, 14, 496] (by decide +kernel)
set_option maxRecDepth 20000 in
theorem wl_r16 : ∀ w ∈ wsL_law0_r16, w ∈ lw_tbl := in_r _ [497, 498, 499, 500, 323, 501, 502, 59, 503, 504, 505, 506, 507, 509, 15, 510, 511, 513, 16, 514, 440, 451, 515, 517] (by decide +kernel)
set_option maxRecDepth 20000 in
theorem wl_r17 : ∀ w ∈ wsL_law0_r17, w ∈ lw_tbl := in_r _ [17, 518, 322, 519, 521, 18, 522, 523, 525, 19, 526, 527, 529, 20, 530, 531, 532, 533, 534, 448, 535, 450, 536, 537] (by decide +kernel)
set_option maxRecDepth 20000 in
theorem wl_r18 : ∀ w ∈ wsL_law0_r18, w ∈ lw_tbl := in_r _ [538, 539, 540, 541, 542, 543, 856, 857, 858, 859, 860, 862, 29, 863, 864, 866, 30, 867, 868, 870, 31, 871, 872, 874] (by decide +kernel)
set_option maxRecDepth 20000 in
theorem wl_r19 : ∀ w ∈ wsL_law0_r19, w ∈ lw_tbl := in_r _ [32, 875, 876, 878, 33, 879, 880, 882, 34, 883, 884, 886, 35, 887, 544, 545, 546, 547, 548, 549, 550, 415, 557, 60] (by decide +kernel)
set_option maxRecDepth 20000 in
theorem wl_r20 : ∀ w ∈ wsL_law0_r20, w ∈ lw_tbl := in_r _ [553, 554, 555, 556, 558, 559, 560, 561, 562, 564, 566, 568, 888, 889, 890, 891, 583, 584, 585, 586, 587, 588, 589, 590] (by decide +kernel)
set_option maxRecDepth 20000 in
theorem wl_r21 : ∀ w ∈ wsL_law0_r21, w ∈ lw_tbl := in_r _ [592, 21, 593, 595, 596, 597, 598, 599, 600, 601, 570, 318, 892, 893, 894, 895, 896, 898, 36, 899, 900, 902, 37, 903] (by decide +kernel)
set_option maxRecDepth 20000 in
theorem wl_r22 : ∀ w ∈ wsL_law0_r22, w ∈ lw_tbl := in_r _ [603, 604, 605, 606, 607, 608, 609, 904, 905, 906, 907, 610, 611, 612, 613, 614, 615, 616, 617, 618, 619, 908, 909, 910] (by decide +kernel)
set_option maxRecDepth 20000 in
theorem wl_r23 : ∀ w ∈ wsL_law0_r23, w ∈ lw_tbl := in_r _ [911, 912, 913, 914, 621, 622, 623, 624, 625, 626, 627, 104, 915, 916, 917, 918, 737, 142, 143, 144, 145, 919, 920, 921] (by decide +kernel)
set_option maxRecDepth 20000 in
theorem wl_r24 : ∀ w ∈ wsL_law0_r24, w ∈ lw_tbl := in_r _ [922, 630, 631, 632, 633, 634, 635, 636, 923, 924, 925, 926, 146, 147, 148, 149, 927, 928, 929, 930, 639, 640, 641, 642] (by decide +kernel)
set_option maxRecDepth 20000 in
theorem wl_r25 : ∀ w ∈ wsL_law0_r25, w ∈ lw_tbl := in_r _ [643, 644, 645, 931, 932, 933, 934, 646, 647, 648, 649, 650, 651, 652, 935, 936, 937, 938, 653, 654, 655, 656, 657, 658] (by decide +kernel)
set_option maxRecDepth 20000 in
theorem wl_r26 : ∀ w ∈ wsL_law0_r26, w ∈ lw_tbl := in_r _ [659, 939, 940, 941, 942, 661, 662, 663, 664, 665, 666, 667, 449, 943, 944, 945, 946, 670, 671, 672, 673, 674, 675, 676] (by decide +kernel)
set_option maxRecDepth 20000 in
theorem wl_r27 : ∀ w ∈ wsL_law0_r27, w ∈ lw_tbl := in_r _ [947, 948, 949, 950, 677, 678, 679, 680, 681, 682, 683, 951, 952, 953, 954, 955, 684, 685, 686, 687, 688, 689, 690, 956] (by decide +kernel)
set_option maxRecDepth 20000 in
theorem wl_r28 : ∀ w ∈ wsL_law0_r28, w ∈ lw_tbl := in_r _ [957, 958, 959, 691, 692, 693, 694, 695, 696, 697, 699, 701, 22, 702, 960, 961, 962, 963, 964, 966, 38, 967] (by decide +kernel)
