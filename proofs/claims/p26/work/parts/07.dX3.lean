theorem dX0_init_0 : decode cX0_init 0 = .ok (.aload_n 0, 1) := by decide +kernel
theorem dX0_init_1 : decode cX0_init 1 = .ok (.invokespecial 1, 3) := by decide +kernel
theorem dX0_init_4 : decode cX0_init 4 = .ok (.aload_n 0, 1) := by decide +kernel
theorem dX0_init_5 : decode cX0_init 5 = .ok (.iload_n 1, 1) := by decide +kernel
theorem dX0_init_6 : decode cX0_init 6 = .ok (.putfield 7, 3) := by decide +kernel
theorem dX0_init_9 : decode cX0_init 9 = .ok (.aload_n 0, 1) := by decide +kernel
theorem dX0_init_10 : decode cX0_init 10 = .ok (.iload_n 2, 1) := by decide +kernel
theorem dX0_init_11 : decode cX0_init 11 = .ok (.putfield 13, 3) := by decide +kernel
theorem dX0_init_14 : decode cX0_init 14 = .ok (.return_, 1) := by decide +kernel
theorem dX0_passOnAir_0 : decode cX0_passOnAir 0 = .ok (.aload_n 0, 1) := by decide +kernel
theorem dX0_passOnAir_1 : decode cX0_passOnAir 1 = .ok (.dup, 1) := by decide +kernel
theorem dX0_passOnAir_2 : decode cX0_passOnAir 2 = .ok (.getfield 16, 3) := by decide +kernel
theorem dX0_passOnAir_5 : decode cX0_passOnAir 5 = .ok (.iconst 1, 1) := by decide +kernel
theorem dX0_passOnAir_6 : decode cX0_passOnAir 6 = .ok (.iadd, 1) := by decide +kernel
theorem dX0_passOnAir_7 : decode cX0_passOnAir 7 = .ok (.putfield 16, 3) := by decide +kernel
theorem dX0_passOnAir_10 : decode cX0_passOnAir 10 = .ok (.aload_n 0, 1) := by decide +kernel
theorem dX0_passOnAir_11 : decode cX0_passOnAir 11 = .ok (.getfield 16, 3) := by decide +kernel
theorem dX0_passOnAir_14 : decode cX0_passOnAir 14 = .ok (.aload_n 0, 1) := by decide +kernel
theorem dX0_passOnAir_15 : decode cX0_passOnAir 15 = .ok (.getfield 7, 3) := by decide +kernel
theorem dX0_passOnAir_18 : decode cX0_passOnAir 18 = .ok (.if_icmp .lt 15, 3) := by decide +kernel
theorem dX0_passOnAir_21 : decode cX0_passOnAir 21 = .ok (.aload_n 0, 1) := by decide +kernel
theorem dX0_passOnAir_22 : decode cX0_passOnAir 22 = .ok (.aload_n 0, 1) := by decide +kernel
theorem dX0_passOnAir_23 : decode cX0_passOnAir 23 = .ok (.getfield 13, 3) := by decide +kernel
theorem dX0_passOnAir_26 : decode cX0_passOnAir 26 = .ok (.iconst 1, 1) := by decide +kernel
theorem dX0_passOnAir_27 : decode cX0_passOnAir 27 = .ok (.invokestatic 19, 3) := by decide +kernel
theorem dX0_passOnAir_30 : decode cX0_passOnAir 30 = .ok (.putfield 25, 3) := by decide +kernel
theorem dX0_passOnAir_33 : decode cX0_passOnAir 33 = .ok (.return_, 1) := by decide +kernel
theorem dX0_passOff_0 : decode cX0_passOff 0 = .ok (.aload_n 0, 1) := by decide +kernel
theorem dX0_passOff_1 : decode cX0_passOff 1 = .ok (.iconst 0, 1) := by decide +kernel
theorem dX0_passOff_2 : decode cX0_passOff 2 = .ok (.putfield 16, 3) := by decide +kernel
theorem dX0_passOff_5 : decode cX0_passOff 5 = .ok (.aload_n 0, 1) := by decide +kernel
theorem dX0_passOff_6 : decode cX0_passOff 6 = .ok (.aload_n 0, 1) := by decide +kernel
theorem dX0_passOff_7 : decode cX0_passOff 7 = .ok (.getfield 25, 3) := by decide +kernel
theorem dX0_passOff_10 : decode cX0_passOff 10 = .ok (.iconst 1, 1) := by decide +kernel
theorem dX0_passOff_11 : decode cX0_passOff 11 = .ok (.isub, 1) := by decide +kernel
theorem dX0_passOff_12 : decode cX0_passOff 12 = .ok (.iconst 0, 1) := by decide +kernel
theorem dX0_passOff_13 : decode cX0_passOff 13 = .ok (.invokestatic 19, 3) := by decide +kernel
theorem dX0_passOff_16 : decode cX0_passOff 16 = .ok (.putfield 25, 3) := by decide +kernel
theorem dX0_passOff_19 : decode cX0_passOff 19 = .ok (.return_, 1) := by decide +kernel
theorem dX1_init_0 : decode cX1_init 0 = .ok (.aload_n 0, 1) := by decide +kernel
theorem dX1_init_1 : decode cX1_init 1 = .ok (.invokespecial 3, 3) := by decide +kernel
theorem dX1_init_4 : decode cX1_init 4 = .ok (.aload_n 0, 1) := by decide +kernel
theorem dX1_init_5 : decode cX1_init 5 = .ok (.aload_n 1, 1) := by decide +kernel
theorem dX1_init_6 : decode cX1_init 6 = .ok (.putfield 9, 3) := by decide +kernel
theorem dX1_init_9 : decode cX1_init 9 = .ok (.aload_n 0, 1) := by decide +kernel
theorem dX1_init_10 : decode cX1_init 10 = .ok (.iload_n 2, 1) := by decide +kernel
theorem dX1_init_11 : decode cX1_init 11 = .ok (.putfield 15, 3) := by decide +kernel
theorem dX1_init_14 : decode cX1_init 14 = .ok (.aload_n 0, 1) := by decide +kernel
theorem dX1_init_15 : decode cX1_init 15 = .ok (.iload_n 3, 1) := by decide +kernel
theorem dX1_init_16 : decode cX1_init 16 = .ok (.putfield 19, 3) := by decide +kernel
theorem dX1_init_19 : decode cX1_init 19 = .ok (.aload_n 0, 1) := by decide +kernel
theorem dX1_init_20 : decode cX1_init 20 = .ok (.iload 4, 2) := by decide +kernel
theorem dX1_init_22 : decode cX1_init 22 = .ok (.putfield 22, 3) := by decide +kernel
theorem dX1_init_25 : decode cX1_init 25 = .ok (.return_, 1) := by decide +kernel
theorem dX1_canBeCorrected_0 : decode cX1_canBeCorrected 0 = .ok (.aload_n 0, 1) := by decide +kernel
theorem dX1_canBeCorrected_1 : decode cX1_canBeCorrected 1 = .ok (.getfield 25, 3) := by decide +kernel
theorem dX1_canBeCorrected_4 : decode cX1_canBeCorrected 4 = .ok (.ifCond .ne 17, 3) := by decide +kernel
theorem dX1_canBeCorrected_7 : decode cX1_canBeCorrected 7 = .ok (.aload_n 0, 1) := by decide +kernel
theorem dX1_canBeCorrected_8 : decode cX1_canBeCorrected 8 = .ok (.getfield 9, 3) := by decide +kernel
theorem dX1_canBeCorrected_11 : decode cX1_canBeCorrected 11 = .ok (.getfield 29, 3) := by decide +kernel
theorem dX1_canBeCorrected_14 : decode cX1_canBeCorrected 14 = .ok (.ifCond .ne 7, 3) := by decide +kernel
theorem dX1_canBeCorrected_17 : decode cX1_canBeCorrected 17 = .ok (.iconst 1, 1) := by decide +kernel
theorem dX1_canBeCorrected_18 : decode cX1_canBeCorrected 18 = .ok (.goto 4, 3) := by decide +kernel
theorem dX1_canBeCorrected_21 : decode cX1_canBeCorrected 21 = .ok (.iconst 0, 1) := by decide +kernel
theorem dX1_canBeCorrected_22 : decode cX1_canBeCorrected 22 = .ok (.ireturn, 1) := by decide +kernel
theorem dX2_init_0 : decode cX2_init 0 = .ok (.aload_n 0, 1) := by decide +kernel
theorem dX2_init_1 : decode cX2_init 1 = .ok (.invokespecial 3, 3) := by decide +kernel
theorem dX2_init_4 : decode cX2_init 4 = .ok (.aload_n 0, 1) := by decide +kernel
theorem dX2_init_5 : decode cX2_init 5 = .ok (.iload_n 1, 1) := by decide +kernel
theorem dX2_init_6 : decode cX2_init 6 = .ok (.putfield 9, 3) := by decide +kernel
theorem dX2_init_9 : decode cX2_init 9 = .ok (.aload_n 0, 1) := by decide +kernel
theorem dX2_init_10 : decode cX2_init 10 = .ok (.iload_n 2, 1) := by decide +kernel
theorem dX2_init_11 : decode cX2_init 11 = .ok (.putfield 15, 3) := by decide +kernel
theorem dX2_init_14 : decode cX2_init 14 = .ok (.aload_n 0, 1) := by decide +kernel
theorem dX2_init_15 : decode cX2_init 15 = .ok (.iload_n 3, 1) := by decide +kernel
theorem dX2_init_16 : decode cX2_init 16 = .ok (.putfield 18, 3) := by decide +kernel
theorem dX2_init_19 : decode cX2_init 19 = .ok (.aload_n 0, 1) := by decide +kernel
theorem dX2_init_20 : decode cX2_init 20 = .ok (.iconst 0, 1) := by decide +kernel
theorem dX2_init_21 : decode cX2_init 21 = .ok (.putfield 21, 3) := by decide +kernel
theorem dX2_init_24 : decode cX2_init 24 = .ok (.aload_n 0, 1) := by decide +kernel
theorem dX2_init_25 : decode cX2_init 25 = .ok (.iconst (-1), 1) := by decide +kernel
theorem dX2_init_26 : decode cX2_init 26 = .ok (.putfield 24, 3) := by decide +kernel
theorem dX2_init_29 : decode cX2_init 29 = .ok (.return_, 1) := by decide +kernel
theorem dX2_isOf_0 : decode cX2_isOf 0 = .ok (.iload_n 1, 1) := by decide +kernel
theorem dX2_isOf_1 : decode cX2_isOf 1 = .ok (.aload_n 0, 1) := by decide +kernel
theorem dX2_isOf_2 : decode cX2_isOf 2 = .ok (.getfield 15, 3) := by decide +kernel
theorem dX2_isOf_5 : decode cX2_isOf 5 = .ok (.if_icmp .eq 11, 3) := by decide +kernel
theorem dX2_isOf_8 : decode cX2_isOf 8 = .ok (.iload_n 1, 1) := by decide +kernel
theorem dX2_isOf_9 : decode cX2_isOf 9 = .ok (.aload_n 0, 1) := by decide +kernel
theorem dX2_isOf_10 : decode cX2_isOf 10 = .ok (.getfield 18, 3) := by decide +kernel
theorem dX2_isOf_13 : decode cX2_isOf 13 = .ok (.if_icmp .ne 7, 3) := by decide +kernel
theorem dX2_isOf_16 : decode cX2_isOf 16 = .ok (.iconst 1, 1) := by decide +kernel
theorem dX2_isOf_17 : decode cX2_isOf 17 = .ok (.goto 4, 3) := by decide +kernel
theorem dX2_isOf_20 : decode cX2_isOf 20 = .ok (.iconst 0, 1) := by decide +kernel
theorem dX2_isOf_21 : decode cX2_isOf 21 = .ok (.ireturn, 1) := by decide +kernel
theorem dX2_heatUp_0 : decode cX2_heatUp 0 = .ok (.aload_n 0, 1) := by decide +kernel
theorem dX2_heatUp_1 : decode cX2_heatUp 1 = .ok (.dup, 1) := by decide +kernel
theorem dX2_heatUp_2 : decode cX2_heatUp 2 = .ok (.getfield 27, 3) := by decide +kernel
theorem dX2_heatUp_5 : decode cX2_heatUp 5 = .ok (.iconst 1, 1) := by decide +kernel
theorem dX2_heatUp_6 : decode cX2_heatUp 6 = .ok (.ior, 1) := by decide +kernel
theorem dX2_heatUp_7 : decode cX2_heatUp 7 = .ok (.putfield 27, 3) := by decide +kernel
theorem dX2_heatUp_10 : decode cX2_heatUp 10 = .ok (.return_, 1) := by decide +kernel
set_option maxRecDepth 20000 in
theorem ggX2_heatOfBlows_J6_bitCount_0f7a4 : GoodIn wsX2_heatOfBlows wsJ6_bitCount_0f7a4 := goodIn_r _ [5, 6, 7, 8] (by decide +kernel) (by decide +kernel)
set_option maxRecDepth 20000 in
theorem gX2_heatOfBlows_J6_bitCount_0f7a4 : GoodIn wsX2_heatOfBlows (va_wsS RX2 30 yJ6_bitCount_0f7a4 wsJ6_bitCount_0f7a4) := goodIn_app (goodIn_of _ (by decide +kernel)) ggX2_heatOfBlows_J6_bitCount_0f7a4
theorem dX2_heatOfBlows_0 : decode cX2_heatOfBlows 0 = .ok (.bipush 10, 2) := by decide +kernel
theorem dX2_heatOfBlows_2 : decode cX2_heatOfBlows 2 = .ok (.aload_n 0, 1) := by decide +kernel
theorem dX2_heatOfBlows_3 : decode cX2_heatOfBlows 3 = .ok (.getfield 27, 3) := by decide +kernel
theorem dX2_heatOfBlows_6 : decode cX2_heatOfBlows 6 = .ok (.bipush 62, 2) := by decide +kernel
theorem dX2_heatOfBlows_8 : decode cX2_heatOfBlows 8 = .ok (.iand, 1) := by decide +kernel
theorem dX2_heatOfBlows_9 : decode cX2_heatOfBlows 9 = .ok (.invokestatic 30, 3) := by decide +kernel
theorem dX2_heatOfBlows_12 : decode cX2_heatOfBlows 12 = .ok (.imul, 1) := by decide +kernel
theorem dX2_heatOfBlows_13 : decode cX2_heatOfBlows 13 = .ok (.ireturn, 1) := by decide +kernel
theorem dX2_letFramePass_0 : decode cX2_letFramePass 0 = .ok (.aload_n 0, 1) := by decide +kernel
theorem dX2_letFramePass_1 : decode cX2_letFramePass 1 = .ok (.dup, 1) := by decide +kernel
theorem dX2_letFramePass_2 : decode cX2_letFramePass 2 = .ok (.getfield 27, 3) := by decide +kernel
theorem dX2_letFramePass_5 : decode cX2_letFramePass 5 = .ok (.iconst 1, 1) := by decide +kernel
theorem dX2_letFramePass_6 : decode cX2_letFramePass 6 = .ok (.ishl, 1) := by decide +kernel
theorem dX2_letFramePass_7 : decode cX2_letFramePass 7 = .ok (.putfield 27, 3) := by decide +kernel
theorem dX2_letFramePass_10 : decode cX2_letFramePass 10 = .ok (.return_, 1) := by decide +kernel
set_option maxRecDepth 20000 in
theorem ggX3_init_Jx4a65c_init_da8c8 : GoodIn wsX3_init wsJx4a65c_init_da8c8 := goodIn_r _ [23, 24, 25, 26, 27, 28, 29, 30, 31, 32, 33, 34, 35, 2, 3, 51, 52, 53] (by decide +kernel) (by decide +kernel)
set_option maxRecDepth 20000 in
theorem gX3_init_Jx4a65c_init_da8c8 : GoodIn wsX3_init (wsJx4a65c_init_da8c8) := ggX3_init_Jx4a65c_init_da8c8
theorem dX3_init_0 : decode cX3_init 0 = .ok (.aload_n 0, 1) := by decide +kernel
theorem dX3_init_1 : decode cX3_init 1 = .ok (.invokespecial 1, 3) := by decide +kernel
theorem dX3_init_4 : decode cX3_init 4 = .ok (.aload_n 0, 1) := by decide +kernel
theorem dX3_init_5 : decode cX3_init 5 = .ok (.bipush 10, 2) := by decide +kernel
theorem dX3_init_7 : decode cX3_init 7 = .ok (.newarray .int, 2) := by decide +kernel
theorem dX3_init_9 : decode cX3_init 9 = .ok (.putfield 9, 3) := by decide +kernel
theorem dX3_init_12 : decode cX3_init 12 = .ok (.aload_n 0, 1) := by decide +kernel
theorem dX3_init_13 : decode cX3_init 13 = .ok (.bipush 10, 2) := by decide +kernel
theorem dX3_init_15 : decode cX3_init 15 = .ok (.newarray .int, 2) := by decide +kernel
theorem dX3_init_17 : decode cX3_init 17 = .ok (.putfield 13, 3) := by decide +kernel
theorem dX3_init_20 : decode cX3_init 20 = .ok (.aload_n 0, 1) := by decide +kernel
theorem dX3_init_21 : decode cX3_init 21 = .ok (.new 16, 3) := by decide +kernel
theorem dX3_init_24 : decode cX3_init 24 = .ok (.dup, 1) := by decide +kernel
theorem dX3_init_25 : decode cX3_init 25 = .ok (.invokespecial 18, 3) := by decide +kernel
theorem dX3_init_28 : decode cX3_init 28 = .ok (.putfield 19, 3) := by decide +kernel
theorem dX3_init_31 : decode cX3_init 31 = .ok (.aload_n 0, 1) := by decide +kernel
theorem dX3_init_32 : decode cX3_init 32 = .ok (.new 16, 3) := by decide +kernel
theorem dX3_init_35 : decode cX3_init 35 = .ok (.dup, 1) := by decide +kernel
theorem dX3_init_36 : decode cX3_init 36 = .ok (.invokespecial 18, 3) := by decide +kernel
theorem dX3_init_39 : decode cX3_init 39 = .ok (.putfield 23, 3) := by decide +kernel
theorem dX3_init_42 : decode cX3_init 42 = .ok (.aload_n 0, 1) := by decide +kernel
theorem dX3_init_43 : decode cX3_init 43 = .ok (.new 16, 3) := by decide +kernel
theorem dX3_init_46 : decode cX3_init 46 = .ok (.dup, 1) := by decide +kernel
theorem dX3_init_47 : decode cX3_init 47 = .ok (.invokespecial 18, 3) := by decide +kernel
theorem dX3_init_50 : decode cX3_init 50 = .ok (.putfield 26, 3) := by decide +kernel
theorem dX3_init_53 : decode cX3_init 53 = .ok (.aload_n 0, 1) := by decide +kernel
theorem dX3_init_54 : decode cX3_init 54 = .ok (.bipush 6, 2) := by decide +kernel
theorem dX3_init_56 : decode cX3_init 56 = .ok (.newarray .int, 2) := by decide +kernel
theorem dX3_init_58 : decode cX3_init 58 = .ok (.putfield 29, 3) := by decide +kernel
theorem dX3_init_61 : decode cX3_init 61 = .ok (.aload_n 0, 1) := by decide +kernel
theorem dX3_init_62 : decode cX3_init 62 = .ok (.bipush 6, 2) := by decide +kernel
theorem dX3_init_64 : decode cX3_init 64 = .ok (.newarray .int, 2) := by decide +kernel
theorem dX3_init_66 : decode cX3_init 66 = .ok (.putfield 32, 3) := by decide +kernel
theorem dX3_init_69 : decode cX3_init 69 = .ok (.aload_n 0, 1) := by decide +kernel
theorem dX3_init_70 : decode cX3_init 70 = .ok (.bipush 6, 2) := by decide +kernel
theorem dX3_init_72 : decode cX3_init 72 = .ok (.newarray .int, 2) := by decide +kernel
theorem dX3_init_74 : decode cX3_init 74 = .ok (.putfield 35, 3) := by decide +kernel
theorem dX3_init_77 : decode cX3_init 77 = .ok (.aload_n 0, 1) := by decide +kernel
theorem dX3_init_78 : decode cX3_init 78 = .ok (.bipush 10, 2) := by decide +kernel
theorem dX3_init_80 : decode cX3_init 80 = .ok (.putfield 38, 3) := by decide +kernel
theorem dX3_init_83 : decode cX3_init 83 = .ok (.aload_n 0, 1) := by decide +kernel
theorem dX3_init_84 : decode cX3_init 84 = .ok (.iconst (-1), 1) := by decide +kernel
theorem dX3_init_85 : decode cX3_init 85 = .ok (.putfield 42, 3) := by decide +kernel
theorem dX3_init_88 : decode cX3_init 88 = .ok (.aload_n 0, 1) := by decide +kernel
theorem dX3_init_89 : decode cX3_init 89 = .ok (.sipush 3000, 3) := by decide +kernel
theorem dX3_init_92 : decode cX3_init 92 = .ok (.newarray .int, 2) := by decide +kernel
theorem dX3_init_94 : decode cX3_init 94 = .ok (.putfield 45, 3) := by decide +kernel
theorem dX3_init_97 : decode cX3_init 97 = .ok (.aload_n 0, 1) := by decide +kernel
theorem dX3_init_98 : decode cX3_init 98 = .ok (.sipush 3000, 3) := by decide +kernel
theorem dX3_init_101 : decode cX3_init 101 = .ok (.newarray .int, 2) := by decide +kernel
theorem dX3_init_103 : decode cX3_init 103 = .ok (.putfield 48, 3) := by decide +kernel
theorem dX3_init_106 : decode cX3_init 106 = .ok (.aload_n 0, 1) := by decide +kernel
theorem dX3_init_107 : decode cX3_init 107 = .ok (.sipush 3000, 3) := by decide +kernel
theorem dX3_init_110 : decode cX3_init 110 = .ok (.newarray .int, 2) := by decide +kernel
theorem dX3_init_112 : decode cX3_init 112 = .ok (.putfield 51, 3) := by decide +kernel
theorem dX3_init_115 : decode cX3_init 115 = .ok (.return_, 1) := by decide +kernel
set_option maxRecDepth 20000 in
theorem ggX3_rank_X3_checkPlayer : GoodIn wsX3_rank wsX3_checkPlayer := goodIn_ca (goodIn_r _ [5, 6, 7] (by decide +kernel) (by decide +kernel)) (goodIn_sub (fun _ h => List.mem_cons_of_mem _ (List.mem_append_left _ (List.mem_append_right _ h))) (by decide +kernel))
set_option maxRecDepth 20000 in
theorem gX3_rank_X3_checkPlayer : GoodIn wsX3_rank (va_wsS RX3 54 yX3_checkPlayer wsX3_checkPlayer) := goodIn_app (goodIn_of _ (by decide +kernel)) ggX3_rank_X3_checkPlayer
set_option maxRecDepth 20000 in
theorem ggX3_rank_X3_checkRange : GoodIn wsX3_rank wsX3_checkRange := goodIn_ca (goodIn_r _ [10, 11, 12] (by decide +kernel) (by decide +kernel)) (goodIn_sub (fun _ h => List.mem_cons_of_mem _ (List.mem_append_right _ h)) (by decide +kernel))
set_option maxRecDepth 20000 in
theorem gX3_rank_X3_checkRange : GoodIn wsX3_rank (va_wsS RX3 58 yX3_checkRange wsX3_checkRange) := goodIn_app (goodIn_of _ (by decide +kernel)) ggX3_rank_X3_checkRange
theorem dX3_rank_0 : decode cX3_rank 0 = .ok (.iload_n 1, 1) := by decide +kernel
theorem dX3_rank_1 : decode cX3_rank 1 = .ok (.invokestatic 54, 3) := by decide +kernel
theorem dX3_rank_4 : decode cX3_rank 4 = .ok (.iload_n 2, 1) := by decide +kernel
theorem dX3_rank_5 : decode cX3_rank 5 = .ok (.iconst 0, 1) := by decide +kernel
theorem dX3_rank_6 : decode cX3_rank 6 = .ok (.bipush 99, 2) := by decide +kernel
theorem dX3_rank_8 : decode cX3_rank 8 = .ok (.invokestatic 58, 3) := by decide +kernel
theorem dX3_rank_11 : decode cX3_rank 11 = .ok (.aload_n 0, 1) := by decide +kernel
theorem dX3_rank_12 : decode cX3_rank 12 = .ok (.getfield 9, 3) := by decide +kernel
theorem dX3_rank_15 : decode cX3_rank 15 = .ok (.iload_n 1, 1) := by decide +kernel
theorem dX3_rank_16 : decode cX3_rank 16 = .ok (.iaload, 1) := by decide +kernel
theorem dX3_rank_17 : decode cX3_rank 17 = .ok (.istore_n 3, 1) := by decide +kernel
theorem dX3_rank_18 : decode cX3_rank 18 = .ok (.aload_n 0, 1) := by decide +kernel
theorem dX3_rank_19 : decode cX3_rank 19 = .ok (.getfield 9, 3) := by decide +kernel
theorem dX3_rank_22 : decode cX3_rank 22 = .ok (.iload_n 1, 1) := by decide +kernel
theorem dX3_rank_23 : decode cX3_rank 23 = .ok (.iload_n 2, 1) := by decide +kernel
theorem dX3_rank_24 : decode cX3_rank 24 = .ok (.iastore, 1) := by decide +kernel
theorem dX3_rank_25 : decode cX3_rank 25 = .ok (.iload_n 3, 1) := by decide +kernel
theorem dX3_rank_26 : decode cX3_rank 26 = .ok (.ireturn, 1) := by decide +kernel
set_option maxRecDepth 20000 in
theorem ggX3_fight_X3_checkPlayer : GoodIn wsX3_fight wsX3_checkPlayer := goodIn_ca (goodIn_r _ [6, 7, 8] (by decide +kernel) (by decide +kernel)) (goodIn_sub (fun _ h => List.mem_cons_of_mem _ (List.mem_append_left _ (List.mem_append_right _ h))) (by decide +kernel))
set_option maxRecDepth 20000 in
theorem gX3_fight_X3_checkPlayer : GoodIn wsX3_fight (va_wsS RX3 54 yX3_checkPlayer wsX3_checkPlayer) := goodIn_app (goodIn_of _ (by decide +kernel)) ggX3_fight_X3_checkPlayer
set_option maxRecDepth 20000 in
theorem ggX3_fight_X3_checkCanBegin : GoodIn wsX3_fight wsX3_checkCanBegin := goodIn_ca (goodIn_r _ [12, 13, 14, 15, 16, 17, 18, 19, 20, 21, 22, 23, 24, 25, 26, 27, 28, 29, 30, 31, 32, 33, 34, 35, 36, 37, 38, 39, 40, 41, 42, 43, 44, 45, 46, 47, 116, 117, 118, 119, 120, 121, 122, 123, 124, 125, 126, 127, 128, 129, 130, 131, 132, 133, 134, 135, 136, 137, 138, 139, 140] (by decide +kernel) (by decide +kernel)) (goodIn_sub (fun _ h => List.mem_cons_of_mem _ (List.mem_append_right _ h)) (by decide +kernel))
set_option maxRecDepth 20000 in
theorem gX3_fight_X3_checkCanBegin : GoodIn wsX3_fight (wsV RX3 69 RX3 yX3_checkCanBegin wsX3_checkCanBegin) := goodIn_app (goodIn_of _ (by decide +kernel)) ggX3_fight_X3_checkCanBegin
set_option maxRecDepth 20000 in
theorem ggX3_fight_X3_begin : GoodIn wsX3_fight wsX3_begin := goodIn_r _ [51, 15, 52, 53, 44, 18, 19, 20, 21, 22, 23, 54, 55, 56, 57, 58, 59, 60, 46, 47, 61, 62, 63, 64, 65, 66, 67, 68, 40, 69, 70, 71, 72, 73, 74, 75, 76, 77, 78, 79, 80, 81, 82, 83, 84, 85, 86, 87, 88, 89, 90, 91, 92, 93, 94, 95, 96, 97, 98, 99, 100, 101, 102, 103, 104, 105, 106, 107, 108, 109, 110, 111, 112, 113, 114, 115, 116, 117, 118, 119, 120, 121, 122, 123, 124, 125, 126, 127, 128, 129, 130, 131, 132, 133, 134, 135, 136, 137, 138, 139, 140] (by decide +kernel) (by decide +kernel)
set_option maxRecDepth 20000 in
theorem gX3_fight_X3_begin : GoodIn wsX3_fight (wsV RX3 73 RX3 yX3_begin wsX3_begin) := goodIn_app (goodIn_of _ (by decide +kernel)) ggX3_fight_X3_begin
theorem dX3_fight_0 : decode cX3_fight 0 = .ok (.iload_n 1, 1) := by decide +kernel
theorem dX3_fight_1 : decode cX3_fight 1 = .ok (.invokestatic 54, 3) := by decide +kernel
theorem dX3_fight_4 : decode cX3_fight 4 = .ok (.iload_n 2, 1) := by decide +kernel
theorem dX3_fight_5 : decode cX3_fight 5 = .ok (.invokestatic 54, 3) := by decide +kernel
theorem dX3_fight_8 : decode cX3_fight 8 = .ok (.iload_n 1, 1) := by decide +kernel
theorem dX3_fight_9 : decode cX3_fight 9 = .ok (.iload_n 2, 1) := by decide +kernel
theorem dX3_fight_10 : decode cX3_fight 10 = .ok (.if_icmp .ne 13, 3) := by decide +kernel
theorem dX3_fight_13 : decode cX3_fight 13 = .ok (.new 62, 3) := by decide +kernel
theorem dX3_fight_16 : decode cX3_fight 16 = .ok (.dup, 1) := by decide +kernel
theorem dX3_fight_17 : decode cX3_fight 17 = .ok (.ldc 64, 2) := by decide +kernel
theorem dX3_fight_19 : decode cX3_fight 19 = .ok (.invokespecial 66, 3) := by decide +kernel
theorem dX3_fight_22 : decode cX3_fight 22 = .ok (.athrow, 1) := by decide +kernel
theorem dX3_fight_23 : decode cX3_fight 23 = .ok (.aload_n 0, 1) := by decide +kernel
theorem dX3_fight_24 : decode cX3_fight 24 = .ok (.iload_n 1, 1) := by decide +kernel
theorem dX3_fight_25 : decode cX3_fight 25 = .ok (.iload_n 2, 1) := by decide +kernel
theorem dX3_fight_26 : decode cX3_fight 26 = .ok (.invokevirtual 69, 3) := by decide +kernel
theorem dX3_fight_29 : decode cX3_fight 29 = .ok (.aload_n 0, 1) := by decide +kernel
theorem dX3_fight_30 : decode cX3_fight 30 = .ok (.iload_n 1, 1) := by decide +kernel
theorem dX3_fight_31 : decode cX3_fight 31 = .ok (.iload_n 2, 1) := by decide +kernel
theorem dX3_fight_32 : decode cX3_fight 32 = .ok (.invokevirtual 73, 3) := by decide +kernel
theorem dX3_fight_35 : decode cX3_fight 35 = .ok (.ireturn, 1) := by decide +kernel
set_option maxRecDepth 20000 in
theorem ggX3_end_X3_fightNumbered : GoodIn wsX3_end wsX3_fightNumbered := goodIn_ca (goodIn_r _ [11, 12, 13, 14, 15, 16, 17, 18, 19, 20, 21, 22, 23, 24, 25, 26, 27, 28, 29, 30, 31, 32, 33, 34, 35, 36, 37, 38, 55, 56, 57, 58, 59, 60, 61, 62, 63, 64, 65, 66, 67, 68, 69, 77, 78, 79] (by decide +kernel) (by decide +kernel)) (goodIn_sub (fun _ h => List.mem_cons_of_mem _ (List.mem_append_left _ (List.mem_append_right _ h))) (by decide +kernel))
set_option maxRecDepth 20000 in
theorem gX3_end_X3_fightNumbered : GoodIn wsX3_end (wsV RX3 77 RX3 yX3_fightNumbered wsX3_fightNumbered) := goodIn_app (goodIn_of _ (by decide +kernel)) ggX3_end_X3_fightNumbered
set_option maxRecDepth 20000 in
theorem ggX3_end_X3_checkGoesOn : GoodIn wsX3_end wsX3_checkGoesOn := goodIn_ca (goodIn_r _ [41, 42, 43, 4, 70, 71, 72, 73, 74, 75, 76] (by decide +kernel) (by decide +kernel)) (goodIn_sub (fun _ h => List.mem_cons_of_mem _ (List.mem_append_right _ h)) (by decide +kernel))
set_option maxRecDepth 20000 in
theorem gX3_end_X3_checkGoesOn : GoodIn wsX3_end (va_wsS RX3 81 yX3_checkGoesOn wsX3_checkGoesOn) := goodIn_app (goodIn_of _ (by decide +kernel)) ggX3_end_X3_checkGoesOn
set_option maxRecDepth 20000 in
theorem ggX3_end_X3_pointsUpTo : GoodIn wsX3_end wsX3_pointsUpTo := goodIn_r _ [47, 48, 49, 50, 51, 52, 53, 54, 16, 17, 18, 19, 20, 21, 22, 23, 24, 25, 26, 27, 28, 29, 30, 31, 32, 33, 34, 35, 36, 37, 38, 55, 56, 57, 58, 59, 60, 61, 62, 63, 64, 65, 66, 67, 68, 69, 80, 81, 82, 83, 84, 77, 78, 79] (by decide +kernel) (by decide +kernel)
set_option maxRecDepth 20000 in
theorem gX3_end_X3_pointsUpTo : GoodIn wsX3_end (wsV RX3 93 RX3 yX3_pointsUpTo wsX3_pointsUpTo) := goodIn_app (goodIn_of _ (by decide +kernel)) ggX3_end_X3_pointsUpTo
theorem dX3_end_0 : decode cX3_end 0 = .ok (.aload_n 0, 1) := by decide +kernel
theorem dX3_end_1 : decode cX3_end 1 = .ok (.iload_n 1, 1) := by decide +kernel
theorem dX3_end_2 : decode cX3_end 2 = .ok (.invokevirtual 77, 3) := by decide +kernel
theorem dX3_end_5 : decode cX3_end 5 = .ok (.astore_n 2, 1) := by decide +kernel
theorem dX3_end_6 : decode cX3_end 6 = .ok (.aload_n 2, 1) := by decide +kernel
theorem dX3_end_7 : decode cX3_end 7 = .ok (.invokestatic 81, 3) := by decide +kernel
theorem dX3_end_10 : decode cX3_end 10 = .ok (.aload_n 0, 1) := by decide +kernel
theorem dX3_end_11 : decode cX3_end 11 = .ok (.aload_n 0, 1) := by decide +kernel
theorem dX3_end_12 : decode cX3_end 12 = .ok (.getfield 85, 3) := by decide +kernel
theorem dX3_end_15 : decode cX3_end 15 = .ok (.aload_n 2, 1) := by decide +kernel
theorem dX3_end_16 : decode cX3_end 16 = .ok (.aload_n 2, 1) := by decide +kernel
theorem dX3_end_17 : decode cX3_end 17 = .ok (.getfield 88, 3) := by decide +kernel
theorem dX3_end_20 : decode cX3_end 20 = .ok (.invokevirtual 93, 3) := by decide +kernel
theorem dX3_end_23 : decode cX3_end 23 = .ok (.istore_n 3, 1) := by decide +kernel
theorem dX3_end_24 : decode cX3_end 24 = .ok (.aload_n 0, 1) := by decide +kernel
theorem dX3_end_25 : decode cX3_end 25 = .ok (.aload_n 0, 1) := by decide +kernel
theorem dX3_end_26 : decode cX3_end 26 = .ok (.getfield 85, 3) := by decide +kernel
theorem dX3_end_29 : decode cX3_end 29 = .ok (.aload_n 2, 1) := by decide +kernel
theorem dX3_end_30 : decode cX3_end 30 = .ok (.aload_n 2, 1) := by decide +kernel
theorem dX3_end_31 : decode cX3_end 31 = .ok (.getfield 97, 3) := by decide +kernel
theorem dX3_end_34 : decode cX3_end 34 = .ok (.invokevirtual 93, 3) := by decide +kernel
theorem dX3_end_37 : decode cX3_end 37 = .ok (.istore 4, 2) := by decide +kernel
theorem dX3_end_39 : decode cX3_end 39 = .ok (.aload_n 2, 1) := by decide +kernel
theorem dX3_end_40 : decode cX3_end 40 = .ok (.iconst 1, 1) := by decide +kernel
theorem dX3_end_41 : decode cX3_end 41 = .ok (.putfield 100, 3) := by decide +kernel
theorem dX3_end_44 : decode cX3_end 44 = .ok (.iload_n 3, 1) := by decide +kernel
theorem dX3_end_45 : decode cX3_end 45 = .ok (.iload 4, 2) := by decide +kernel
theorem dX3_end_47 : decode cX3_end 47 = .ok (.if_icmp .eq 37, 3) := by decide +kernel
theorem dX3_end_50 : decode cX3_end 50 = .ok (.aload_n 2, 1) := by decide +kernel
theorem dX3_end_51 : decode cX3_end 51 = .ok (.iload_n 3, 1) := by decide +kernel
theorem dX3_end_52 : decode cX3_end 52 = .ok (.iload 4, 2) := by decide +kernel
theorem dX3_end_54 : decode cX3_end 54 = .ok (.if_icmp .le 10, 3) := by decide +kernel
theorem dX3_end_57 : decode cX3_end 57 = .ok (.aload_n 2, 1) := by decide +kernel
theorem dX3_end_58 : decode cX3_end 58 = .ok (.getfield 88, 3) := by decide +kernel
theorem dX3_end_61 : decode cX3_end 61 = .ok (.goto 7, 3) := by decide +kernel
theorem dX3_end_64 : decode cX3_end 64 = .ok (.aload_n 2, 1) := by decide +kernel
theorem dX3_end_65 : decode cX3_end 65 = .ok (.getfield 97, 3) := by decide +kernel
theorem dX3_end_68 : decode cX3_end 68 = .ok (.putfield 103, 3) := by decide +kernel
theorem dX3_end_71 : decode cX3_end 71 = .ok (.aload_n 0, 1) := by decide +kernel
theorem dX3_end_72 : decode cX3_end 72 = .ok (.getfield 13, 3) := by decide +kernel
theorem dX3_end_75 : decode cX3_end 75 = .ok (.aload_n 2, 1) := by decide +kernel
theorem dX3_end_76 : decode cX3_end 76 = .ok (.getfield 103, 3) := by decide +kernel
theorem dX3_end_79 : decode cX3_end 79 = .ok (.dup2, 1) := by decide +kernel
theorem dX3_end_80 : decode cX3_end 80 = .ok (.iaload, 1) := by decide +kernel
theorem dX3_end_81 : decode cX3_end 81 = .ok (.iconst 1, 1) := by decide +kernel
theorem dX3_end_82 : decode cX3_end 82 = .ok (.iadd, 1) := by decide +kernel
theorem dX3_end_83 : decode cX3_end 83 = .ok (.iastore, 1) := by decide +kernel
theorem dX3_end_84 : decode cX3_end 84 = .ok (.aload_n 2, 1) := by decide +kernel
theorem dX3_end_85 : decode cX3_end 85 = .ok (.getfield 103, 3) := by decide +kernel
theorem dX3_end_88 : decode cX3_end 88 = .ok (.ireturn, 1) := by decide +kernel
set_option maxRecDepth 20000 in
theorem ggX3_replay_X3_fightNumbered : GoodIn wsX3_replay wsX3_fightNumbered := goodIn_ca (goodIn_r _ [12, 13, 14, 15, 16, 17, 18, 19, 20, 21, 22, 23, 24, 25, 26, 27, 28, 29, 30, 31, 32, 33, 34, 35, 36, 37, 38, 39, 143, 144, 145, 146, 147, 148, 149, 150, 151, 152, 153, 154, 155, 156, 157, 158, 159, 160] (by decide +kernel) (by decide +kernel)) (goodIn_sub (fun _ h => List.mem_cons_of_mem _ (List.mem_append_right _ h)) (by decide +kernel))
set_option maxRecDepth 20000 in
theorem gX3_replay_X3_fightNumbered : GoodIn wsX3_replay (wsV RX3 77 RX3 yX3_fightNumbered wsX3_fightNumbered) := goodIn_app (goodIn_of _ (by decide +kernel)) ggX3_replay_X3_fightNumbered
set_option maxRecDepth 20000 in
theorem ggX3_replay_X3_checkCanBegin : GoodIn wsX3_replay wsX3_checkCanBegin := goodIn_ca (goodIn_r _ [43, 1, 2, 15, 16, 3, 17, 18, 19, 20, 21, 22, 23, 24, 25, 26, 27, 28, 29, 30, 31, 32, 33, 34, 35, 36, 37, 38, 39, 44, 45, 46, 47, 48, 49, 50, 143, 144, 145, 146, 147, 148, 149, 150, 151, 152, 153, 154, 155, 156, 157, 136, 137, 138, 139, 140, 141, 142, 158, 159, 160] (by decide +kernel) (by decide +kernel)) (goodIn_sub (fun _ h => List.mem_cons_of_mem _ (List.mem_append_left _ (List.mem_append_right _ h))) (by decide +kernel))
set_option maxRecDepth 20000 in
theorem gX3_replay_X3_checkCanBegin : GoodIn wsX3_replay (wsV RX3 69 RX3 yX3_checkCanBegin wsX3_checkCanBegin) := goodIn_app (goodIn_of _ (by decide +kernel)) ggX3_replay_X3_checkCanBegin
set_option maxRecDepth 20000 in
theorem ggX3_replay_X3_strikeAllOf : GoodIn wsX3_replay wsX3_strikeAllOf := goodIn_r _ [54, 55, 56, 57, 58, 17, 18, 19, 20, 21, 22, 23, 24, 25, 26, 27, 28, 29, 30, 31, 32, 33, 34, 35, 36, 37, 38, 39, 143, 144, 145, 146, 147, 148, 149, 150, 151, 152, 153, 154, 155, 156, 157, 161, 162, 163, 164, 165, 158, 159, 160] (by decide +kernel) (by decide +kernel)
set_option maxRecDepth 20000 in
theorem gX3_replay_X3_strikeAllOf : GoodIn wsX3_replay (wsV RX3 111 RX3 yX3_strikeAllOf wsX3_strikeAllOf) := goodIn_app (goodIn_of _ (by decide +kernel)) ggX3_replay_X3_strikeAllOf
set_option maxRecDepth 20000 in
theorem ggX3_replay_X3_uncountFramesOf : GoodIn wsX3_replay wsX3_uncountFramesOf := goodIn_r _ [62, 63, 64, 65, 66, 67, 143, 144, 145, 146, 147, 148, 149, 150, 151, 152, 153, 154, 155, 156, 157, 136, 137, 138, 139, 140, 141, 142] (by decide +kernel) (by decide +kernel)
set_option maxRecDepth 20000 in
theorem gX3_replay_X3_uncountFramesOf : GoodIn wsX3_replay (wsV RX3 114 RX3 yX3_uncountFramesOf wsX3_uncountFramesOf) := goodIn_app (goodIn_of _ (by decide +kernel)) ggX3_replay_X3_uncountFramesOf
set_option maxRecDepth 20000 in
theorem ggX3_replay_X3_begin : GoodIn wsX3_replay wsX3_begin := goodIn_r _ [71, 15, 72, 73, 47, 17, 18, 19, 20, 21, 22, 74, 75, 76, 77, 78, 79, 80, 49, 50, 81, 82, 83, 84, 85, 86, 87, 88, 39, 89, 90, 91, 92, 93, 94, 95, 96, 97, 98, 99, 100, 101, 102, 103, 104, 105, 106, 107, 108, 109, 110, 111, 112, 113, 114, 115, 116, 117, 118, 119, 120, 121, 122, 123, 124, 125, 126, 127, 128, 129, 130, 131, 132, 133, 134, 135, 143, 144, 145, 146, 147, 148, 149, 150, 151, 152, 153, 154, 155, 156, 157, 136, 137, 138, 139, 140, 141, 142, 158, 159, 160] (by decide +kernel) (by decide +kernel)
set_option maxRecDepth 20000 in
theorem gX3_replay_X3_begin : GoodIn wsX3_replay (wsV RX3 73 RX3 yX3_begin wsX3_begin) := goodIn_app (goodIn_of _ (by decide +kernel)) ggX3_replay_X3_begin
theorem dX3_replay_0 : decode cX3_replay 0 = .ok (.aload_n 0, 1) := by decide +kernel
theorem dX3_replay_1 : decode cX3_replay 1 = .ok (.iload_n 1, 1) := by decide +kernel
theorem dX3_replay_2 : decode cX3_replay 2 = .ok (.invokevirtual 77, 3) := by decide +kernel
theorem dX3_replay_5 : decode cX3_replay 5 = .ok (.astore_n 2, 1) := by decide +kernel
theorem dX3_replay_6 : decode cX3_replay 6 = .ok (.aload_n 2, 1) := by decide +kernel
theorem dX3_replay_7 : decode cX3_replay 7 = .ok (.getfield 100, 3) := by decide +kernel
theorem dX3_replay_10 : decode cX3_replay 10 = .ok (.iconst 1, 1) := by decide +kernel
theorem dX3_replay_11 : decode cX3_replay 11 = .ok (.if_icmp .eq 13, 3) := by decide +kernel
theorem dX3_replay_14 : decode cX3_replay 14 = .ok (.new 106, 3) := by decide +kernel
theorem dX3_replay_17 : decode cX3_replay 17 = .ok (.dup, 1) := by decide +kernel
theorem dX3_replay_18 : decode cX3_replay 18 = .ok (.ldc 108, 2) := by decide +kernel
theorem dX3_replay_20 : decode cX3_replay 20 = .ok (.invokespecial 110, 3) := by decide +kernel
theorem dX3_replay_23 : decode cX3_replay 23 = .ok (.athrow, 1) := by decide +kernel
theorem dX3_replay_24 : decode cX3_replay 24 = .ok (.aload_n 0, 1) := by decide +kernel
theorem dX3_replay_25 : decode cX3_replay 25 = .ok (.aload_n 2, 1) := by decide +kernel
theorem dX3_replay_26 : decode cX3_replay 26 = .ok (.getfield 88, 3) := by decide +kernel
theorem dX3_replay_29 : decode cX3_replay 29 = .ok (.aload_n 2, 1) := by decide +kernel
theorem dX3_replay_30 : decode cX3_replay 30 = .ok (.getfield 97, 3) := by decide +kernel
theorem dX3_replay_33 : decode cX3_replay 33 = .ok (.invokevirtual 69, 3) := by decide +kernel
theorem dX3_replay_36 : decode cX3_replay 36 = .ok (.aload_n 2, 1) := by decide +kernel
theorem dX3_replay_37 : decode cX3_replay 37 = .ok (.getfield 103, 3) := by decide +kernel
theorem dX3_replay_40 : decode cX3_replay 40 = .ok (.iconst (-1), 1) := by decide +kernel
theorem dX3_replay_41 : decode cX3_replay 41 = .ok (.if_icmp .eq 21, 3) := by decide +kernel
theorem dX3_replay_44 : decode cX3_replay 44 = .ok (.aload_n 0, 1) := by decide +kernel
theorem dX3_replay_45 : decode cX3_replay 45 = .ok (.getfield 13, 3) := by decide +kernel
theorem dX3_replay_48 : decode cX3_replay 48 = .ok (.aload_n 2, 1) := by decide +kernel
theorem dX3_replay_49 : decode cX3_replay 49 = .ok (.getfield 103, 3) := by decide +kernel
theorem dX3_replay_52 : decode cX3_replay 52 = .ok (.dup2, 1) := by decide +kernel
theorem dX3_replay_53 : decode cX3_replay 53 = .ok (.iaload, 1) := by decide +kernel
theorem dX3_replay_54 : decode cX3_replay 54 = .ok (.iconst 1, 1) := by decide +kernel
theorem dX3_replay_55 : decode cX3_replay 55 = .ok (.isub, 1) := by decide +kernel
theorem dX3_replay_56 : decode cX3_replay 56 = .ok (.iastore, 1) := by decide +kernel
theorem dX3_replay_57 : decode cX3_replay 57 = .ok (.aload_n 2, 1) := by decide +kernel
theorem dX3_replay_58 : decode cX3_replay 58 = .ok (.iconst (-1), 1) := by decide +kernel
theorem dX3_replay_59 : decode cX3_replay 59 = .ok (.putfield 103, 3) := by decide +kernel
theorem dX3_replay_62 : decode cX3_replay 62 = .ok (.aload_n 2, 1) := by decide +kernel
theorem dX3_replay_63 : decode cX3_replay 63 = .ok (.iconst 2, 1) := by decide +kernel
theorem dX3_replay_64 : decode cX3_replay 64 = .ok (.putfield 100, 3) := by decide +kernel
theorem dX3_replay_67 : decode cX3_replay 67 = .ok (.aload_n 0, 1) := by decide +kernel
theorem dX3_replay_68 : decode cX3_replay 68 = .ok (.aload_n 2, 1) := by decide +kernel
theorem dX3_replay_69 : decode cX3_replay 69 = .ok (.invokevirtual 111, 3) := by decide +kernel
theorem dX3_replay_72 : decode cX3_replay 72 = .ok (.aload_n 0, 1) := by decide +kernel
theorem dX3_replay_73 : decode cX3_replay 73 = .ok (.aload_n 2, 1) := by decide +kernel
theorem dX3_replay_74 : decode cX3_replay 74 = .ok (.invokevirtual 114, 3) := by decide +kernel
theorem dX3_replay_77 : decode cX3_replay 77 = .ok (.aload_n 0, 1) := by decide +kernel
theorem dX3_replay_78 : decode cX3_replay 78 = .ok (.aload_n 2, 1) := by decide +kernel
theorem dX3_replay_79 : decode cX3_replay 79 = .ok (.getfield 88, 3) := by decide +kernel
theorem dX3_replay_82 : decode cX3_replay 82 = .ok (.aload_n 2, 1) := by decide +kernel
theorem dX3_replay_83 : decode cX3_replay 83 = .ok (.getfield 97, 3) := by decide +kernel
theorem dX3_replay_86 : decode cX3_replay 86 = .ok (.invokevirtual 73, 3) := by decide +kernel
theorem dX3_replay_89 : decode cX3_replay 89 = .ok (.ireturn, 1) := by decide +kernel
set_option maxRecDepth 20000 in
theorem ggX3_camera_X3_checkRange : GoodIn wsX3_camera wsX3_checkRange := goodIn_ca (goodIn_r _ [10, 11, 12] (by decide +kernel) (by decide +kernel)) (goodIn_sub (fun _ h => List.mem_cons_of_mem _ (List.mem_append_right _ h)) (by decide +kernel))
set_option maxRecDepth 20000 in
theorem gX3_camera_X3_checkRange : GoodIn wsX3_camera (va_wsS RX3 58 yX3_checkRange wsX3_checkRange) := goodIn_app (goodIn_of _ (by decide +kernel)) ggX3_camera_X3_checkRange
set_option maxRecDepth 20000 in
theorem ggX3_camera_Jx4a65c_size_8abf5 : GoodIn wsX3_camera wsJx4a65c_size_8abf5 := goodIn_r _ [17, 18, 100, 101, 102] (by decide +kernel) (by decide +kernel)
set_option maxRecDepth 20000 in
theorem gX3_camera_Jx4a65c_size_8abf5 : GoodIn wsX3_camera (wsV RX3 117 RJx4a65c yJx4a65c_size_8abf5 wsJx4a65c_size_8abf5) := goodIn_app (goodIn_of _ (by decide +kernel)) ggX3_camera_Jx4a65c_size_8abf5
set_option maxRecDepth 20000 in
theorem ggX3_camera_X0_init : GoodIn wsX3_camera wsX0_init := goodIn_r _ [21, 22, 23, 24, 25, 26, 96, 97, 98, 99] (by decide +kernel) (by decide +kernel)
set_option maxRecDepth 20000 in
theorem gX3_camera_X0_init : GoodIn wsX3_camera (wsX0_init) := ggX3_camera_X0_init
set_option maxRecDepth 20000 in
theorem ggX3_camera_Jx4a65c_add_9ea2d : GoodIn wsX3_camera wsJx4a65c_add_9ea2d := goodIn_r _ [30, 31, 32, 33, 18, 34, 35, 36, 16, 37, 38, 39, 40, 41, 42, 43, 44, 45, 46, 47, 48, 49, 50, 51, 52, 53, 54, 55, 56, 57, 58, 59, 60, 61, 62, 63, 64, 65, 66, 67, 68, 69, 70, 71, 72, 73, 74, 75, 76, 77, 78, 79, 80, 100, 101, 102] (by decide +kernel) (by decide +kernel)
set_option maxRecDepth 20000 in
theorem gX3_camera_Jx4a65c_add_9ea2d : GoodIn wsX3_camera (wsV RX3 127 RJx4a65c yJx4a65c_add_9ea2d wsJx4a65c_add_9ea2d) := goodIn_app (goodIn_of _ (by decide +kernel)) ggX3_camera_Jx4a65c_add_9ea2d
theorem dX3_camera_0 : decode cX3_camera 0 = .ok (.iload_n 1, 1) := by decide +kernel
theorem dX3_camera_1 : decode cX3_camera 1 = .ok (.iconst 1, 1) := by decide +kernel
theorem dX3_camera_2 : decode cX3_camera 2 = .ok (.bipush 60, 2) := by decide +kernel
theorem dX3_camera_4 : decode cX3_camera 4 = .ok (.invokestatic 58, 3) := by decide +kernel
theorem dX3_camera_7 : decode cX3_camera 7 = .ok (.iload_n 2, 1) := by decide +kernel
theorem dX3_camera_8 : decode cX3_camera 8 = .ok (.iconst 0, 1) := by decide +kernel
theorem dX3_camera_9 : decode cX3_camera 9 = .ok (.bipush 60, 2) := by decide +kernel
theorem dX3_camera_11 : decode cX3_camera 11 = .ok (.invokestatic 58, 3) := by decide +kernel
theorem dX3_camera_14 : decode cX3_camera 14 = .ok (.aload_n 0, 1) := by decide +kernel
theorem dX3_camera_15 : decode cX3_camera 15 = .ok (.getfield 23, 3) := by decide +kernel
theorem dX3_camera_18 : decode cX3_camera 18 = .ok (.invokevirtual 117, 3) := by decide +kernel
theorem dX3_camera_21 : decode cX3_camera 21 = .ok (.bipush 6, 2) := by decide +kernel
theorem dX3_camera_23 : decode cX3_camera 23 = .ok (.if_icmp .lt 13, 3) := by decide +kernel
theorem dX3_camera_26 : decode cX3_camera 26 = .ok (.new 106, 3) := by decide +kernel
theorem dX3_camera_29 : decode cX3_camera 29 = .ok (.dup, 1) := by decide +kernel
theorem dX3_camera_30 : decode cX3_camera 30 = .ok (.ldc 121, 2) := by decide +kernel
theorem dX3_camera_32 : decode cX3_camera 32 = .ok (.invokespecial 110, 3) := by decide +kernel
theorem dX3_camera_35 : decode cX3_camera 35 = .ok (.athrow, 1) := by decide +kernel
theorem dX3_camera_36 : decode cX3_camera 36 = .ok (.aload_n 0, 1) := by decide +kernel
theorem dX3_camera_37 : decode cX3_camera 37 = .ok (.getfield 23, 3) := by decide +kernel
theorem dX3_camera_40 : decode cX3_camera 40 = .ok (.new 123, 3) := by decide +kernel
theorem dX3_camera_43 : decode cX3_camera 43 = .ok (.dup, 1) := by decide +kernel
theorem dX3_camera_44 : decode cX3_camera 44 = .ok (.iload_n 1, 1) := by decide +kernel
theorem dX3_camera_45 : decode cX3_camera 45 = .ok (.iload_n 2, 1) := by decide +kernel
theorem dX3_camera_46 : decode cX3_camera 46 = .ok (.invokespecial 125, 3) := by decide +kernel
theorem dX3_camera_49 : decode cX3_camera 49 = .ok (.invokevirtual 127, 3) := by decide +kernel
theorem dX3_camera_52 : decode cX3_camera 52 = .ok (.pop, 1) := by decide +kernel
theorem dX3_camera_53 : decode cX3_camera 53 = .ok (.aload_n 0, 1) := by decide +kernel
theorem dX3_camera_54 : decode cX3_camera 54 = .ok (.getfield 23, 3) := by decide +kernel
theorem dX3_camera_57 : decode cX3_camera 57 = .ok (.invokevirtual 117, 3) := by decide +kernel
theorem dX3_camera_60 : decode cX3_camera 60 = .ok (.iconst 1, 1) := by decide +kernel
theorem dX3_camera_61 : decode cX3_camera 61 = .ok (.isub, 1) := by decide +kernel
theorem dX3_camera_62 : decode cX3_camera 62 = .ok (.ireturn, 1) := by decide +kernel
set_option maxRecDepth 20000 in
theorem ggX3_delay_X3_checkRange : GoodIn wsX3_delay wsX3_checkRange := goodIn_ca (goodIn_r _ [5, 6, 7] (by decide +kernel) (by decide +kernel)) (goodIn_sub (fun _ h => List.mem_cons_of_mem _ (List.mem_append_right _ h)) (by decide +kernel))
set_option maxRecDepth 20000 in
theorem gX3_delay_X3_checkRange : GoodIn wsX3_delay (va_wsS RX3 58 yX3_checkRange wsX3_checkRange) := goodIn_app (goodIn_of _ (by decide +kernel)) ggX3_delay_X3_checkRange
set_option maxRecDepth 20000 in
theorem ggX3_delay_X3_letViewersSee : GoodIn wsX3_delay wsX3_letViewersSee := goodIn_r _ [11, 12, 13, 1, 14, 15, 16, 17, 18, 19, 20, 21, 22, 23, 24, 25, 26, 27, 28, 29, 30, 31, 32] (by decide +kernel) (by decide +kernel)
set_option maxRecDepth 20000 in
theorem gX3_delay_X3_letViewersSee : GoodIn wsX3_delay (wsV RX3 131 RX3 yX3_letViewersSee wsX3_letViewersSee) := goodIn_app (goodIn_of _ (by decide +kernel)) ggX3_delay_X3_letViewersSee
theorem dX3_delay_0 : decode cX3_delay 0 = .ok (.iload_n 1, 1) := by decide +kernel
theorem dX3_delay_1 : decode cX3_delay 1 = .ok (.iconst 0, 1) := by decide +kernel
theorem dX3_delay_2 : decode cX3_delay 2 = .ok (.bipush 100, 2) := by decide +kernel
theorem dX3_delay_4 : decode cX3_delay 4 = .ok (.invokestatic 58, 3) := by decide +kernel
theorem dX3_delay_7 : decode cX3_delay 7 = .ok (.aload_n 0, 1) := by decide +kernel
theorem dX3_delay_8 : decode cX3_delay 8 = .ok (.getfield 38, 3) := by decide +kernel
theorem dX3_delay_11 : decode cX3_delay 11 = .ok (.istore_n 2, 1) := by decide +kernel
theorem dX3_delay_12 : decode cX3_delay 12 = .ok (.aload_n 0, 1) := by decide +kernel
theorem dX3_delay_13 : decode cX3_delay 13 = .ok (.iload_n 1, 1) := by decide +kernel
theorem dX3_delay_14 : decode cX3_delay 14 = .ok (.putfield 38, 3) := by decide +kernel
theorem dX3_delay_17 : decode cX3_delay 17 = .ok (.aload_n 0, 1) := by decide +kernel
theorem dX3_delay_18 : decode cX3_delay 18 = .ok (.invokevirtual 131, 3) := by decide +kernel
theorem dX3_delay_21 : decode cX3_delay 21 = .ok (.iload_n 2, 1) := by decide +kernel
theorem dX3_delay_22 : decode cX3_delay 22 = .ok (.ireturn, 1) := by decide +kernel
set_option maxRecDepth 20000 in
theorem ggX3_pass_X3_checkRange : GoodIn wsX3_pass wsX3_checkRange := goodIn_ca (goodIn_r _ [7, 8, 9] (by decide +kernel) (by decide +kernel)) (goodIn_sub (fun _ h => List.mem_cons_of_mem _ (List.mem_append_right _ h)) (by decide +kernel))
set_option maxRecDepth 20000 in
theorem gX3_pass_X3_checkRange : GoodIn wsX3_pass (va_wsS RX3 58 yX3_checkRange wsX3_checkRange) := goodIn_app (goodIn_of _ (by decide +kernel)) ggX3_pass_X3_checkRange
set_option maxRecDepth 20000 in
theorem ggX3_pass_X3_passOne : GoodIn wsX3_pass wsX3_passOne := goodIn_r _ [13, 14, 3, 15, 16, 17, 18, 19, 20, 21, 6, 22, 23, 24, 25, 26, 27, 28, 29, 30, 31, 32, 33, 34, 35, 36, 37, 38, 39, 40, 41, 42, 43, 44, 45, 46, 47, 48, 49, 50, 51, 52, 53, 54, 55, 56, 57, 58, 59, 60, 61, 62, 63, 64, 65, 66, 67, 68, 69, 70, 71, 72, 73, 74, 75, 76, 77, 78, 79, 80, 81, 82, 83, 84, 85, 86, 87, 88, 89, 90, 91, 92, 93, 94, 95, 96, 97, 98, 99, 100, 101, 102, 103, 104, 105, 106, 107, 108, 109, 110, 111, 112, 113, 114, 115, 116, 117, 118, 119, 120, 121, 122, 123, 124, 125, 126, 127, 128, 129, 130, 131, 132, 133, 134, 135, 136, 137, 138, 139, 140, 141, 142, 143, 144, 145, 146, 147, 148, 149, 150, 151, 152, 153, 154, 155, 156, 157, 158, 159] (by decide +kernel) (by decide +kernel)
set_option maxRecDepth 20000 in
theorem gX3_pass_X3_passOne : GoodIn wsX3_pass (wsV RX3 136 RX3 yX3_passOne wsX3_passOne) := goodIn_app (goodIn_of _ (by decide +kernel)) ggX3_pass_X3_passOne
theorem dX3_pass_0 : decode cX3_pass 0 = .ok (.iload_n 1, 1) := by decide +kernel
theorem dX3_pass_1 : decode cX3_pass 1 = .ok (.iconst 1, 1) := by decide +kernel
theorem dX3_pass_2 : decode cX3_pass 2 = .ok (.sipush 200, 3) := by decide +kernel
theorem dX3_pass_5 : decode cX3_pass 5 = .ok (.invokestatic 58, 3) := by decide +kernel
theorem dX3_pass_8 : decode cX3_pass 8 = .ok (.aload_n 0, 1) := by decide +kernel
theorem dX3_pass_9 : decode cX3_pass 9 = .ok (.getfield 85, 3) := by decide +kernel
theorem dX3_pass_12 : decode cX3_pass 12 = .ok (.iload_n 1, 1) := by decide +kernel
theorem dX3_pass_13 : decode cX3_pass 13 = .ok (.iadd, 1) := by decide +kernel
theorem dX3_pass_14 : decode cX3_pass 14 = .ok (.sipush 3000, 3) := by decide +kernel
theorem dX3_pass_17 : decode cX3_pass 17 = .ok (.if_icmp .le 13, 3) := by decide +kernel
theorem dX3_pass_20 : decode cX3_pass 20 = .ok (.new 106, 3) := by decide +kernel
theorem dX3_pass_23 : decode cX3_pass 23 = .ok (.dup, 1) := by decide +kernel
theorem dX3_pass_24 : decode cX3_pass 24 = .ok (.ldc 134, 2) := by decide +kernel
theorem dX3_pass_26 : decode cX3_pass 26 = .ok (.invokespecial 110, 3) := by decide +kernel
theorem dX3_pass_29 : decode cX3_pass 29 = .ok (.athrow, 1) := by decide +kernel
theorem dX3_pass_30 : decode cX3_pass 30 = .ok (.iconst 0, 1) := by decide +kernel
theorem dX3_pass_31 : decode cX3_pass 31 = .ok (.istore_n 2, 1) := by decide +kernel
theorem dX3_pass_32 : decode cX3_pass 32 = .ok (.iload_n 2, 1) := by decide +kernel
theorem dX3_pass_33 : decode cX3_pass 33 = .ok (.iload_n 1, 1) := by decide +kernel
theorem dX3_pass_34 : decode cX3_pass 34 = .ok (.if_icmp .ge 13, 3) := by decide +kernel
theorem dX3_pass_37 : decode cX3_pass 37 = .ok (.aload_n 0, 1) := by decide +kernel
theorem dX3_pass_38 : decode cX3_pass 38 = .ok (.invokevirtual 136, 3) := by decide +kernel
theorem dX3_pass_41 : decode cX3_pass 41 = .ok (.iinc 2 1, 3) := by decide +kernel
theorem dX3_pass_44 : decode cX3_pass 44 = .ok (.goto (-12), 3) := by decide +kernel
theorem dX3_pass_47 : decode cX3_pass 47 = .ok (.aload_n 0, 1) := by decide +kernel
theorem dX3_pass_48 : decode cX3_pass 48 = .ok (.getfield 85, 3) := by decide +kernel
theorem dX3_pass_51 : decode cX3_pass 51 = .ok (.ireturn, 1) := by decide +kernel
set_option maxRecDepth 20000 in
theorem ggX3_blow_X3_fightNumbered : GoodIn wsX3_blow wsX3_fightNumbered := goodIn_ca (goodIn_r _ [14, 15, 16, 17, 18, 19, 20, 21, 22, 23, 24, 25, 26, 27, 28, 29, 30, 31, 32, 33, 34, 35, 36, 37, 38, 39, 40, 41, 127, 128, 129, 130, 131, 132, 133, 134, 135, 136, 137, 138, 139, 140, 141, 147, 148, 149] (by decide +kernel) (by decide +kernel)) (goodIn_sub (fun _ h => List.mem_cons_of_mem _ (List.mem_append_right _ h)) (by decide +kernel))
set_option maxRecDepth 20000 in
theorem gX3_blow_X3_fightNumbered : GoodIn wsX3_blow (wsV RX3 77 RX3 yX3_fightNumbered wsX3_fightNumbered) := goodIn_app (goodIn_of _ (by decide +kernel)) ggX3_blow_X3_fightNumbered
set_option maxRecDepth 20000 in
theorem ggX3_blow_X3_checkPlayer : GoodIn wsX3_blow wsX3_checkPlayer := goodIn_ca (goodIn_r _ [44, 15, 16] (by decide +kernel) (by decide +kernel)) (goodIn_sub (fun _ h => List.mem_cons_of_mem _ (List.mem_append_right _ h)) (by decide +kernel))
set_option maxRecDepth 20000 in
theorem gX3_blow_X3_checkPlayer : GoodIn wsX3_blow (va_wsS RX3 54 yX3_checkPlayer wsX3_checkPlayer) := goodIn_app (goodIn_of _ (by decide +kernel)) ggX3_blow_X3_checkPlayer
set_option maxRecDepth 20000 in
theorem ggX3_blow_X3_checkRange : GoodIn wsX3_blow wsX3_checkRange := goodIn_ca (goodIn_r _ [47, 1, 2] (by decide +kernel) (by decide +kernel)) (goodIn_sub (fun _ h => List.mem_cons_of_mem _ (List.mem_append_left _ (List.mem_append_left _ (List.mem_append_right _ h)))) (by decide +kernel))
set_option maxRecDepth 20000 in
theorem gX3_blow_X3_checkRange : GoodIn wsX3_blow (va_wsS RX3 58 yX3_checkRange wsX3_checkRange) := goodIn_app (goodIn_of _ (by decide +kernel)) ggX3_blow_X3_checkRange
set_option maxRecDepth 20000 in
theorem ggX3_blow_X2_isOf : GoodIn wsX3_blow wsX2_isOf := goodIn_r _ [52, 53, 54, 150, 151, 152, 153, 154, 155, 156] (by decide +kernel) (by decide +kernel)
set_option maxRecDepth 20000 in
theorem gX3_blow_X2_isOf : GoodIn wsX3_blow (wsV RX3 139 RX2 yX2_isOf wsX2_isOf) := goodIn_app (goodIn_of _ (by decide +kernel)) ggX3_blow_X2_isOf
set_option maxRecDepth 20000 in
theorem ggX3_blow_X3_checkGoesOn : GoodIn wsX3_blow wsX3_checkGoesOn := goodIn_ca (goodIn_r _ [57, 3, 4, 58, 150, 151, 152, 153, 154, 155, 156] (by decide +kernel) (by decide +kernel)) (goodIn_sub (fun _ h => List.mem_cons_of_mem _ (List.mem_append_left _ (List.mem_append_right _ h))) (by decide +kernel))
set_option maxRecDepth 20000 in
theorem gX3_blow_X3_checkGoesOn : GoodIn wsX3_blow (va_wsS RX3 81 yX3_checkGoesOn wsX3_checkGoesOn) := goodIn_app (goodIn_of _ (by decide +kernel)) ggX3_blow_X3_checkGoesOn
set_option maxRecDepth 20000 in
theorem ggX3_blow_Jx4a65c_size_8abf5 : GoodIn wsX3_blow wsJx4a65c_size_8abf5 := goodIn_r _ [23, 24, 147, 148, 149] (by decide +kernel) (by decide +kernel)
set_option maxRecDepth 20000 in
theorem gX3_blow_Jx4a65c_size_8abf5 : GoodIn wsX3_blow (wsV RX3 117 RJx4a65c yJx4a65c_size_8abf5 wsJx4a65c_size_8abf5) := goodIn_app (goodIn_of _ (by decide +kernel)) ggX3_blow_Jx4a65c_size_8abf5
set_option maxRecDepth 20000 in
theorem ggX3_blow_X2_heatUp : GoodIn wsX3_blow wsX2_heatUp := goodIn_r _ [62, 63, 150, 151, 152, 153, 154, 155, 156] (by decide +kernel) (by decide +kernel)
set_option maxRecDepth 20000 in
theorem gX3_blow_X2_heatUp : GoodIn wsX3_blow (wsV RX3 147 RX2 yX2_heatUp wsX2_heatUp) := goodIn_app (goodIn_of _ (by decide +kernel)) ggX3_blow_X2_heatUp
set_option maxRecDepth 20000 in
theorem ggX3_blow_X1_init : GoodIn wsX3_blow wsX1_init := goodIn_r _ [66, 67, 68, 69, 70, 71, 72, 73, 142, 143, 144, 145, 146] (by decide +kernel) (by decide +kernel)
set_option maxRecDepth 20000 in
theorem gX3_blow_X1_init : GoodIn wsX3_blow (wsX1_init) := ggX3_blow_X1_init
set_option maxRecDepth 20000 in
theorem ggX3_blow_Jx4a65c_add_9ea2d : GoodIn wsX3_blow wsJx4a65c_add_9ea2d := goodIn_r _ [77, 78, 79, 41, 24, 80, 81, 82, 22, 83, 84, 85, 86, 87, 88, 89, 90, 91, 92, 93, 94, 95, 96, 97, 98, 99, 100, 101, 102, 103, 104, 105, 106, 107, 108, 109, 110, 111, 112, 113, 114, 115, 116, 117, 118, 119, 120, 121, 122, 123, 124, 125, 126, 147, 148, 149] (by decide +kernel) (by decide +kernel)
set_option maxRecDepth 20000 in
theorem gX3_blow_Jx4a65c_add_9ea2d : GoodIn wsX3_blow (wsV RX3 127 RJx4a65c yJx4a65c_add_9ea2d wsJx4a65c_add_9ea2d) := goodIn_app (goodIn_of _ (by decide +kernel)) ggX3_blow_Jx4a65c_add_9ea2d
theorem dX3_blow_0 : decode cX3_blow 0 = .ok (.aload_n 0, 1) := by decide +kernel
theorem dX3_blow_1 : decode cX3_blow 1 = .ok (.iload_n 1, 1) := by decide +kernel
theorem dX3_blow_2 : decode cX3_blow 2 = .ok (.invokevirtual 77, 3) := by decide +kernel
theorem dX3_blow_5 : decode cX3_blow 5 = .ok (.astore 4, 2) := by decide +kernel
theorem dX3_blow_7 : decode cX3_blow 7 = .ok (.iload_n 2, 1) := by decide +kernel
theorem dX3_blow_8 : decode cX3_blow 8 = .ok (.invokestatic 54, 3) := by decide +kernel
theorem dX3_blow_11 : decode cX3_blow 11 = .ok (.iload_n 3, 1) := by decide +kernel
theorem dX3_blow_12 : decode cX3_blow 12 = .ok (.iconst 1, 1) := by decide +kernel
theorem dX3_blow_13 : decode cX3_blow 13 = .ok (.bipush 9, 2) := by decide +kernel
theorem dX3_blow_15 : decode cX3_blow 15 = .ok (.invokestatic 58, 3) := by decide +kernel
theorem dX3_blow_18 : decode cX3_blow 18 = .ok (.aload 4, 2) := by decide +kernel
theorem dX3_blow_20 : decode cX3_blow 20 = .ok (.iload_n 2, 1) := by decide +kernel
theorem dX3_blow_21 : decode cX3_blow 21 = .ok (.invokevirtual 139, 3) := by decide +kernel
theorem dX3_blow_24 : decode cX3_blow 24 = .ok (.ifCond .ne 13, 3) := by decide +kernel
theorem dX3_blow_27 : decode cX3_blow 27 = .ok (.new 62, 3) := by decide +kernel
theorem dX3_blow_30 : decode cX3_blow 30 = .ok (.dup, 1) := by decide +kernel
theorem dX3_blow_31 : decode cX3_blow 31 = .ok (.ldc 143, 2) := by decide +kernel
theorem dX3_blow_33 : decode cX3_blow 33 = .ok (.invokespecial 66, 3) := by decide +kernel
theorem dX3_blow_36 : decode cX3_blow 36 = .ok (.athrow, 1) := by decide +kernel
theorem dX3_blow_37 : decode cX3_blow 37 = .ok (.aload 4, 2) := by decide +kernel
theorem dX3_blow_39 : decode cX3_blow 39 = .ok (.invokestatic 81, 3) := by decide +kernel
theorem dX3_blow_42 : decode cX3_blow 42 = .ok (.aload_n 0, 1) := by decide +kernel
theorem dX3_blow_43 : decode cX3_blow 43 = .ok (.getfield 26, 3) := by decide +kernel
theorem dX3_blow_46 : decode cX3_blow 46 = .ok (.invokevirtual 117, 3) := by decide +kernel
theorem dX3_blow_49 : decode cX3_blow 49 = .ok (.bipush 80, 2) := by decide +kernel
theorem dX3_blow_51 : decode cX3_blow 51 = .ok (.if_icmp .lt 13, 3) := by decide +kernel
theorem dX3_blow_54 : decode cX3_blow 54 = .ok (.new 106, 3) := by decide +kernel
theorem dX3_blow_57 : decode cX3_blow 57 = .ok (.dup, 1) := by decide +kernel
theorem dX3_blow_58 : decode cX3_blow 58 = .ok (.ldc 145, 2) := by decide +kernel
theorem dX3_blow_60 : decode cX3_blow 60 = .ok (.invokespecial 110, 3) := by decide +kernel
theorem dX3_blow_63 : decode cX3_blow 63 = .ok (.athrow, 1) := by decide +kernel
theorem dX3_blow_64 : decode cX3_blow 64 = .ok (.aload 4, 2) := by decide +kernel
theorem dX3_blow_66 : decode cX3_blow 66 = .ok (.invokevirtual 147, 3) := by decide +kernel
theorem dX3_blow_69 : decode cX3_blow 69 = .ok (.aload_n 0, 1) := by decide +kernel
theorem dX3_blow_70 : decode cX3_blow 70 = .ok (.getfield 26, 3) := by decide +kernel
theorem dX3_blow_73 : decode cX3_blow 73 = .ok (.new 150, 3) := by decide +kernel
theorem dX3_blow_76 : decode cX3_blow 76 = .ok (.dup, 1) := by decide +kernel
theorem dX3_blow_77 : decode cX3_blow 77 = .ok (.aload 4, 2) := by decide +kernel
theorem dX3_blow_79 : decode cX3_blow 79 = .ok (.iload_n 2, 1) := by decide +kernel
theorem dX3_blow_80 : decode cX3_blow 80 = .ok (.aload_n 0, 1) := by decide +kernel
theorem dX3_blow_81 : decode cX3_blow 81 = .ok (.getfield 85, 3) := by decide +kernel
theorem dX3_blow_84 : decode cX3_blow 84 = .ok (.iload_n 3, 1) := by decide +kernel
theorem dX3_blow_85 : decode cX3_blow 85 = .ok (.invokespecial 152, 3) := by decide +kernel
theorem dX3_blow_88 : decode cX3_blow 88 = .ok (.invokevirtual 127, 3) := by decide +kernel
theorem dX3_blow_91 : decode cX3_blow 91 = .ok (.pop, 1) := by decide +kernel
theorem dX3_blow_92 : decode cX3_blow 92 = .ok (.aload_n 0, 1) := by decide +kernel
theorem dX3_blow_93 : decode cX3_blow 93 = .ok (.getfield 26, 3) := by decide +kernel
theorem dX3_blow_96 : decode cX3_blow 96 = .ok (.invokevirtual 117, 3) := by decide +kernel
theorem dX3_blow_99 : decode cX3_blow 99 = .ok (.iconst 1, 1) := by decide +kernel
theorem dX3_blow_100 : decode cX3_blow 100 = .ok (.isub, 1) := by decide +kernel
theorem dX3_blow_101 : decode cX3_blow 101 = .ok (.ireturn, 1) := by decide +kernel
set_option maxRecDepth 20000 in
theorem ggX3_strike_X3_entryNumbered : GoodIn wsX3_strike wsX3_entryNumbered := goodIn_ca (goodIn_r _ [7, 8, 9, 10, 11, 12, 13, 14, 15, 16, 17, 18, 19, 20, 21, 22, 23, 24, 25, 26, 27, 28, 29, 30, 31, 32, 33, 34, 53, 54, 55, 56, 57, 58, 59, 60, 61, 62, 63, 64, 65, 66, 67, 68, 69, 70] (by decide +kernel) (by decide +kernel)) (goodIn_sub (fun _ h => List.mem_cons_of_mem _ (List.mem_append_left _ (List.mem_append_right _ h))) (by decide +kernel))
set_option maxRecDepth 20000 in
theorem gX3_strike_X3_entryNumbered : GoodIn wsX3_strike (wsV RX3 155 RX3 yX3_entryNumbered wsX3_entryNumbered) := goodIn_app (goodIn_of _ (by decide +kernel)) ggX3_strike_X3_entryNumbered
set_option maxRecDepth 20000 in
theorem ggX3_strike_X3_checkCanBeCorrected : GoodIn wsX3_strike wsX3_checkCanBeCorrected := goodIn_ca (goodIn_r _ [37, 38, 39, 40, 41, 42, 43, 44, 45, 46, 47, 48, 49, 50, 51, 52, 71, 72, 73, 74, 75, 76, 77] (by decide +kernel) (by decide +kernel)) (goodIn_sub (fun _ h => List.mem_cons_of_mem _ (List.mem_append_right _ h)) (by decide +kernel))
set_option maxRecDepth 20000 in
theorem gX3_strike_X3_checkCanBeCorrected : GoodIn wsX3_strike (va_wsS RX3 159 yX3_checkCanBeCorrected wsX3_checkCanBeCorrected) := goodIn_app (goodIn_of _ (by decide +kernel)) ggX3_strike_X3_checkCanBeCorrected
theorem dX3_strike_0 : decode cX3_strike 0 = .ok (.aload_n 0, 1) := by decide +kernel
theorem dX3_strike_1 : decode cX3_strike 1 = .ok (.iload_n 1, 1) := by decide +kernel
theorem dX3_strike_2 : decode cX3_strike 2 = .ok (.invokevirtual 155, 3) := by decide +kernel
theorem dX3_strike_5 : decode cX3_strike 5 = .ok (.astore_n 2, 1) := by decide +kernel
theorem dX3_strike_6 : decode cX3_strike 6 = .ok (.aload_n 2, 1) := by decide +kernel
theorem dX3_strike_7 : decode cX3_strike 7 = .ok (.invokestatic 159, 3) := by decide +kernel
theorem dX3_strike_10 : decode cX3_strike 10 = .ok (.aload_n 2, 1) := by decide +kernel
theorem dX3_strike_11 : decode cX3_strike 11 = .ok (.iconst 1, 1) := by decide +kernel
theorem dX3_strike_12 : decode cX3_strike 12 = .ok (.putfield 163, 3) := by decide +kernel
theorem dX3_strike_15 : decode cX3_strike 15 = .ok (.aload_n 2, 1) := by decide +kernel
theorem dX3_strike_16 : decode cX3_strike 16 = .ok (.getfield 167, 3) := by decide +kernel
theorem dX3_strike_19 : decode cX3_strike 19 = .ok (.ireturn, 1) := by decide +kernel
set_option maxRecDepth 20000 in
theorem ggX3_mend_X3_entryNumbered : GoodIn wsX3_mend wsX3_entryNumbered := goodIn_ca (goodIn_r _ [6, 7, 8, 9, 10, 11, 12, 13, 14, 15, 16, 17, 18, 19, 20, 21, 22, 23, 24, 25, 26, 27, 28, 29, 30, 31, 32, 33, 57, 58, 59, 60, 61, 62, 63, 64, 65, 66, 67, 68, 69, 70, 71, 72, 73, 74] (by decide +kernel) (by decide +kernel)) (goodIn_sub (fun _ h => List.mem_cons_of_mem _ (List.mem_append_left _ (List.mem_append_left _ (List.mem_append_right _ h)))) (by decide +kernel))
set_option maxRecDepth 20000 in
theorem gX3_mend_X3_entryNumbered : GoodIn wsX3_mend (wsV RX3 155 RX3 yX3_entryNumbered wsX3_entryNumbered) := goodIn_app (goodIn_of _ (by decide +kernel)) ggX3_mend_X3_entryNumbered
set_option maxRecDepth 20000 in
theorem ggX3_mend_X3_checkRange : GoodIn wsX3_mend wsX3_checkRange := goodIn_ca (goodIn_r _ [36, 37, 38] (by decide +kernel) (by decide +kernel)) (goodIn_sub (fun _ h => List.mem_cons_of_mem _ (List.mem_append_left _ (List.mem_append_right _ h))) (by decide +kernel))
set_option maxRecDepth 20000 in
theorem gX3_mend_X3_checkRange : GoodIn wsX3_mend (va_wsS RX3 58 yX3_checkRange wsX3_checkRange) := goodIn_app (goodIn_of _ (by decide +kernel)) ggX3_mend_X3_checkRange
set_option maxRecDepth 20000 in
theorem ggX3_mend_X3_checkCanBeCorrected : GoodIn wsX3_mend wsX3_checkCanBeCorrected := goodIn_ca (goodIn_r _ [41, 42, 43, 44, 45, 46, 47, 48, 49, 50, 51, 52, 53, 54, 55, 56, 75, 76, 77, 78, 79, 80, 81] (by decide +kernel) (by decide +kernel)) (goodIn_sub (fun _ h => List.mem_cons_of_mem _ (List.mem_append_right _ h)) (by decide +kernel))
set_option maxRecDepth 20000 in
theorem gX3_mend_X3_checkCanBeCorrected : GoodIn wsX3_mend (va_wsS RX3 159 yX3_checkCanBeCorrected wsX3_checkCanBeCorrected) := goodIn_app (goodIn_of _ (by decide +kernel)) ggX3_mend_X3_checkCanBeCorrected
theorem dX3_mend_0 : decode cX3_mend 0 = .ok (.aload_n 0, 1) := by decide +kernel
theorem dX3_mend_1 : decode cX3_mend 1 = .ok (.iload_n 1, 1) := by decide +kernel
theorem dX3_mend_2 : decode cX3_mend 2 = .ok (.invokevirtual 155, 3) := by decide +kernel
theorem dX3_mend_5 : decode cX3_mend 5 = .ok (.astore_n 3, 1) := by decide +kernel
theorem dX3_mend_6 : decode cX3_mend 6 = .ok (.iload_n 2, 1) := by decide +kernel
theorem dX3_mend_7 : decode cX3_mend 7 = .ok (.iconst 1, 1) := by decide +kernel
theorem dX3_mend_8 : decode cX3_mend 8 = .ok (.bipush 9, 2) := by decide +kernel
theorem dX3_mend_10 : decode cX3_mend 10 = .ok (.invokestatic 58, 3) := by decide +kernel
theorem dX3_mend_13 : decode cX3_mend 13 = .ok (.aload_n 3, 1) := by decide +kernel
theorem dX3_mend_14 : decode cX3_mend 14 = .ok (.invokestatic 159, 3) := by decide +kernel
theorem dX3_mend_17 : decode cX3_mend 17 = .ok (.aload_n 3, 1) := by decide +kernel
theorem dX3_mend_18 : decode cX3_mend 18 = .ok (.getfield 167, 3) := by decide +kernel
theorem dX3_mend_21 : decode cX3_mend 21 = .ok (.istore 4, 2) := by decide +kernel
theorem dX3_mend_23 : decode cX3_mend 23 = .ok (.aload_n 3, 1) := by decide +kernel
theorem dX3_mend_24 : decode cX3_mend 24 = .ok (.iload_n 2, 1) := by decide +kernel
theorem dX3_mend_25 : decode cX3_mend 25 = .ok (.putfield 167, 3) := by decide +kernel
theorem dX3_mend_28 : decode cX3_mend 28 = .ok (.iload 4, 2) := by decide +kernel
theorem dX3_mend_30 : decode cX3_mend 30 = .ok (.ireturn, 1) := by decide +kernel
set_option maxRecDepth 20000 in
theorem ggX3_promise_X3_checkSponsor : GoodIn wsX3_promise wsX3_checkSponsor := goodIn_ca (goodIn_r _ [5, 6, 7] (by decide +kernel) (by decide +kernel)) (goodIn_sub (fun _ h => List.mem_cons_of_mem _ (List.mem_append_left _ (List.mem_append_right _ h))) (by decide +kernel))
set_option maxRecDepth 20000 in
theorem gX3_promise_X3_checkSponsor : GoodIn wsX3_promise (va_wsS RX3 170 yX3_checkSponsor wsX3_checkSponsor) := goodIn_app (goodIn_of _ (by decide +kernel)) ggX3_promise_X3_checkSponsor
set_option maxRecDepth 20000 in
theorem ggX3_promise_X3_checkRange : GoodIn wsX3_promise wsX3_checkRange := goodIn_ca (goodIn_r _ [10, 11, 12] (by decide +kernel) (by decide +kernel)) (goodIn_sub (fun _ h => List.mem_cons_of_mem _ (List.mem_append_right _ h)) (by decide +kernel))
set_option maxRecDepth 20000 in
theorem gX3_promise_X3_checkRange : GoodIn wsX3_promise (va_wsS RX3 58 yX3_checkRange wsX3_checkRange) := goodIn_app (goodIn_of _ (by decide +kernel)) ggX3_promise_X3_checkRange
theorem dX3_promise_0 : decode cX3_promise 0 = .ok (.iload_n 1, 1) := by decide +kernel
theorem dX3_promise_1 : decode cX3_promise 1 = .ok (.invokestatic 170, 3) := by decide +kernel
theorem dX3_promise_4 : decode cX3_promise 4 = .ok (.iload_n 2, 1) := by decide +kernel
theorem dX3_promise_5 : decode cX3_promise 5 = .ok (.iconst 0, 1) := by decide +kernel
theorem dX3_promise_6 : decode cX3_promise 6 = .ok (.sipush 1000, 3) := by decide +kernel
theorem dX3_promise_9 : decode cX3_promise 9 = .ok (.invokestatic 58, 3) := by decide +kernel
theorem dX3_promise_12 : decode cX3_promise 12 = .ok (.aload_n 0, 1) := by decide +kernel
theorem dX3_promise_13 : decode cX3_promise 13 = .ok (.getfield 29, 3) := by decide +kernel
theorem dX3_promise_16 : decode cX3_promise 16 = .ok (.iload_n 1, 1) := by decide +kernel
theorem dX3_promise_17 : decode cX3_promise 17 = .ok (.iaload, 1) := by decide +kernel
theorem dX3_promise_18 : decode cX3_promise 18 = .ok (.istore_n 3, 1) := by decide +kernel
theorem dX3_promise_19 : decode cX3_promise 19 = .ok (.aload_n 0, 1) := by decide +kernel
theorem dX3_promise_20 : decode cX3_promise 20 = .ok (.getfield 29, 3) := by decide +kernel
theorem dX3_promise_23 : decode cX3_promise 23 = .ok (.iload_n 1, 1) := by decide +kernel
theorem dX3_promise_24 : decode cX3_promise 24 = .ok (.iload_n 2, 1) := by decide +kernel
theorem dX3_promise_25 : decode cX3_promise 25 = .ok (.iastore, 1) := by decide +kernel
theorem dX3_promise_26 : decode cX3_promise 26 = .ok (.iload_n 3, 1) := by decide +kernel
theorem dX3_promise_27 : decode cX3_promise 27 = .ok (.ireturn, 1) := by decide +kernel
set_option maxRecDepth 20000 in
theorem ggX3_slot_X3_checkSponsor : GoodIn wsX3_slot wsX3_checkSponsor := goodIn_ca (goodIn_r _ [8, 9, 10] (by decide +kernel) (by decide +kernel)) (goodIn_sub (fun _ h => List.mem_cons_of_mem _ (List.mem_append_right _ h)) (by decide +kernel))
set_option maxRecDepth 20000 in
theorem gX3_slot_X3_checkSponsor : GoodIn wsX3_slot (va_wsS RX3 170 yX3_checkSponsor wsX3_checkSponsor) := goodIn_app (goodIn_of _ (by decide +kernel)) ggX3_slot_X3_checkSponsor
set_option maxRecDepth 20000 in
theorem ggX3_slot_X3_checkPlayer : GoodIn wsX3_slot wsX3_checkPlayer := goodIn_ca (goodIn_r _ [13, 9, 10] (by decide +kernel) (by decide +kernel)) (goodIn_sub (fun _ h => List.mem_cons_of_mem _ (List.mem_append_right _ h)) (by decide +kernel))
set_option maxRecDepth 20000 in
theorem gX3_slot_X3_checkPlayer : GoodIn wsX3_slot (va_wsS RX3 54 yX3_checkPlayer wsX3_checkPlayer) := goodIn_app (goodIn_of _ (by decide +kernel)) ggX3_slot_X3_checkPlayer
theorem dX3_slot_0 : decode cX3_slot 0 = .ok (.iload_n 1, 1) := by decide +kernel
theorem dX3_slot_1 : decode cX3_slot 1 = .ok (.invokestatic 170, 3) := by decide +kernel
theorem dX3_slot_4 : decode cX3_slot 4 = .ok (.iload_n 2, 1) := by decide +kernel
theorem dX3_slot_5 : decode cX3_slot 5 = .ok (.invokestatic 54, 3) := by decide +kernel
theorem dX3_slot_8 : decode cX3_slot 8 = .ok (.iconst 1, 1) := by decide +kernel
theorem dX3_slot_9 : decode cX3_slot 9 = .ok (.iload_n 2, 1) := by decide +kernel
theorem dX3_slot_10 : decode cX3_slot 10 = .ok (.ishl, 1) := by decide +kernel
theorem dX3_slot_11 : decode cX3_slot 11 = .ok (.istore_n 3, 1) := by decide +kernel
theorem dX3_slot_12 : decode cX3_slot 12 = .ok (.aload_n 0, 1) := by decide +kernel
theorem dX3_slot_13 : decode cX3_slot 13 = .ok (.getfield 35, 3) := by decide +kernel
theorem dX3_slot_16 : decode cX3_slot 16 = .ok (.iload_n 1, 1) := by decide +kernel
theorem dX3_slot_17 : decode cX3_slot 17 = .ok (.iaload, 1) := by decide +kernel
theorem dX3_slot_18 : decode cX3_slot 18 = .ok (.iload_n 3, 1) := by decide +kernel
theorem dX3_slot_19 : decode cX3_slot 19 = .ok (.iand, 1) := by decide +kernel
theorem dX3_slot_20 : decode cX3_slot 20 = .ok (.ifCond .eq 13, 3) := by decide +kernel
theorem dX3_slot_23 : decode cX3_slot 23 = .ok (.new 106, 3) := by decide +kernel
theorem dX3_slot_26 : decode cX3_slot 26 = .ok (.dup, 1) := by decide +kernel
theorem dX3_slot_27 : decode cX3_slot 27 = .ok (.ldc 173, 2) := by decide +kernel
theorem dX3_slot_29 : decode cX3_slot 29 = .ok (.invokespecial 110, 3) := by decide +kernel
theorem dX3_slot_32 : decode cX3_slot 32 = .ok (.athrow, 1) := by decide +kernel
theorem dX3_slot_33 : decode cX3_slot 33 = .ok (.aload_n 0, 1) := by decide +kernel
theorem dX3_slot_34 : decode cX3_slot 34 = .ok (.getfield 175, 3) := by decide +kernel
theorem dX3_slot_37 : decode cX3_slot 37 = .ok (.bipush 12, 2) := by decide +kernel
theorem dX3_slot_39 : decode cX3_slot 39 = .ok (.if_icmp .lt 13, 3) := by decide +kernel
theorem dX3_slot_42 : decode cX3_slot 42 = .ok (.new 106, 3) := by decide +kernel
theorem dX3_slot_45 : decode cX3_slot 45 = .ok (.dup, 1) := by decide +kernel
theorem dX3_slot_46 : decode cX3_slot 46 = .ok (.ldc 178, 2) := by decide +kernel
theorem dX3_slot_48 : decode cX3_slot 48 = .ok (.invokespecial 110, 3) := by decide +kernel
theorem dX3_slot_51 : decode cX3_slot 51 = .ok (.athrow, 1) := by decide +kernel
theorem dX3_slot_52 : decode cX3_slot 52 = .ok (.aload_n 0, 1) := by decide +kernel
theorem dX3_slot_53 : decode cX3_slot 53 = .ok (.getfield 35, 3) := by decide +kernel
theorem dX3_slot_56 : decode cX3_slot 56 = .ok (.iload_n 1, 1) := by decide +kernel
theorem dX3_slot_57 : decode cX3_slot 57 = .ok (.dup2, 1) := by decide +kernel
theorem dX3_slot_58 : decode cX3_slot 58 = .ok (.iaload, 1) := by decide +kernel
theorem dX3_slot_59 : decode cX3_slot 59 = .ok (.iload_n 3, 1) := by decide +kernel
theorem dX3_slot_60 : decode cX3_slot 60 = .ok (.ior, 1) := by decide +kernel
theorem dX3_slot_61 : decode cX3_slot 61 = .ok (.iastore, 1) := by decide +kernel
theorem dX3_slot_62 : decode cX3_slot 62 = .ok (.aload_n 0, 1) := by decide +kernel
theorem dX3_slot_63 : decode cX3_slot 63 = .ok (.dup, 1) := by decide +kernel
theorem dX3_slot_64 : decode cX3_slot 64 = .ok (.getfield 175, 3) := by decide +kernel
theorem dX3_slot_67 : decode cX3_slot 67 = .ok (.iconst 1, 1) := by decide +kernel
theorem dX3_slot_68 : decode cX3_slot 68 = .ok (.iadd, 1) := by decide +kernel
theorem dX3_slot_69 : decode cX3_slot 69 = .ok (.putfield 175, 3) := by decide +kernel
theorem dX3_slot_72 : decode cX3_slot 72 = .ok (.aload_n 0, 1) := by decide +kernel
theorem dX3_slot_73 : decode cX3_slot 73 = .ok (.getfield 175, 3) := by decide +kernel
theorem dX3_slot_76 : decode cX3_slot 76 = .ok (.ireturn, 1) := by decide +kernel
theorem dX3_frame_0 : decode cX3_frame 0 = .ok (.aload_n 0, 1) := by decide +kernel
theorem dX3_frame_1 : decode cX3_frame 1 = .ok (.getfield 85, 3) := by decide +kernel
theorem dX3_frame_4 : decode cX3_frame 4 = .ok (.ireturn, 1) := by decide +kernel
theorem dX3_shown_0 : decode cX3_shown 0 = .ok (.iload_n 1, 1) := by decide +kernel
theorem dX3_shown_1 : decode cX3_shown 1 = .ok (.ifCond .lt 11, 3) := by decide +kernel
theorem dX3_shown_4 : decode cX3_shown 4 = .ok (.iload_n 1, 1) := by decide +kernel
theorem dX3_shown_5 : decode cX3_shown 5 = .ok (.aload_n 0, 1) := by decide +kernel
theorem dX3_shown_6 : decode cX3_shown 6 = .ok (.getfield 85, 3) := by decide +kernel
theorem dX3_shown_9 : decode cX3_shown 9 = .ok (.if_icmp .lt 13, 3) := by decide +kernel
theorem dX3_shown_12 : decode cX3_shown 12 = .ok (.new 180, 3) := by decide +kernel
theorem dX3_shown_15 : decode cX3_shown 15 = .ok (.dup, 1) := by decide +kernel
theorem dX3_shown_16 : decode cX3_shown 16 = .ok (.ldc 182, 2) := by decide +kernel
theorem dX3_shown_18 : decode cX3_shown 18 = .ok (.invokespecial 184, 3) := by decide +kernel
theorem dX3_shown_21 : decode cX3_shown 21 = .ok (.athrow, 1) := by decide +kernel
theorem dX3_shown_22 : decode cX3_shown 22 = .ok (.iload_n 2, 1) := by decide +kernel
theorem dX3_shown_23 : decode cX3_shown 23 = .ok (.tableswitch 46 0 2 #[25, 32, 39], 25) := by decide +kernel
theorem dX3_shown_48 : decode cX3_shown 48 = .ok (.aload_n 0, 1) := by decide +kernel
theorem dX3_shown_49 : decode cX3_shown 49 = .ok (.getfield 45, 3) := by decide +kernel
theorem dX3_shown_52 : decode cX3_shown 52 = .ok (.iload_n 1, 1) := by decide +kernel
theorem dX3_shown_53 : decode cX3_shown 53 = .ok (.iaload, 1) := by decide +kernel
theorem dX3_shown_54 : decode cX3_shown 54 = .ok (.ireturn, 1) := by decide +kernel
theorem dX3_shown_55 : decode cX3_shown 55 = .ok (.aload_n 0, 1) := by decide +kernel
theorem dX3_shown_56 : decode cX3_shown 56 = .ok (.getfield 48, 3) := by decide +kernel
theorem dX3_shown_59 : decode cX3_shown 59 = .ok (.iload_n 1, 1) := by decide +kernel
theorem dX3_shown_60 : decode cX3_shown 60 = .ok (.iaload, 1) := by decide +kernel
theorem dX3_shown_61 : decode cX3_shown 61 = .ok (.ireturn, 1) := by decide +kernel
theorem dX3_shown_62 : decode cX3_shown 62 = .ok (.aload_n 0, 1) := by decide +kernel
theorem dX3_shown_63 : decode cX3_shown 63 = .ok (.getfield 51, 3) := by decide +kernel
theorem dX3_shown_66 : decode cX3_shown 66 = .ok (.iload_n 1, 1) := by decide +kernel
theorem dX3_shown_67 : decode cX3_shown 67 = .ok (.iaload, 1) := by decide +kernel
theorem dX3_shown_68 : decode cX3_shown 68 = .ok (.ireturn, 1) := by decide +kernel
theorem dX3_shown_69 : decode cX3_shown 69 = .ok (.new 62, 3) := by decide +kernel
theorem dX3_shown_72 : decode cX3_shown 72 = .ok (.dup, 1) := by decide +kernel
theorem dX3_shown_73 : decode cX3_shown 73 = .ok (.ldc 185, 2) := by decide +kernel
theorem dX3_shown_75 : decode cX3_shown 75 = .ok (.invokespecial 66, 3) := by decide +kernel
theorem dX3_shown_78 : decode cX3_shown 78 = .ok (.athrow, 1) := by decide +kernel
theorem dX3_seen_0 : decode cX3_seen 0 = .ok (.aload_n 0, 1) := by decide +kernel
theorem dX3_seen_1 : decode cX3_seen 1 = .ok (.getfield 42, 3) := by decide +kernel
theorem dX3_seen_4 : decode cX3_seen 4 = .ok (.ireturn, 1) := by decide +kernel
set_option maxRecDepth 20000 in
theorem ggX3_points_X3_fightNumbered : GoodIn wsX3_points wsX3_fightNumbered := goodIn_ca (goodIn_r _ [6, 7, 8, 9, 10, 11, 12, 13, 14, 15, 16, 17, 18, 19, 20, 21, 22, 23, 24, 25, 26, 27, 28, 29, 30, 31, 32, 33, 48, 49, 50, 51, 52, 53, 54, 55, 56, 57, 58, 59, 60, 61, 62, 63, 64, 65] (by decide +kernel) (by decide +kernel)) (goodIn_sub (fun _ h => List.mem_cons_of_mem _ (List.mem_append_right _ h)) (by decide +kernel))
set_option maxRecDepth 20000 in
theorem gX3_points_X3_fightNumbered : GoodIn wsX3_points (wsV RX3 77 RX3 yX3_fightNumbered wsX3_fightNumbered) := goodIn_app (goodIn_of _ (by decide +kernel)) ggX3_points_X3_fightNumbered
set_option maxRecDepth 20000 in
theorem ggX3_points_X3_checkPlayer : GoodIn wsX3_points wsX3_checkPlayer := goodIn_ca (goodIn_r _ [36, 7, 8] (by decide +kernel) (by decide +kernel)) (goodIn_sub (fun _ h => List.mem_cons_of_mem _ (List.mem_append_right _ h)) (by decide +kernel))
set_option maxRecDepth 20000 in
theorem gX3_points_X3_checkPlayer : GoodIn wsX3_points (va_wsS RX3 54 yX3_checkPlayer wsX3_checkPlayer) := goodIn_app (goodIn_of _ (by decide +kernel)) ggX3_points_X3_checkPlayer
set_option maxRecDepth 20000 in
theorem ggX3_points_X3_pointsUpTo : GoodIn wsX3_points wsX3_pointsUpTo := goodIn_r _ [40, 41, 42, 43, 44, 45, 46, 47, 11, 12, 13, 14, 15, 16, 17, 18, 19, 20, 21, 22, 23, 24, 25, 26, 27, 28, 29, 30, 31, 32, 33, 48, 49, 50, 51, 52, 53, 54, 55, 56, 57, 58, 59, 60, 61, 62, 66, 67, 68, 69, 70, 63, 64, 65] (by decide +kernel) (by decide +kernel)
set_option maxRecDepth 20000 in
theorem gX3_points_X3_pointsUpTo : GoodIn wsX3_points (wsV RX3 93 RX3 yX3_pointsUpTo wsX3_pointsUpTo) := goodIn_app (goodIn_of _ (by decide +kernel)) ggX3_points_X3_pointsUpTo
theorem dX3_points_0 : decode cX3_points 0 = .ok (.aload_n 0, 1) := by decide +kernel
theorem dX3_points_1 : decode cX3_points 1 = .ok (.iload_n 1, 1) := by decide +kernel
theorem dX3_points_2 : decode cX3_points 2 = .ok (.invokevirtual 77, 3) := by decide +kernel
theorem dX3_points_5 : decode cX3_points 5 = .ok (.astore_n 3, 1) := by decide +kernel
theorem dX3_points_6 : decode cX3_points 6 = .ok (.iload_n 2, 1) := by decide +kernel
theorem dX3_points_7 : decode cX3_points 7 = .ok (.invokestatic 54, 3) := by decide +kernel
theorem dX3_points_10 : decode cX3_points 10 = .ok (.aload_n 0, 1) := by decide +kernel
theorem dX3_points_11 : decode cX3_points 11 = .ok (.aload_n 0, 1) := by decide +kernel
theorem dX3_points_12 : decode cX3_points 12 = .ok (.getfield 85, 3) := by decide +kernel
theorem dX3_points_15 : decode cX3_points 15 = .ok (.aload_n 3, 1) := by decide +kernel
theorem dX3_points_16 : decode cX3_points 16 = .ok (.iload_n 2, 1) := by decide +kernel
theorem dX3_points_17 : decode cX3_points 17 = .ok (.invokevirtual 93, 3) := by decide +kernel
theorem dX3_points_20 : decode cX3_points 20 = .ok (.ireturn, 1) := by decide +kernel
set_option maxRecDepth 20000 in
theorem ggX3_overlay_X3_fightNumbered : GoodIn wsX3_overlay wsX3_fightNumbered := goodIn_ca (goodIn_r _ [6, 7, 8, 9, 10, 11, 12, 13, 14, 15, 16, 17, 18, 19, 20, 21, 22, 23, 24, 25, 26, 27, 28, 29, 30, 31, 32, 33, 48, 49, 50, 51, 52, 53, 54, 55, 56, 57, 58, 59, 60, 61, 62, 63, 64, 65] (by decide +kernel) (by decide +kernel)) (goodIn_sub (fun _ h => List.mem_cons_of_mem _ (List.mem_append_right _ h)) (by decide +kernel))
set_option maxRecDepth 20000 in
theorem gX3_overlay_X3_fightNumbered : GoodIn wsX3_overlay (wsV RX3 77 RX3 yX3_fightNumbered wsX3_fightNumbered) := goodIn_app (goodIn_of _ (by decide +kernel)) ggX3_overlay_X3_fightNumbered
set_option maxRecDepth 20000 in
theorem ggX3_overlay_X3_checkPlayer : GoodIn wsX3_overlay wsX3_checkPlayer := goodIn_ca (goodIn_r _ [36, 7, 8] (by decide +kernel) (by decide +kernel)) (goodIn_sub (fun _ h => List.mem_cons_of_mem _ (List.mem_append_right _ h)) (by decide +kernel))
set_option maxRecDepth 20000 in
theorem gX3_overlay_X3_checkPlayer : GoodIn wsX3_overlay (va_wsS RX3 54 yX3_checkPlayer wsX3_checkPlayer) := goodIn_app (goodIn_of _ (by decide +kernel)) ggX3_overlay_X3_checkPlayer
set_option maxRecDepth 20000 in
theorem ggX3_overlay_X3_pointsUpTo : GoodIn wsX3_overlay wsX3_pointsUpTo := goodIn_r _ [40, 41, 42, 43, 44, 45, 46, 47, 11, 12, 13, 14, 15, 16, 17, 18, 19, 20, 21, 22, 23, 24, 25, 26, 27, 28, 29, 30, 31, 32, 33, 48, 49, 50, 51, 52, 53, 54, 55, 56, 57, 58, 59, 60, 61, 62, 66, 67, 68, 69, 70, 63, 64, 65] (by decide +kernel) (by decide +kernel)
set_option maxRecDepth 20000 in
theorem gX3_overlay_X3_pointsUpTo : GoodIn wsX3_overlay (wsV RX3 93 RX3 yX3_pointsUpTo wsX3_pointsUpTo) := goodIn_app (goodIn_of _ (by decide +kernel)) ggX3_overlay_X3_pointsUpTo
theorem dX3_overlay_0 : decode cX3_overlay 0 = .ok (.aload_n 0, 1) := by decide +kernel
theorem dX3_overlay_1 : decode cX3_overlay 1 = .ok (.iload_n 1, 1) := by decide +kernel
theorem dX3_overlay_2 : decode cX3_overlay 2 = .ok (.invokevirtual 77, 3) := by decide +kernel
theorem dX3_overlay_5 : decode cX3_overlay 5 = .ok (.astore_n 3, 1) := by decide +kernel
theorem dX3_overlay_6 : decode cX3_overlay 6 = .ok (.iload_n 2, 1) := by decide +kernel
theorem dX3_overlay_7 : decode cX3_overlay 7 = .ok (.invokestatic 54, 3) := by decide +kernel
theorem dX3_overlay_10 : decode cX3_overlay 10 = .ok (.aload_n 0, 1) := by decide +kernel
theorem dX3_overlay_11 : decode cX3_overlay 11 = .ok (.aload_n 0, 1) := by decide +kernel
theorem dX3_overlay_12 : decode cX3_overlay 12 = .ok (.getfield 42, 3) := by decide +kernel
theorem dX3_overlay_15 : decode cX3_overlay 15 = .ok (.aload_n 3, 1) := by decide +kernel
theorem dX3_overlay_16 : decode cX3_overlay 16 = .ok (.iload_n 2, 1) := by decide +kernel
theorem dX3_overlay_17 : decode cX3_overlay 17 = .ok (.invokevirtual 93, 3) := by decide +kernel
theorem dX3_overlay_20 : decode cX3_overlay 20 = .ok (.ireturn, 1) := by decide +kernel
set_option maxRecDepth 20000 in
theorem ggX3_fightOf_X3_fightNumbered : GoodIn wsX3_fightOf wsX3_fightNumbered := goodIn_ca (goodIn_r _ [12, 13, 14, 15, 16, 17, 18, 19, 20, 21, 22, 23, 24, 25, 26, 27, 28, 29, 30, 31, 32, 33, 34, 35, 36, 37, 38, 39, 47, 48, 49, 50, 51, 52, 53, 54, 55, 56, 57, 58, 59, 60, 61, 62, 63, 64] (by decide +kernel) (by decide +kernel)) (goodIn_sub (fun _ h => List.mem_cons_of_mem _ (List.mem_append_right _ h)) (by decide +kernel))
set_option maxRecDepth 20000 in
theorem gX3_fightOf_X3_fightNumbered : GoodIn wsX3_fightOf (wsV RX3 77 RX3 yX3_fightNumbered wsX3_fightNumbered) := goodIn_app (goodIn_of _ (by decide +kernel)) ggX3_fightOf_X3_fightNumbered
theorem dX3_fightOf_0 : decode cX3_fightOf 0 = .ok (.aload_n 0, 1) := by decide +kernel
theorem dX3_fightOf_1 : decode cX3_fightOf 1 = .ok (.iload_n 1, 1) := by decide +kernel
theorem dX3_fightOf_2 : decode cX3_fightOf 2 = .ok (.invokevirtual 77, 3) := by decide +kernel
theorem dX3_fightOf_5 : decode cX3_fightOf 5 = .ok (.astore_n 3, 1) := by decide +kernel
theorem dX3_fightOf_6 : decode cX3_fightOf 6 = .ok (.iload_n 2, 1) := by decide +kernel
theorem dX3_fightOf_7 : decode cX3_fightOf 7 = .ok (.tableswitch 58 0 4 #[33, 38, 43, 48, 53], 33) := by decide +kernel
theorem dX3_fightOf_40 : decode cX3_fightOf 40 = .ok (.aload_n 3, 1) := by decide +kernel
theorem dX3_fightOf_41 : decode cX3_fightOf 41 = .ok (.getfield 100, 3) := by decide +kernel
theorem dX3_fightOf_44 : decode cX3_fightOf 44 = .ok (.ireturn, 1) := by decide +kernel
theorem dX3_fightOf_45 : decode cX3_fightOf 45 = .ok (.aload_n 3, 1) := by decide +kernel
theorem dX3_fightOf_46 : decode cX3_fightOf 46 = .ok (.getfield 88, 3) := by decide +kernel
theorem dX3_fightOf_49 : decode cX3_fightOf 49 = .ok (.ireturn, 1) := by decide +kernel
theorem dX3_fightOf_50 : decode cX3_fightOf 50 = .ok (.aload_n 3, 1) := by decide +kernel
theorem dX3_fightOf_51 : decode cX3_fightOf 51 = .ok (.getfield 97, 3) := by decide +kernel
theorem dX3_fightOf_54 : decode cX3_fightOf 54 = .ok (.ireturn, 1) := by decide +kernel
theorem dX3_fightOf_55 : decode cX3_fightOf 55 = .ok (.aload_n 3, 1) := by decide +kernel
theorem dX3_fightOf_56 : decode cX3_fightOf 56 = .ok (.getfield 103, 3) := by decide +kernel
theorem dX3_fightOf_59 : decode cX3_fightOf 59 = .ok (.ireturn, 1) := by decide +kernel
theorem dX3_fightOf_60 : decode cX3_fightOf 60 = .ok (.aload_n 3, 1) := by decide +kernel
theorem dX3_fightOf_61 : decode cX3_fightOf 61 = .ok (.getfield 187, 3) := by decide +kernel
theorem dX3_fightOf_64 : decode cX3_fightOf 64 = .ok (.ireturn, 1) := by decide +kernel
theorem dX3_fightOf_65 : decode cX3_fightOf 65 = .ok (.new 62, 3) := by decide +kernel
theorem dX3_fightOf_68 : decode cX3_fightOf 68 = .ok (.dup, 1) := by decide +kernel
theorem dX3_fightOf_69 : decode cX3_fightOf 69 = .ok (.ldc 190, 2) := by decide +kernel
theorem dX3_fightOf_71 : decode cX3_fightOf 71 = .ok (.invokespecial 66, 3) := by decide +kernel
theorem dX3_fightOf_74 : decode cX3_fightOf 74 = .ok (.athrow, 1) := by decide +kernel
set_option maxRecDepth 20000 in
theorem ggX3_cameraOf_Jx4a65c_size_8abf5 : GoodIn wsX3_cameraOf wsJx4a65c_size_8abf5 := goodIn_r _ [13, 14, 51, 52, 53] (by decide +kernel) (by decide +kernel)
set_option maxRecDepth 20000 in
theorem gX3_cameraOf_Jx4a65c_size_8abf5 : GoodIn wsX3_cameraOf (wsV RX3 117 RJx4a65c yJx4a65c_size_8abf5 wsJx4a65c_size_8abf5) := goodIn_app (goodIn_of _ (by decide +kernel)) ggX3_cameraOf_Jx4a65c_size_8abf5
set_option maxRecDepth 20000 in
theorem ggX3_cameraOf_Jx4a65c_get_915e3 : GoodIn wsX3_cameraOf wsJx4a65c_get_915e3 := goodIn_r _ [18, 14, 19, 20, 21, 22, 23, 24, 25, 26, 27, 28, 29, 12, 30, 31, 51, 52, 53] (by decide +kernel) (by decide +kernel)
set_option maxRecDepth 20000 in
theorem gX3_cameraOf_Jx4a65c_get_915e3 : GoodIn wsX3_cameraOf (wsV RX3 194 RJx4a65c yJx4a65c_get_915e3 wsJx4a65c_get_915e3) := goodIn_app (goodIn_of _ (by decide +kernel)) ggX3_cameraOf_Jx4a65c_get_915e3
theorem dX3_cameraOf_0 : decode cX3_cameraOf 0 = .ok (.iload_n 1, 1) := by decide +kernel
theorem dX3_cameraOf_1 : decode cX3_cameraOf 1 = .ok (.ifCond .lt 14, 3) := by decide +kernel
theorem dX3_cameraOf_4 : decode cX3_cameraOf 4 = .ok (.iload_n 1, 1) := by decide +kernel
theorem dX3_cameraOf_5 : decode cX3_cameraOf 5 = .ok (.aload_n 0, 1) := by decide +kernel
theorem dX3_cameraOf_6 : decode cX3_cameraOf 6 = .ok (.getfield 23, 3) := by decide +kernel
theorem dX3_cameraOf_9 : decode cX3_cameraOf 9 = .ok (.invokevirtual 117, 3) := by decide +kernel
theorem dX3_cameraOf_12 : decode cX3_cameraOf 12 = .ok (.if_icmp .lt 13, 3) := by decide +kernel
theorem dX3_cameraOf_15 : decode cX3_cameraOf 15 = .ok (.new 180, 3) := by decide +kernel
theorem dX3_cameraOf_18 : decode cX3_cameraOf 18 = .ok (.dup, 1) := by decide +kernel
theorem dX3_cameraOf_19 : decode cX3_cameraOf 19 = .ok (.ldc 192, 2) := by decide +kernel
theorem dX3_cameraOf_21 : decode cX3_cameraOf 21 = .ok (.invokespecial 184, 3) := by decide +kernel
theorem dX3_cameraOf_24 : decode cX3_cameraOf 24 = .ok (.athrow, 1) := by decide +kernel
theorem dX3_cameraOf_25 : decode cX3_cameraOf 25 = .ok (.aload_n 0, 1) := by decide +kernel
theorem dX3_cameraOf_26 : decode cX3_cameraOf 26 = .ok (.getfield 23, 3) := by decide +kernel
theorem dX3_cameraOf_29 : decode cX3_cameraOf 29 = .ok (.iload_n 1, 1) := by decide +kernel
theorem dX3_cameraOf_30 : decode cX3_cameraOf 30 = .ok (.invokevirtual 194, 3) := by decide +kernel
theorem dX3_cameraOf_33 : decode cX3_cameraOf 33 = .ok (.checkcast 123, 3) := by decide +kernel
theorem dX3_cameraOf_36 : decode cX3_cameraOf 36 = .ok (.astore_n 3, 1) := by decide +kernel
theorem dX3_cameraOf_37 : decode cX3_cameraOf 37 = .ok (.iload_n 2, 1) := by decide +kernel
theorem dX3_cameraOf_38 : decode cX3_cameraOf 38 = .ok (.lookupswitch 36 #[(0, 26), (1, 31)], 26) := by decide +kernel
theorem dX3_cameraOf_64 : decode cX3_cameraOf 64 = .ok (.aload_n 3, 1) := by decide +kernel
theorem dX3_cameraOf_65 : decode cX3_cameraOf 65 = .ok (.getfield 198, 3) := by decide +kernel
theorem dX3_cameraOf_68 : decode cX3_cameraOf 68 = .ok (.ireturn, 1) := by decide +kernel
theorem dX3_cameraOf_69 : decode cX3_cameraOf 69 = .ok (.aload_n 3, 1) := by decide +kernel
theorem dX3_cameraOf_70 : decode cX3_cameraOf 70 = .ok (.getfield 201, 3) := by decide +kernel
theorem dX3_cameraOf_73 : decode cX3_cameraOf 73 = .ok (.ireturn, 1) := by decide +kernel
theorem dX3_cameraOf_74 : decode cX3_cameraOf 74 = .ok (.new 62, 3) := by decide +kernel
theorem dX3_cameraOf_77 : decode cX3_cameraOf 77 = .ok (.dup, 1) := by decide +kernel
theorem dX3_cameraOf_78 : decode cX3_cameraOf 78 = .ok (.ldc 204, 2) := by decide +kernel
theorem dX3_cameraOf_80 : decode cX3_cameraOf 80 = .ok (.invokespecial 66, 3) := by decide +kernel
theorem dX3_cameraOf_83 : decode cX3_cameraOf 83 = .ok (.athrow, 1) := by decide +kernel
set_option maxRecDepth 20000 in
theorem ggX3_counted_X3_checkSponsor : GoodIn wsX3_counted wsX3_checkSponsor := goodIn_ca (goodIn_r _ [5, 6, 7] (by decide +kernel) (by decide +kernel)) (goodIn_sub (fun _ h => List.mem_cons_of_mem _ (List.mem_append_right _ h)) (by decide +kernel))
set_option maxRecDepth 20000 in
theorem gX3_counted_X3_checkSponsor : GoodIn wsX3_counted (va_wsS RX3 170 yX3_checkSponsor wsX3_checkSponsor) := goodIn_app (goodIn_of _ (by decide +kernel)) ggX3_counted_X3_checkSponsor
theorem dX3_counted_0 : decode cX3_counted 0 = .ok (.iload_n 1, 1) := by decide +kernel
theorem dX3_counted_1 : decode cX3_counted 1 = .ok (.invokestatic 170, 3) := by decide +kernel
theorem dX3_counted_4 : decode cX3_counted 4 = .ok (.aload_n 0, 1) := by decide +kernel
theorem dX3_counted_5 : decode cX3_counted 5 = .ok (.getfield 32, 3) := by decide +kernel
theorem dX3_counted_8 : decode cX3_counted 8 = .ok (.iload_n 1, 1) := by decide +kernel
theorem dX3_counted_9 : decode cX3_counted 9 = .ok (.iaload, 1) := by decide +kernel
theorem dX3_counted_10 : decode cX3_counted 10 = .ok (.ireturn, 1) := by decide +kernel
set_option maxRecDepth 20000 in
theorem ggX3_countedAnew_X3_checkSponsor : GoodIn wsX3_countedAnew wsX3_checkSponsor := goodIn_ca (goodIn_r _ [6, 7, 8] (by decide +kernel) (by decide +kernel)) (goodIn_sub (fun _ h => List.mem_cons_of_mem _ (List.mem_append_right _ h)) (by decide +kernel))
set_option maxRecDepth 20000 in
theorem gX3_countedAnew_X3_checkSponsor : GoodIn wsX3_countedAnew (va_wsS RX3 170 yX3_checkSponsor wsX3_checkSponsor) := goodIn_app (goodIn_of _ (by decide +kernel)) ggX3_countedAnew_X3_checkSponsor
theorem dX3_countedAnew_0 : decode cX3_countedAnew 0 = .ok (.iload_n 1, 1) := by decide +kernel
theorem dX3_countedAnew_1 : decode cX3_countedAnew 1 = .ok (.invokestatic 170, 3) := by decide +kernel
theorem dX3_countedAnew_4 : decode cX3_countedAnew 4 = .ok (.iconst 0, 1) := by decide +kernel
theorem dX3_countedAnew_5 : decode cX3_countedAnew 5 = .ok (.istore_n 2, 1) := by decide +kernel
theorem dX3_countedAnew_6 : decode cX3_countedAnew 6 = .ok (.iconst 0, 1) := by decide +kernel
theorem dX3_countedAnew_7 : decode cX3_countedAnew 7 = .ok (.istore_n 3, 1) := by decide +kernel
theorem dX3_countedAnew_8 : decode cX3_countedAnew 8 = .ok (.iload_n 3, 1) := by decide +kernel
theorem dX3_countedAnew_9 : decode cX3_countedAnew 9 = .ok (.aload_n 0, 1) := by decide +kernel
theorem dX3_countedAnew_10 : decode cX3_countedAnew 10 = .ok (.getfield 85, 3) := by decide +kernel
theorem dX3_countedAnew_13 : decode cX3_countedAnew 13 = .ok (.if_icmp .ge 22, 3) := by decide +kernel
theorem dX3_countedAnew_16 : decode cX3_countedAnew 16 = .ok (.aload_n 0, 1) := by decide +kernel
theorem dX3_countedAnew_17 : decode cX3_countedAnew 17 = .ok (.getfield 51, 3) := by decide +kernel
theorem dX3_countedAnew_20 : decode cX3_countedAnew 20 = .ok (.iload_n 3, 1) := by decide +kernel
theorem dX3_countedAnew_21 : decode cX3_countedAnew 21 = .ok (.iaload, 1) := by decide +kernel
theorem dX3_countedAnew_22 : decode cX3_countedAnew 22 = .ok (.iload_n 1, 1) := by decide +kernel
theorem dX3_countedAnew_23 : decode cX3_countedAnew 23 = .ok (.if_icmp .ne 6, 3) := by decide +kernel
theorem dX3_countedAnew_26 : decode cX3_countedAnew 26 = .ok (.iinc 2 1, 3) := by decide +kernel
theorem dX3_countedAnew_29 : decode cX3_countedAnew 29 = .ok (.iinc 3 1, 3) := by decide +kernel
theorem dX3_countedAnew_32 : decode cX3_countedAnew 32 = .ok (.goto (-24), 3) := by decide +kernel
theorem dX3_countedAnew_35 : decode cX3_countedAnew 35 = .ok (.iload_n 2, 1) := by decide +kernel
theorem dX3_countedAnew_36 : decode cX3_countedAnew 36 = .ok (.ireturn, 1) := by decide +kernel
set_option maxRecDepth 20000 in
theorem ggX3_owed_X3_checkSponsor : GoodIn wsX3_owed wsX3_checkSponsor := goodIn_ca (goodIn_r _ [4, 5, 6] (by decide +kernel) (by decide +kernel)) (goodIn_sub (fun _ h => List.mem_cons_of_mem _ (List.mem_append_right _ h)) (by decide +kernel))
set_option maxRecDepth 20000 in
theorem gX3_owed_X3_checkSponsor : GoodIn wsX3_owed (va_wsS RX3 170 yX3_checkSponsor wsX3_checkSponsor) := goodIn_app (goodIn_of _ (by decide +kernel)) ggX3_owed_X3_checkSponsor
set_option maxRecDepth 20000 in
theorem ggX3_owed_X3_owedTo : GoodIn wsX3_owed wsX3_owedTo := goodIn_r _ [10, 11, 12, 13, 14, 15, 16, 17, 18, 19, 20, 21, 22, 23, 24, 25, 26, 27, 28, 29, 30, 31] (by decide +kernel) (by decide +kernel)
set_option maxRecDepth 20000 in
theorem gX3_owed_X3_owedTo : GoodIn wsX3_owed (wsV RX3 206 RX3 yX3_owedTo wsX3_owedTo) := goodIn_app (goodIn_of _ (by decide +kernel)) ggX3_owed_X3_owedTo
theorem dX3_owed_0 : decode cX3_owed 0 = .ok (.iload_n 1, 1) := by decide +kernel
theorem dX3_owed_1 : decode cX3_owed 1 = .ok (.invokestatic 170, 3) := by decide +kernel
theorem dX3_owed_4 : decode cX3_owed 4 = .ok (.aload_n 0, 1) := by decide +kernel
theorem dX3_owed_5 : decode cX3_owed 5 = .ok (.iload_n 1, 1) := by decide +kernel
theorem dX3_owed_6 : decode cX3_owed 6 = .ok (.invokevirtual 206, 3) := by decide +kernel
theorem dX3_owed_9 : decode cX3_owed 9 = .ok (.ireturn, 1) := by decide +kernel
set_option maxRecDepth 20000 in
theorem ggX3_leader_X3_placeOf : GoodIn wsX3_leader wsX3_placeOf := goodIn_r _ [7, 8, 9, 10, 11, 12, 13, 14, 15, 16, 17, 18, 19, 20, 21, 22, 23] (by decide +kernel) (by decide +kernel)
set_option maxRecDepth 20000 in
theorem gX3_leader_X3_placeOf : GoodIn wsX3_leader (wsV RX3 212 RX3 yX3_placeOf wsX3_placeOf) := goodIn_app (goodIn_of _ (by decide +kernel)) ggX3_leader_X3_placeOf
theorem dX3_leader_0 : decode cX3_leader 0 = .ok (.iload_n 1, 1) := by decide +kernel
theorem dX3_leader_1 : decode cX3_leader 1 = .ok (.ifCond .lt 9, 3) := by decide +kernel
theorem dX3_leader_4 : decode cX3_leader 4 = .ok (.iload_n 1, 1) := by decide +kernel
theorem dX3_leader_5 : decode cX3_leader 5 = .ok (.bipush 10, 2) := by decide +kernel
theorem dX3_leader_7 : decode cX3_leader 7 = .ok (.if_icmp .lt 13, 3) := by decide +kernel
theorem dX3_leader_10 : decode cX3_leader 10 = .ok (.new 180, 3) := by decide +kernel
theorem dX3_leader_13 : decode cX3_leader 13 = .ok (.dup, 1) := by decide +kernel
theorem dX3_leader_14 : decode cX3_leader 14 = .ok (.ldc 210, 2) := by decide +kernel
theorem dX3_leader_16 : decode cX3_leader 16 = .ok (.invokespecial 184, 3) := by decide +kernel
theorem dX3_leader_19 : decode cX3_leader 19 = .ok (.athrow, 1) := by decide +kernel
theorem dX3_leader_20 : decode cX3_leader 20 = .ok (.iconst 0, 1) := by decide +kernel
theorem dX3_leader_21 : decode cX3_leader 21 = .ok (.istore_n 2, 1) := by decide +kernel
theorem dX3_leader_22 : decode cX3_leader 22 = .ok (.iload_n 2, 1) := by decide +kernel
theorem dX3_leader_23 : decode cX3_leader 23 = .ok (.bipush 9, 2) := by decide +kernel
theorem dX3_leader_25 : decode cX3_leader 25 = .ok (.if_icmp .ge 18, 3) := by decide +kernel
theorem dX3_leader_28 : decode cX3_leader 28 = .ok (.aload_n 0, 1) := by decide +kernel
theorem dX3_leader_29 : decode cX3_leader 29 = .ok (.iload_n 2, 1) := by decide +kernel
theorem dX3_leader_30 : decode cX3_leader 30 = .ok (.invokevirtual 212, 3) := by decide +kernel
theorem dX3_leader_33 : decode cX3_leader 33 = .ok (.iload_n 1, 1) := by decide +kernel
theorem dX3_leader_34 : decode cX3_leader 34 = .ok (.if_icmp .eq 9, 3) := by decide +kernel
theorem dX3_leader_37 : decode cX3_leader 37 = .ok (.iinc 2 1, 3) := by decide +kernel
theorem dX3_leader_40 : decode cX3_leader 40 = .ok (.goto (-18), 3) := by decide +kernel
theorem dX3_leader_43 : decode cX3_leader 43 = .ok (.iload_n 2, 1) := by decide +kernel
theorem dX3_leader_44 : decode cX3_leader 44 = .ok (.ireturn, 1) := by decide +kernel
theorem dX3_checkPlayer_0 : decode cX3_checkPlayer 0 = .ok (.iload_n 0, 1) := by decide +kernel
theorem dX3_checkPlayer_1 : decode cX3_checkPlayer 1 = .ok (.ifCond .lt 9, 3) := by decide +kernel
theorem dX3_checkPlayer_4 : decode cX3_checkPlayer 4 = .ok (.iload_n 0, 1) := by decide +kernel
theorem dX3_checkPlayer_5 : decode cX3_checkPlayer 5 = .ok (.bipush 10, 2) := by decide +kernel
theorem dX3_checkPlayer_7 : decode cX3_checkPlayer 7 = .ok (.if_icmp .lt 13, 3) := by decide +kernel
theorem dX3_checkPlayer_10 : decode cX3_checkPlayer 10 = .ok (.new 180, 3) := by decide +kernel
theorem dX3_checkPlayer_13 : decode cX3_checkPlayer 13 = .ok (.dup, 1) := by decide +kernel
theorem dX3_checkPlayer_14 : decode cX3_checkPlayer 14 = .ok (.ldc 215, 2) := by decide +kernel
theorem dX3_checkPlayer_16 : decode cX3_checkPlayer 16 = .ok (.invokespecial 184, 3) := by decide +kernel
theorem dX3_checkPlayer_19 : decode cX3_checkPlayer 19 = .ok (.athrow, 1) := by decide +kernel
theorem dX3_checkPlayer_20 : decode cX3_checkPlayer 20 = .ok (.return_, 1) := by decide +kernel
theorem dX3_checkSponsor_0 : decode cX3_checkSponsor 0 = .ok (.iload_n 0, 1) := by decide +kernel
theorem dX3_checkSponsor_1 : decode cX3_checkSponsor 1 = .ok (.ifCond .lt 9, 3) := by decide +kernel
theorem dX3_checkSponsor_4 : decode cX3_checkSponsor 4 = .ok (.iload_n 0, 1) := by decide +kernel
theorem dX3_checkSponsor_5 : decode cX3_checkSponsor 5 = .ok (.bipush 6, 2) := by decide +kernel
theorem dX3_checkSponsor_7 : decode cX3_checkSponsor 7 = .ok (.if_icmp .lt 13, 3) := by decide +kernel
theorem dX3_checkSponsor_10 : decode cX3_checkSponsor 10 = .ok (.new 180, 3) := by decide +kernel
theorem dX3_checkSponsor_13 : decode cX3_checkSponsor 13 = .ok (.dup, 1) := by decide +kernel
theorem dX3_checkSponsor_14 : decode cX3_checkSponsor 14 = .ok (.ldc 217, 2) := by decide +kernel
theorem dX3_checkSponsor_16 : decode cX3_checkSponsor 16 = .ok (.invokespecial 184, 3) := by decide +kernel
theorem dX3_checkSponsor_19 : decode cX3_checkSponsor 19 = .ok (.athrow, 1) := by decide +kernel
theorem dX3_checkSponsor_20 : decode cX3_checkSponsor 20 = .ok (.return_, 1) := by decide +kernel
theorem dX3_checkRange_0 : decode cX3_checkRange 0 = .ok (.iload_n 0, 1) := by decide +kernel
theorem dX3_checkRange_1 : decode cX3_checkRange 1 = .ok (.iload_n 1, 1) := by decide +kernel
theorem dX3_checkRange_2 : decode cX3_checkRange 2 = .ok (.if_icmp .lt 8, 3) := by decide +kernel
theorem dX3_checkRange_5 : decode cX3_checkRange 5 = .ok (.iload_n 0, 1) := by decide +kernel
theorem dX3_checkRange_6 : decode cX3_checkRange 6 = .ok (.iload_n 2, 1) := by decide +kernel
theorem dX3_checkRange_7 : decode cX3_checkRange 7 = .ok (.if_icmp .le 13, 3) := by decide +kernel
theorem dX3_checkRange_10 : decode cX3_checkRange 10 = .ok (.new 62, 3) := by decide +kernel
theorem dX3_checkRange_13 : decode cX3_checkRange 13 = .ok (.dup, 1) := by decide +kernel
theorem dX3_checkRange_14 : decode cX3_checkRange 14 = .ok (.ldc 219, 2) := by decide +kernel
theorem dX3_checkRange_16 : decode cX3_checkRange 16 = .ok (.invokespecial 66, 3) := by decide +kernel
theorem dX3_checkRange_19 : decode cX3_checkRange 19 = .ok (.athrow, 1) := by decide +kernel
theorem dX3_checkRange_20 : decode cX3_checkRange 20 = .ok (.return_, 1) := by decide +kernel
theorem dX3_checkGoesOn_0 : decode cX3_checkGoesOn 0 = .ok (.aload_n 0, 1) := by decide +kernel
theorem dX3_checkGoesOn_1 : decode cX3_checkGoesOn 1 = .ok (.getfield 100, 3) := by decide +kernel
theorem dX3_checkGoesOn_4 : decode cX3_checkGoesOn 4 = .ok (.ifCond .eq 13, 3) := by decide +kernel
theorem dX3_checkGoesOn_7 : decode cX3_checkGoesOn 7 = .ok (.new 106, 3) := by decide +kernel
theorem dX3_checkGoesOn_10 : decode cX3_checkGoesOn 10 = .ok (.dup, 1) := by decide +kernel
theorem dX3_checkGoesOn_11 : decode cX3_checkGoesOn 11 = .ok (.ldc 221, 2) := by decide +kernel
theorem dX3_checkGoesOn_13 : decode cX3_checkGoesOn 13 = .ok (.invokespecial 110, 3) := by decide +kernel
theorem dX3_checkGoesOn_16 : decode cX3_checkGoesOn 16 = .ok (.athrow, 1) := by decide +kernel
theorem dX3_checkGoesOn_17 : decode cX3_checkGoesOn 17 = .ok (.return_, 1) := by decide +kernel
set_option maxRecDepth 20000 in
theorem ggX3_checkCanBeCorrected_X1_canBeCorrected : GoodIn wsX3_checkCanBeCorrected wsX1_canBeCorrected := goodIn_r _ [7, 8, 9, 10, 11, 12, 13, 14, 15, 16, 17, 18, 19, 20, 21, 22] (by decide +kernel) (by decide +kernel)
set_option maxRecDepth 20000 in
theorem gX3_checkCanBeCorrected_X1_canBeCorrected : GoodIn wsX3_checkCanBeCorrected (wsV RX3 223 RX1 yX1_canBeCorrected wsX1_canBeCorrected) := goodIn_app (goodIn_of _ (by decide +kernel)) ggX3_checkCanBeCorrected_X1_canBeCorrected
theorem dX3_checkCanBeCorrected_0 : decode cX3_checkCanBeCorrected 0 = .ok (.aload_n 0, 1) := by decide +kernel
theorem dX3_checkCanBeCorrected_1 : decode cX3_checkCanBeCorrected 1 = .ok (.invokevirtual 223, 3) := by decide +kernel
theorem dX3_checkCanBeCorrected_4 : decode cX3_checkCanBeCorrected 4 = .ok (.ifCond .ne 13, 3) := by decide +kernel
theorem dX3_checkCanBeCorrected_7 : decode cX3_checkCanBeCorrected 7 = .ok (.new 106, 3) := by decide +kernel
theorem dX3_checkCanBeCorrected_10 : decode cX3_checkCanBeCorrected 10 = .ok (.dup, 1) := by decide +kernel
theorem dX3_checkCanBeCorrected_11 : decode cX3_checkCanBeCorrected 11 = .ok (.ldc 227, 2) := by decide +kernel
theorem dX3_checkCanBeCorrected_13 : decode cX3_checkCanBeCorrected 13 = .ok (.invokespecial 110, 3) := by decide +kernel
theorem dX3_checkCanBeCorrected_16 : decode cX3_checkCanBeCorrected 16 = .ok (.athrow, 1) := by decide +kernel
theorem dX3_checkCanBeCorrected_17 : decode cX3_checkCanBeCorrected 17 = .ok (.return_, 1) := by decide +kernel
set_option maxRecDepth 20000 in
theorem ggX3_checkCanBegin_Jx4a65c_size_8abf5 : GoodIn wsX3_checkCanBegin wsJx4a65c_size_8abf5 := goodIn_r _ [10, 11, 58, 59, 60] (by decide +kernel) (by decide +kernel)
set_option maxRecDepth 20000 in
theorem gX3_checkCanBegin_Jx4a65c_size_8abf5 : GoodIn wsX3_checkCanBegin (wsV RX3 117 RJx4a65c yJx4a65c_size_8abf5 wsJx4a65c_size_8abf5) := goodIn_app (goodIn_of _ (by decide +kernel)) ggX3_checkCanBegin_Jx4a65c_size_8abf5
set_option maxRecDepth 20000 in
theorem ggX3_checkCanBegin_Jx4a65c_get_915e3 : GoodIn wsX3_checkCanBegin wsJx4a65c_get_915e3 := goodIn_r _ [15, 11, 16, 17, 18, 19, 20, 21, 22, 23, 24, 25, 26, 9, 27, 28, 58, 59, 60] (by decide +kernel) (by decide +kernel)
set_option maxRecDepth 20000 in
theorem gX3_checkCanBegin_Jx4a65c_get_915e3 : GoodIn wsX3_checkCanBegin (wsV RX3 194 RJx4a65c yJx4a65c_get_915e3 wsJx4a65c_get_915e3) := goodIn_app (goodIn_of _ (by decide +kernel)) ggX3_checkCanBegin_Jx4a65c_get_915e3
set_option maxRecDepth 20000 in
theorem ggX3_checkCanBegin_X2_isOf : GoodIn wsX3_checkCanBegin wsX2_isOf := goodIn_r _ [33, 34, 35, 51, 52, 53, 54, 55, 56, 57] (by decide +kernel) (by decide +kernel)
set_option maxRecDepth 20000 in
theorem gX3_checkCanBegin_X2_isOf : GoodIn wsX3_checkCanBegin (wsV RX3 139 RX2 yX2_isOf wsX2_isOf) := goodIn_app (goodIn_of _ (by decide +kernel)) ggX3_checkCanBegin_X2_isOf
theorem dX3_checkCanBegin_0 : decode cX3_checkCanBegin 0 = .ok (.aload_n 0, 1) := by decide +kernel
theorem dX3_checkCanBegin_1 : decode cX3_checkCanBegin 1 = .ok (.getfield 19, 3) := by decide +kernel
theorem dX3_checkCanBegin_4 : decode cX3_checkCanBegin 4 = .ok (.invokevirtual 117, 3) := by decide +kernel
theorem dX3_checkCanBegin_7 : decode cX3_checkCanBegin 7 = .ok (.bipush 20, 2) := by decide +kernel
theorem dX3_checkCanBegin_9 : decode cX3_checkCanBegin 9 = .ok (.if_icmp .lt 13, 3) := by decide +kernel
theorem dX3_checkCanBegin_12 : decode cX3_checkCanBegin 12 = .ok (.new 106, 3) := by decide +kernel
theorem dX3_checkCanBegin_15 : decode cX3_checkCanBegin 15 = .ok (.dup, 1) := by decide +kernel
theorem dX3_checkCanBegin_16 : decode cX3_checkCanBegin 16 = .ok (.ldc 229, 2) := by decide +kernel
theorem dX3_checkCanBegin_18 : decode cX3_checkCanBegin 18 = .ok (.invokespecial 110, 3) := by decide +kernel
theorem dX3_checkCanBegin_21 : decode cX3_checkCanBegin 21 = .ok (.athrow, 1) := by decide +kernel
theorem dX3_checkCanBegin_22 : decode cX3_checkCanBegin 22 = .ok (.iconst 0, 1) := by decide +kernel
theorem dX3_checkCanBegin_23 : decode cX3_checkCanBegin 23 = .ok (.istore_n 3, 1) := by decide +kernel
theorem dX3_checkCanBegin_24 : decode cX3_checkCanBegin 24 = .ok (.iload_n 3, 1) := by decide +kernel
theorem dX3_checkCanBegin_25 : decode cX3_checkCanBegin 25 = .ok (.aload_n 0, 1) := by decide +kernel
theorem dX3_checkCanBegin_26 : decode cX3_checkCanBegin 26 = .ok (.getfield 19, 3) := by decide +kernel
theorem dX3_checkCanBegin_29 : decode cX3_checkCanBegin 29 = .ok (.invokevirtual 117, 3) := by decide +kernel
theorem dX3_checkCanBegin_32 : decode cX3_checkCanBegin 32 = .ok (.if_icmp .ge 58, 3) := by decide +kernel
theorem dX3_checkCanBegin_35 : decode cX3_checkCanBegin 35 = .ok (.aload_n 0, 1) := by decide +kernel
theorem dX3_checkCanBegin_36 : decode cX3_checkCanBegin 36 = .ok (.getfield 19, 3) := by decide +kernel
theorem dX3_checkCanBegin_39 : decode cX3_checkCanBegin 39 = .ok (.iload_n 3, 1) := by decide +kernel
theorem dX3_checkCanBegin_40 : decode cX3_checkCanBegin 40 = .ok (.invokevirtual 194, 3) := by decide +kernel
theorem dX3_checkCanBegin_43 : decode cX3_checkCanBegin 43 = .ok (.checkcast 89, 3) := by decide +kernel
theorem dX3_checkCanBegin_46 : decode cX3_checkCanBegin 46 = .ok (.astore 4, 2) := by decide +kernel
theorem dX3_checkCanBegin_48 : decode cX3_checkCanBegin 48 = .ok (.aload 4, 2) := by decide +kernel
theorem dX3_checkCanBegin_50 : decode cX3_checkCanBegin 50 = .ok (.getfield 100, 3) := by decide +kernel
theorem dX3_checkCanBegin_53 : decode cX3_checkCanBegin 53 = .ok (.ifCond .ne 31, 3) := by decide +kernel
theorem dX3_checkCanBegin_56 : decode cX3_checkCanBegin 56 = .ok (.aload 4, 2) := by decide +kernel
theorem dX3_checkCanBegin_58 : decode cX3_checkCanBegin 58 = .ok (.iload_n 1, 1) := by decide +kernel
theorem dX3_checkCanBegin_59 : decode cX3_checkCanBegin 59 = .ok (.invokevirtual 139, 3) := by decide +kernel
theorem dX3_checkCanBegin_62 : decode cX3_checkCanBegin 62 = .ok (.ifCond .ne 12, 3) := by decide +kernel
theorem dX3_checkCanBegin_65 : decode cX3_checkCanBegin 65 = .ok (.aload 4, 2) := by decide +kernel
theorem dX3_checkCanBegin_67 : decode cX3_checkCanBegin 67 = .ok (.iload_n 2, 1) := by decide +kernel
theorem dX3_checkCanBegin_68 : decode cX3_checkCanBegin 68 = .ok (.invokevirtual 139, 3) := by decide +kernel
theorem dX3_checkCanBegin_71 : decode cX3_checkCanBegin 71 = .ok (.ifCond .eq 13, 3) := by decide +kernel
theorem dX3_checkCanBegin_74 : decode cX3_checkCanBegin 74 = .ok (.new 106, 3) := by decide +kernel
theorem dX3_checkCanBegin_77 : decode cX3_checkCanBegin 77 = .ok (.dup, 1) := by decide +kernel
theorem dX3_checkCanBegin_78 : decode cX3_checkCanBegin 78 = .ok (.ldc 231, 2) := by decide +kernel
theorem dX3_checkCanBegin_80 : decode cX3_checkCanBegin 80 = .ok (.invokespecial 110, 3) := by decide +kernel
theorem dX3_checkCanBegin_83 : decode cX3_checkCanBegin 83 = .ok (.athrow, 1) := by decide +kernel
theorem dX3_checkCanBegin_84 : decode cX3_checkCanBegin 84 = .ok (.iinc 3 1, 3) := by decide +kernel
theorem dX3_checkCanBegin_87 : decode cX3_checkCanBegin 87 = .ok (.goto (-63), 3) := by decide +kernel
theorem dX3_checkCanBegin_90 : decode cX3_checkCanBegin 90 = .ok (.return_, 1) := by decide +kernel
set_option maxRecDepth 20000 in
theorem ggX3_fightNumbered_Jx4a65c_size_8abf5 : GoodIn wsX3_fightNumbered wsJx4a65c_size_8abf5 := goodIn_r _ [9, 10, 43, 44, 45] (by decide +kernel) (by decide +kernel)
set_option maxRecDepth 20000 in
theorem gX3_fightNumbered_Jx4a65c_size_8abf5 : GoodIn wsX3_fightNumbered (wsV RX3 117 RJx4a65c yJx4a65c_size_8abf5 wsJx4a65c_size_8abf5) := goodIn_app (goodIn_of _ (by decide +kernel)) ggX3_fightNumbered_Jx4a65c_size_8abf5
set_option maxRecDepth 20000 in
theorem ggX3_fightNumbered_Jx4a65c_get_915e3 : GoodIn wsX3_fightNumbered wsJx4a65c_get_915e3 := goodIn_r _ [14, 10, 15, 16, 17, 18, 19, 20, 21, 22, 23, 24, 25, 8, 26, 27, 43, 44, 45] (by decide +kernel) (by decide +kernel)
set_option maxRecDepth 20000 in
theorem gX3_fightNumbered_Jx4a65c_get_915e3 : GoodIn wsX3_fightNumbered (wsV RX3 194 RJx4a65c yJx4a65c_get_915e3 wsJx4a65c_get_915e3) := goodIn_app (goodIn_of _ (by decide +kernel)) ggX3_fightNumbered_Jx4a65c_get_915e3
theorem dX3_fightNumbered_0 : decode cX3_fightNumbered 0 = .ok (.iload_n 1, 1) := by decide +kernel
theorem dX3_fightNumbered_1 : decode cX3_fightNumbered 1 = .ok (.ifCond .lt 14, 3) := by decide +kernel
theorem dX3_fightNumbered_4 : decode cX3_fightNumbered 4 = .ok (.iload_n 1, 1) := by decide +kernel
theorem dX3_fightNumbered_5 : decode cX3_fightNumbered 5 = .ok (.aload_n 0, 1) := by decide +kernel
theorem dX3_fightNumbered_6 : decode cX3_fightNumbered 6 = .ok (.getfield 19, 3) := by decide +kernel
theorem dX3_fightNumbered_9 : decode cX3_fightNumbered 9 = .ok (.invokevirtual 117, 3) := by decide +kernel
theorem dX3_fightNumbered_12 : decode cX3_fightNumbered 12 = .ok (.if_icmp .lt 13, 3) := by decide +kernel
theorem dX3_fightNumbered_15 : decode cX3_fightNumbered 15 = .ok (.new 180, 3) := by decide +kernel
theorem dX3_fightNumbered_18 : decode cX3_fightNumbered 18 = .ok (.dup, 1) := by decide +kernel
theorem dX3_fightNumbered_19 : decode cX3_fightNumbered 19 = .ok (.ldc 233, 2) := by decide +kernel
theorem dX3_fightNumbered_21 : decode cX3_fightNumbered 21 = .ok (.invokespecial 184, 3) := by decide +kernel
theorem dX3_fightNumbered_24 : decode cX3_fightNumbered 24 = .ok (.athrow, 1) := by decide +kernel
theorem dX3_fightNumbered_25 : decode cX3_fightNumbered 25 = .ok (.aload_n 0, 1) := by decide +kernel
theorem dX3_fightNumbered_26 : decode cX3_fightNumbered 26 = .ok (.getfield 19, 3) := by decide +kernel
theorem dX3_fightNumbered_29 : decode cX3_fightNumbered 29 = .ok (.iload_n 1, 1) := by decide +kernel
theorem dX3_fightNumbered_30 : decode cX3_fightNumbered 30 = .ok (.invokevirtual 194, 3) := by decide +kernel
theorem dX3_fightNumbered_33 : decode cX3_fightNumbered 33 = .ok (.checkcast 89, 3) := by decide +kernel
theorem dX3_fightNumbered_36 : decode cX3_fightNumbered 36 = .ok (.areturn, 1) := by decide +kernel
set_option maxRecDepth 20000 in
theorem ggX3_entryNumbered_Jx4a65c_size_8abf5 : GoodIn wsX3_entryNumbered wsJx4a65c_size_8abf5 := goodIn_r _ [9, 10, 43, 44, 45] (by decide +kernel) (by decide +kernel)
set_option maxRecDepth 20000 in
theorem gX3_entryNumbered_Jx4a65c_size_8abf5 : GoodIn wsX3_entryNumbered (wsV RX3 117 RJx4a65c yJx4a65c_size_8abf5 wsJx4a65c_size_8abf5) := goodIn_app (goodIn_of _ (by decide +kernel)) ggX3_entryNumbered_Jx4a65c_size_8abf5
set_option maxRecDepth 20000 in
theorem ggX3_entryNumbered_Jx4a65c_get_915e3 : GoodIn wsX3_entryNumbered wsJx4a65c_get_915e3 := goodIn_r _ [14, 10, 15, 16, 17, 18, 19, 20, 21, 22, 23, 24, 25, 8, 26, 27, 43, 44, 45] (by decide +kernel) (by decide +kernel)
set_option maxRecDepth 20000 in
theorem gX3_entryNumbered_Jx4a65c_get_915e3 : GoodIn wsX3_entryNumbered (wsV RX3 194 RJx4a65c yJx4a65c_get_915e3 wsJx4a65c_get_915e3) := goodIn_app (goodIn_of _ (by decide +kernel)) ggX3_entryNumbered_Jx4a65c_get_915e3
theorem dX3_entryNumbered_0 : decode cX3_entryNumbered 0 = .ok (.iload_n 1, 1) := by decide +kernel
theorem dX3_entryNumbered_1 : decode cX3_entryNumbered 1 = .ok (.ifCond .lt 14, 3) := by decide +kernel
theorem dX3_entryNumbered_4 : decode cX3_entryNumbered 4 = .ok (.iload_n 1, 1) := by decide +kernel
theorem dX3_entryNumbered_5 : decode cX3_entryNumbered 5 = .ok (.aload_n 0, 1) := by decide +kernel
theorem dX3_entryNumbered_6 : decode cX3_entryNumbered 6 = .ok (.getfield 26, 3) := by decide +kernel
theorem dX3_entryNumbered_9 : decode cX3_entryNumbered 9 = .ok (.invokevirtual 117, 3) := by decide +kernel
theorem dX3_entryNumbered_12 : decode cX3_entryNumbered 12 = .ok (.if_icmp .lt 13, 3) := by decide +kernel
theorem dX3_entryNumbered_15 : decode cX3_entryNumbered 15 = .ok (.new 180, 3) := by decide +kernel
theorem dX3_entryNumbered_18 : decode cX3_entryNumbered 18 = .ok (.dup, 1) := by decide +kernel
theorem dX3_entryNumbered_19 : decode cX3_entryNumbered 19 = .ok (.ldc 235, 2) := by decide +kernel
theorem dX3_entryNumbered_21 : decode cX3_entryNumbered 21 = .ok (.invokespecial 184, 3) := by decide +kernel
theorem dX3_entryNumbered_24 : decode cX3_entryNumbered 24 = .ok (.athrow, 1) := by decide +kernel
theorem dX3_entryNumbered_25 : decode cX3_entryNumbered 25 = .ok (.aload_n 0, 1) := by decide +kernel
theorem dX3_entryNumbered_26 : decode cX3_entryNumbered 26 = .ok (.getfield 26, 3) := by decide +kernel
theorem dX3_entryNumbered_29 : decode cX3_entryNumbered 29 = .ok (.iload_n 1, 1) := by decide +kernel
theorem dX3_entryNumbered_30 : decode cX3_entryNumbered 30 = .ok (.invokevirtual 194, 3) := by decide +kernel
theorem dX3_entryNumbered_33 : decode cX3_entryNumbered 33 = .ok (.checkcast 150, 3) := by decide +kernel
theorem dX3_entryNumbered_36 : decode cX3_entryNumbered 36 = .ok (.areturn, 1) := by decide +kernel
set_option maxRecDepth 20000 in
theorem ggX3_begin_Jx4a65c_size_8abf5 : GoodIn wsX3_begin wsJx4a65c_size_8abf5 := goodIn_r _ [9, 10, 98, 99, 100] (by decide +kernel) (by decide +kernel)
set_option maxRecDepth 20000 in
theorem gX3_begin_Jx4a65c_size_8abf5 : GoodIn wsX3_begin (wsV RX3 117 RJx4a65c yJx4a65c_size_8abf5 wsJx4a65c_size_8abf5) := goodIn_app (goodIn_of _ (by decide +kernel)) ggX3_begin_Jx4a65c_size_8abf5
set_option maxRecDepth 20000 in
theorem ggX3_begin_X2_init : GoodIn wsX3_begin wsX2_init := goodIn_r _ [13, 14, 15, 16, 17, 18, 19, 20, 21, 91, 92, 93, 94, 95, 96, 97] (by decide +kernel) (by decide +kernel)
set_option maxRecDepth 20000 in
theorem gX3_begin_X2_init : GoodIn wsX3_begin (wsX2_init) := ggX3_begin_X2_init
set_option maxRecDepth 20000 in
theorem ggX3_begin_Jx4a65c_add_9ea2d : GoodIn wsX3_begin wsJx4a65c_add_9ea2d := goodIn_r _ [25, 26, 27, 28, 10, 29, 30, 31, 8, 32, 33, 34, 35, 36, 37, 38, 39, 40, 41, 42, 43, 44, 45, 46, 47, 48, 49, 50, 51, 52, 53, 54, 55, 56, 57, 58, 59, 60, 61, 62, 63, 64, 65, 66, 67, 68, 69, 70, 71, 72, 73, 74, 75, 98, 99, 100] (by decide +kernel) (by decide +kernel)
set_option maxRecDepth 20000 in
theorem gX3_begin_Jx4a65c_add_9ea2d : GoodIn wsX3_begin (wsV RX3 127 RJx4a65c yJx4a65c_add_9ea2d wsJx4a65c_add_9ea2d) := goodIn_app (goodIn_of _ (by decide +kernel)) ggX3_begin_Jx4a65c_add_9ea2d
theorem dX3_begin_0 : decode cX3_begin 0 = .ok (.aload_n 0, 1) := by decide +kernel
theorem dX3_begin_1 : decode cX3_begin 1 = .ok (.getfield 19, 3) := by decide +kernel
theorem dX3_begin_4 : decode cX3_begin 4 = .ok (.invokevirtual 117, 3) := by decide +kernel
theorem dX3_begin_7 : decode cX3_begin 7 = .ok (.istore_n 3, 1) := by decide +kernel
theorem dX3_begin_8 : decode cX3_begin 8 = .ok (.aload_n 0, 1) := by decide +kernel
theorem dX3_begin_9 : decode cX3_begin 9 = .ok (.getfield 19, 3) := by decide +kernel
theorem dX3_begin_12 : decode cX3_begin 12 = .ok (.new 89, 3) := by decide +kernel
theorem dX3_begin_15 : decode cX3_begin 15 = .ok (.dup, 1) := by decide +kernel
theorem dX3_begin_16 : decode cX3_begin 16 = .ok (.iload_n 3, 1) := by decide +kernel
theorem dX3_begin_17 : decode cX3_begin 17 = .ok (.iload_n 1, 1) := by decide +kernel
theorem dX3_begin_18 : decode cX3_begin 18 = .ok (.iload_n 2, 1) := by decide +kernel
theorem dX3_begin_19 : decode cX3_begin 19 = .ok (.invokespecial 237, 3) := by decide +kernel
theorem dX3_begin_22 : decode cX3_begin 22 = .ok (.invokevirtual 127, 3) := by decide +kernel
theorem dX3_begin_25 : decode cX3_begin 25 = .ok (.pop, 1) := by decide +kernel
theorem dX3_begin_26 : decode cX3_begin 26 = .ok (.iload_n 3, 1) := by decide +kernel
theorem dX3_begin_27 : decode cX3_begin 27 = .ok (.ireturn, 1) := by decide +kernel
set_option maxRecDepth 20000 in
theorem ggX3_pointsUpTo_Jx4a65c_size_8abf5 : GoodIn wsX3_pointsUpTo wsJx4a65c_size_8abf5 := goodIn_r _ [12, 13, 51, 52, 53] (by decide +kernel) (by decide +kernel)
set_option maxRecDepth 20000 in
theorem gX3_pointsUpTo_Jx4a65c_size_8abf5 : GoodIn wsX3_pointsUpTo (wsV RX3 117 RJx4a65c yJx4a65c_size_8abf5 wsJx4a65c_size_8abf5) := goodIn_app (goodIn_of _ (by decide +kernel)) ggX3_pointsUpTo_Jx4a65c_size_8abf5
set_option maxRecDepth 20000 in
theorem ggX3_pointsUpTo_Jx4a65c_get_915e3 : GoodIn wsX3_pointsUpTo wsJx4a65c_get_915e3 := goodIn_r _ [17, 13, 18, 19, 20, 21, 22, 23, 24, 25, 26, 27, 28, 11, 29, 30, 51, 52, 53] (by decide +kernel) (by decide +kernel)
set_option maxRecDepth 20000 in
theorem gX3_pointsUpTo_Jx4a65c_get_915e3 : GoodIn wsX3_pointsUpTo (wsV RX3 194 RJx4a65c yJx4a65c_get_915e3 wsJx4a65c_get_915e3) := goodIn_app (goodIn_of _ (by decide +kernel)) ggX3_pointsUpTo_Jx4a65c_get_915e3
theorem dX3_pointsUpTo_0 : decode cX3_pointsUpTo 0 = .ok (.iconst 0, 1) := by decide +kernel
theorem dX3_pointsUpTo_1 : decode cX3_pointsUpTo 1 = .ok (.istore 4, 2) := by decide +kernel
theorem dX3_pointsUpTo_3 : decode cX3_pointsUpTo 3 = .ok (.iconst 0, 1) := by decide +kernel
theorem dX3_pointsUpTo_4 : decode cX3_pointsUpTo 4 = .ok (.istore 5, 2) := by decide +kernel
theorem dX3_pointsUpTo_6 : decode cX3_pointsUpTo 6 = .ok (.iload 5, 2) := by decide +kernel
theorem dX3_pointsUpTo_8 : decode cX3_pointsUpTo 8 = .ok (.aload_n 0, 1) := by decide +kernel
theorem dX3_pointsUpTo_9 : decode cX3_pointsUpTo 9 = .ok (.getfield 26, 3) := by decide +kernel
theorem dX3_pointsUpTo_12 : decode cX3_pointsUpTo 12 = .ok (.invokevirtual 117, 3) := by decide +kernel
theorem dX3_pointsUpTo_15 : decode cX3_pointsUpTo 15 = .ok (.if_icmp .ge 68, 3) := by decide +kernel
theorem dX3_pointsUpTo_18 : decode cX3_pointsUpTo 18 = .ok (.aload_n 0, 1) := by decide +kernel
theorem dX3_pointsUpTo_19 : decode cX3_pointsUpTo 19 = .ok (.getfield 26, 3) := by decide +kernel
theorem dX3_pointsUpTo_22 : decode cX3_pointsUpTo 22 = .ok (.iload 5, 2) := by decide +kernel
theorem dX3_pointsUpTo_24 : decode cX3_pointsUpTo 24 = .ok (.invokevirtual 194, 3) := by decide +kernel
theorem dX3_pointsUpTo_27 : decode cX3_pointsUpTo 27 = .ok (.checkcast 150, 3) := by decide +kernel
theorem dX3_pointsUpTo_30 : decode cX3_pointsUpTo 30 = .ok (.astore 6, 2) := by decide +kernel
theorem dX3_pointsUpTo_32 : decode cX3_pointsUpTo 32 = .ok (.aload 6, 2) := by decide +kernel
theorem dX3_pointsUpTo_34 : decode cX3_pointsUpTo 34 = .ok (.getfield 239, 3) := by decide +kernel
theorem dX3_pointsUpTo_37 : decode cX3_pointsUpTo 37 = .ok (.aload_n 2, 1) := by decide +kernel
theorem dX3_pointsUpTo_38 : decode cX3_pointsUpTo 38 = .ok (.if_acmp .ne 39, 3) := by decide +kernel
theorem dX3_pointsUpTo_41 : decode cX3_pointsUpTo 41 = .ok (.aload 6, 2) := by decide +kernel
theorem dX3_pointsUpTo_43 : decode cX3_pointsUpTo 43 = .ok (.getfield 243, 3) := by decide +kernel
theorem dX3_pointsUpTo_46 : decode cX3_pointsUpTo 46 = .ok (.iload_n 3, 1) := by decide +kernel
theorem dX3_pointsUpTo_47 : decode cX3_pointsUpTo 47 = .ok (.if_icmp .ne 30, 3) := by decide +kernel
theorem dX3_pointsUpTo_50 : decode cX3_pointsUpTo 50 = .ok (.aload 6, 2) := by decide +kernel
theorem dX3_pointsUpTo_52 : decode cX3_pointsUpTo 52 = .ok (.getfield 246, 3) := by decide +kernel
theorem dX3_pointsUpTo_55 : decode cX3_pointsUpTo 55 = .ok (.iload_n 1, 1) := by decide +kernel
theorem dX3_pointsUpTo_56 : decode cX3_pointsUpTo 56 = .ok (.if_icmp .gt 21, 3) := by decide +kernel
theorem dX3_pointsUpTo_59 : decode cX3_pointsUpTo 59 = .ok (.aload 6, 2) := by decide +kernel
theorem dX3_pointsUpTo_61 : decode cX3_pointsUpTo 61 = .ok (.getfield 163, 3) := by decide +kernel
theorem dX3_pointsUpTo_64 : decode cX3_pointsUpTo 64 = .ok (.ifCond .ne 13, 3) := by decide +kernel
theorem dX3_pointsUpTo_67 : decode cX3_pointsUpTo 67 = .ok (.iload 4, 2) := by decide +kernel
theorem dX3_pointsUpTo_69 : decode cX3_pointsUpTo 69 = .ok (.aload 6, 2) := by decide +kernel
theorem dX3_pointsUpTo_71 : decode cX3_pointsUpTo 71 = .ok (.getfield 167, 3) := by decide +kernel
theorem dX3_pointsUpTo_74 : decode cX3_pointsUpTo 74 = .ok (.iadd, 1) := by decide +kernel
theorem dX3_pointsUpTo_75 : decode cX3_pointsUpTo 75 = .ok (.istore 4, 2) := by decide +kernel
theorem dX3_pointsUpTo_77 : decode cX3_pointsUpTo 77 = .ok (.iinc 5 1, 3) := by decide +kernel
theorem dX3_pointsUpTo_80 : decode cX3_pointsUpTo 80 = .ok (.goto (-74), 3) := by decide +kernel
theorem dX3_pointsUpTo_83 : decode cX3_pointsUpTo 83 = .ok (.iload 4, 2) := by decide +kernel
theorem dX3_pointsUpTo_85 : decode cX3_pointsUpTo 85 = .ok (.ireturn, 1) := by decide +kernel
set_option maxRecDepth 20000 in
theorem ggX3_strikeAllOf_Jx4a65c_size_8abf5 : GoodIn wsX3_strikeAllOf wsJx4a65c_size_8abf5 := goodIn_r _ [9, 10, 48, 49, 50] (by decide +kernel) (by decide +kernel)
set_option maxRecDepth 20000 in
theorem gX3_strikeAllOf_Jx4a65c_size_8abf5 : GoodIn wsX3_strikeAllOf (wsV RX3 117 RJx4a65c yJx4a65c_size_8abf5 wsJx4a65c_size_8abf5) := goodIn_app (goodIn_of _ (by decide +kernel)) ggX3_strikeAllOf_Jx4a65c_size_8abf5
set_option maxRecDepth 20000 in
theorem ggX3_strikeAllOf_Jx4a65c_get_915e3 : GoodIn wsX3_strikeAllOf wsJx4a65c_get_915e3 := goodIn_r _ [14, 10, 15, 16, 17, 18, 19, 20, 21, 22, 23, 24, 25, 8, 26, 27, 48, 49, 50] (by decide +kernel) (by decide +kernel)
set_option maxRecDepth 20000 in
theorem gX3_strikeAllOf_Jx4a65c_get_915e3 : GoodIn wsX3_strikeAllOf (wsV RX3 194 RJx4a65c yJx4a65c_get_915e3 wsJx4a65c_get_915e3) := goodIn_app (goodIn_of _ (by decide +kernel)) ggX3_strikeAllOf_Jx4a65c_get_915e3
theorem dX3_strikeAllOf_0 : decode cX3_strikeAllOf 0 = .ok (.iconst 0, 1) := by decide +kernel
theorem dX3_strikeAllOf_1 : decode cX3_strikeAllOf 1 = .ok (.istore_n 2, 1) := by decide +kernel
theorem dX3_strikeAllOf_2 : decode cX3_strikeAllOf 2 = .ok (.iload_n 2, 1) := by decide +kernel
theorem dX3_strikeAllOf_3 : decode cX3_strikeAllOf 3 = .ok (.aload_n 0, 1) := by decide +kernel
theorem dX3_strikeAllOf_4 : decode cX3_strikeAllOf 4 = .ok (.getfield 26, 3) := by decide +kernel
theorem dX3_strikeAllOf_7 : decode cX3_strikeAllOf 7 = .ok (.invokevirtual 117, 3) := by decide +kernel
theorem dX3_strikeAllOf_10 : decode cX3_strikeAllOf 10 = .ok (.if_icmp .ge 34, 3) := by decide +kernel
theorem dX3_strikeAllOf_13 : decode cX3_strikeAllOf 13 = .ok (.aload_n 0, 1) := by decide +kernel
theorem dX3_strikeAllOf_14 : decode cX3_strikeAllOf 14 = .ok (.getfield 26, 3) := by decide +kernel
theorem dX3_strikeAllOf_17 : decode cX3_strikeAllOf 17 = .ok (.iload_n 2, 1) := by decide +kernel
theorem dX3_strikeAllOf_18 : decode cX3_strikeAllOf 18 = .ok (.invokevirtual 194, 3) := by decide +kernel
theorem dX3_strikeAllOf_21 : decode cX3_strikeAllOf 21 = .ok (.checkcast 150, 3) := by decide +kernel
theorem dX3_strikeAllOf_24 : decode cX3_strikeAllOf 24 = .ok (.astore_n 3, 1) := by decide +kernel
theorem dX3_strikeAllOf_25 : decode cX3_strikeAllOf 25 = .ok (.aload_n 3, 1) := by decide +kernel
theorem dX3_strikeAllOf_26 : decode cX3_strikeAllOf 26 = .ok (.getfield 239, 3) := by decide +kernel
theorem dX3_strikeAllOf_29 : decode cX3_strikeAllOf 29 = .ok (.aload_n 1, 1) := by decide +kernel
theorem dX3_strikeAllOf_30 : decode cX3_strikeAllOf 30 = .ok (.if_acmp .ne 8, 3) := by decide +kernel
theorem dX3_strikeAllOf_33 : decode cX3_strikeAllOf 33 = .ok (.aload_n 3, 1) := by decide +kernel
theorem dX3_strikeAllOf_34 : decode cX3_strikeAllOf 34 = .ok (.iconst 1, 1) := by decide +kernel
theorem dX3_strikeAllOf_35 : decode cX3_strikeAllOf 35 = .ok (.putfield 163, 3) := by decide +kernel
theorem dX3_strikeAllOf_38 : decode cX3_strikeAllOf 38 = .ok (.iinc 2 1, 3) := by decide +kernel
theorem dX3_strikeAllOf_41 : decode cX3_strikeAllOf 41 = .ok (.goto (-39), 3) := by decide +kernel
theorem dX3_strikeAllOf_44 : decode cX3_strikeAllOf 44 = .ok (.return_, 1) := by decide +kernel
theorem dX3_uncountFramesOf_0 : decode cX3_uncountFramesOf 0 = .ok (.iconst 0, 1) := by decide +kernel
theorem dX3_uncountFramesOf_1 : decode cX3_uncountFramesOf 1 = .ok (.istore_n 2, 1) := by decide +kernel
theorem dX3_uncountFramesOf_2 : decode cX3_uncountFramesOf 2 = .ok (.iload_n 2, 1) := by decide +kernel
theorem dX3_uncountFramesOf_3 : decode cX3_uncountFramesOf 3 = .ok (.aload_n 0, 1) := by decide +kernel
theorem dX3_uncountFramesOf_4 : decode cX3_uncountFramesOf 4 = .ok (.getfield 85, 3) := by decide +kernel
theorem dX3_uncountFramesOf_7 : decode cX3_uncountFramesOf 7 = .ok (.if_icmp .ge 51, 3) := by decide +kernel
theorem dX3_uncountFramesOf_10 : decode cX3_uncountFramesOf 10 = .ok (.aload_n 0, 1) := by decide +kernel
theorem dX3_uncountFramesOf_11 : decode cX3_uncountFramesOf 11 = .ok (.getfield 51, 3) := by decide +kernel
theorem dX3_uncountFramesOf_14 : decode cX3_uncountFramesOf 14 = .ok (.iload_n 2, 1) := by decide +kernel
theorem dX3_uncountFramesOf_15 : decode cX3_uncountFramesOf 15 = .ok (.iaload, 1) := by decide +kernel
theorem dX3_uncountFramesOf_16 : decode cX3_uncountFramesOf 16 = .ok (.istore_n 3, 1) := by decide +kernel
theorem dX3_uncountFramesOf_17 : decode cX3_uncountFramesOf 17 = .ok (.aload_n 0, 1) := by decide +kernel
theorem dX3_uncountFramesOf_18 : decode cX3_uncountFramesOf 18 = .ok (.getfield 45, 3) := by decide +kernel
theorem dX3_uncountFramesOf_21 : decode cX3_uncountFramesOf 21 = .ok (.iload_n 2, 1) := by decide +kernel
theorem dX3_uncountFramesOf_22 : decode cX3_uncountFramesOf 22 = .ok (.iaload, 1) := by decide +kernel
theorem dX3_uncountFramesOf_23 : decode cX3_uncountFramesOf 23 = .ok (.aload_n 1, 1) := by decide +kernel
theorem dX3_uncountFramesOf_24 : decode cX3_uncountFramesOf 24 = .ok (.getfield 249, 3) := by decide +kernel
theorem dX3_uncountFramesOf_27 : decode cX3_uncountFramesOf 27 = .ok (.if_icmp .ne 25, 3) := by decide +kernel
theorem dX3_uncountFramesOf_30 : decode cX3_uncountFramesOf 30 = .ok (.iload_n 3, 1) := by decide +kernel
theorem dX3_uncountFramesOf_31 : decode cX3_uncountFramesOf 31 = .ok (.iconst (-1), 1) := by decide +kernel
theorem dX3_uncountFramesOf_32 : decode cX3_uncountFramesOf 32 = .ok (.if_icmp .eq 20, 3) := by decide +kernel
theorem dX3_uncountFramesOf_35 : decode cX3_uncountFramesOf 35 = .ok (.aload_n 0, 1) := by decide +kernel
theorem dX3_uncountFramesOf_36 : decode cX3_uncountFramesOf 36 = .ok (.getfield 32, 3) := by decide +kernel
theorem dX3_uncountFramesOf_39 : decode cX3_uncountFramesOf 39 = .ok (.iload_n 3, 1) := by decide +kernel
theorem dX3_uncountFramesOf_40 : decode cX3_uncountFramesOf 40 = .ok (.dup2, 1) := by decide +kernel
theorem dX3_uncountFramesOf_41 : decode cX3_uncountFramesOf 41 = .ok (.iaload, 1) := by decide +kernel
theorem dX3_uncountFramesOf_42 : decode cX3_uncountFramesOf 42 = .ok (.iconst 1, 1) := by decide +kernel
theorem dX3_uncountFramesOf_43 : decode cX3_uncountFramesOf 43 = .ok (.isub, 1) := by decide +kernel
theorem dX3_uncountFramesOf_44 : decode cX3_uncountFramesOf 44 = .ok (.iastore, 1) := by decide +kernel
theorem dX3_uncountFramesOf_45 : decode cX3_uncountFramesOf 45 = .ok (.aload_n 0, 1) := by decide +kernel
theorem dX3_uncountFramesOf_46 : decode cX3_uncountFramesOf 46 = .ok (.getfield 51, 3) := by decide +kernel
theorem dX3_uncountFramesOf_49 : decode cX3_uncountFramesOf 49 = .ok (.iload_n 2, 1) := by decide +kernel
theorem dX3_uncountFramesOf_50 : decode cX3_uncountFramesOf 50 = .ok (.iconst (-1), 1) := by decide +kernel
theorem dX3_uncountFramesOf_51 : decode cX3_uncountFramesOf 51 = .ok (.iastore, 1) := by decide +kernel
theorem dX3_uncountFramesOf_52 : decode cX3_uncountFramesOf 52 = .ok (.iinc 2 1, 3) := by decide +kernel
theorem dX3_uncountFramesOf_55 : decode cX3_uncountFramesOf 55 = .ok (.goto (-53), 3) := by decide +kernel
theorem dX3_uncountFramesOf_58 : decode cX3_uncountFramesOf 58 = .ok (.return_, 1) := by decide +kernel
theorem dX3_placeOf_0 : decode cX3_placeOf 0 = .ok (.iconst 0, 1) := by decide +kernel
theorem dX3_placeOf_1 : decode cX3_placeOf 1 = .ok (.istore_n 2, 1) := by decide +kernel
theorem dX3_placeOf_2 : decode cX3_placeOf 2 = .ok (.iconst 0, 1) := by decide +kernel
theorem dX3_placeOf_3 : decode cX3_placeOf 3 = .ok (.istore_n 3, 1) := by decide +kernel
theorem dX3_placeOf_4 : decode cX3_placeOf 4 = .ok (.iload_n 3, 1) := by decide +kernel
theorem dX3_placeOf_5 : decode cX3_placeOf 5 = .ok (.bipush 10, 2) := by decide +kernel
theorem dX3_placeOf_7 : decode cX3_placeOf 7 = .ok (.if_icmp .ge 47, 3) := by decide +kernel
theorem dX3_placeOf_10 : decode cX3_placeOf 10 = .ok (.aload_n 0, 1) := by decide +kernel
theorem dX3_placeOf_11 : decode cX3_placeOf 11 = .ok (.getfield 13, 3) := by decide +kernel
theorem dX3_placeOf_14 : decode cX3_placeOf 14 = .ok (.iload_n 3, 1) := by decide +kernel
theorem dX3_placeOf_15 : decode cX3_placeOf 15 = .ok (.iaload, 1) := by decide +kernel
theorem dX3_placeOf_16 : decode cX3_placeOf 16 = .ok (.aload_n 0, 1) := by decide +kernel
theorem dX3_placeOf_17 : decode cX3_placeOf 17 = .ok (.getfield 13, 3) := by decide +kernel
theorem dX3_placeOf_20 : decode cX3_placeOf 20 = .ok (.iload_n 1, 1) := by decide +kernel
theorem dX3_placeOf_21 : decode cX3_placeOf 21 = .ok (.iaload, 1) := by decide +kernel
theorem dX3_placeOf_22 : decode cX3_placeOf 22 = .ok (.if_icmp .gt 23, 3) := by decide +kernel
theorem dX3_placeOf_25 : decode cX3_placeOf 25 = .ok (.aload_n 0, 1) := by decide +kernel
theorem dX3_placeOf_26 : decode cX3_placeOf 26 = .ok (.getfield 13, 3) := by decide +kernel
theorem dX3_placeOf_29 : decode cX3_placeOf 29 = .ok (.iload_n 3, 1) := by decide +kernel
theorem dX3_placeOf_30 : decode cX3_placeOf 30 = .ok (.iaload, 1) := by decide +kernel
theorem dX3_placeOf_31 : decode cX3_placeOf 31 = .ok (.aload_n 0, 1) := by decide +kernel
theorem dX3_placeOf_32 : decode cX3_placeOf 32 = .ok (.getfield 13, 3) := by decide +kernel
theorem dX3_placeOf_35 : decode cX3_placeOf 35 = .ok (.iload_n 1, 1) := by decide +kernel
theorem dX3_placeOf_36 : decode cX3_placeOf 36 = .ok (.iaload, 1) := by decide +kernel
theorem dX3_placeOf_37 : decode cX3_placeOf 37 = .ok (.if_icmp .ne 11, 3) := by decide +kernel
theorem dX3_placeOf_40 : decode cX3_placeOf 40 = .ok (.iload_n 3, 1) := by decide +kernel
theorem dX3_placeOf_41 : decode cX3_placeOf 41 = .ok (.iload_n 1, 1) := by decide +kernel
theorem dX3_placeOf_42 : decode cX3_placeOf 42 = .ok (.if_icmp .ge 6, 3) := by decide +kernel
theorem dX3_placeOf_45 : decode cX3_placeOf 45 = .ok (.iinc 2 1, 3) := by decide +kernel
theorem dX3_placeOf_48 : decode cX3_placeOf 48 = .ok (.iinc 3 1, 3) := by decide +kernel
theorem dX3_placeOf_51 : decode cX3_placeOf 51 = .ok (.goto (-47), 3) := by decide +kernel
theorem dX3_placeOf_54 : decode cX3_placeOf 54 = .ok (.iload_n 2, 1) := by decide +kernel
theorem dX3_placeOf_55 : decode cX3_placeOf 55 = .ok (.ireturn, 1) := by decide +kernel
set_option maxRecDepth 20000 in
theorem ggX3_passOne_X3_hottestFight : GoodIn wsX3_passOne wsX3_hottestFight := goodIn_r _ [11, 1, 5, 6, 12, 13, 14, 15, 10, 16, 2, 17, 18, 19, 20, 21, 22, 23, 24, 25, 26, 27, 28, 29, 30, 31, 32, 33, 34, 35, 36, 37, 38, 39, 40, 41, 42, 43, 44, 45, 46, 47, 48, 49, 50, 51, 52, 53, 54, 55, 56, 57, 58, 59, 120, 121, 122, 123, 124, 125, 126, 127, 128, 129, 130, 131, 132, 133, 134, 135, 136, 137, 138, 139, 140, 141, 142, 143, 144] (by decide +kernel) (by decide +kernel)
set_option maxRecDepth 20000 in
theorem gX3_passOne_X3_hottestFight : GoodIn wsX3_passOne (wsV RX3 252 RX3 yX3_hottestFight wsX3_hottestFight) := goodIn_app (goodIn_of _ (by decide +kernel)) ggX3_passOne_X3_hottestFight
set_option maxRecDepth 20000 in
theorem ggX3_passOne_X3_cameraForAir : GoodIn wsX3_passOne wsX3_cameraForAir := goodIn_r _ [63, 3, 64, 13, 14, 15, 10, 16, 2, 65, 66, 67, 68, 69, 70, 17, 18, 19, 20, 21, 22, 23, 24, 25, 26, 27, 28, 29, 30, 31, 32, 33, 34, 35, 36, 37, 38, 39, 120, 121, 122, 123, 124, 125, 126, 127, 128, 129, 130, 131, 132, 133, 134, 145, 146, 147, 148, 142, 143, 144] (by decide +kernel) (by decide +kernel)
set_option maxRecDepth 20000 in
theorem gX3_passOne_X3_cameraForAir : GoodIn wsX3_passOne (wsV RX3 256 RX3 yX3_cameraForAir wsX3_cameraForAir) := goodIn_app (goodIn_of _ (by decide +kernel)) ggX3_passOne_X3_cameraForAir
set_option maxRecDepth 20000 in
theorem ggX3_passOne_X3_showFight : GoodIn wsX3_passOne wsX3_showFight := goodIn_r _ [74, 1, 2, 75, 76, 4, 77, 78, 79, 80, 10, 81, 45, 46, 82, 83, 84, 85, 86, 87, 88, 89, 90, 91, 120, 121, 122, 123, 124, 125, 126, 127, 128, 129, 130, 131, 132, 133, 134, 135, 136, 137, 138, 139, 140, 141] (by decide +kernel) (by decide +kernel)
set_option maxRecDepth 20000 in
theorem gX3_passOne_X3_showFight : GoodIn wsX3_passOne (wsV RX3 259 RX3 yX3_showFight wsX3_showFight) := goodIn_app (goodIn_of _ (by decide +kernel)) ggX3_passOne_X3_showFight
set_option maxRecDepth 20000 in
theorem ggX3_passOne_X3_letCamerasPass : GoodIn wsX3_passOne wsX3_letCamerasPass := goodIn_r _ [95, 64, 69, 17, 18, 19, 20, 21, 22, 23, 24, 25, 26, 27, 28, 29, 30, 31, 32, 33, 34, 35, 36, 37, 38, 39, 96, 97, 98, 99, 100, 101, 102, 103, 104, 89, 90, 91, 105, 106, 107, 108, 109, 120, 121, 122, 123, 124, 125, 126, 127, 128, 129, 130, 131, 132, 133, 134, 142, 143, 144, 145, 146, 147, 148] (by decide +kernel) (by decide +kernel)
set_option maxRecDepth 20000 in
theorem gX3_passOne_X3_letCamerasPass : GoodIn wsX3_passOne (wsV RX3 262 RX3 yX3_letCamerasPass wsX3_letCamerasPass) := goodIn_app (goodIn_of _ (by decide +kernel)) ggX3_passOne_X3_letCamerasPass
set_option maxRecDepth 20000 in
theorem ggX3_passOne_Jx4a65c_size_8abf5 : GoodIn wsX3_passOne wsJx4a65c_size_8abf5 := goodIn_r _ [21, 22, 142, 143, 144] (by decide +kernel) (by decide +kernel)
set_option maxRecDepth 20000 in
theorem gX3_passOne_Jx4a65c_size_8abf5 : GoodIn wsX3_passOne (wsV RX3 117 RJx4a65c yJx4a65c_size_8abf5 wsJx4a65c_size_8abf5) := goodIn_app (goodIn_of _ (by decide +kernel)) ggX3_passOne_Jx4a65c_size_8abf5
set_option maxRecDepth 20000 in
theorem ggX3_passOne_Jx4a65c_get_915e3 : GoodIn wsX3_passOne wsJx4a65c_get_915e3 := goodIn_r _ [26, 22, 27, 28, 29, 30, 31, 32, 33, 34, 35, 36, 37, 20, 38, 39, 142, 143, 144] (by decide +kernel) (by decide +kernel)
set_option maxRecDepth 20000 in
theorem gX3_passOne_Jx4a65c_get_915e3 : GoodIn wsX3_passOne (wsV RX3 194 RJx4a65c yJx4a65c_get_915e3 wsJx4a65c_get_915e3) := goodIn_app (goodIn_of _ (by decide +kernel)) ggX3_passOne_Jx4a65c_get_915e3
set_option maxRecDepth 20000 in
theorem ggX3_passOne_X2_letFramePass : GoodIn wsX3_passOne wsX2_letFramePass := goodIn_r _ [113, 52, 135, 136, 137, 138, 139, 140, 141] (by decide +kernel) (by decide +kernel)
set_option maxRecDepth 20000 in
theorem gX3_passOne_X2_letFramePass : GoodIn wsX3_passOne (wsV RX3 265 RX2 yX2_letFramePass wsX2_letFramePass) := goodIn_app (goodIn_of _ (by decide +kernel)) ggX3_passOne_X2_letFramePass
set_option maxRecDepth 20000 in
theorem ggX3_passOne_X3_letViewersSee : GoodIn wsX3_passOne wsX3_letViewersSee := goodIn_r _ [117, 118, 2, 119, 88, 89, 90, 91, 120, 121, 122, 123, 124, 125, 126, 127, 128, 129, 130, 131, 132, 133, 134] (by decide +kernel) (by decide +kernel)
set_option maxRecDepth 20000 in
theorem gX3_passOne_X3_letViewersSee : GoodIn wsX3_passOne (wsV RX3 131 RX3 yX3_letViewersSee wsX3_letViewersSee) := goodIn_app (goodIn_of _ (by decide +kernel)) ggX3_passOne_X3_letViewersSee
theorem dX3_passOne_0 : decode cX3_passOne 0 = .ok (.aload_n 0, 1) := by decide +kernel
theorem dX3_passOne_1 : decode cX3_passOne 1 = .ok (.invokevirtual 252, 3) := by decide +kernel
theorem dX3_passOne_4 : decode cX3_passOne 4 = .ok (.astore_n 1, 1) := by decide +kernel
theorem dX3_passOne_5 : decode cX3_passOne 5 = .ok (.aload_n 1, 1) := by decide +kernel
theorem dX3_passOne_6 : decode cX3_passOne 6 = .ok (.ifnonnull 7, 3) := by decide +kernel
theorem dX3_passOne_9 : decode cX3_passOne 9 = .ok (.iconst (-1), 1) := by decide +kernel
theorem dX3_passOne_10 : decode cX3_passOne 10 = .ok (.goto 7, 3) := by decide +kernel
theorem dX3_passOne_13 : decode cX3_passOne 13 = .ok (.aload_n 0, 1) := by decide +kernel
theorem dX3_passOne_14 : decode cX3_passOne 14 = .ok (.invokevirtual 256, 3) := by decide +kernel
theorem dX3_passOne_17 : decode cX3_passOne 17 = .ok (.istore_n 2, 1) := by decide +kernel
theorem dX3_passOne_18 : decode cX3_passOne 18 = .ok (.aload_n 0, 1) := by decide +kernel
theorem dX3_passOne_19 : decode cX3_passOne 19 = .ok (.getfield 45, 3) := by decide +kernel
theorem dX3_passOne_22 : decode cX3_passOne 22 = .ok (.aload_n 0, 1) := by decide +kernel
theorem dX3_passOne_23 : decode cX3_passOne 23 = .ok (.getfield 85, 3) := by decide +kernel
theorem dX3_passOne_26 : decode cX3_passOne 26 = .ok (.iconst (-1), 1) := by decide +kernel
theorem dX3_passOne_27 : decode cX3_passOne 27 = .ok (.iastore, 1) := by decide +kernel
theorem dX3_passOne_28 : decode cX3_passOne 28 = .ok (.aload_n 0, 1) := by decide +kernel
theorem dX3_passOne_29 : decode cX3_passOne 29 = .ok (.getfield 48, 3) := by decide +kernel
theorem dX3_passOne_32 : decode cX3_passOne 32 = .ok (.aload_n 0, 1) := by decide +kernel
theorem dX3_passOne_33 : decode cX3_passOne 33 = .ok (.getfield 85, 3) := by decide +kernel
theorem dX3_passOne_36 : decode cX3_passOne 36 = .ok (.iload_n 2, 1) := by decide +kernel
theorem dX3_passOne_37 : decode cX3_passOne 37 = .ok (.iastore, 1) := by decide +kernel
theorem dX3_passOne_38 : decode cX3_passOne 38 = .ok (.aload_n 0, 1) := by decide +kernel
theorem dX3_passOne_39 : decode cX3_passOne 39 = .ok (.getfield 51, 3) := by decide +kernel
theorem dX3_passOne_42 : decode cX3_passOne 42 = .ok (.aload_n 0, 1) := by decide +kernel
theorem dX3_passOne_43 : decode cX3_passOne 43 = .ok (.getfield 85, 3) := by decide +kernel
theorem dX3_passOne_46 : decode cX3_passOne 46 = .ok (.iconst (-1), 1) := by decide +kernel
theorem dX3_passOne_47 : decode cX3_passOne 47 = .ok (.iastore, 1) := by decide +kernel
theorem dX3_passOne_48 : decode cX3_passOne 48 = .ok (.aload_n 1, 1) := by decide +kernel
theorem dX3_passOne_49 : decode cX3_passOne 49 = .ok (.ifnull 13, 3) := by decide +kernel
theorem dX3_passOne_52 : decode cX3_passOne 52 = .ok (.iload_n 2, 1) := by decide +kernel
theorem dX3_passOne_53 : decode cX3_passOne 53 = .ok (.iconst (-1), 1) := by decide +kernel
theorem dX3_passOne_54 : decode cX3_passOne 54 = .ok (.if_icmp .eq 8, 3) := by decide +kernel
theorem dX3_passOne_57 : decode cX3_passOne 57 = .ok (.aload_n 0, 1) := by decide +kernel
theorem dX3_passOne_58 : decode cX3_passOne 58 = .ok (.aload_n 1, 1) := by decide +kernel
theorem dX3_passOne_59 : decode cX3_passOne 59 = .ok (.invokevirtual 259, 3) := by decide +kernel
theorem dX3_passOne_62 : decode cX3_passOne 62 = .ok (.aload_n 0, 1) := by decide +kernel
theorem dX3_passOne_63 : decode cX3_passOne 63 = .ok (.iload_n 2, 1) := by decide +kernel
theorem dX3_passOne_64 : decode cX3_passOne 64 = .ok (.invokevirtual 262, 3) := by decide +kernel
theorem dX3_passOne_67 : decode cX3_passOne 67 = .ok (.iconst 0, 1) := by decide +kernel
theorem dX3_passOne_68 : decode cX3_passOne 68 = .ok (.istore_n 3, 1) := by decide +kernel
theorem dX3_passOne_69 : decode cX3_passOne 69 = .ok (.iload_n 3, 1) := by decide +kernel
theorem dX3_passOne_70 : decode cX3_passOne 70 = .ok (.aload_n 0, 1) := by decide +kernel
theorem dX3_passOne_71 : decode cX3_passOne 71 = .ok (.getfield 19, 3) := by decide +kernel
theorem dX3_passOne_74 : decode cX3_passOne 74 = .ok (.invokevirtual 117, 3) := by decide +kernel
theorem dX3_passOne_77 : decode cX3_passOne 77 = .ok (.if_icmp .ge 23, 3) := by decide +kernel
theorem dX3_passOne_80 : decode cX3_passOne 80 = .ok (.aload_n 0, 1) := by decide +kernel
theorem dX3_passOne_81 : decode cX3_passOne 81 = .ok (.getfield 19, 3) := by decide +kernel
theorem dX3_passOne_84 : decode cX3_passOne 84 = .ok (.iload_n 3, 1) := by decide +kernel
theorem dX3_passOne_85 : decode cX3_passOne 85 = .ok (.invokevirtual 194, 3) := by decide +kernel
theorem dX3_passOne_88 : decode cX3_passOne 88 = .ok (.checkcast 89, 3) := by decide +kernel
theorem dX3_passOne_91 : decode cX3_passOne 91 = .ok (.invokevirtual 265, 3) := by decide +kernel
theorem dX3_passOne_94 : decode cX3_passOne 94 = .ok (.iinc 3 1, 3) := by decide +kernel
theorem dX3_passOne_97 : decode cX3_passOne 97 = .ok (.goto (-28), 3) := by decide +kernel
theorem dX3_passOne_100 : decode cX3_passOne 100 = .ok (.aload_n 0, 1) := by decide +kernel
theorem dX3_passOne_101 : decode cX3_passOne 101 = .ok (.dup, 1) := by decide +kernel
theorem dX3_passOne_102 : decode cX3_passOne 102 = .ok (.getfield 85, 3) := by decide +kernel
theorem dX3_passOne_105 : decode cX3_passOne 105 = .ok (.iconst 1, 1) := by decide +kernel
theorem dX3_passOne_106 : decode cX3_passOne 106 = .ok (.iadd, 1) := by decide +kernel
theorem dX3_passOne_107 : decode cX3_passOne 107 = .ok (.putfield 85, 3) := by decide +kernel
theorem dX3_passOne_110 : decode cX3_passOne 110 = .ok (.aload_n 0, 1) := by decide +kernel
theorem dX3_passOne_111 : decode cX3_passOne 111 = .ok (.invokevirtual 131, 3) := by decide +kernel
theorem dX3_passOne_114 : decode cX3_passOne 114 = .ok (.return_, 1) := by decide +kernel
set_option maxRecDepth 20000 in
theorem ggX3_hottestFight_X3_ofFrameAhead : GoodIn wsX3_hottestFight wsX3_ofFrameAhead := goodIn_r _ [9, 10, 54, 55, 56, 57, 58, 59, 60, 61, 62, 63, 64, 65, 66, 67, 68] (by decide +kernel) (by decide +kernel)
set_option maxRecDepth 20000 in
theorem gX3_hottestFight_X3_ofFrameAhead : GoodIn wsX3_hottestFight (wsV RX3 268 RX3 yX3_ofFrameAhead wsX3_ofFrameAhead) := goodIn_app (goodIn_of _ (by decide +kernel)) ggX3_hottestFight_X3_ofFrameAhead
set_option maxRecDepth 20000 in
theorem ggX3_hottestFight_Jx4a65c_size_8abf5 : GoodIn wsX3_hottestFight wsJx4a65c_size_8abf5 := goodIn_r _ [15, 16, 76, 77, 78] (by decide +kernel) (by decide +kernel)
set_option maxRecDepth 20000 in
theorem gX3_hottestFight_Jx4a65c_size_8abf5 : GoodIn wsX3_hottestFight (wsV RX3 117 RJx4a65c yJx4a65c_size_8abf5 wsJx4a65c_size_8abf5) := goodIn_app (goodIn_of _ (by decide +kernel)) ggX3_hottestFight_Jx4a65c_size_8abf5
set_option maxRecDepth 20000 in
theorem ggX3_hottestFight_Jx4a65c_get_915e3 : GoodIn wsX3_hottestFight wsJx4a65c_get_915e3 := goodIn_r _ [20, 16, 21, 22, 23, 24, 25, 26, 27, 28, 29, 30, 31, 14, 32, 33, 76, 77, 78] (by decide +kernel) (by decide +kernel)
set_option maxRecDepth 20000 in
theorem gX3_hottestFight_Jx4a65c_get_915e3 : GoodIn wsX3_hottestFight (wsV RX3 194 RJx4a65c yJx4a65c_get_915e3 wsJx4a65c_get_915e3) := goodIn_app (goodIn_of _ (by decide +kernel)) ggX3_hottestFight_Jx4a65c_get_915e3
set_option maxRecDepth 20000 in
theorem ggX3_hottestFight_X3_heatOf : GoodIn wsX3_hottestFight wsX3_heatOf := goodIn_r _ [37, 38, 39, 40, 41, 42, 43, 44, 45, 46, 47, 48, 49, 50, 51, 52, 53, 54, 55, 56, 57, 58, 59, 60, 61, 62, 63, 64, 65, 66, 67, 68, 69, 70, 71, 72, 73, 74, 75] (by decide +kernel) (by decide +kernel)
set_option maxRecDepth 20000 in
theorem gX3_hottestFight_X3_heatOf : GoodIn wsX3_hottestFight (wsV RX3 272 RX3 yX3_heatOf wsX3_heatOf) := goodIn_app (goodIn_of _ (by decide +kernel)) ggX3_hottestFight_X3_heatOf
theorem dX3_hottestFight_0 : decode cX3_hottestFight 0 = .ok (.aload_n 0, 1) := by decide +kernel
theorem dX3_hottestFight_1 : decode cX3_hottestFight 1 = .ok (.aload_n 0, 1) := by decide +kernel
theorem dX3_hottestFight_2 : decode cX3_hottestFight 2 = .ok (.getfield 45, 3) := by decide +kernel
theorem dX3_hottestFight_5 : decode cX3_hottestFight 5 = .ok (.invokevirtual 268, 3) := by decide +kernel
theorem dX3_hottestFight_8 : decode cX3_hottestFight 8 = .ok (.istore_n 1, 1) := by decide +kernel
theorem dX3_hottestFight_9 : decode cX3_hottestFight 9 = .ok (.aconst_null, 1) := by decide +kernel
theorem dX3_hottestFight_10 : decode cX3_hottestFight 10 = .ok (.astore_n 2, 1) := by decide +kernel
theorem dX3_hottestFight_11 : decode cX3_hottestFight 11 = .ok (.iconst 0, 1) := by decide +kernel
theorem dX3_hottestFight_12 : decode cX3_hottestFight 12 = .ok (.istore_n 3, 1) := by decide +kernel
theorem dX3_hottestFight_13 : decode cX3_hottestFight 13 = .ok (.iconst 0, 1) := by decide +kernel
theorem dX3_hottestFight_14 : decode cX3_hottestFight 14 = .ok (.istore 4, 2) := by decide +kernel
theorem dX3_hottestFight_16 : decode cX3_hottestFight 16 = .ok (.iload 4, 2) := by decide +kernel
theorem dX3_hottestFight_18 : decode cX3_hottestFight 18 = .ok (.aload_n 0, 1) := by decide +kernel
theorem dX3_hottestFight_19 : decode cX3_hottestFight 19 = .ok (.getfield 19, 3) := by decide +kernel
theorem dX3_hottestFight_22 : decode cX3_hottestFight 22 = .ok (.invokevirtual 117, 3) := by decide +kernel
theorem dX3_hottestFight_25 : decode cX3_hottestFight 25 = .ok (.if_icmp .ge 67, 3) := by decide +kernel
theorem dX3_hottestFight_28 : decode cX3_hottestFight 28 = .ok (.aload_n 0, 1) := by decide +kernel
theorem dX3_hottestFight_29 : decode cX3_hottestFight 29 = .ok (.getfield 19, 3) := by decide +kernel
theorem dX3_hottestFight_32 : decode cX3_hottestFight 32 = .ok (.iload 4, 2) := by decide +kernel
theorem dX3_hottestFight_34 : decode cX3_hottestFight 34 = .ok (.invokevirtual 194, 3) := by decide +kernel
theorem dX3_hottestFight_37 : decode cX3_hottestFight 37 = .ok (.checkcast 89, 3) := by decide +kernel
theorem dX3_hottestFight_40 : decode cX3_hottestFight 40 = .ok (.astore 5, 2) := by decide +kernel
theorem dX3_hottestFight_42 : decode cX3_hottestFight 42 = .ok (.aload 5, 2) := by decide +kernel
theorem dX3_hottestFight_44 : decode cX3_hottestFight 44 = .ok (.getfield 100, 3) := by decide +kernel
theorem dX3_hottestFight_47 : decode cX3_hottestFight 47 = .ok (.ifCond .ne 39, 3) := by decide +kernel
theorem dX3_hottestFight_50 : decode cX3_hottestFight 50 = .ok (.aload_n 0, 1) := by decide +kernel
theorem dX3_hottestFight_51 : decode cX3_hottestFight 51 = .ok (.aload 5, 2) := by decide +kernel
theorem dX3_hottestFight_53 : decode cX3_hottestFight 53 = .ok (.invokevirtual 272, 3) := by decide +kernel
theorem dX3_hottestFight_56 : decode cX3_hottestFight 56 = .ok (.istore 6, 2) := by decide +kernel
theorem dX3_hottestFight_58 : decode cX3_hottestFight 58 = .ok (.aload_n 2, 1) := by decide +kernel
theorem dX3_hottestFight_59 : decode cX3_hottestFight 59 = .ok (.ifnull 21, 3) := by decide +kernel
theorem dX3_hottestFight_62 : decode cX3_hottestFight 62 = .ok (.iload 6, 2) := by decide +kernel
theorem dX3_hottestFight_64 : decode cX3_hottestFight 64 = .ok (.iload_n 3, 1) := by decide +kernel
theorem dX3_hottestFight_65 : decode cX3_hottestFight 65 = .ok (.if_icmp .gt 15, 3) := by decide +kernel
theorem dX3_hottestFight_68 : decode cX3_hottestFight 68 = .ok (.iload 6, 2) := by decide +kernel
theorem dX3_hottestFight_70 : decode cX3_hottestFight 70 = .ok (.iload_n 3, 1) := by decide +kernel
theorem dX3_hottestFight_71 : decode cX3_hottestFight 71 = .ok (.if_icmp .ne 15, 3) := by decide +kernel
theorem dX3_hottestFight_74 : decode cX3_hottestFight 74 = .ok (.iload 4, 2) := by decide +kernel
theorem dX3_hottestFight_76 : decode cX3_hottestFight 76 = .ok (.iload_n 1, 1) := by decide +kernel
theorem dX3_hottestFight_77 : decode cX3_hottestFight 77 = .ok (.if_icmp .ne 9, 3) := by decide +kernel
theorem dX3_hottestFight_80 : decode cX3_hottestFight 80 = .ok (.aload 5, 2) := by decide +kernel
theorem dX3_hottestFight_82 : decode cX3_hottestFight 82 = .ok (.astore_n 2, 1) := by decide +kernel
theorem dX3_hottestFight_83 : decode cX3_hottestFight 83 = .ok (.iload 6, 2) := by decide +kernel
theorem dX3_hottestFight_85 : decode cX3_hottestFight 85 = .ok (.istore_n 3, 1) := by decide +kernel
theorem dX3_hottestFight_86 : decode cX3_hottestFight 86 = .ok (.iinc 4 1, 3) := by decide +kernel
theorem dX3_hottestFight_89 : decode cX3_hottestFight 89 = .ok (.goto (-73), 3) := by decide +kernel
theorem dX3_hottestFight_92 : decode cX3_hottestFight 92 = .ok (.aload_n 2, 1) := by decide +kernel
theorem dX3_hottestFight_93 : decode cX3_hottestFight 93 = .ok (.areturn, 1) := by decide +kernel
set_option maxRecDepth 20000 in
theorem ggX3_heatOf_X2_heatOfBlows : GoodIn wsX3_heatOf wsX2_heatOfBlows := goodIn_r _ [8, 9, 10, 11, 12, 13, 14, 15, 16, 32, 33, 34, 35, 36, 37, 38] (by decide +kernel) (by decide +kernel)
set_option maxRecDepth 20000 in
theorem gX3_heatOf_X2_heatOfBlows : GoodIn wsX3_heatOf (wsV RX3 276 RX2 yX2_heatOfBlows wsX2_heatOfBlows) := goodIn_app (goodIn_of _ (by decide +kernel)) ggX3_heatOf_X2_heatOfBlows
theorem dX3_heatOf_0 : decode cX3_heatOf 0 = .ok (.aload_n 0, 1) := by decide +kernel
theorem dX3_heatOf_1 : decode cX3_heatOf 1 = .ok (.getfield 9, 3) := by decide +kernel
theorem dX3_heatOf_4 : decode cX3_heatOf 4 = .ok (.aload_n 1, 1) := by decide +kernel
theorem dX3_heatOf_5 : decode cX3_heatOf 5 = .ok (.getfield 88, 3) := by decide +kernel
theorem dX3_heatOf_8 : decode cX3_heatOf 8 = .ok (.iaload, 1) := by decide +kernel
theorem dX3_heatOf_9 : decode cX3_heatOf 9 = .ok (.aload_n 0, 1) := by decide +kernel
theorem dX3_heatOf_10 : decode cX3_heatOf 10 = .ok (.getfield 9, 3) := by decide +kernel
theorem dX3_heatOf_13 : decode cX3_heatOf 13 = .ok (.aload_n 1, 1) := by decide +kernel
theorem dX3_heatOf_14 : decode cX3_heatOf 14 = .ok (.getfield 97, 3) := by decide +kernel
theorem dX3_heatOf_17 : decode cX3_heatOf 17 = .ok (.iaload, 1) := by decide +kernel
theorem dX3_heatOf_18 : decode cX3_heatOf 18 = .ok (.iadd, 1) := by decide +kernel
theorem dX3_heatOf_19 : decode cX3_heatOf 19 = .ok (.aload_n 1, 1) := by decide +kernel
theorem dX3_heatOf_20 : decode cX3_heatOf 20 = .ok (.invokevirtual 276, 3) := by decide +kernel
theorem dX3_heatOf_23 : decode cX3_heatOf 23 = .ok (.iadd, 1) := by decide +kernel
theorem dX3_heatOf_24 : decode cX3_heatOf 24 = .ok (.ireturn, 1) := by decide +kernel
set_option maxRecDepth 20000 in
theorem ggX3_cameraForAir_X3_ofFrameAhead : GoodIn wsX3_cameraForAir wsX3_ofFrameAhead := goodIn_r _ [7, 8, 38, 39, 40, 41, 42, 43, 44, 45, 46, 47, 48, 49, 50, 51, 52] (by decide +kernel) (by decide +kernel)
set_option maxRecDepth 20000 in
theorem gX3_cameraForAir_X3_ofFrameAhead : GoodIn wsX3_cameraForAir (wsV RX3 268 RX3 yX3_ofFrameAhead wsX3_ofFrameAhead) := goodIn_app (goodIn_of _ (by decide +kernel)) ggX3_cameraForAir_X3_ofFrameAhead
set_option maxRecDepth 20000 in
theorem ggX3_cameraForAir_X3_canBeOnAir : GoodIn wsX3_cameraForAir wsX3_canBeOnAir := goodIn_r _ [12, 2, 13, 14, 15, 16, 17, 18, 19, 20, 21, 22, 23, 24, 25, 26, 27, 28, 29, 30, 31, 32, 33, 34, 35, 36, 37, 38, 39, 40, 41, 42, 43, 44, 45, 46, 47, 48, 49, 50, 51, 52, 53, 54, 55, 56, 57, 58, 59] (by decide +kernel) (by decide +kernel)
set_option maxRecDepth 20000 in
theorem gX3_cameraForAir_X3_canBeOnAir : GoodIn wsX3_cameraForAir (wsV RX3 279 RX3 yX3_canBeOnAir wsX3_canBeOnAir) := goodIn_app (goodIn_of _ (by decide +kernel)) ggX3_cameraForAir_X3_canBeOnAir
set_option maxRecDepth 20000 in
theorem ggX3_cameraForAir_Jx4a65c_size_8abf5 : GoodIn wsX3_cameraForAir wsJx4a65c_size_8abf5 := goodIn_r _ [19, 20, 57, 58, 59] (by decide +kernel) (by decide +kernel)
set_option maxRecDepth 20000 in
theorem gX3_cameraForAir_Jx4a65c_size_8abf5 : GoodIn wsX3_cameraForAir (wsV RX3 117 RJx4a65c yJx4a65c_size_8abf5 wsJx4a65c_size_8abf5) := goodIn_app (goodIn_of _ (by decide +kernel)) ggX3_cameraForAir_Jx4a65c_size_8abf5
theorem dX3_cameraForAir_0 : decode cX3_cameraForAir 0 = .ok (.aload_n 0, 1) := by decide +kernel
theorem dX3_cameraForAir_1 : decode cX3_cameraForAir 1 = .ok (.aload_n 0, 1) := by decide +kernel
theorem dX3_cameraForAir_2 : decode cX3_cameraForAir 2 = .ok (.getfield 48, 3) := by decide +kernel
theorem dX3_cameraForAir_5 : decode cX3_cameraForAir 5 = .ok (.invokevirtual 268, 3) := by decide +kernel
theorem dX3_cameraForAir_8 : decode cX3_cameraForAir 8 = .ok (.istore_n 1, 1) := by decide +kernel
theorem dX3_cameraForAir_9 : decode cX3_cameraForAir 9 = .ok (.aload_n 0, 1) := by decide +kernel
theorem dX3_cameraForAir_10 : decode cX3_cameraForAir 10 = .ok (.iload_n 1, 1) := by decide +kernel
theorem dX3_cameraForAir_11 : decode cX3_cameraForAir 11 = .ok (.invokevirtual 279, 3) := by decide +kernel
theorem dX3_cameraForAir_14 : decode cX3_cameraForAir 14 = .ok (.ifCond .eq 5, 3) := by decide +kernel
theorem dX3_cameraForAir_17 : decode cX3_cameraForAir 17 = .ok (.iload_n 1, 1) := by decide +kernel
theorem dX3_cameraForAir_18 : decode cX3_cameraForAir 18 = .ok (.ireturn, 1) := by decide +kernel
theorem dX3_cameraForAir_19 : decode cX3_cameraForAir 19 = .ok (.iconst 0, 1) := by decide +kernel
theorem dX3_cameraForAir_20 : decode cX3_cameraForAir 20 = .ok (.istore_n 2, 1) := by decide +kernel
theorem dX3_cameraForAir_21 : decode cX3_cameraForAir 21 = .ok (.iload_n 2, 1) := by decide +kernel
theorem dX3_cameraForAir_22 : decode cX3_cameraForAir 22 = .ok (.aload_n 0, 1) := by decide +kernel
theorem dX3_cameraForAir_23 : decode cX3_cameraForAir 23 = .ok (.getfield 23, 3) := by decide +kernel
theorem dX3_cameraForAir_26 : decode cX3_cameraForAir 26 = .ok (.invokevirtual 117, 3) := by decide +kernel
theorem dX3_cameraForAir_29 : decode cX3_cameraForAir 29 = .ok (.if_icmp .ge 19, 3) := by decide +kernel
theorem dX3_cameraForAir_32 : decode cX3_cameraForAir 32 = .ok (.aload_n 0, 1) := by decide +kernel
theorem dX3_cameraForAir_33 : decode cX3_cameraForAir 33 = .ok (.iload_n 2, 1) := by decide +kernel
theorem dX3_cameraForAir_34 : decode cX3_cameraForAir 34 = .ok (.invokevirtual 279, 3) := by decide +kernel
theorem dX3_cameraForAir_37 : decode cX3_cameraForAir 37 = .ok (.ifCond .eq 5, 3) := by decide +kernel
theorem dX3_cameraForAir_40 : decode cX3_cameraForAir 40 = .ok (.iload_n 2, 1) := by decide +kernel
theorem dX3_cameraForAir_41 : decode cX3_cameraForAir 41 = .ok (.ireturn, 1) := by decide +kernel
theorem dX3_cameraForAir_42 : decode cX3_cameraForAir 42 = .ok (.iinc 2 1, 3) := by decide +kernel
theorem dX3_cameraForAir_45 : decode cX3_cameraForAir 45 = .ok (.goto (-24), 3) := by decide +kernel
theorem dX3_cameraForAir_48 : decode cX3_cameraForAir 48 = .ok (.iconst (-1), 1) := by decide +kernel
theorem dX3_cameraForAir_49 : decode cX3_cameraForAir 49 = .ok (.ireturn, 1) := by decide +kernel
set_option maxRecDepth 20000 in
theorem ggX3_canBeOnAir_Jx4a65c_size_8abf5 : GoodIn wsX3_canBeOnAir wsJx4a65c_size_8abf5 := goodIn_r _ [8, 9, 46, 47, 48] (by decide +kernel) (by decide +kernel)
set_option maxRecDepth 20000 in
theorem gX3_canBeOnAir_Jx4a65c_size_8abf5 : GoodIn wsX3_canBeOnAir (wsV RX3 117 RJx4a65c yJx4a65c_size_8abf5 wsJx4a65c_size_8abf5) := goodIn_app (goodIn_of _ (by decide +kernel)) ggX3_canBeOnAir_Jx4a65c_size_8abf5
set_option maxRecDepth 20000 in
theorem ggX3_canBeOnAir_Jx4a65c_get_915e3 : GoodIn wsX3_canBeOnAir wsJx4a65c_get_915e3 := goodIn_r _ [13, 9, 14, 15, 16, 17, 18, 19, 20, 21, 22, 23, 24, 7, 25, 26, 46, 47, 48] (by decide +kernel) (by decide +kernel)
set_option maxRecDepth 20000 in
theorem gX3_canBeOnAir_Jx4a65c_get_915e3 : GoodIn wsX3_canBeOnAir (wsV RX3 194 RJx4a65c yJx4a65c_get_915e3 wsJx4a65c_get_915e3) := goodIn_app (goodIn_of _ (by decide +kernel)) ggX3_canBeOnAir_Jx4a65c_get_915e3
theorem dX3_canBeOnAir_0 : decode cX3_canBeOnAir 0 = .ok (.iload_n 1, 1) := by decide +kernel
theorem dX3_canBeOnAir_1 : decode cX3_canBeOnAir 1 = .ok (.ifCond .lt 35, 3) := by decide +kernel
theorem dX3_canBeOnAir_4 : decode cX3_canBeOnAir 4 = .ok (.iload_n 1, 1) := by decide +kernel
theorem dX3_canBeOnAir_5 : decode cX3_canBeOnAir 5 = .ok (.aload_n 0, 1) := by decide +kernel
theorem dX3_canBeOnAir_6 : decode cX3_canBeOnAir 6 = .ok (.getfield 23, 3) := by decide +kernel
theorem dX3_canBeOnAir_9 : decode cX3_canBeOnAir 9 = .ok (.invokevirtual 117, 3) := by decide +kernel
theorem dX3_canBeOnAir_12 : decode cX3_canBeOnAir 12 = .ok (.if_icmp .ge 24, 3) := by decide +kernel
theorem dX3_canBeOnAir_15 : decode cX3_canBeOnAir 15 = .ok (.aload_n 0, 1) := by decide +kernel
theorem dX3_canBeOnAir_16 : decode cX3_canBeOnAir 16 = .ok (.getfield 23, 3) := by decide +kernel
theorem dX3_canBeOnAir_19 : decode cX3_canBeOnAir 19 = .ok (.iload_n 1, 1) := by decide +kernel
theorem dX3_canBeOnAir_20 : decode cX3_canBeOnAir 20 = .ok (.invokevirtual 194, 3) := by decide +kernel
theorem dX3_canBeOnAir_23 : decode cX3_canBeOnAir 23 = .ok (.checkcast 123, 3) := by decide +kernel
theorem dX3_canBeOnAir_26 : decode cX3_canBeOnAir 26 = .ok (.getfield 201, 3) := by decide +kernel
theorem dX3_canBeOnAir_29 : decode cX3_canBeOnAir 29 = .ok (.ifCond .ne 7, 3) := by decide +kernel
theorem dX3_canBeOnAir_32 : decode cX3_canBeOnAir 32 = .ok (.iconst 1, 1) := by decide +kernel
theorem dX3_canBeOnAir_33 : decode cX3_canBeOnAir 33 = .ok (.goto 4, 3) := by decide +kernel
theorem dX3_canBeOnAir_36 : decode cX3_canBeOnAir 36 = .ok (.iconst 0, 1) := by decide +kernel
theorem dX3_canBeOnAir_37 : decode cX3_canBeOnAir 37 = .ok (.ireturn, 1) := by decide +kernel
theorem dX3_ofFrameAhead_0 : decode cX3_ofFrameAhead 0 = .ok (.aload_n 0, 1) := by decide +kernel
theorem dX3_ofFrameAhead_1 : decode cX3_ofFrameAhead 1 = .ok (.getfield 85, 3) := by decide +kernel
theorem dX3_ofFrameAhead_4 : decode cX3_ofFrameAhead 4 = .ok (.ifCond .le 14, 3) := by decide +kernel
theorem dX3_ofFrameAhead_7 : decode cX3_ofFrameAhead 7 = .ok (.aload_n 1, 1) := by decide +kernel
theorem dX3_ofFrameAhead_8 : decode cX3_ofFrameAhead 8 = .ok (.aload_n 0, 1) := by decide +kernel
theorem dX3_ofFrameAhead_9 : decode cX3_ofFrameAhead 9 = .ok (.getfield 85, 3) := by decide +kernel
theorem dX3_ofFrameAhead_12 : decode cX3_ofFrameAhead 12 = .ok (.iconst 1, 1) := by decide +kernel
theorem dX3_ofFrameAhead_13 : decode cX3_ofFrameAhead 13 = .ok (.isub, 1) := by decide +kernel
theorem dX3_ofFrameAhead_14 : decode cX3_ofFrameAhead 14 = .ok (.iaload, 1) := by decide +kernel
theorem dX3_ofFrameAhead_15 : decode cX3_ofFrameAhead 15 = .ok (.goto 4, 3) := by decide +kernel
theorem dX3_ofFrameAhead_18 : decode cX3_ofFrameAhead 18 = .ok (.iconst (-1), 1) := by decide +kernel
theorem dX3_ofFrameAhead_19 : decode cX3_ofFrameAhead 19 = .ok (.ireturn, 1) := by decide +kernel
set_option maxRecDepth 20000 in
theorem ggX3_showFight_X3_sponsorOwedMost : GoodIn wsX3_showFight wsX3_sponsorOwedMost := goodIn_r _ [11, 12, 13, 14, 15, 16, 17, 10, 18, 19, 6, 20, 21, 22, 23, 39, 40, 41, 42, 43, 44, 45, 24, 25, 26, 27, 28, 29, 30, 31, 32, 33, 34, 35, 36, 37, 38] (by decide +kernel) (by decide +kernel)
set_option maxRecDepth 20000 in
theorem gX3_showFight_X3_sponsorOwedMost : GoodIn wsX3_showFight (wsV RX3 282 RX3 yX3_sponsorOwedMost wsX3_sponsorOwedMost) := goodIn_app (goodIn_of _ (by decide +kernel)) ggX3_showFight_X3_sponsorOwedMost
theorem dX3_showFight_0 : decode cX3_showFight 0 = .ok (.aload_n 0, 1) := by decide +kernel
theorem dX3_showFight_1 : decode cX3_showFight 1 = .ok (.getfield 45, 3) := by decide +kernel
theorem dX3_showFight_4 : decode cX3_showFight 4 = .ok (.aload_n 0, 1) := by decide +kernel
theorem dX3_showFight_5 : decode cX3_showFight 5 = .ok (.getfield 85, 3) := by decide +kernel
theorem dX3_showFight_8 : decode cX3_showFight 8 = .ok (.aload_n 1, 1) := by decide +kernel
theorem dX3_showFight_9 : decode cX3_showFight 9 = .ok (.getfield 249, 3) := by decide +kernel
theorem dX3_showFight_12 : decode cX3_showFight 12 = .ok (.iastore, 1) := by decide +kernel
theorem dX3_showFight_13 : decode cX3_showFight 13 = .ok (.aload_n 1, 1) := by decide +kernel
theorem dX3_showFight_14 : decode cX3_showFight 14 = .ok (.dup, 1) := by decide +kernel
theorem dX3_showFight_15 : decode cX3_showFight 15 = .ok (.getfield 187, 3) := by decide +kernel
theorem dX3_showFight_18 : decode cX3_showFight 18 = .ok (.iconst 1, 1) := by decide +kernel
theorem dX3_showFight_19 : decode cX3_showFight 19 = .ok (.iadd, 1) := by decide +kernel
theorem dX3_showFight_20 : decode cX3_showFight 20 = .ok (.putfield 187, 3) := by decide +kernel
theorem dX3_showFight_23 : decode cX3_showFight 23 = .ok (.aload_n 0, 1) := by decide +kernel
theorem dX3_showFight_24 : decode cX3_showFight 24 = .ok (.aload_n 1, 1) := by decide +kernel
theorem dX3_showFight_25 : decode cX3_showFight 25 = .ok (.invokevirtual 282, 3) := by decide +kernel
theorem dX3_showFight_28 : decode cX3_showFight 28 = .ok (.istore_n 2, 1) := by decide +kernel
theorem dX3_showFight_29 : decode cX3_showFight 29 = .ok (.aload_n 0, 1) := by decide +kernel
theorem dX3_showFight_30 : decode cX3_showFight 30 = .ok (.getfield 51, 3) := by decide +kernel
theorem dX3_showFight_33 : decode cX3_showFight 33 = .ok (.aload_n 0, 1) := by decide +kernel
theorem dX3_showFight_34 : decode cX3_showFight 34 = .ok (.getfield 85, 3) := by decide +kernel
theorem dX3_showFight_37 : decode cX3_showFight 37 = .ok (.iload_n 2, 1) := by decide +kernel
theorem dX3_showFight_38 : decode cX3_showFight 38 = .ok (.iastore, 1) := by decide +kernel
theorem dX3_showFight_39 : decode cX3_showFight 39 = .ok (.iload_n 2, 1) := by decide +kernel
theorem dX3_showFight_40 : decode cX3_showFight 40 = .ok (.iconst (-1), 1) := by decide +kernel
theorem dX3_showFight_41 : decode cX3_showFight 41 = .ok (.if_icmp .eq 13, 3) := by decide +kernel
theorem dX3_showFight_44 : decode cX3_showFight 44 = .ok (.aload_n 0, 1) := by decide +kernel
theorem dX3_showFight_45 : decode cX3_showFight 45 = .ok (.getfield 32, 3) := by decide +kernel
theorem dX3_showFight_48 : decode cX3_showFight 48 = .ok (.iload_n 2, 1) := by decide +kernel
theorem dX3_showFight_49 : decode cX3_showFight 49 = .ok (.dup2, 1) := by decide +kernel
theorem dX3_showFight_50 : decode cX3_showFight 50 = .ok (.iaload, 1) := by decide +kernel
theorem dX3_showFight_51 : decode cX3_showFight 51 = .ok (.iconst 1, 1) := by decide +kernel
theorem dX3_showFight_52 : decode cX3_showFight 52 = .ok (.iadd, 1) := by decide +kernel
theorem dX3_showFight_53 : decode cX3_showFight 53 = .ok (.iastore, 1) := by decide +kernel
theorem dX3_showFight_54 : decode cX3_showFight 54 = .ok (.return_, 1) := by decide +kernel
set_option maxRecDepth 20000 in
theorem ggX3_sponsorOwedMost_X3_owedTo : GoodIn wsX3_sponsorOwedMost wsX3_owedTo := goodIn_r _ [8, 9, 10, 11, 12, 13, 14, 22, 23, 24, 25, 26, 27, 28, 29, 30, 31, 32, 33, 34, 35, 36] (by decide +kernel) (by decide +kernel)
set_option maxRecDepth 20000 in
theorem gX3_sponsorOwedMost_X3_owedTo : GoodIn wsX3_sponsorOwedMost (wsV RX3 206 RX3 yX3_owedTo wsX3_owedTo) := goodIn_app (goodIn_of _ (by decide +kernel)) ggX3_sponsorOwedMost_X3_owedTo
theorem dX3_sponsorOwedMost_0 : decode cX3_sponsorOwedMost 0 = .ok (.iconst 1, 1) := by decide +kernel
theorem dX3_sponsorOwedMost_1 : decode cX3_sponsorOwedMost 1 = .ok (.aload_n 1, 1) := by decide +kernel
theorem dX3_sponsorOwedMost_2 : decode cX3_sponsorOwedMost 2 = .ok (.getfield 88, 3) := by decide +kernel
theorem dX3_sponsorOwedMost_5 : decode cX3_sponsorOwedMost 5 = .ok (.ishl, 1) := by decide +kernel
theorem dX3_sponsorOwedMost_6 : decode cX3_sponsorOwedMost 6 = .ok (.iconst 1, 1) := by decide +kernel
theorem dX3_sponsorOwedMost_7 : decode cX3_sponsorOwedMost 7 = .ok (.aload_n 1, 1) := by decide +kernel
theorem dX3_sponsorOwedMost_8 : decode cX3_sponsorOwedMost 8 = .ok (.getfield 97, 3) := by decide +kernel
theorem dX3_sponsorOwedMost_11 : decode cX3_sponsorOwedMost 11 = .ok (.ishl, 1) := by decide +kernel
theorem dX3_sponsorOwedMost_12 : decode cX3_sponsorOwedMost 12 = .ok (.ior, 1) := by decide +kernel
theorem dX3_sponsorOwedMost_13 : decode cX3_sponsorOwedMost 13 = .ok (.istore_n 2, 1) := by decide +kernel
theorem dX3_sponsorOwedMost_14 : decode cX3_sponsorOwedMost 14 = .ok (.iconst (-1), 1) := by decide +kernel
theorem dX3_sponsorOwedMost_15 : decode cX3_sponsorOwedMost 15 = .ok (.istore_n 3, 1) := by decide +kernel
theorem dX3_sponsorOwedMost_16 : decode cX3_sponsorOwedMost 16 = .ok (.iconst 0, 1) := by decide +kernel
theorem dX3_sponsorOwedMost_17 : decode cX3_sponsorOwedMost 17 = .ok (.istore 4, 2) := by decide +kernel
theorem dX3_sponsorOwedMost_19 : decode cX3_sponsorOwedMost 19 = .ok (.iconst 0, 1) := by decide +kernel
theorem dX3_sponsorOwedMost_20 : decode cX3_sponsorOwedMost 20 = .ok (.istore 5, 2) := by decide +kernel
theorem dX3_sponsorOwedMost_22 : decode cX3_sponsorOwedMost 22 = .ok (.iload 5, 2) := by decide +kernel
theorem dX3_sponsorOwedMost_24 : decode cX3_sponsorOwedMost 24 = .ok (.bipush 6, 2) := by decide +kernel
theorem dX3_sponsorOwedMost_26 : decode cX3_sponsorOwedMost 26 = .ok (.if_icmp .ge 43, 3) := by decide +kernel
theorem dX3_sponsorOwedMost_29 : decode cX3_sponsorOwedMost 29 = .ok (.aload_n 0, 1) := by decide +kernel
theorem dX3_sponsorOwedMost_30 : decode cX3_sponsorOwedMost 30 = .ok (.getfield 35, 3) := by decide +kernel
theorem dX3_sponsorOwedMost_33 : decode cX3_sponsorOwedMost 33 = .ok (.iload 5, 2) := by decide +kernel
theorem dX3_sponsorOwedMost_35 : decode cX3_sponsorOwedMost 35 = .ok (.iaload, 1) := by decide +kernel
theorem dX3_sponsorOwedMost_36 : decode cX3_sponsorOwedMost 36 = .ok (.iload_n 2, 1) := by decide +kernel
theorem dX3_sponsorOwedMost_37 : decode cX3_sponsorOwedMost 37 = .ok (.iand, 1) := by decide +kernel
theorem dX3_sponsorOwedMost_38 : decode cX3_sponsorOwedMost 38 = .ok (.ifCond .eq 25, 3) := by decide +kernel
theorem dX3_sponsorOwedMost_41 : decode cX3_sponsorOwedMost 41 = .ok (.aload_n 0, 1) := by decide +kernel
theorem dX3_sponsorOwedMost_42 : decode cX3_sponsorOwedMost 42 = .ok (.iload 5, 2) := by decide +kernel
theorem dX3_sponsorOwedMost_44 : decode cX3_sponsorOwedMost 44 = .ok (.invokevirtual 206, 3) := by decide +kernel
theorem dX3_sponsorOwedMost_47 : decode cX3_sponsorOwedMost 47 = .ok (.iload 4, 2) := by decide +kernel
theorem dX3_sponsorOwedMost_49 : decode cX3_sponsorOwedMost 49 = .ok (.if_icmp .le 14, 3) := by decide +kernel
theorem dX3_sponsorOwedMost_52 : decode cX3_sponsorOwedMost 52 = .ok (.iload 5, 2) := by decide +kernel
theorem dX3_sponsorOwedMost_54 : decode cX3_sponsorOwedMost 54 = .ok (.istore_n 3, 1) := by decide +kernel
theorem dX3_sponsorOwedMost_55 : decode cX3_sponsorOwedMost 55 = .ok (.aload_n 0, 1) := by decide +kernel
theorem dX3_sponsorOwedMost_56 : decode cX3_sponsorOwedMost 56 = .ok (.iload 5, 2) := by decide +kernel
theorem dX3_sponsorOwedMost_58 : decode cX3_sponsorOwedMost 58 = .ok (.invokevirtual 206, 3) := by decide +kernel
theorem dX3_sponsorOwedMost_61 : decode cX3_sponsorOwedMost 61 = .ok (.istore 4, 2) := by decide +kernel
theorem dX3_sponsorOwedMost_63 : decode cX3_sponsorOwedMost 63 = .ok (.iinc 5 1, 3) := by decide +kernel
theorem dX3_sponsorOwedMost_66 : decode cX3_sponsorOwedMost 66 = .ok (.goto (-44), 3) := by decide +kernel
theorem dX3_sponsorOwedMost_69 : decode cX3_sponsorOwedMost 69 = .ok (.iload_n 3, 1) := by decide +kernel
theorem dX3_sponsorOwedMost_70 : decode cX3_sponsorOwedMost 70 = .ok (.ireturn, 1) := by decide +kernel
theorem dX3_owedTo_0 : decode cX3_owedTo 0 = .ok (.aload_n 0, 1) := by decide +kernel
theorem dX3_owedTo_1 : decode cX3_owedTo 1 = .ok (.getfield 29, 3) := by decide +kernel
theorem dX3_owedTo_4 : decode cX3_owedTo 4 = .ok (.iload_n 1, 1) := by decide +kernel
theorem dX3_owedTo_5 : decode cX3_owedTo 5 = .ok (.iaload, 1) := by decide +kernel
theorem dX3_owedTo_6 : decode cX3_owedTo 6 = .ok (.aload_n 0, 1) := by decide +kernel
theorem dX3_owedTo_7 : decode cX3_owedTo 7 = .ok (.getfield 32, 3) := by decide +kernel
theorem dX3_owedTo_10 : decode cX3_owedTo 10 = .ok (.iload_n 1, 1) := by decide +kernel
theorem dX3_owedTo_11 : decode cX3_owedTo 11 = .ok (.iaload, 1) := by decide +kernel
theorem dX3_owedTo_12 : decode cX3_owedTo 12 = .ok (.isub, 1) := by decide +kernel
theorem dX3_owedTo_13 : decode cX3_owedTo 13 = .ok (.iconst 0, 1) := by decide +kernel
theorem dX3_owedTo_14 : decode cX3_owedTo 14 = .ok (.invokestatic 285, 3) := by decide +kernel
theorem dX3_owedTo_17 : decode cX3_owedTo 17 = .ok (.ireturn, 1) := by decide +kernel
set_option maxRecDepth 20000 in
theorem ggX3_letCamerasPass_Jx4a65c_size_8abf5 : GoodIn wsX3_letCamerasPass wsJx4a65c_size_8abf5 := goodIn_r _ [7, 8, 58, 59, 60] (by decide +kernel) (by decide +kernel)
set_option maxRecDepth 20000 in
theorem gX3_letCamerasPass_Jx4a65c_size_8abf5 : GoodIn wsX3_letCamerasPass (wsV RX3 117 RJx4a65c yJx4a65c_size_8abf5 wsJx4a65c_size_8abf5) := goodIn_app (goodIn_of _ (by decide +kernel)) ggX3_letCamerasPass_Jx4a65c_size_8abf5
set_option maxRecDepth 20000 in
theorem ggX3_letCamerasPass_Jx4a65c_get_915e3 : GoodIn wsX3_letCamerasPass wsJx4a65c_get_915e3 := goodIn_r _ [12, 8, 13, 14, 15, 16, 17, 18, 19, 20, 21, 22, 23, 6, 24, 25, 58, 59, 60] (by decide +kernel) (by decide +kernel)
set_option maxRecDepth 20000 in
theorem gX3_letCamerasPass_Jx4a65c_get_915e3 : GoodIn wsX3_letCamerasPass (wsV RX3 194 RJx4a65c yJx4a65c_get_915e3 wsJx4a65c_get_915e3) := goodIn_app (goodIn_of _ (by decide +kernel)) ggX3_letCamerasPass_Jx4a65c_get_915e3
set_option maxRecDepth 20000 in
theorem ggX3_letCamerasPass_X0_passOnAir : GoodIn wsX3_letCamerasPass wsX0_passOnAir := goodIn_r _ [30, 31, 32, 33, 34, 35, 36, 37, 38, 61, 62, 63, 64] (by decide +kernel) (by decide +kernel)
set_option maxRecDepth 20000 in
theorem gX3_letCamerasPass_X0_passOnAir : GoodIn wsX3_letCamerasPass (wsV RX3 290 RX0 yX0_passOnAir wsX0_passOnAir) := goodIn_app (goodIn_of _ (by decide +kernel)) ggX3_letCamerasPass_X0_passOnAir
set_option maxRecDepth 20000 in
theorem ggX3_letCamerasPass_X0_passOff : GoodIn wsX3_letCamerasPass wsX0_passOff := goodIn_r _ [42, 31, 38, 34, 35, 36, 37, 61, 62, 63, 64] (by decide +kernel) (by decide +kernel)
set_option maxRecDepth 20000 in
theorem gX3_letCamerasPass_X0_passOff : GoodIn wsX3_letCamerasPass (wsV RX3 293 RX0 yX0_passOff wsX0_passOff) := goodIn_app (goodIn_of _ (by decide +kernel)) ggX3_letCamerasPass_X0_passOff
theorem dX3_letCamerasPass_0 : decode cX3_letCamerasPass 0 = .ok (.iconst 0, 1) := by decide +kernel
theorem dX3_letCamerasPass_1 : decode cX3_letCamerasPass 1 = .ok (.istore_n 2, 1) := by decide +kernel
theorem dX3_letCamerasPass_2 : decode cX3_letCamerasPass 2 = .ok (.iload_n 2, 1) := by decide +kernel
theorem dX3_letCamerasPass_3 : decode cX3_letCamerasPass 3 = .ok (.aload_n 0, 1) := by decide +kernel
theorem dX3_letCamerasPass_4 : decode cX3_letCamerasPass 4 = .ok (.getfield 23, 3) := by decide +kernel
theorem dX3_letCamerasPass_7 : decode cX3_letCamerasPass 7 = .ok (.invokevirtual 117, 3) := by decide +kernel
theorem dX3_letCamerasPass_10 : decode cX3_letCamerasPass 10 = .ok (.if_icmp .ge 37, 3) := by decide +kernel
theorem dX3_letCamerasPass_13 : decode cX3_letCamerasPass 13 = .ok (.aload_n 0, 1) := by decide +kernel
theorem dX3_letCamerasPass_14 : decode cX3_letCamerasPass 14 = .ok (.getfield 23, 3) := by decide +kernel
theorem dX3_letCamerasPass_17 : decode cX3_letCamerasPass 17 = .ok (.iload_n 2, 1) := by decide +kernel
theorem dX3_letCamerasPass_18 : decode cX3_letCamerasPass 18 = .ok (.invokevirtual 194, 3) := by decide +kernel
theorem dX3_letCamerasPass_21 : decode cX3_letCamerasPass 21 = .ok (.checkcast 123, 3) := by decide +kernel
theorem dX3_letCamerasPass_24 : decode cX3_letCamerasPass 24 = .ok (.astore_n 3, 1) := by decide +kernel
theorem dX3_letCamerasPass_25 : decode cX3_letCamerasPass 25 = .ok (.iload_n 2, 1) := by decide +kernel
theorem dX3_letCamerasPass_26 : decode cX3_letCamerasPass 26 = .ok (.iload_n 1, 1) := by decide +kernel
theorem dX3_letCamerasPass_27 : decode cX3_letCamerasPass 27 = .ok (.if_icmp .ne 10, 3) := by decide +kernel
theorem dX3_letCamerasPass_30 : decode cX3_letCamerasPass 30 = .ok (.aload_n 3, 1) := by decide +kernel
theorem dX3_letCamerasPass_31 : decode cX3_letCamerasPass 31 = .ok (.invokevirtual 290, 3) := by decide +kernel
theorem dX3_letCamerasPass_34 : decode cX3_letCamerasPass 34 = .ok (.goto 7, 3) := by decide +kernel
theorem dX3_letCamerasPass_37 : decode cX3_letCamerasPass 37 = .ok (.aload_n 3, 1) := by decide +kernel
theorem dX3_letCamerasPass_38 : decode cX3_letCamerasPass 38 = .ok (.invokevirtual 293, 3) := by decide +kernel
theorem dX3_letCamerasPass_41 : decode cX3_letCamerasPass 41 = .ok (.iinc 2 1, 3) := by decide +kernel
theorem dX3_letCamerasPass_44 : decode cX3_letCamerasPass 44 = .ok (.goto (-42), 3) := by decide +kernel
theorem dX3_letCamerasPass_47 : decode cX3_letCamerasPass 47 = .ok (.return_, 1) := by decide +kernel
theorem dX3_letViewersSee_0 : decode cX3_letViewersSee 0 = .ok (.aload_n 0, 1) := by decide +kernel
theorem dX3_letViewersSee_1 : decode cX3_letViewersSee 1 = .ok (.aload_n 0, 1) := by decide +kernel
theorem dX3_letViewersSee_2 : decode cX3_letViewersSee 2 = .ok (.getfield 42, 3) := by decide +kernel
theorem dX3_letViewersSee_5 : decode cX3_letViewersSee 5 = .ok (.aload_n 0, 1) := by decide +kernel
theorem dX3_letViewersSee_6 : decode cX3_letViewersSee 6 = .ok (.getfield 85, 3) := by decide +kernel
theorem dX3_letViewersSee_9 : decode cX3_letViewersSee 9 = .ok (.iconst 1, 1) := by decide +kernel
theorem dX3_letViewersSee_10 : decode cX3_letViewersSee 10 = .ok (.isub, 1) := by decide +kernel
theorem dX3_letViewersSee_11 : decode cX3_letViewersSee 11 = .ok (.aload_n 0, 1) := by decide +kernel
theorem dX3_letViewersSee_12 : decode cX3_letViewersSee 12 = .ok (.getfield 38, 3) := by decide +kernel
theorem dX3_letViewersSee_15 : decode cX3_letViewersSee 15 = .ok (.isub, 1) := by decide +kernel
theorem dX3_letViewersSee_16 : decode cX3_letViewersSee 16 = .ok (.invokestatic 285, 3) := by decide +kernel
theorem dX3_letViewersSee_19 : decode cX3_letViewersSee 19 = .ok (.putfield 42, 3) := by decide +kernel
theorem dX3_letViewersSee_22 : decode cX3_letViewersSee 22 = .ok (.return_, 1) := by decide +kernel
