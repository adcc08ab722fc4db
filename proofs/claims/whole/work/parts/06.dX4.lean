theorem dX4_init_0 : decode cX4_init 0 = .ok (.aload_n 0, 1) := by decide +kernel
theorem dX4_init_1 : decode cX4_init 1 = .ok (.invokespecial 1, 3) := by decide +kernel
theorem dX4_init_4 : decode cX4_init 4 = .ok (.aload_n 0, 1) := by decide +kernel
theorem dX4_init_5 : decode cX4_init 5 = .ok (.bipush 10, 2) := by decide +kernel
theorem dX4_init_7 : decode cX4_init 7 = .ok (.putfield 7, 3) := by decide +kernel
theorem dX4_init_10 : decode cX4_init 10 = .ok (.aload_n 0, 1) := by decide +kernel
theorem dX4_init_11 : decode cX4_init 11 = .ok (.iconst (-1), 1) := by decide +kernel
theorem dX4_init_12 : decode cX4_init 12 = .ok (.putfield 13, 3) := by decide +kernel
theorem dX4_init_15 : decode cX4_init 15 = .ok (.aload_n 0, 1) := by decide +kernel
theorem dX4_init_16 : decode cX4_init 16 = .ok (.bipush 10, 2) := by decide +kernel
theorem dX4_init_18 : decode cX4_init 18 = .ok (.newarray .int, 2) := by decide +kernel
theorem dX4_init_20 : decode cX4_init 20 = .ok (.putfield 16, 3) := by decide +kernel
theorem dX4_init_23 : decode cX4_init 23 = .ok (.aload_n 0, 1) := by decide +kernel
theorem dX4_init_24 : decode cX4_init 24 = .ok (.bipush 20, 2) := by decide +kernel
theorem dX4_init_26 : decode cX4_init 26 = .ok (.newarray .int, 2) := by decide +kernel
theorem dX4_init_28 : decode cX4_init 28 = .ok (.putfield 20, 3) := by decide +kernel
theorem dX4_init_31 : decode cX4_init 31 = .ok (.aload_n 0, 1) := by decide +kernel
theorem dX4_init_32 : decode cX4_init 32 = .ok (.bipush 20, 2) := by decide +kernel
theorem dX4_init_34 : decode cX4_init 34 = .ok (.newarray .int, 2) := by decide +kernel
theorem dX4_init_36 : decode cX4_init 36 = .ok (.putfield 23, 3) := by decide +kernel
theorem dX4_init_39 : decode cX4_init 39 = .ok (.aload_n 0, 1) := by decide +kernel
theorem dX4_init_40 : decode cX4_init 40 = .ok (.bipush 20, 2) := by decide +kernel
theorem dX4_init_42 : decode cX4_init 42 = .ok (.newarray .int, 2) := by decide +kernel
theorem dX4_init_44 : decode cX4_init 44 = .ok (.putfield 26, 3) := by decide +kernel
theorem dX4_init_47 : decode cX4_init 47 = .ok (.aload_n 0, 1) := by decide +kernel
theorem dX4_init_48 : decode cX4_init 48 = .ok (.bipush 20, 2) := by decide +kernel
theorem dX4_init_50 : decode cX4_init 50 = .ok (.newarray .int, 2) := by decide +kernel
theorem dX4_init_52 : decode cX4_init 52 = .ok (.putfield 29, 3) := by decide +kernel
theorem dX4_init_55 : decode cX4_init 55 = .ok (.aload_n 0, 1) := by decide +kernel
theorem dX4_init_56 : decode cX4_init 56 = .ok (.bipush 6, 2) := by decide +kernel
theorem dX4_init_58 : decode cX4_init 58 = .ok (.newarray .int, 2) := by decide +kernel
theorem dX4_init_60 : decode cX4_init 60 = .ok (.putfield 32, 3) := by decide +kernel
theorem dX4_init_63 : decode cX4_init 63 = .ok (.aload_n 0, 1) := by decide +kernel
theorem dX4_init_64 : decode cX4_init 64 = .ok (.bipush 6, 2) := by decide +kernel
theorem dX4_init_66 : decode cX4_init 66 = .ok (.newarray .int, 2) := by decide +kernel
theorem dX4_init_68 : decode cX4_init 68 = .ok (.putfield 35, 3) := by decide +kernel
theorem dX4_init_71 : decode cX4_init 71 = .ok (.aload_n 0, 1) := by decide +kernel
theorem dX4_init_72 : decode cX4_init 72 = .ok (.bipush 6, 2) := by decide +kernel
theorem dX4_init_74 : decode cX4_init 74 = .ok (.newarray .int, 2) := by decide +kernel
theorem dX4_init_76 : decode cX4_init 76 = .ok (.putfield 38, 3) := by decide +kernel
theorem dX4_init_79 : decode cX4_init 79 = .ok (.aload_n 0, 1) := by decide +kernel
theorem dX4_init_80 : decode cX4_init 80 = .ok (.bipush 6, 2) := by decide +kernel
theorem dX4_init_82 : decode cX4_init 82 = .ok (.newarray .int, 2) := by decide +kernel
theorem dX4_init_84 : decode cX4_init 84 = .ok (.putfield 41, 3) := by decide +kernel
theorem dX4_init_87 : decode cX4_init 87 = .ok (.aload_n 0, 1) := by decide +kernel
theorem dX4_init_88 : decode cX4_init 88 = .ok (.iconst (-1), 1) := by decide +kernel
theorem dX4_init_89 : decode cX4_init 89 = .ok (.putfield 44, 3) := by decide +kernel
theorem dX4_init_92 : decode cX4_init 92 = .ok (.aload_n 0, 1) := by decide +kernel
theorem dX4_init_93 : decode cX4_init 93 = .ok (.iconst (-1), 1) := by decide +kernel
theorem dX4_init_94 : decode cX4_init 94 = .ok (.putfield 47, 3) := by decide +kernel
theorem dX4_init_97 : decode cX4_init 97 = .ok (.aload_n 0, 1) := by decide +kernel
theorem dX4_init_98 : decode cX4_init 98 = .ok (.sipush 3000, 3) := by decide +kernel
theorem dX4_init_101 : decode cX4_init 101 = .ok (.newarray .int, 2) := by decide +kernel
theorem dX4_init_103 : decode cX4_init 103 = .ok (.putfield 50, 3) := by decide +kernel
theorem dX4_init_106 : decode cX4_init 106 = .ok (.aload_n 0, 1) := by decide +kernel
theorem dX4_init_107 : decode cX4_init 107 = .ok (.sipush 3000, 3) := by decide +kernel
theorem dX4_init_110 : decode cX4_init 110 = .ok (.newarray .int, 2) := by decide +kernel
theorem dX4_init_112 : decode cX4_init 112 = .ok (.putfield 53, 3) := by decide +kernel
theorem dX4_init_115 : decode cX4_init 115 = .ok (.aload_n 0, 1) := by decide +kernel
theorem dX4_init_116 : decode cX4_init 116 = .ok (.sipush 3000, 3) := by decide +kernel
theorem dX4_init_119 : decode cX4_init 119 = .ok (.newarray .int, 2) := by decide +kernel
theorem dX4_init_121 : decode cX4_init 121 = .ok (.putfield 56, 3) := by decide +kernel
theorem dX4_init_124 : decode cX4_init 124 = .ok (.aload_n 0, 1) := by decide +kernel
theorem dX4_init_125 : decode cX4_init 125 = .ok (.bipush 80, 2) := by decide +kernel
theorem dX4_init_127 : decode cX4_init 127 = .ok (.newarray .int, 2) := by decide +kernel
theorem dX4_init_129 : decode cX4_init 129 = .ok (.putfield 59, 3) := by decide +kernel
theorem dX4_init_132 : decode cX4_init 132 = .ok (.aload_n 0, 1) := by decide +kernel
theorem dX4_init_133 : decode cX4_init 133 = .ok (.bipush 80, 2) := by decide +kernel
theorem dX4_init_135 : decode cX4_init 135 = .ok (.newarray .int, 2) := by decide +kernel
theorem dX4_init_137 : decode cX4_init 137 = .ok (.putfield 62, 3) := by decide +kernel
theorem dX4_init_140 : decode cX4_init 140 = .ok (.aload_n 0, 1) := by decide +kernel
theorem dX4_init_141 : decode cX4_init 141 = .ok (.bipush 80, 2) := by decide +kernel
theorem dX4_init_143 : decode cX4_init 143 = .ok (.newarray .int, 2) := by decide +kernel
theorem dX4_init_145 : decode cX4_init 145 = .ok (.putfield 65, 3) := by decide +kernel
theorem dX4_init_148 : decode cX4_init 148 = .ok (.aload_n 0, 1) := by decide +kernel
theorem dX4_init_149 : decode cX4_init 149 = .ok (.bipush 80, 2) := by decide +kernel
theorem dX4_init_151 : decode cX4_init 151 = .ok (.newarray .int, 2) := by decide +kernel
theorem dX4_init_153 : decode cX4_init 153 = .ok (.putfield 68, 3) := by decide +kernel
theorem dX4_init_156 : decode cX4_init 156 = .ok (.aload_n 0, 1) := by decide +kernel
theorem dX4_init_157 : decode cX4_init 157 = .ok (.bipush 80, 2) := by decide +kernel
theorem dX4_init_159 : decode cX4_init 159 = .ok (.newarray .boolean, 2) := by decide +kernel
theorem dX4_init_161 : decode cX4_init 161 = .ok (.putfield 71, 3) := by decide +kernel
theorem dX4_init_164 : decode cX4_init 164 = .ok (.aload_n 0, 1) := by decide +kernel
theorem dX4_init_165 : decode cX4_init 165 = .ok (.bipush 6, 2) := by decide +kernel
theorem dX4_init_167 : decode cX4_init 167 = .ok (.newarray .int, 2) := by decide +kernel
theorem dX4_init_169 : decode cX4_init 169 = .ok (.putfield 75, 3) := by decide +kernel
theorem dX4_init_172 : decode cX4_init 172 = .ok (.aload_n 0, 1) := by decide +kernel
theorem dX4_init_173 : decode cX4_init 173 = .ok (.bipush 60, 2) := by decide +kernel
theorem dX4_init_175 : decode cX4_init 175 = .ok (.newarray .boolean, 2) := by decide +kernel
theorem dX4_init_177 : decode cX4_init 177 = .ok (.putfield 78, 3) := by decide +kernel
theorem dX4_init_180 : decode cX4_init 180 = .ok (.return_, 1) := by decide +kernel
theorem dX4_thrown_0 : decode cX4_thrown 0 = .ok (.aload_n 0, 1) := by decide +kernel
theorem dX4_thrown_1 : decode cX4_thrown 1 = .ok (.getfield 81, 3) := by decide +kernel
theorem dX4_thrown_4 : decode cX4_thrown 4 = .ok (.ireturn, 1) := by decide +kernel
theorem dX4_in_0 : decode cX4_in 0 = .ok (.iload_n 0, 1) := by decide +kernel
theorem dX4_in_1 : decode cX4_in 1 = .ok (.iload_n 1, 1) := by decide +kernel
theorem dX4_in_2 : decode cX4_in 2 = .ok (.if_icmp .lt 12, 3) := by decide +kernel
theorem dX4_in_5 : decode cX4_in 5 = .ok (.iload_n 0, 1) := by decide +kernel
theorem dX4_in_6 : decode cX4_in 6 = .ok (.iload_n 2, 1) := by decide +kernel
theorem dX4_in_7 : decode cX4_in 7 = .ok (.if_icmp .gt 7, 3) := by decide +kernel
theorem dX4_in_10 : decode cX4_in 10 = .ok (.iconst 1, 1) := by decide +kernel
theorem dX4_in_11 : decode cX4_in 11 = .ok (.goto 4, 3) := by decide +kernel
theorem dX4_in_14 : decode cX4_in 14 = .ok (.iconst 0, 1) := by decide +kernel
theorem dX4_in_15 : decode cX4_in 15 = .ok (.ireturn, 1) := by decide +kernel
theorem dX4_refused_0 : decode cX4_refused 0 = .ok (.aload_n 0, 1) := by decide +kernel
theorem dX4_refused_1 : decode cX4_refused 1 = .ok (.iload_n 1, 1) := by decide +kernel
theorem dX4_refused_2 : decode cX4_refused 2 = .ok (.putfield 81, 3) := by decide +kernel
theorem dX4_refused_5 : decode cX4_refused 5 = .ok (.iload_n 1, 1) := by decide +kernel
theorem dX4_refused_6 : decode cX4_refused 6 = .ok (.ifCond .eq 7, 3) := by decide +kernel
theorem dX4_refused_9 : decode cX4_refused 9 = .ok (.iconst 1, 1) := by decide +kernel
theorem dX4_refused_10 : decode cX4_refused 10 = .ok (.goto 4, 3) := by decide +kernel
theorem dX4_refused_13 : decode cX4_refused 13 = .ok (.iconst 0, 1) := by decide +kernel
theorem dX4_refused_14 : decode cX4_refused 14 = .ok (.ireturn, 1) := by decide +kernel
set_option maxRecDepth 20000 in
theorem ggX4_isPlayer_X4_in : GoodIn wsX4_isPlayer wsX4_in := goodIn_r _ [4] (by decide +kernel) (by decide +kernel)
set_option maxRecDepth 20000 in
theorem gX4_isPlayer_X4_in : GoodIn wsX4_isPlayer (va_wsS RX4 84 yX4_in wsX4_in) := goodIn_app (goodIn_of _ (by decide +kernel)) ggX4_isPlayer_X4_in
theorem dX4_isPlayer_0 : decode cX4_isPlayer 0 = .ok (.iload_n 0, 1) := by decide +kernel
theorem dX4_isPlayer_1 : decode cX4_isPlayer 1 = .ok (.iconst 0, 1) := by decide +kernel
theorem dX4_isPlayer_2 : decode cX4_isPlayer 2 = .ok (.bipush 9, 2) := by decide +kernel
theorem dX4_isPlayer_4 : decode cX4_isPlayer 4 = .ok (.invokestatic 84, 3) := by decide +kernel
theorem dX4_isPlayer_7 : decode cX4_isPlayer 7 = .ok (.ireturn, 1) := by decide +kernel
set_option maxRecDepth 20000 in
theorem ggX4_isFight_X4_in : GoodIn wsX4_isFight wsX4_in := goodIn_r _ [5] (by decide +kernel) (by decide +kernel)
set_option maxRecDepth 20000 in
theorem gX4_isFight_X4_in : GoodIn wsX4_isFight (va_wsS RX4 84 yX4_in wsX4_in) := goodIn_app (goodIn_of _ (by decide +kernel)) ggX4_isFight_X4_in
theorem dX4_isFight_0 : decode cX4_isFight 0 = .ok (.iload_n 1, 1) := by decide +kernel
theorem dX4_isFight_1 : decode cX4_isFight 1 = .ok (.iconst 0, 1) := by decide +kernel
theorem dX4_isFight_2 : decode cX4_isFight 2 = .ok (.aload_n 0, 1) := by decide +kernel
theorem dX4_isFight_3 : decode cX4_isFight 3 = .ok (.getfield 88, 3) := by decide +kernel
theorem dX4_isFight_6 : decode cX4_isFight 6 = .ok (.iconst 1, 1) := by decide +kernel
theorem dX4_isFight_7 : decode cX4_isFight 7 = .ok (.isub, 1) := by decide +kernel
theorem dX4_isFight_8 : decode cX4_isFight 8 = .ok (.invokestatic 84, 3) := by decide +kernel
theorem dX4_isFight_11 : decode cX4_isFight 11 = .ok (.ireturn, 1) := by decide +kernel
set_option maxRecDepth 20000 in
theorem ggX4_isSponsor_X4_in : GoodIn wsX4_isSponsor wsX4_in := goodIn_r _ [4] (by decide +kernel) (by decide +kernel)
set_option maxRecDepth 20000 in
theorem gX4_isSponsor_X4_in : GoodIn wsX4_isSponsor (va_wsS RX4 84 yX4_in wsX4_in) := goodIn_app (goodIn_of _ (by decide +kernel)) ggX4_isSponsor_X4_in
theorem dX4_isSponsor_0 : decode cX4_isSponsor 0 = .ok (.iload_n 0, 1) := by decide +kernel
theorem dX4_isSponsor_1 : decode cX4_isSponsor 1 = .ok (.iconst 0, 1) := by decide +kernel
theorem dX4_isSponsor_2 : decode cX4_isSponsor 2 = .ok (.iconst 5, 1) := by decide +kernel
theorem dX4_isSponsor_3 : decode cX4_isSponsor 3 = .ok (.invokestatic 84, 3) := by decide +kernel
theorem dX4_isSponsor_6 : decode cX4_isSponsor 6 = .ok (.ireturn, 1) := by decide +kernel
set_option maxRecDepth 20000 in
theorem ggX4_rank_X4_isPlayer : GoodIn wsX4_rank wsX4_isPlayer := goodIn_r _ [5, 6, 7, 4, 8] (by decide +kernel) (by decide +kernel)
set_option maxRecDepth 20000 in
theorem gX4_rank_X4_isPlayer : GoodIn wsX4_rank (va_wsS RX4 91 yX4_isPlayer wsX4_isPlayer) := goodIn_app (goodIn_of _ (by decide +kernel)) ggX4_rank_X4_isPlayer
set_option maxRecDepth 20000 in
theorem ggX4_rank_X4_in : GoodIn wsX4_rank wsX4_in := goodIn_r _ [8] (by decide +kernel) (by decide +kernel)
set_option maxRecDepth 20000 in
theorem gX4_rank_X4_in : GoodIn wsX4_rank (va_wsS RX4 84 yX4_in wsX4_in) := goodIn_app (goodIn_of _ (by decide +kernel)) ggX4_rank_X4_in
set_option maxRecDepth 20000 in
theorem ggX4_rank_X4_refused : GoodIn wsX4_rank wsX4_refused := goodIn_r _ [12, 13, 14, 15, 16, 17, 18, 19, 20, 21, 22, 23, 24, 25, 26, 27, 28, 29, 30, 31, 32, 33, 34, 35, 36, 37, 38, 39, 40, 41, 42] (by decide +kernel) (by decide +kernel)
set_option maxRecDepth 20000 in
theorem gX4_rank_X4_refused : GoodIn wsX4_rank (wsV RX4 95 RX4 yX4_refused wsX4_refused) := goodIn_app (goodIn_of _ (by decide +kernel)) ggX4_rank_X4_refused
theorem dX4_rank_0 : decode cX4_rank 0 = .ok (.aload_n 0, 1) := by decide +kernel
theorem dX4_rank_1 : decode cX4_rank 1 = .ok (.iload_n 1, 1) := by decide +kernel
theorem dX4_rank_2 : decode cX4_rank 2 = .ok (.invokestatic 91, 3) := by decide +kernel
theorem dX4_rank_5 : decode cX4_rank 5 = .ok (.ifCond .ne 7, 3) := by decide +kernel
theorem dX4_rank_8 : decode cX4_rank 8 = .ok (.iconst 1, 1) := by decide +kernel
theorem dX4_rank_9 : decode cX4_rank 9 = .ok (.goto 18, 3) := by decide +kernel
theorem dX4_rank_12 : decode cX4_rank 12 = .ok (.iload_n 2, 1) := by decide +kernel
theorem dX4_rank_13 : decode cX4_rank 13 = .ok (.iconst 0, 1) := by decide +kernel
theorem dX4_rank_14 : decode cX4_rank 14 = .ok (.bipush 99, 2) := by decide +kernel
theorem dX4_rank_16 : decode cX4_rank 16 = .ok (.invokestatic 84, 3) := by decide +kernel
theorem dX4_rank_19 : decode cX4_rank 19 = .ok (.ifCond .ne 7, 3) := by decide +kernel
theorem dX4_rank_22 : decode cX4_rank 22 = .ok (.iconst 2, 1) := by decide +kernel
theorem dX4_rank_23 : decode cX4_rank 23 = .ok (.goto 4, 3) := by decide +kernel
theorem dX4_rank_26 : decode cX4_rank 26 = .ok (.iconst 0, 1) := by decide +kernel
theorem dX4_rank_27 : decode cX4_rank 27 = .ok (.invokevirtual 95, 3) := by decide +kernel
theorem dX4_rank_30 : decode cX4_rank 30 = .ok (.ifCond .eq 5, 3) := by decide +kernel
theorem dX4_rank_33 : decode cX4_rank 33 = .ok (.iconst 0, 1) := by decide +kernel
theorem dX4_rank_34 : decode cX4_rank 34 = .ok (.ireturn, 1) := by decide +kernel
theorem dX4_rank_35 : decode cX4_rank 35 = .ok (.aload_n 0, 1) := by decide +kernel
theorem dX4_rank_36 : decode cX4_rank 36 = .ok (.getfield 16, 3) := by decide +kernel
theorem dX4_rank_39 : decode cX4_rank 39 = .ok (.iload_n 1, 1) := by decide +kernel
theorem dX4_rank_40 : decode cX4_rank 40 = .ok (.iaload, 1) := by decide +kernel
theorem dX4_rank_41 : decode cX4_rank 41 = .ok (.istore_n 3, 1) := by decide +kernel
theorem dX4_rank_42 : decode cX4_rank 42 = .ok (.aload_n 0, 1) := by decide +kernel
theorem dX4_rank_43 : decode cX4_rank 43 = .ok (.getfield 16, 3) := by decide +kernel
theorem dX4_rank_46 : decode cX4_rank 46 = .ok (.iload_n 1, 1) := by decide +kernel
theorem dX4_rank_47 : decode cX4_rank 47 = .ok (.iload_n 2, 1) := by decide +kernel
theorem dX4_rank_48 : decode cX4_rank 48 = .ok (.iastore, 1) := by decide +kernel
theorem dX4_rank_49 : decode cX4_rank 49 = .ok (.iload_n 3, 1) := by decide +kernel
theorem dX4_rank_50 : decode cX4_rank 50 = .ok (.ireturn, 1) := by decide +kernel
theorem dX4_isBusy_0 : decode cX4_isBusy 0 = .ok (.iconst 0, 1) := by decide +kernel
theorem dX4_isBusy_1 : decode cX4_isBusy 1 = .ok (.istore_n 2, 1) := by decide +kernel
theorem dX4_isBusy_2 : decode cX4_isBusy 2 = .ok (.iconst 0, 1) := by decide +kernel
theorem dX4_isBusy_3 : decode cX4_isBusy 3 = .ok (.istore_n 3, 1) := by decide +kernel
theorem dX4_isBusy_4 : decode cX4_isBusy 4 = .ok (.iload_n 3, 1) := by decide +kernel
theorem dX4_isBusy_5 : decode cX4_isBusy 5 = .ok (.aload_n 0, 1) := by decide +kernel
theorem dX4_isBusy_6 : decode cX4_isBusy 6 = .ok (.getfield 88, 3) := by decide +kernel
theorem dX4_isBusy_9 : decode cX4_isBusy 9 = .ok (.if_icmp .ge 48, 3) := by decide +kernel
theorem dX4_isBusy_12 : decode cX4_isBusy 12 = .ok (.iload_n 2, 1) := by decide +kernel
theorem dX4_isBusy_13 : decode cX4_isBusy 13 = .ok (.ifCond .ne 32, 3) := by decide +kernel
theorem dX4_isBusy_16 : decode cX4_isBusy 16 = .ok (.aload_n 0, 1) := by decide +kernel
theorem dX4_isBusy_17 : decode cX4_isBusy 17 = .ok (.getfield 20, 3) := by decide +kernel
theorem dX4_isBusy_20 : decode cX4_isBusy 20 = .ok (.iload_n 3, 1) := by decide +kernel
theorem dX4_isBusy_21 : decode cX4_isBusy 21 = .ok (.iaload, 1) := by decide +kernel
theorem dX4_isBusy_22 : decode cX4_isBusy 22 = .ok (.ifCond .ne 27, 3) := by decide +kernel
theorem dX4_isBusy_25 : decode cX4_isBusy 25 = .ok (.aload_n 0, 1) := by decide +kernel
theorem dX4_isBusy_26 : decode cX4_isBusy 26 = .ok (.getfield 23, 3) := by decide +kernel
theorem dX4_isBusy_29 : decode cX4_isBusy 29 = .ok (.iload_n 3, 1) := by decide +kernel
theorem dX4_isBusy_30 : decode cX4_isBusy 30 = .ok (.iaload, 1) := by decide +kernel
theorem dX4_isBusy_31 : decode cX4_isBusy 31 = .ok (.iload_n 1, 1) := by decide +kernel
theorem dX4_isBusy_32 : decode cX4_isBusy 32 = .ok (.if_icmp .eq 13, 3) := by decide +kernel
theorem dX4_isBusy_35 : decode cX4_isBusy 35 = .ok (.aload_n 0, 1) := by decide +kernel
theorem dX4_isBusy_36 : decode cX4_isBusy 36 = .ok (.getfield 26, 3) := by decide +kernel
theorem dX4_isBusy_39 : decode cX4_isBusy 39 = .ok (.iload_n 3, 1) := by decide +kernel
theorem dX4_isBusy_40 : decode cX4_isBusy 40 = .ok (.iaload, 1) := by decide +kernel
theorem dX4_isBusy_41 : decode cX4_isBusy 41 = .ok (.iload_n 1, 1) := by decide +kernel
theorem dX4_isBusy_42 : decode cX4_isBusy 42 = .ok (.if_icmp .ne 7, 3) := by decide +kernel
theorem dX4_isBusy_45 : decode cX4_isBusy 45 = .ok (.iconst 1, 1) := by decide +kernel
theorem dX4_isBusy_46 : decode cX4_isBusy 46 = .ok (.goto 4, 3) := by decide +kernel
theorem dX4_isBusy_49 : decode cX4_isBusy 49 = .ok (.iconst 0, 1) := by decide +kernel
theorem dX4_isBusy_50 : decode cX4_isBusy 50 = .ok (.istore_n 2, 1) := by decide +kernel
theorem dX4_isBusy_51 : decode cX4_isBusy 51 = .ok (.iinc 3 1, 3) := by decide +kernel
theorem dX4_isBusy_54 : decode cX4_isBusy 54 = .ok (.goto (-50), 3) := by decide +kernel
theorem dX4_isBusy_57 : decode cX4_isBusy 57 = .ok (.iload_n 2, 1) := by decide +kernel
theorem dX4_isBusy_58 : decode cX4_isBusy 58 = .ok (.ireturn, 1) := by decide +kernel
theorem dX4_begin_0 : decode cX4_begin 0 = .ok (.aload_n 0, 1) := by decide +kernel
theorem dX4_begin_1 : decode cX4_begin 1 = .ok (.getfield 23, 3) := by decide +kernel
theorem dX4_begin_4 : decode cX4_begin 4 = .ok (.aload_n 0, 1) := by decide +kernel
theorem dX4_begin_5 : decode cX4_begin 5 = .ok (.getfield 88, 3) := by decide +kernel
theorem dX4_begin_8 : decode cX4_begin 8 = .ok (.iload_n 1, 1) := by decide +kernel
theorem dX4_begin_9 : decode cX4_begin 9 = .ok (.iastore, 1) := by decide +kernel
theorem dX4_begin_10 : decode cX4_begin 10 = .ok (.aload_n 0, 1) := by decide +kernel
theorem dX4_begin_11 : decode cX4_begin 11 = .ok (.getfield 26, 3) := by decide +kernel
theorem dX4_begin_14 : decode cX4_begin 14 = .ok (.aload_n 0, 1) := by decide +kernel
theorem dX4_begin_15 : decode cX4_begin 15 = .ok (.getfield 88, 3) := by decide +kernel
theorem dX4_begin_18 : decode cX4_begin 18 = .ok (.iload_n 2, 1) := by decide +kernel
theorem dX4_begin_19 : decode cX4_begin 19 = .ok (.iastore, 1) := by decide +kernel
theorem dX4_begin_20 : decode cX4_begin 20 = .ok (.aload_n 0, 1) := by decide +kernel
theorem dX4_begin_21 : decode cX4_begin 21 = .ok (.getfield 29, 3) := by decide +kernel
theorem dX4_begin_24 : decode cX4_begin 24 = .ok (.aload_n 0, 1) := by decide +kernel
theorem dX4_begin_25 : decode cX4_begin 25 = .ok (.getfield 88, 3) := by decide +kernel
theorem dX4_begin_28 : decode cX4_begin 28 = .ok (.iconst (-1), 1) := by decide +kernel
theorem dX4_begin_29 : decode cX4_begin 29 = .ok (.iastore, 1) := by decide +kernel
theorem dX4_begin_30 : decode cX4_begin 30 = .ok (.aload_n 0, 1) := by decide +kernel
theorem dX4_begin_31 : decode cX4_begin 31 = .ok (.dup, 1) := by decide +kernel
theorem dX4_begin_32 : decode cX4_begin 32 = .ok (.getfield 88, 3) := by decide +kernel
theorem dX4_begin_35 : decode cX4_begin 35 = .ok (.iconst 1, 1) := by decide +kernel
theorem dX4_begin_36 : decode cX4_begin 36 = .ok (.iadd, 1) := by decide +kernel
theorem dX4_begin_37 : decode cX4_begin 37 = .ok (.putfield 88, 3) := by decide +kernel
theorem dX4_begin_40 : decode cX4_begin 40 = .ok (.aload_n 0, 1) := by decide +kernel
theorem dX4_begin_41 : decode cX4_begin 41 = .ok (.getfield 88, 3) := by decide +kernel
theorem dX4_begin_44 : decode cX4_begin 44 = .ok (.iconst 1, 1) := by decide +kernel
theorem dX4_begin_45 : decode cX4_begin 45 = .ok (.isub, 1) := by decide +kernel
theorem dX4_begin_46 : decode cX4_begin 46 = .ok (.ireturn, 1) := by decide +kernel
set_option maxRecDepth 20000 in
theorem ggX4_fight_X4_isPlayer : GoodIn wsX4_fight wsX4_isPlayer := goodIn_r _ [5, 6, 7, 4, 8] (by decide +kernel) (by decide +kernel)
set_option maxRecDepth 20000 in
theorem gX4_fight_X4_isPlayer : GoodIn wsX4_fight (va_wsS RX4 91 yX4_isPlayer wsX4_isPlayer) := goodIn_app (goodIn_of _ (by decide +kernel)) ggX4_fight_X4_isPlayer
set_option maxRecDepth 20000 in
theorem ggX4_fight_X4_isBusy : GoodIn wsX4_fight wsX4_isBusy := goodIn_r _ [12, 1, 13, 14, 15, 26, 27, 28, 29, 30, 31, 32, 33, 34, 35, 36, 37, 38, 39, 40, 41, 42, 43, 44, 45, 46, 47, 48, 49, 50, 51, 52, 53, 54] (by decide +kernel) (by decide +kernel)
set_option maxRecDepth 20000 in
theorem gX4_fight_X4_isBusy : GoodIn wsX4_fight (wsV RX4 98 RX4 yX4_isBusy wsX4_isBusy) := goodIn_app (goodIn_of _ (by decide +kernel)) ggX4_fight_X4_isBusy
set_option maxRecDepth 20000 in
theorem ggX4_fight_X4_refused : GoodIn wsX4_fight wsX4_refused := goodIn_r _ [19, 20, 26, 27, 28, 29, 30, 31, 32, 33, 34, 35, 36, 37, 38, 39, 40, 41, 42, 43, 44, 45, 46, 47, 48, 49, 50, 51, 52, 53, 54] (by decide +kernel) (by decide +kernel)
set_option maxRecDepth 20000 in
theorem gX4_fight_X4_refused : GoodIn wsX4_fight (wsV RX4 95 RX4 yX4_refused wsX4_refused) := goodIn_app (goodIn_of _ (by decide +kernel)) ggX4_fight_X4_refused
set_option maxRecDepth 20000 in
theorem ggX4_fight_X4_begin : GoodIn wsX4_fight wsX4_begin := goodIn_r _ [24, 14, 1, 15, 25, 26, 27, 28, 29, 30, 31, 32, 33, 34, 35, 36, 37, 38, 39, 40, 41, 42, 43, 44, 45, 46, 47, 48, 49, 50, 51, 52, 53, 54] (by decide +kernel) (by decide +kernel)
set_option maxRecDepth 20000 in
theorem gX4_fight_X4_begin : GoodIn wsX4_fight (wsV RX4 101 RX4 yX4_begin wsX4_begin) := goodIn_app (goodIn_of _ (by decide +kernel)) ggX4_fight_X4_begin
theorem dX4_fight_0 : decode cX4_fight 0 = .ok (.iload_n 1, 1) := by decide +kernel
theorem dX4_fight_1 : decode cX4_fight 1 = .ok (.invokestatic 91, 3) := by decide +kernel
theorem dX4_fight_4 : decode cX4_fight 4 = .ok (.ifCond .eq 14, 3) := by decide +kernel
theorem dX4_fight_7 : decode cX4_fight 7 = .ok (.iload_n 2, 1) := by decide +kernel
theorem dX4_fight_8 : decode cX4_fight 8 = .ok (.invokestatic 91, 3) := by decide +kernel
theorem dX4_fight_11 : decode cX4_fight 11 = .ok (.ifCond .eq 7, 3) := by decide +kernel
theorem dX4_fight_14 : decode cX4_fight 14 = .ok (.iconst 1, 1) := by decide +kernel
theorem dX4_fight_15 : decode cX4_fight 15 = .ok (.goto 4, 3) := by decide +kernel
theorem dX4_fight_18 : decode cX4_fight 18 = .ok (.iconst 0, 1) := by decide +kernel
theorem dX4_fight_19 : decode cX4_fight 19 = .ok (.istore_n 3, 1) := by decide +kernel
theorem dX4_fight_20 : decode cX4_fight 20 = .ok (.aload_n 0, 1) := by decide +kernel
theorem dX4_fight_21 : decode cX4_fight 21 = .ok (.iload_n 3, 1) := by decide +kernel
theorem dX4_fight_22 : decode cX4_fight 22 = .ok (.ifCond .ne 7, 3) := by decide +kernel
theorem dX4_fight_25 : decode cX4_fight 25 = .ok (.iconst 1, 1) := by decide +kernel
theorem dX4_fight_26 : decode cX4_fight 26 = .ok (.goto 42, 3) := by decide +kernel
theorem dX4_fight_29 : decode cX4_fight 29 = .ok (.iload_n 1, 1) := by decide +kernel
theorem dX4_fight_30 : decode cX4_fight 30 = .ok (.iload_n 2, 1) := by decide +kernel
theorem dX4_fight_31 : decode cX4_fight 31 = .ok (.if_icmp .ne 7, 3) := by decide +kernel
theorem dX4_fight_34 : decode cX4_fight 34 = .ok (.iconst 2, 1) := by decide +kernel
theorem dX4_fight_35 : decode cX4_fight 35 = .ok (.goto 33, 3) := by decide +kernel
theorem dX4_fight_38 : decode cX4_fight 38 = .ok (.aload_n 0, 1) := by decide +kernel
theorem dX4_fight_39 : decode cX4_fight 39 = .ok (.iload_n 1, 1) := by decide +kernel
theorem dX4_fight_40 : decode cX4_fight 40 = .ok (.invokevirtual 98, 3) := by decide +kernel
theorem dX4_fight_43 : decode cX4_fight 43 = .ok (.ifCond .ne 20, 3) := by decide +kernel
theorem dX4_fight_46 : decode cX4_fight 46 = .ok (.aload_n 0, 1) := by decide +kernel
theorem dX4_fight_47 : decode cX4_fight 47 = .ok (.iload_n 2, 1) := by decide +kernel
theorem dX4_fight_48 : decode cX4_fight 48 = .ok (.invokevirtual 98, 3) := by decide +kernel
theorem dX4_fight_51 : decode cX4_fight 51 = .ok (.ifCond .ne 12, 3) := by decide +kernel
theorem dX4_fight_54 : decode cX4_fight 54 = .ok (.aload_n 0, 1) := by decide +kernel
theorem dX4_fight_55 : decode cX4_fight 55 = .ok (.getfield 88, 3) := by decide +kernel
theorem dX4_fight_58 : decode cX4_fight 58 = .ok (.bipush 20, 2) := by decide +kernel
theorem dX4_fight_60 : decode cX4_fight 60 = .ok (.if_icmp .ne 7, 3) := by decide +kernel
theorem dX4_fight_63 : decode cX4_fight 63 = .ok (.iconst 3, 1) := by decide +kernel
theorem dX4_fight_64 : decode cX4_fight 64 = .ok (.goto 4, 3) := by decide +kernel
theorem dX4_fight_67 : decode cX4_fight 67 = .ok (.iconst 0, 1) := by decide +kernel
theorem dX4_fight_68 : decode cX4_fight 68 = .ok (.invokevirtual 95, 3) := by decide +kernel
theorem dX4_fight_71 : decode cX4_fight 71 = .ok (.ifCond .eq 5, 3) := by decide +kernel
theorem dX4_fight_74 : decode cX4_fight 74 = .ok (.iconst 0, 1) := by decide +kernel
theorem dX4_fight_75 : decode cX4_fight 75 = .ok (.ireturn, 1) := by decide +kernel
theorem dX4_fight_76 : decode cX4_fight 76 = .ok (.aload_n 0, 1) := by decide +kernel
theorem dX4_fight_77 : decode cX4_fight 77 = .ok (.iload_n 1, 1) := by decide +kernel
theorem dX4_fight_78 : decode cX4_fight 78 = .ok (.iload_n 2, 1) := by decide +kernel
theorem dX4_fight_79 : decode cX4_fight 79 = .ok (.invokevirtual 101, 3) := by decide +kernel
theorem dX4_fight_82 : decode cX4_fight 82 = .ok (.ireturn, 1) := by decide +kernel
set_option maxRecDepth 20000 in
theorem ggX4_end_X4_isFight : GoodIn wsX4_end wsX4_isFight := goodIn_r _ [9, 10, 11, 12, 8, 13, 29, 30, 31, 32, 33, 34, 35, 36, 37, 38, 39, 40, 41, 42, 43, 44, 45, 46, 47, 48, 49, 50, 51, 52, 53, 54, 55, 56, 57] (by decide +kernel) (by decide +kernel)
set_option maxRecDepth 20000 in
theorem gX4_end_X4_isFight : GoodIn wsX4_end (wsV RX4 105 RX4 yX4_isFight wsX4_isFight) := goodIn_app (goodIn_of _ (by decide +kernel)) ggX4_end_X4_isFight
set_option maxRecDepth 20000 in
theorem ggX4_end_X4_refused : GoodIn wsX4_end wsX4_refused := goodIn_r _ [17, 18, 29, 30, 31, 32, 33, 34, 35, 36, 37, 38, 39, 40, 41, 42, 43, 44, 45, 46, 47, 48, 49, 50, 51, 52, 53, 54, 55, 56, 57] (by decide +kernel) (by decide +kernel)
set_option maxRecDepth 20000 in
theorem gX4_end_X4_refused : GoodIn wsX4_end (wsV RX4 95 RX4 yX4_refused wsX4_refused) := goodIn_app (goodIn_of _ (by decide +kernel)) ggX4_end_X4_refused
set_option maxRecDepth 20000 in
theorem ggX4_end_X4_pointsOf : GoodIn wsX4_end wsX4_pointsOf := goodIn_r _ [22, 23, 24, 25, 26, 27, 28, 29, 30, 31, 32, 33, 34, 35, 36, 37, 38, 39, 40, 41, 42, 43, 44, 45, 46, 47, 48, 49, 50, 51, 52, 53, 54, 55, 56, 57] (by decide +kernel) (by decide +kernel)
set_option maxRecDepth 20000 in
theorem gX4_end_X4_pointsOf : GoodIn wsX4_end (wsV RX4 108 RX4 yX4_pointsOf wsX4_pointsOf) := goodIn_app (goodIn_of _ (by decide +kernel)) ggX4_end_X4_pointsOf
theorem dX4_end_0 : decode cX4_end 0 = .ok (.aload_n 0, 1) := by decide +kernel
theorem dX4_end_1 : decode cX4_end 1 = .ok (.iload_n 1, 1) := by decide +kernel
theorem dX4_end_2 : decode cX4_end 2 = .ok (.invokevirtual 105, 3) := by decide +kernel
theorem dX4_end_5 : decode cX4_end 5 = .ok (.istore_n 2, 1) := by decide +kernel
theorem dX4_end_6 : decode cX4_end 6 = .ok (.aload_n 0, 1) := by decide +kernel
theorem dX4_end_7 : decode cX4_end 7 = .ok (.iload_n 2, 1) := by decide +kernel
theorem dX4_end_8 : decode cX4_end 8 = .ok (.ifCond .ne 7, 3) := by decide +kernel
theorem dX4_end_11 : decode cX4_end 11 = .ok (.iconst 1, 1) := by decide +kernel
theorem dX4_end_12 : decode cX4_end 12 = .ok (.goto 17, 3) := by decide +kernel
theorem dX4_end_15 : decode cX4_end 15 = .ok (.aload_n 0, 1) := by decide +kernel
theorem dX4_end_16 : decode cX4_end 16 = .ok (.getfield 20, 3) := by decide +kernel
theorem dX4_end_19 : decode cX4_end 19 = .ok (.iload_n 1, 1) := by decide +kernel
theorem dX4_end_20 : decode cX4_end 20 = .ok (.iaload, 1) := by decide +kernel
theorem dX4_end_21 : decode cX4_end 21 = .ok (.ifCond .eq 7, 3) := by decide +kernel
theorem dX4_end_24 : decode cX4_end 24 = .ok (.iconst 2, 1) := by decide +kernel
theorem dX4_end_25 : decode cX4_end 25 = .ok (.goto 4, 3) := by decide +kernel
theorem dX4_end_28 : decode cX4_end 28 = .ok (.iconst 0, 1) := by decide +kernel
theorem dX4_end_29 : decode cX4_end 29 = .ok (.invokevirtual 95, 3) := by decide +kernel
theorem dX4_end_32 : decode cX4_end 32 = .ok (.ifCond .eq 5, 3) := by decide +kernel
theorem dX4_end_35 : decode cX4_end 35 = .ok (.iconst 0, 1) := by decide +kernel
theorem dX4_end_36 : decode cX4_end 36 = .ok (.ireturn, 1) := by decide +kernel
theorem dX4_end_37 : decode cX4_end 37 = .ok (.aload_n 0, 1) := by decide +kernel
theorem dX4_end_38 : decode cX4_end 38 = .ok (.getfield 20, 3) := by decide +kernel
theorem dX4_end_41 : decode cX4_end 41 = .ok (.iload_n 1, 1) := by decide +kernel
theorem dX4_end_42 : decode cX4_end 42 = .ok (.iconst 1, 1) := by decide +kernel
theorem dX4_end_43 : decode cX4_end 43 = .ok (.iastore, 1) := by decide +kernel
theorem dX4_end_44 : decode cX4_end 44 = .ok (.aload_n 0, 1) := by decide +kernel
theorem dX4_end_45 : decode cX4_end 45 = .ok (.iload_n 1, 1) := by decide +kernel
theorem dX4_end_46 : decode cX4_end 46 = .ok (.aload_n 0, 1) := by decide +kernel
theorem dX4_end_47 : decode cX4_end 47 = .ok (.getfield 23, 3) := by decide +kernel
theorem dX4_end_50 : decode cX4_end 50 = .ok (.iload_n 1, 1) := by decide +kernel
theorem dX4_end_51 : decode cX4_end 51 = .ok (.iaload, 1) := by decide +kernel
theorem dX4_end_52 : decode cX4_end 52 = .ok (.sipush 3000, 3) := by decide +kernel
theorem dX4_end_55 : decode cX4_end 55 = .ok (.invokevirtual 108, 3) := by decide +kernel
theorem dX4_end_58 : decode cX4_end 58 = .ok (.aload_n 0, 1) := by decide +kernel
theorem dX4_end_59 : decode cX4_end 59 = .ok (.iload_n 1, 1) := by decide +kernel
theorem dX4_end_60 : decode cX4_end 60 = .ok (.aload_n 0, 1) := by decide +kernel
theorem dX4_end_61 : decode cX4_end 61 = .ok (.getfield 26, 3) := by decide +kernel
theorem dX4_end_64 : decode cX4_end 64 = .ok (.iload_n 1, 1) := by decide +kernel
theorem dX4_end_65 : decode cX4_end 65 = .ok (.iaload, 1) := by decide +kernel
theorem dX4_end_66 : decode cX4_end 66 = .ok (.sipush 3000, 3) := by decide +kernel
theorem dX4_end_69 : decode cX4_end 69 = .ok (.invokevirtual 108, 3) := by decide +kernel
theorem dX4_end_72 : decode cX4_end 72 = .ok (.isub, 1) := by decide +kernel
theorem dX4_end_73 : decode cX4_end 73 = .ok (.istore_n 3, 1) := by decide +kernel
theorem dX4_end_74 : decode cX4_end 74 = .ok (.aload_n 0, 1) := by decide +kernel
theorem dX4_end_75 : decode cX4_end 75 = .ok (.getfield 29, 3) := by decide +kernel
theorem dX4_end_78 : decode cX4_end 78 = .ok (.iload_n 1, 1) := by decide +kernel
theorem dX4_end_79 : decode cX4_end 79 = .ok (.iload_n 3, 1) := by decide +kernel
theorem dX4_end_80 : decode cX4_end 80 = .ok (.ifCond .le 12, 3) := by decide +kernel
theorem dX4_end_83 : decode cX4_end 83 = .ok (.aload_n 0, 1) := by decide +kernel
theorem dX4_end_84 : decode cX4_end 84 = .ok (.getfield 23, 3) := by decide +kernel
theorem dX4_end_87 : decode cX4_end 87 = .ok (.iload_n 1, 1) := by decide +kernel
theorem dX4_end_88 : decode cX4_end 88 = .ok (.iaload, 1) := by decide +kernel
theorem dX4_end_89 : decode cX4_end 89 = .ok (.goto 17, 3) := by decide +kernel
theorem dX4_end_92 : decode cX4_end 92 = .ok (.iload_n 3, 1) := by decide +kernel
theorem dX4_end_93 : decode cX4_end 93 = .ok (.ifCond .ge 12, 3) := by decide +kernel
theorem dX4_end_96 : decode cX4_end 96 = .ok (.aload_n 0, 1) := by decide +kernel
theorem dX4_end_97 : decode cX4_end 97 = .ok (.getfield 26, 3) := by decide +kernel
theorem dX4_end_100 : decode cX4_end 100 = .ok (.iload_n 1, 1) := by decide +kernel
theorem dX4_end_101 : decode cX4_end 101 = .ok (.iaload, 1) := by decide +kernel
theorem dX4_end_102 : decode cX4_end 102 = .ok (.goto 4, 3) := by decide +kernel
theorem dX4_end_105 : decode cX4_end 105 = .ok (.iconst (-1), 1) := by decide +kernel
theorem dX4_end_106 : decode cX4_end 106 = .ok (.iastore, 1) := by decide +kernel
theorem dX4_end_107 : decode cX4_end 107 = .ok (.aload_n 0, 1) := by decide +kernel
theorem dX4_end_108 : decode cX4_end 108 = .ok (.getfield 29, 3) := by decide +kernel
theorem dX4_end_111 : decode cX4_end 111 = .ok (.iload_n 1, 1) := by decide +kernel
theorem dX4_end_112 : decode cX4_end 112 = .ok (.iaload, 1) := by decide +kernel
theorem dX4_end_113 : decode cX4_end 113 = .ok (.ireturn, 1) := by decide +kernel
set_option maxRecDepth 20000 in
theorem ggX4_replay_X4_isFight : GoodIn wsX4_replay wsX4_isFight := goodIn_r _ [16, 4, 17, 18, 15, 19, 33, 34, 35, 36, 37, 38, 39, 40, 41, 42, 43, 44, 45, 46, 47, 48, 49, 50, 51, 52, 53, 54, 55, 56, 57, 58, 59, 60, 61] (by decide +kernel) (by decide +kernel)
set_option maxRecDepth 20000 in
theorem gX4_replay_X4_isFight : GoodIn wsX4_replay (wsV RX4 105 RX4 yX4_isFight wsX4_isFight) := goodIn_app (goodIn_of _ (by decide +kernel)) ggX4_replay_X4_isFight
set_option maxRecDepth 20000 in
theorem ggX4_replay_X4_isBusy : GoodIn wsX4_replay wsX4_isBusy := goodIn_r _ [23, 4, 1, 2, 3, 33, 34, 35, 36, 37, 38, 39, 40, 41, 42, 43, 44, 45, 46, 47, 48, 49, 50, 51, 52, 53, 54, 55, 56, 57, 58, 59, 60, 61] (by decide +kernel) (by decide +kernel)
set_option maxRecDepth 20000 in
theorem gX4_replay_X4_isBusy : GoodIn wsX4_replay (wsV RX4 98 RX4 yX4_isBusy wsX4_isBusy) := goodIn_app (goodIn_of _ (by decide +kernel)) ggX4_replay_X4_isBusy
set_option maxRecDepth 20000 in
theorem ggX4_replay_X4_refused : GoodIn wsX4_replay wsX4_refused := goodIn_r _ [27, 28, 33, 34, 35, 36, 37, 38, 39, 40, 41, 42, 43, 44, 45, 46, 47, 48, 49, 50, 51, 52, 53, 54, 55, 56, 57, 58, 59, 60, 61] (by decide +kernel) (by decide +kernel)
set_option maxRecDepth 20000 in
theorem gX4_replay_X4_refused : GoodIn wsX4_replay (wsV RX4 95 RX4 yX4_refused wsX4_refused) := goodIn_app (goodIn_of _ (by decide +kernel)) ggX4_replay_X4_refused
set_option maxRecDepth 20000 in
theorem ggX4_replay_X4_begin : GoodIn wsX4_replay wsX4_begin := goodIn_r _ [32, 2, 4, 3, 5, 33, 34, 35, 36, 37, 38, 39, 40, 41, 42, 43, 44, 45, 46, 47, 48, 49, 50, 51, 52, 53, 54, 55, 56, 57, 58, 59, 60, 61] (by decide +kernel) (by decide +kernel)
set_option maxRecDepth 20000 in
theorem gX4_replay_X4_begin : GoodIn wsX4_replay (wsV RX4 101 RX4 yX4_begin wsX4_begin) := goodIn_app (goodIn_of _ (by decide +kernel)) ggX4_replay_X4_begin
theorem dX4_replay_0 : decode cX4_replay 0 = .ok (.aload_n 0, 1) := by decide +kernel
theorem dX4_replay_1 : decode cX4_replay 1 = .ok (.iload_n 1, 1) := by decide +kernel
theorem dX4_replay_2 : decode cX4_replay 2 = .ok (.invokevirtual 105, 3) := by decide +kernel
theorem dX4_replay_5 : decode cX4_replay 5 = .ok (.istore_n 2, 1) := by decide +kernel
theorem dX4_replay_6 : decode cX4_replay 6 = .ok (.aload_n 0, 1) := by decide +kernel
theorem dX4_replay_7 : decode cX4_replay 7 = .ok (.iload_n 2, 1) := by decide +kernel
theorem dX4_replay_8 : decode cX4_replay 8 = .ok (.ifCond .ne 7, 3) := by decide +kernel
theorem dX4_replay_11 : decode cX4_replay 11 = .ok (.iconst 1, 1) := by decide +kernel
theorem dX4_replay_12 : decode cX4_replay 12 = .ok (.goto 53, 3) := by decide +kernel
theorem dX4_replay_15 : decode cX4_replay 15 = .ok (.aload_n 0, 1) := by decide +kernel
theorem dX4_replay_16 : decode cX4_replay 16 = .ok (.getfield 20, 3) := by decide +kernel
theorem dX4_replay_19 : decode cX4_replay 19 = .ok (.iload_n 1, 1) := by decide +kernel
theorem dX4_replay_20 : decode cX4_replay 20 = .ok (.iaload, 1) := by decide +kernel
theorem dX4_replay_21 : decode cX4_replay 21 = .ok (.iconst 1, 1) := by decide +kernel
theorem dX4_replay_22 : decode cX4_replay 22 = .ok (.if_icmp .ne 38, 3) := by decide +kernel
theorem dX4_replay_25 : decode cX4_replay 25 = .ok (.aload_n 0, 1) := by decide +kernel
theorem dX4_replay_26 : decode cX4_replay 26 = .ok (.aload_n 0, 1) := by decide +kernel
theorem dX4_replay_27 : decode cX4_replay 27 = .ok (.getfield 23, 3) := by decide +kernel
theorem dX4_replay_30 : decode cX4_replay 30 = .ok (.iload_n 1, 1) := by decide +kernel
theorem dX4_replay_31 : decode cX4_replay 31 = .ok (.iaload, 1) := by decide +kernel
theorem dX4_replay_32 : decode cX4_replay 32 = .ok (.invokevirtual 98, 3) := by decide +kernel
theorem dX4_replay_35 : decode cX4_replay 35 = .ok (.ifCond .ne 25, 3) := by decide +kernel
theorem dX4_replay_38 : decode cX4_replay 38 = .ok (.aload_n 0, 1) := by decide +kernel
theorem dX4_replay_39 : decode cX4_replay 39 = .ok (.aload_n 0, 1) := by decide +kernel
theorem dX4_replay_40 : decode cX4_replay 40 = .ok (.getfield 26, 3) := by decide +kernel
theorem dX4_replay_43 : decode cX4_replay 43 = .ok (.iload_n 1, 1) := by decide +kernel
theorem dX4_replay_44 : decode cX4_replay 44 = .ok (.iaload, 1) := by decide +kernel
theorem dX4_replay_45 : decode cX4_replay 45 = .ok (.invokevirtual 98, 3) := by decide +kernel
theorem dX4_replay_48 : decode cX4_replay 48 = .ok (.ifCond .ne 12, 3) := by decide +kernel
theorem dX4_replay_51 : decode cX4_replay 51 = .ok (.aload_n 0, 1) := by decide +kernel
theorem dX4_replay_52 : decode cX4_replay 52 = .ok (.getfield 88, 3) := by decide +kernel
theorem dX4_replay_55 : decode cX4_replay 55 = .ok (.bipush 20, 2) := by decide +kernel
theorem dX4_replay_57 : decode cX4_replay 57 = .ok (.if_icmp .ne 7, 3) := by decide +kernel
theorem dX4_replay_60 : decode cX4_replay 60 = .ok (.iconst 2, 1) := by decide +kernel
theorem dX4_replay_61 : decode cX4_replay 61 = .ok (.goto 4, 3) := by decide +kernel
theorem dX4_replay_64 : decode cX4_replay 64 = .ok (.iconst 0, 1) := by decide +kernel
theorem dX4_replay_65 : decode cX4_replay 65 = .ok (.invokevirtual 95, 3) := by decide +kernel
theorem dX4_replay_68 : decode cX4_replay 68 = .ok (.ifCond .eq 5, 3) := by decide +kernel
theorem dX4_replay_71 : decode cX4_replay 71 = .ok (.iconst 0, 1) := by decide +kernel
theorem dX4_replay_72 : decode cX4_replay 72 = .ok (.ireturn, 1) := by decide +kernel
theorem dX4_replay_73 : decode cX4_replay 73 = .ok (.aload_n 0, 1) := by decide +kernel
theorem dX4_replay_74 : decode cX4_replay 74 = .ok (.getfield 20, 3) := by decide +kernel
theorem dX4_replay_77 : decode cX4_replay 77 = .ok (.iload_n 1, 1) := by decide +kernel
theorem dX4_replay_78 : decode cX4_replay 78 = .ok (.iconst 2, 1) := by decide +kernel
theorem dX4_replay_79 : decode cX4_replay 79 = .ok (.iastore, 1) := by decide +kernel
theorem dX4_replay_80 : decode cX4_replay 80 = .ok (.aload_n 0, 1) := by decide +kernel
theorem dX4_replay_81 : decode cX4_replay 81 = .ok (.getfield 29, 3) := by decide +kernel
theorem dX4_replay_84 : decode cX4_replay 84 = .ok (.iload_n 1, 1) := by decide +kernel
theorem dX4_replay_85 : decode cX4_replay 85 = .ok (.iconst (-1), 1) := by decide +kernel
theorem dX4_replay_86 : decode cX4_replay 86 = .ok (.iastore, 1) := by decide +kernel
theorem dX4_replay_87 : decode cX4_replay 87 = .ok (.iconst 0, 1) := by decide +kernel
theorem dX4_replay_88 : decode cX4_replay 88 = .ok (.istore_n 3, 1) := by decide +kernel
theorem dX4_replay_89 : decode cX4_replay 89 = .ok (.iload_n 3, 1) := by decide +kernel
theorem dX4_replay_90 : decode cX4_replay 90 = .ok (.aload_n 0, 1) := by decide +kernel
theorem dX4_replay_91 : decode cX4_replay 91 = .ok (.getfield 112, 3) := by decide +kernel
theorem dX4_replay_94 : decode cX4_replay 94 = .ok (.if_icmp .ge 39, 3) := by decide +kernel
theorem dX4_replay_97 : decode cX4_replay 97 = .ok (.aload_n 0, 1) := by decide +kernel
theorem dX4_replay_98 : decode cX4_replay 98 = .ok (.getfield 71, 3) := by decide +kernel
theorem dX4_replay_101 : decode cX4_replay 101 = .ok (.iload_n 3, 1) := by decide +kernel
theorem dX4_replay_102 : decode cX4_replay 102 = .ok (.aload_n 0, 1) := by decide +kernel
theorem dX4_replay_103 : decode cX4_replay 103 = .ok (.getfield 71, 3) := by decide +kernel
theorem dX4_replay_106 : decode cX4_replay 106 = .ok (.iload_n 3, 1) := by decide +kernel
theorem dX4_replay_107 : decode cX4_replay 107 = .ok (.baload, 1) := by decide +kernel
theorem dX4_replay_108 : decode cX4_replay 108 = .ok (.ifCond .ne 13, 3) := by decide +kernel
theorem dX4_replay_111 : decode cX4_replay 111 = .ok (.aload_n 0, 1) := by decide +kernel
theorem dX4_replay_112 : decode cX4_replay 112 = .ok (.getfield 59, 3) := by decide +kernel
theorem dX4_replay_115 : decode cX4_replay 115 = .ok (.iload_n 3, 1) := by decide +kernel
theorem dX4_replay_116 : decode cX4_replay 116 = .ok (.iaload, 1) := by decide +kernel
theorem dX4_replay_117 : decode cX4_replay 117 = .ok (.iload_n 1, 1) := by decide +kernel
theorem dX4_replay_118 : decode cX4_replay 118 = .ok (.if_icmp .ne 7, 3) := by decide +kernel
theorem dX4_replay_121 : decode cX4_replay 121 = .ok (.iconst 1, 1) := by decide +kernel
theorem dX4_replay_122 : decode cX4_replay 122 = .ok (.goto 4, 3) := by decide +kernel
theorem dX4_replay_125 : decode cX4_replay 125 = .ok (.iconst 0, 1) := by decide +kernel
theorem dX4_replay_126 : decode cX4_replay 126 = .ok (.bastore, 1) := by decide +kernel
theorem dX4_replay_127 : decode cX4_replay 127 = .ok (.iinc 3 1, 3) := by decide +kernel
theorem dX4_replay_130 : decode cX4_replay 130 = .ok (.goto (-41), 3) := by decide +kernel
theorem dX4_replay_133 : decode cX4_replay 133 = .ok (.iconst 0, 1) := by decide +kernel
theorem dX4_replay_134 : decode cX4_replay 134 = .ok (.istore_n 3, 1) := by decide +kernel
theorem dX4_replay_135 : decode cX4_replay 135 = .ok (.iload_n 3, 1) := by decide +kernel
theorem dX4_replay_136 : decode cX4_replay 136 = .ok (.aload_n 0, 1) := by decide +kernel
theorem dX4_replay_137 : decode cX4_replay 137 = .ok (.getfield 115, 3) := by decide +kernel
theorem dX4_replay_140 : decode cX4_replay 140 = .ok (.if_icmp .ge 35, 3) := by decide +kernel
theorem dX4_replay_143 : decode cX4_replay 143 = .ok (.aload_n 0, 1) := by decide +kernel
theorem dX4_replay_144 : decode cX4_replay 144 = .ok (.getfield 56, 3) := by decide +kernel
theorem dX4_replay_147 : decode cX4_replay 147 = .ok (.iload_n 3, 1) := by decide +kernel
theorem dX4_replay_148 : decode cX4_replay 148 = .ok (.aload_n 0, 1) := by decide +kernel
theorem dX4_replay_149 : decode cX4_replay 149 = .ok (.getfield 50, 3) := by decide +kernel
theorem dX4_replay_152 : decode cX4_replay 152 = .ok (.iload_n 3, 1) := by decide +kernel
theorem dX4_replay_153 : decode cX4_replay 153 = .ok (.iaload, 1) := by decide +kernel
theorem dX4_replay_154 : decode cX4_replay 154 = .ok (.iload_n 1, 1) := by decide +kernel
theorem dX4_replay_155 : decode cX4_replay 155 = .ok (.if_icmp .ne 7, 3) := by decide +kernel
theorem dX4_replay_158 : decode cX4_replay 158 = .ok (.iconst (-1), 1) := by decide +kernel
theorem dX4_replay_159 : decode cX4_replay 159 = .ok (.goto 9, 3) := by decide +kernel
theorem dX4_replay_162 : decode cX4_replay 162 = .ok (.aload_n 0, 1) := by decide +kernel
theorem dX4_replay_163 : decode cX4_replay 163 = .ok (.getfield 56, 3) := by decide +kernel
theorem dX4_replay_166 : decode cX4_replay 166 = .ok (.iload_n 3, 1) := by decide +kernel
theorem dX4_replay_167 : decode cX4_replay 167 = .ok (.iaload, 1) := by decide +kernel
theorem dX4_replay_168 : decode cX4_replay 168 = .ok (.iastore, 1) := by decide +kernel
theorem dX4_replay_169 : decode cX4_replay 169 = .ok (.iinc 3 1, 3) := by decide +kernel
theorem dX4_replay_172 : decode cX4_replay 172 = .ok (.goto (-37), 3) := by decide +kernel
theorem dX4_replay_175 : decode cX4_replay 175 = .ok (.aload_n 0, 1) := by decide +kernel
theorem dX4_replay_176 : decode cX4_replay 176 = .ok (.aload_n 0, 1) := by decide +kernel
theorem dX4_replay_177 : decode cX4_replay 177 = .ok (.getfield 23, 3) := by decide +kernel
theorem dX4_replay_180 : decode cX4_replay 180 = .ok (.iload_n 1, 1) := by decide +kernel
theorem dX4_replay_181 : decode cX4_replay 181 = .ok (.iaload, 1) := by decide +kernel
theorem dX4_replay_182 : decode cX4_replay 182 = .ok (.aload_n 0, 1) := by decide +kernel
theorem dX4_replay_183 : decode cX4_replay 183 = .ok (.getfield 26, 3) := by decide +kernel
theorem dX4_replay_186 : decode cX4_replay 186 = .ok (.iload_n 1, 1) := by decide +kernel
theorem dX4_replay_187 : decode cX4_replay 187 = .ok (.iaload, 1) := by decide +kernel
theorem dX4_replay_188 : decode cX4_replay 188 = .ok (.invokevirtual 101, 3) := by decide +kernel
theorem dX4_replay_191 : decode cX4_replay 191 = .ok (.ireturn, 1) := by decide +kernel
set_option maxRecDepth 20000 in
theorem ggX4_camera_X4_in : GoodIn wsX4_camera wsX4_in := goodIn_r _ [7] (by decide +kernel) (by decide +kernel)
set_option maxRecDepth 20000 in
theorem gX4_camera_X4_in : GoodIn wsX4_camera (va_wsS RX4 84 yX4_in wsX4_in) := goodIn_app (goodIn_of _ (by decide +kernel)) ggX4_camera_X4_in
set_option maxRecDepth 20000 in
theorem ggX4_camera_X4_refused : GoodIn wsX4_camera wsX4_refused := goodIn_r _ [11, 12, 13, 14, 15, 16, 17, 18, 19, 20, 21, 22, 23, 24, 25, 26, 27, 28, 29, 30, 31, 32, 33, 34, 35, 36, 37, 38, 39, 40, 41] (by decide +kernel) (by decide +kernel)
set_option maxRecDepth 20000 in
theorem gX4_camera_X4_refused : GoodIn wsX4_camera (wsV RX4 95 RX4 yX4_refused wsX4_refused) := goodIn_app (goodIn_of _ (by decide +kernel)) ggX4_camera_X4_refused
theorem dX4_camera_0 : decode cX4_camera 0 = .ok (.aload_n 0, 1) := by decide +kernel
theorem dX4_camera_1 : decode cX4_camera 1 = .ok (.iload_n 1, 1) := by decide +kernel
theorem dX4_camera_2 : decode cX4_camera 2 = .ok (.iconst 1, 1) := by decide +kernel
theorem dX4_camera_3 : decode cX4_camera 3 = .ok (.bipush 60, 2) := by decide +kernel
theorem dX4_camera_5 : decode cX4_camera 5 = .ok (.invokestatic 84, 3) := by decide +kernel
theorem dX4_camera_8 : decode cX4_camera 8 = .ok (.ifCond .eq 13, 3) := by decide +kernel
theorem dX4_camera_11 : decode cX4_camera 11 = .ok (.iload_n 2, 1) := by decide +kernel
theorem dX4_camera_12 : decode cX4_camera 12 = .ok (.iconst 0, 1) := by decide +kernel
theorem dX4_camera_13 : decode cX4_camera 13 = .ok (.bipush 60, 2) := by decide +kernel
theorem dX4_camera_15 : decode cX4_camera 15 = .ok (.invokestatic 84, 3) := by decide +kernel
theorem dX4_camera_18 : decode cX4_camera 18 = .ok (.ifCond .ne 7, 3) := by decide +kernel
theorem dX4_camera_21 : decode cX4_camera 21 = .ok (.iconst 1, 1) := by decide +kernel
theorem dX4_camera_22 : decode cX4_camera 22 = .ok (.goto 17, 3) := by decide +kernel
theorem dX4_camera_25 : decode cX4_camera 25 = .ok (.aload_n 0, 1) := by decide +kernel
theorem dX4_camera_26 : decode cX4_camera 26 = .ok (.getfield 118, 3) := by decide +kernel
theorem dX4_camera_29 : decode cX4_camera 29 = .ok (.bipush 6, 2) := by decide +kernel
theorem dX4_camera_31 : decode cX4_camera 31 = .ok (.if_icmp .ne 7, 3) := by decide +kernel
theorem dX4_camera_34 : decode cX4_camera 34 = .ok (.iconst 2, 1) := by decide +kernel
theorem dX4_camera_35 : decode cX4_camera 35 = .ok (.goto 4, 3) := by decide +kernel
theorem dX4_camera_38 : decode cX4_camera 38 = .ok (.iconst 0, 1) := by decide +kernel
theorem dX4_camera_39 : decode cX4_camera 39 = .ok (.invokevirtual 95, 3) := by decide +kernel
theorem dX4_camera_42 : decode cX4_camera 42 = .ok (.ifCond .eq 5, 3) := by decide +kernel
theorem dX4_camera_45 : decode cX4_camera 45 = .ok (.iconst 0, 1) := by decide +kernel
theorem dX4_camera_46 : decode cX4_camera 46 = .ok (.ireturn, 1) := by decide +kernel
theorem dX4_camera_47 : decode cX4_camera 47 = .ok (.aload_n 0, 1) := by decide +kernel
theorem dX4_camera_48 : decode cX4_camera 48 = .ok (.getfield 32, 3) := by decide +kernel
theorem dX4_camera_51 : decode cX4_camera 51 = .ok (.aload_n 0, 1) := by decide +kernel
theorem dX4_camera_52 : decode cX4_camera 52 = .ok (.getfield 118, 3) := by decide +kernel
theorem dX4_camera_55 : decode cX4_camera 55 = .ok (.iload_n 1, 1) := by decide +kernel
theorem dX4_camera_56 : decode cX4_camera 56 = .ok (.iastore, 1) := by decide +kernel
theorem dX4_camera_57 : decode cX4_camera 57 = .ok (.aload_n 0, 1) := by decide +kernel
theorem dX4_camera_58 : decode cX4_camera 58 = .ok (.getfield 35, 3) := by decide +kernel
theorem dX4_camera_61 : decode cX4_camera 61 = .ok (.aload_n 0, 1) := by decide +kernel
theorem dX4_camera_62 : decode cX4_camera 62 = .ok (.getfield 118, 3) := by decide +kernel
theorem dX4_camera_65 : decode cX4_camera 65 = .ok (.iload_n 2, 1) := by decide +kernel
theorem dX4_camera_66 : decode cX4_camera 66 = .ok (.iastore, 1) := by decide +kernel
theorem dX4_camera_67 : decode cX4_camera 67 = .ok (.aload_n 0, 1) := by decide +kernel
theorem dX4_camera_68 : decode cX4_camera 68 = .ok (.dup, 1) := by decide +kernel
theorem dX4_camera_69 : decode cX4_camera 69 = .ok (.getfield 118, 3) := by decide +kernel
theorem dX4_camera_72 : decode cX4_camera 72 = .ok (.iconst 1, 1) := by decide +kernel
theorem dX4_camera_73 : decode cX4_camera 73 = .ok (.iadd, 1) := by decide +kernel
theorem dX4_camera_74 : decode cX4_camera 74 = .ok (.putfield 118, 3) := by decide +kernel
theorem dX4_camera_77 : decode cX4_camera 77 = .ok (.aload_n 0, 1) := by decide +kernel
theorem dX4_camera_78 : decode cX4_camera 78 = .ok (.getfield 118, 3) := by decide +kernel
theorem dX4_camera_81 : decode cX4_camera 81 = .ok (.iconst 1, 1) := by decide +kernel
theorem dX4_camera_82 : decode cX4_camera 82 = .ok (.isub, 1) := by decide +kernel
theorem dX4_camera_83 : decode cX4_camera 83 = .ok (.ireturn, 1) := by decide +kernel
theorem dX4_see_0 : decode cX4_see 0 = .ok (.aload_n 0, 1) := by decide +kernel
theorem dX4_see_1 : decode cX4_see 1 = .ok (.aload_n 0, 1) := by decide +kernel
theorem dX4_see_2 : decode cX4_see 2 = .ok (.getfield 115, 3) := by decide +kernel
theorem dX4_see_5 : decode cX4_see 5 = .ok (.iconst 1, 1) := by decide +kernel
theorem dX4_see_6 : decode cX4_see 6 = .ok (.isub, 1) := by decide +kernel
theorem dX4_see_7 : decode cX4_see 7 = .ok (.aload_n 0, 1) := by decide +kernel
theorem dX4_see_8 : decode cX4_see 8 = .ok (.getfield 7, 3) := by decide +kernel
theorem dX4_see_11 : decode cX4_see 11 = .ok (.isub, 1) := by decide +kernel
theorem dX4_see_12 : decode cX4_see 12 = .ok (.aload_n 0, 1) := by decide +kernel
theorem dX4_see_13 : decode cX4_see 13 = .ok (.getfield 13, 3) := by decide +kernel
theorem dX4_see_16 : decode cX4_see 16 = .ok (.if_icmp .le 17, 3) := by decide +kernel
theorem dX4_see_19 : decode cX4_see 19 = .ok (.aload_n 0, 1) := by decide +kernel
theorem dX4_see_20 : decode cX4_see 20 = .ok (.getfield 115, 3) := by decide +kernel
theorem dX4_see_23 : decode cX4_see 23 = .ok (.iconst 1, 1) := by decide +kernel
theorem dX4_see_24 : decode cX4_see 24 = .ok (.isub, 1) := by decide +kernel
theorem dX4_see_25 : decode cX4_see 25 = .ok (.aload_n 0, 1) := by decide +kernel
theorem dX4_see_26 : decode cX4_see 26 = .ok (.getfield 7, 3) := by decide +kernel
theorem dX4_see_29 : decode cX4_see 29 = .ok (.isub, 1) := by decide +kernel
theorem dX4_see_30 : decode cX4_see 30 = .ok (.goto 7, 3) := by decide +kernel
theorem dX4_see_33 : decode cX4_see 33 = .ok (.aload_n 0, 1) := by decide +kernel
theorem dX4_see_34 : decode cX4_see 34 = .ok (.getfield 13, 3) := by decide +kernel
theorem dX4_see_37 : decode cX4_see 37 = .ok (.putfield 13, 3) := by decide +kernel
theorem dX4_see_40 : decode cX4_see 40 = .ok (.return_, 1) := by decide +kernel
set_option maxRecDepth 20000 in
theorem ggX4_delay_X4_in : GoodIn wsX4_delay wsX4_in := goodIn_r _ [5] (by decide +kernel) (by decide +kernel)
set_option maxRecDepth 20000 in
theorem gX4_delay_X4_in : GoodIn wsX4_delay (va_wsS RX4 84 yX4_in wsX4_in) := goodIn_app (goodIn_of _ (by decide +kernel)) ggX4_delay_X4_in
set_option maxRecDepth 20000 in
theorem ggX4_delay_X4_refused : GoodIn wsX4_delay wsX4_refused := goodIn_r _ [9, 10, 17, 18, 19, 20, 21, 22, 23, 24, 25, 26, 27, 28, 29, 30, 31, 32, 33, 34, 35, 36, 37, 38, 39, 40, 41, 42, 43, 44, 45] (by decide +kernel) (by decide +kernel)
set_option maxRecDepth 20000 in
theorem gX4_delay_X4_refused : GoodIn wsX4_delay (wsV RX4 95 RX4 yX4_refused wsX4_refused) := goodIn_app (goodIn_of _ (by decide +kernel)) ggX4_delay_X4_refused
set_option maxRecDepth 20000 in
theorem ggX4_delay_X4_see : GoodIn wsX4_delay wsX4_see := goodIn_r _ [14, 15, 1, 16, 17, 18, 19, 20, 21, 22, 23, 24, 25, 26, 27, 28, 29, 30, 31, 32, 33, 34, 35, 36, 37, 38, 39, 40, 41, 42, 43, 44, 45] (by decide +kernel) (by decide +kernel)
set_option maxRecDepth 20000 in
theorem gX4_delay_X4_see : GoodIn wsX4_delay (wsV RX4 121 RX4 yX4_see wsX4_see) := goodIn_app (goodIn_of _ (by decide +kernel)) ggX4_delay_X4_see
theorem dX4_delay_0 : decode cX4_delay 0 = .ok (.aload_n 0, 1) := by decide +kernel
theorem dX4_delay_1 : decode cX4_delay 1 = .ok (.iload_n 1, 1) := by decide +kernel
theorem dX4_delay_2 : decode cX4_delay 2 = .ok (.iconst 0, 1) := by decide +kernel
theorem dX4_delay_3 : decode cX4_delay 3 = .ok (.bipush 100, 2) := by decide +kernel
theorem dX4_delay_5 : decode cX4_delay 5 = .ok (.invokestatic 84, 3) := by decide +kernel
theorem dX4_delay_8 : decode cX4_delay 8 = .ok (.ifCond .eq 7, 3) := by decide +kernel
theorem dX4_delay_11 : decode cX4_delay 11 = .ok (.iconst 0, 1) := by decide +kernel
theorem dX4_delay_12 : decode cX4_delay 12 = .ok (.goto 4, 3) := by decide +kernel
theorem dX4_delay_15 : decode cX4_delay 15 = .ok (.iconst 1, 1) := by decide +kernel
theorem dX4_delay_16 : decode cX4_delay 16 = .ok (.invokevirtual 95, 3) := by decide +kernel
theorem dX4_delay_19 : decode cX4_delay 19 = .ok (.ifCond .eq 5, 3) := by decide +kernel
theorem dX4_delay_22 : decode cX4_delay 22 = .ok (.iconst 0, 1) := by decide +kernel
theorem dX4_delay_23 : decode cX4_delay 23 = .ok (.ireturn, 1) := by decide +kernel
theorem dX4_delay_24 : decode cX4_delay 24 = .ok (.aload_n 0, 1) := by decide +kernel
theorem dX4_delay_25 : decode cX4_delay 25 = .ok (.getfield 7, 3) := by decide +kernel
theorem dX4_delay_28 : decode cX4_delay 28 = .ok (.istore_n 2, 1) := by decide +kernel
theorem dX4_delay_29 : decode cX4_delay 29 = .ok (.aload_n 0, 1) := by decide +kernel
theorem dX4_delay_30 : decode cX4_delay 30 = .ok (.iload_n 1, 1) := by decide +kernel
theorem dX4_delay_31 : decode cX4_delay 31 = .ok (.putfield 7, 3) := by decide +kernel
theorem dX4_delay_34 : decode cX4_delay 34 = .ok (.aload_n 0, 1) := by decide +kernel
theorem dX4_delay_35 : decode cX4_delay 35 = .ok (.invokevirtual 121, 3) := by decide +kernel
theorem dX4_delay_38 : decode cX4_delay 38 = .ok (.iload_n 2, 1) := by decide +kernel
theorem dX4_delay_39 : decode cX4_delay 39 = .ok (.ireturn, 1) := by decide +kernel
theorem dX4_heat_0 : decode cX4_heat 0 = .ok (.aload_n 0, 1) := by decide +kernel
theorem dX4_heat_1 : decode cX4_heat 1 = .ok (.getfield 16, 3) := by decide +kernel
theorem dX4_heat_4 : decode cX4_heat 4 = .ok (.aload_n 0, 1) := by decide +kernel
theorem dX4_heat_5 : decode cX4_heat 5 = .ok (.getfield 23, 3) := by decide +kernel
theorem dX4_heat_8 : decode cX4_heat 8 = .ok (.iload_n 1, 1) := by decide +kernel
theorem dX4_heat_9 : decode cX4_heat 9 = .ok (.iaload, 1) := by decide +kernel
theorem dX4_heat_10 : decode cX4_heat 10 = .ok (.iaload, 1) := by decide +kernel
theorem dX4_heat_11 : decode cX4_heat 11 = .ok (.aload_n 0, 1) := by decide +kernel
theorem dX4_heat_12 : decode cX4_heat 12 = .ok (.getfield 16, 3) := by decide +kernel
theorem dX4_heat_15 : decode cX4_heat 15 = .ok (.aload_n 0, 1) := by decide +kernel
theorem dX4_heat_16 : decode cX4_heat 16 = .ok (.getfield 26, 3) := by decide +kernel
theorem dX4_heat_19 : decode cX4_heat 19 = .ok (.iload_n 1, 1) := by decide +kernel
theorem dX4_heat_20 : decode cX4_heat 20 = .ok (.iaload, 1) := by decide +kernel
theorem dX4_heat_21 : decode cX4_heat 21 = .ok (.iaload, 1) := by decide +kernel
theorem dX4_heat_22 : decode cX4_heat 22 = .ok (.iadd, 1) := by decide +kernel
theorem dX4_heat_23 : decode cX4_heat 23 = .ok (.istore_n 2, 1) := by decide +kernel
theorem dX4_heat_24 : decode cX4_heat 24 = .ok (.aload_n 0, 1) := by decide +kernel
theorem dX4_heat_25 : decode cX4_heat 25 = .ok (.getfield 115, 3) := by decide +kernel
theorem dX4_heat_28 : decode cX4_heat 28 = .ok (.iconst 5, 1) := by decide +kernel
theorem dX4_heat_29 : decode cX4_heat 29 = .ok (.isub, 1) := by decide +kernel
theorem dX4_heat_30 : decode cX4_heat 30 = .ok (.istore_n 3, 1) := by decide +kernel
theorem dX4_heat_31 : decode cX4_heat 31 = .ok (.iload_n 3, 1) := by decide +kernel
theorem dX4_heat_32 : decode cX4_heat 32 = .ok (.aload_n 0, 1) := by decide +kernel
theorem dX4_heat_33 : decode cX4_heat 33 = .ok (.getfield 115, 3) := by decide +kernel
theorem dX4_heat_36 : decode cX4_heat 36 = .ok (.if_icmp .ge 78, 3) := by decide +kernel
theorem dX4_heat_39 : decode cX4_heat 39 = .ok (.iconst 0, 1) := by decide +kernel
theorem dX4_heat_40 : decode cX4_heat 40 = .ok (.istore 4, 2) := by decide +kernel
theorem dX4_heat_42 : decode cX4_heat 42 = .ok (.iconst 0, 1) := by decide +kernel
theorem dX4_heat_43 : decode cX4_heat 43 = .ok (.istore 5, 2) := by decide +kernel
theorem dX4_heat_45 : decode cX4_heat 45 = .ok (.iload 5, 2) := by decide +kernel
theorem dX4_heat_47 : decode cX4_heat 47 = .ok (.aload_n 0, 1) := by decide +kernel
theorem dX4_heat_48 : decode cX4_heat 48 = .ok (.getfield 112, 3) := by decide +kernel
theorem dX4_heat_51 : decode cX4_heat 51 = .ok (.if_icmp .ge 43, 3) := by decide +kernel
theorem dX4_heat_54 : decode cX4_heat 54 = .ok (.iload 4, 2) := by decide +kernel
theorem dX4_heat_56 : decode cX4_heat 56 = .ok (.ifCond .ne 25, 3) := by decide +kernel
theorem dX4_heat_59 : decode cX4_heat 59 = .ok (.aload_n 0, 1) := by decide +kernel
theorem dX4_heat_60 : decode cX4_heat 60 = .ok (.getfield 59, 3) := by decide +kernel
theorem dX4_heat_63 : decode cX4_heat 63 = .ok (.iload 5, 2) := by decide +kernel
theorem dX4_heat_65 : decode cX4_heat 65 = .ok (.iaload, 1) := by decide +kernel
theorem dX4_heat_66 : decode cX4_heat 66 = .ok (.iload_n 1, 1) := by decide +kernel
theorem dX4_heat_67 : decode cX4_heat 67 = .ok (.if_icmp .ne 18, 3) := by decide +kernel
theorem dX4_heat_70 : decode cX4_heat 70 = .ok (.aload_n 0, 1) := by decide +kernel
theorem dX4_heat_71 : decode cX4_heat 71 = .ok (.getfield 68, 3) := by decide +kernel
theorem dX4_heat_74 : decode cX4_heat 74 = .ok (.iload 5, 2) := by decide +kernel
theorem dX4_heat_76 : decode cX4_heat 76 = .ok (.iaload, 1) := by decide +kernel
theorem dX4_heat_77 : decode cX4_heat 77 = .ok (.iload_n 3, 1) := by decide +kernel
theorem dX4_heat_78 : decode cX4_heat 78 = .ok (.if_icmp .ne 7, 3) := by decide +kernel
theorem dX4_heat_81 : decode cX4_heat 81 = .ok (.iconst 1, 1) := by decide +kernel
theorem dX4_heat_82 : decode cX4_heat 82 = .ok (.goto 4, 3) := by decide +kernel
theorem dX4_heat_85 : decode cX4_heat 85 = .ok (.iconst 0, 1) := by decide +kernel
theorem dX4_heat_86 : decode cX4_heat 86 = .ok (.istore 4, 2) := by decide +kernel
theorem dX4_heat_88 : decode cX4_heat 88 = .ok (.iinc 5 1, 3) := by decide +kernel
theorem dX4_heat_91 : decode cX4_heat 91 = .ok (.goto (-46), 3) := by decide +kernel
theorem dX4_heat_94 : decode cX4_heat 94 = .ok (.iload_n 2, 1) := by decide +kernel
theorem dX4_heat_95 : decode cX4_heat 95 = .ok (.iload 4, 2) := by decide +kernel
theorem dX4_heat_97 : decode cX4_heat 97 = .ok (.ifCond .eq 8, 3) := by decide +kernel
theorem dX4_heat_100 : decode cX4_heat 100 = .ok (.bipush 10, 2) := by decide +kernel
theorem dX4_heat_102 : decode cX4_heat 102 = .ok (.goto 4, 3) := by decide +kernel
theorem dX4_heat_105 : decode cX4_heat 105 = .ok (.iconst 0, 1) := by decide +kernel
theorem dX4_heat_106 : decode cX4_heat 106 = .ok (.iadd, 1) := by decide +kernel
theorem dX4_heat_107 : decode cX4_heat 107 = .ok (.istore_n 2, 1) := by decide +kernel
theorem dX4_heat_108 : decode cX4_heat 108 = .ok (.iinc 3 1, 3) := by decide +kernel
theorem dX4_heat_111 : decode cX4_heat 111 = .ok (.goto (-80), 3) := by decide +kernel
theorem dX4_heat_114 : decode cX4_heat 114 = .ok (.iload_n 2, 1) := by decide +kernel
theorem dX4_heat_115 : decode cX4_heat 115 = .ok (.ireturn, 1) := by decide +kernel
set_option maxRecDepth 20000 in
theorem ggX4_hottest_X4_heat : GoodIn wsX4_hottest wsX4_heat := goodIn_r _ [8, 9, 10, 11, 12, 13, 14, 15, 16, 17, 18, 19, 20, 21, 22, 23, 24, 25, 26, 27, 28, 29, 30, 31, 32, 33, 34, 35, 36, 37, 38, 39, 40, 41, 42, 43, 44] (by decide +kernel) (by decide +kernel)
set_option maxRecDepth 20000 in
theorem gX4_hottest_X4_heat : GoodIn wsX4_hottest (wsV RX4 124 RX4 yX4_heat wsX4_heat) := goodIn_app (goodIn_of _ (by decide +kernel)) ggX4_hottest_X4_heat
theorem dX4_hottest_0 : decode cX4_hottest 0 = .ok (.iconst (-1), 1) := by decide +kernel
theorem dX4_hottest_1 : decode cX4_hottest 1 = .ok (.istore_n 1, 1) := by decide +kernel
theorem dX4_hottest_2 : decode cX4_hottest 2 = .ok (.iconst 0, 1) := by decide +kernel
theorem dX4_hottest_3 : decode cX4_hottest 3 = .ok (.istore_n 2, 1) := by decide +kernel
theorem dX4_hottest_4 : decode cX4_hottest 4 = .ok (.iload_n 2, 1) := by decide +kernel
theorem dX4_hottest_5 : decode cX4_hottest 5 = .ok (.aload_n 0, 1) := by decide +kernel
theorem dX4_hottest_6 : decode cX4_hottest 6 = .ok (.getfield 88, 3) := by decide +kernel
theorem dX4_hottest_9 : decode cX4_hottest 9 = .ok (.if_icmp .ge 73, 3) := by decide +kernel
theorem dX4_hottest_12 : decode cX4_hottest 12 = .ok (.aload_n 0, 1) := by decide +kernel
theorem dX4_hottest_13 : decode cX4_hottest 13 = .ok (.getfield 20, 3) := by decide +kernel
theorem dX4_hottest_16 : decode cX4_hottest 16 = .ok (.iload_n 2, 1) := by decide +kernel
theorem dX4_hottest_17 : decode cX4_hottest 17 = .ok (.iaload, 1) := by decide +kernel
theorem dX4_hottest_18 : decode cX4_hottest 18 = .ok (.ifCond .ne 58, 3) := by decide +kernel
theorem dX4_hottest_21 : decode cX4_hottest 21 = .ok (.iload_n 1, 1) := by decide +kernel
theorem dX4_hottest_22 : decode cX4_hottest 22 = .ok (.iconst (-1), 1) := by decide +kernel
theorem dX4_hottest_23 : decode cX4_hottest 23 = .ok (.if_icmp .eq 37, 3) := by decide +kernel
theorem dX4_hottest_26 : decode cX4_hottest 26 = .ok (.aload_n 0, 1) := by decide +kernel
theorem dX4_hottest_27 : decode cX4_hottest 27 = .ok (.iload_n 2, 1) := by decide +kernel
theorem dX4_hottest_28 : decode cX4_hottest 28 = .ok (.invokevirtual 124, 3) := by decide +kernel
theorem dX4_hottest_31 : decode cX4_hottest 31 = .ok (.aload_n 0, 1) := by decide +kernel
theorem dX4_hottest_32 : decode cX4_hottest 32 = .ok (.iload_n 1, 1) := by decide +kernel
theorem dX4_hottest_33 : decode cX4_hottest 33 = .ok (.invokevirtual 124, 3) := by decide +kernel
theorem dX4_hottest_36 : decode cX4_hottest 36 = .ok (.if_icmp .gt 24, 3) := by decide +kernel
theorem dX4_hottest_39 : decode cX4_hottest 39 = .ok (.aload_n 0, 1) := by decide +kernel
theorem dX4_hottest_40 : decode cX4_hottest 40 = .ok (.iload_n 2, 1) := by decide +kernel
theorem dX4_hottest_41 : decode cX4_hottest 41 = .ok (.invokevirtual 124, 3) := by decide +kernel
theorem dX4_hottest_44 : decode cX4_hottest 44 = .ok (.aload_n 0, 1) := by decide +kernel
theorem dX4_hottest_45 : decode cX4_hottest 45 = .ok (.iload_n 1, 1) := by decide +kernel
theorem dX4_hottest_46 : decode cX4_hottest 46 = .ok (.invokevirtual 124, 3) := by decide +kernel
theorem dX4_hottest_49 : decode cX4_hottest 49 = .ok (.if_icmp .ne 15, 3) := by decide +kernel
theorem dX4_hottest_52 : decode cX4_hottest 52 = .ok (.iload_n 2, 1) := by decide +kernel
theorem dX4_hottest_53 : decode cX4_hottest 53 = .ok (.aload_n 0, 1) := by decide +kernel
theorem dX4_hottest_54 : decode cX4_hottest 54 = .ok (.getfield 47, 3) := by decide +kernel
theorem dX4_hottest_57 : decode cX4_hottest 57 = .ok (.if_icmp .ne 7, 3) := by decide +kernel
theorem dX4_hottest_60 : decode cX4_hottest 60 = .ok (.iconst 1, 1) := by decide +kernel
theorem dX4_hottest_61 : decode cX4_hottest 61 = .ok (.goto 4, 3) := by decide +kernel
theorem dX4_hottest_64 : decode cX4_hottest 64 = .ok (.iconst 0, 1) := by decide +kernel
theorem dX4_hottest_65 : decode cX4_hottest 65 = .ok (.istore_n 3, 1) := by decide +kernel
theorem dX4_hottest_66 : decode cX4_hottest 66 = .ok (.iload_n 3, 1) := by decide +kernel
theorem dX4_hottest_67 : decode cX4_hottest 67 = .ok (.ifCond .eq 7, 3) := by decide +kernel
theorem dX4_hottest_70 : decode cX4_hottest 70 = .ok (.iload_n 2, 1) := by decide +kernel
theorem dX4_hottest_71 : decode cX4_hottest 71 = .ok (.goto 4, 3) := by decide +kernel
theorem dX4_hottest_74 : decode cX4_hottest 74 = .ok (.iload_n 1, 1) := by decide +kernel
theorem dX4_hottest_75 : decode cX4_hottest 75 = .ok (.istore_n 1, 1) := by decide +kernel
theorem dX4_hottest_76 : decode cX4_hottest 76 = .ok (.iinc 2 1, 3) := by decide +kernel
theorem dX4_hottest_79 : decode cX4_hottest 79 = .ok (.goto (-75), 3) := by decide +kernel
theorem dX4_hottest_82 : decode cX4_hottest 82 = .ok (.iload_n 1, 1) := by decide +kernel
theorem dX4_hottest_83 : decode cX4_hottest 83 = .ok (.ireturn, 1) := by decide +kernel
theorem dX4_chosen_0 : decode cX4_chosen 0 = .ok (.aload_n 0, 1) := by decide +kernel
theorem dX4_chosen_1 : decode cX4_chosen 1 = .ok (.getfield 44, 3) := by decide +kernel
theorem dX4_chosen_4 : decode cX4_chosen 4 = .ok (.iconst (-1), 1) := by decide +kernel
theorem dX4_chosen_5 : decode cX4_chosen 5 = .ok (.if_icmp .eq 20, 3) := by decide +kernel
theorem dX4_chosen_8 : decode cX4_chosen 8 = .ok (.aload_n 0, 1) := by decide +kernel
theorem dX4_chosen_9 : decode cX4_chosen 9 = .ok (.getfield 41, 3) := by decide +kernel
theorem dX4_chosen_12 : decode cX4_chosen 12 = .ok (.aload_n 0, 1) := by decide +kernel
theorem dX4_chosen_13 : decode cX4_chosen 13 = .ok (.getfield 44, 3) := by decide +kernel
theorem dX4_chosen_16 : decode cX4_chosen 16 = .ok (.iaload, 1) := by decide +kernel
theorem dX4_chosen_17 : decode cX4_chosen 17 = .ok (.ifCond .ne 8, 3) := by decide +kernel
theorem dX4_chosen_20 : decode cX4_chosen 20 = .ok (.aload_n 0, 1) := by decide +kernel
theorem dX4_chosen_21 : decode cX4_chosen 21 = .ok (.getfield 44, 3) := by decide +kernel
theorem dX4_chosen_24 : decode cX4_chosen 24 = .ok (.ireturn, 1) := by decide +kernel
theorem dX4_chosen_25 : decode cX4_chosen 25 = .ok (.iconst (-1), 1) := by decide +kernel
theorem dX4_chosen_26 : decode cX4_chosen 26 = .ok (.istore_n 1, 1) := by decide +kernel
theorem dX4_chosen_27 : decode cX4_chosen 27 = .ok (.aload_n 0, 1) := by decide +kernel
theorem dX4_chosen_28 : decode cX4_chosen 28 = .ok (.getfield 118, 3) := by decide +kernel
theorem dX4_chosen_31 : decode cX4_chosen 31 = .ok (.iconst 1, 1) := by decide +kernel
theorem dX4_chosen_32 : decode cX4_chosen 32 = .ok (.isub, 1) := by decide +kernel
theorem dX4_chosen_33 : decode cX4_chosen 33 = .ok (.istore_n 2, 1) := by decide +kernel
theorem dX4_chosen_34 : decode cX4_chosen 34 = .ok (.iload_n 2, 1) := by decide +kernel
theorem dX4_chosen_35 : decode cX4_chosen 35 = .ok (.ifCond .lt 24, 3) := by decide +kernel
theorem dX4_chosen_38 : decode cX4_chosen 38 = .ok (.aload_n 0, 1) := by decide +kernel
theorem dX4_chosen_39 : decode cX4_chosen 39 = .ok (.getfield 41, 3) := by decide +kernel
theorem dX4_chosen_42 : decode cX4_chosen 42 = .ok (.iload_n 2, 1) := by decide +kernel
theorem dX4_chosen_43 : decode cX4_chosen 43 = .ok (.iaload, 1) := by decide +kernel
theorem dX4_chosen_44 : decode cX4_chosen 44 = .ok (.ifCond .ne 7, 3) := by decide +kernel
theorem dX4_chosen_47 : decode cX4_chosen 47 = .ok (.iload_n 2, 1) := by decide +kernel
theorem dX4_chosen_48 : decode cX4_chosen 48 = .ok (.goto 4, 3) := by decide +kernel
theorem dX4_chosen_51 : decode cX4_chosen 51 = .ok (.iload_n 1, 1) := by decide +kernel
theorem dX4_chosen_52 : decode cX4_chosen 52 = .ok (.istore_n 1, 1) := by decide +kernel
theorem dX4_chosen_53 : decode cX4_chosen 53 = .ok (.iinc 2 (-1), 3) := by decide +kernel
theorem dX4_chosen_56 : decode cX4_chosen 56 = .ok (.goto (-22), 3) := by decide +kernel
theorem dX4_chosen_59 : decode cX4_chosen 59 = .ok (.iload_n 1, 1) := by decide +kernel
theorem dX4_chosen_60 : decode cX4_chosen 60 = .ok (.ireturn, 1) := by decide +kernel
set_option maxRecDepth 20000 in
theorem ggX4_sponsorFor_X4_owedTo : GoodIn wsX4_sponsorFor wsX4_owedTo := goodIn_r _ [8, 9, 10, 11, 12, 7, 13, 14, 15, 16, 17, 18, 19, 20, 21, 22, 23, 24, 25, 26, 27, 28, 29, 30, 31, 32, 33, 34, 35, 36, 37, 38, 39, 40, 41, 42, 43, 44] (by decide +kernel) (by decide +kernel)
set_option maxRecDepth 20000 in
theorem gX4_sponsorFor_X4_owedTo : GoodIn wsX4_sponsorFor (wsV RX4 128 RX4 yX4_owedTo wsX4_owedTo) := goodIn_app (goodIn_of _ (by decide +kernel)) ggX4_sponsorFor_X4_owedTo
theorem dX4_sponsorFor_0 : decode cX4_sponsorFor 0 = .ok (.iconst (-1), 1) := by decide +kernel
theorem dX4_sponsorFor_1 : decode cX4_sponsorFor 1 = .ok (.istore_n 2, 1) := by decide +kernel
theorem dX4_sponsorFor_2 : decode cX4_sponsorFor 2 = .ok (.iconst 0, 1) := by decide +kernel
theorem dX4_sponsorFor_3 : decode cX4_sponsorFor 3 = .ok (.istore_n 3, 1) := by decide +kernel
theorem dX4_sponsorFor_4 : decode cX4_sponsorFor 4 = .ok (.iload_n 3, 1) := by decide +kernel
theorem dX4_sponsorFor_5 : decode cX4_sponsorFor 5 = .ok (.bipush 6, 2) := by decide +kernel
theorem dX4_sponsorFor_7 : decode cX4_sponsorFor 7 = .ok (.if_icmp .ge 87, 3) := by decide +kernel
theorem dX4_sponsorFor_10 : decode cX4_sponsorFor 10 = .ok (.aload_n 0, 1) := by decide +kernel
theorem dX4_sponsorFor_11 : decode cX4_sponsorFor 11 = .ok (.getfield 78, 3) := by decide +kernel
theorem dX4_sponsorFor_14 : decode cX4_sponsorFor 14 = .ok (.bipush 10, 2) := by decide +kernel
theorem dX4_sponsorFor_16 : decode cX4_sponsorFor 16 = .ok (.iload_n 3, 1) := by decide +kernel
theorem dX4_sponsorFor_17 : decode cX4_sponsorFor 17 = .ok (.imul, 1) := by decide +kernel
theorem dX4_sponsorFor_18 : decode cX4_sponsorFor 18 = .ok (.aload_n 0, 1) := by decide +kernel
theorem dX4_sponsorFor_19 : decode cX4_sponsorFor 19 = .ok (.getfield 23, 3) := by decide +kernel
theorem dX4_sponsorFor_22 : decode cX4_sponsorFor 22 = .ok (.iload_n 1, 1) := by decide +kernel
theorem dX4_sponsorFor_23 : decode cX4_sponsorFor 23 = .ok (.iaload, 1) := by decide +kernel
theorem dX4_sponsorFor_24 : decode cX4_sponsorFor 24 = .ok (.iadd, 1) := by decide +kernel
theorem dX4_sponsorFor_25 : decode cX4_sponsorFor 25 = .ok (.baload, 1) := by decide +kernel
theorem dX4_sponsorFor_26 : decode cX4_sponsorFor 26 = .ok (.ifCond .ne 22, 3) := by decide +kernel
theorem dX4_sponsorFor_29 : decode cX4_sponsorFor 29 = .ok (.aload_n 0, 1) := by decide +kernel
theorem dX4_sponsorFor_30 : decode cX4_sponsorFor 30 = .ok (.getfield 78, 3) := by decide +kernel
theorem dX4_sponsorFor_33 : decode cX4_sponsorFor 33 = .ok (.bipush 10, 2) := by decide +kernel
theorem dX4_sponsorFor_35 : decode cX4_sponsorFor 35 = .ok (.iload_n 3, 1) := by decide +kernel
theorem dX4_sponsorFor_36 : decode cX4_sponsorFor 36 = .ok (.imul, 1) := by decide +kernel
theorem dX4_sponsorFor_37 : decode cX4_sponsorFor 37 = .ok (.aload_n 0, 1) := by decide +kernel
theorem dX4_sponsorFor_38 : decode cX4_sponsorFor 38 = .ok (.getfield 26, 3) := by decide +kernel
theorem dX4_sponsorFor_41 : decode cX4_sponsorFor 41 = .ok (.iload_n 1, 1) := by decide +kernel
theorem dX4_sponsorFor_42 : decode cX4_sponsorFor 42 = .ok (.iaload, 1) := by decide +kernel
theorem dX4_sponsorFor_43 : decode cX4_sponsorFor 43 = .ok (.iadd, 1) := by decide +kernel
theorem dX4_sponsorFor_44 : decode cX4_sponsorFor 44 = .ok (.baload, 1) := by decide +kernel
theorem dX4_sponsorFor_45 : decode cX4_sponsorFor 45 = .ok (.ifCond .eq 7, 3) := by decide +kernel
theorem dX4_sponsorFor_48 : decode cX4_sponsorFor 48 = .ok (.iconst 1, 1) := by decide +kernel
theorem dX4_sponsorFor_49 : decode cX4_sponsorFor 49 = .ok (.goto 4, 3) := by decide +kernel
theorem dX4_sponsorFor_52 : decode cX4_sponsorFor 52 = .ok (.iconst 0, 1) := by decide +kernel
theorem dX4_sponsorFor_53 : decode cX4_sponsorFor 53 = .ok (.istore 4, 2) := by decide +kernel
theorem dX4_sponsorFor_55 : decode cX4_sponsorFor 55 = .ok (.iload 4, 2) := by decide +kernel
theorem dX4_sponsorFor_57 : decode cX4_sponsorFor 57 = .ok (.ifCond .eq 29, 3) := by decide +kernel
theorem dX4_sponsorFor_60 : decode cX4_sponsorFor 60 = .ok (.aload_n 0, 1) := by decide +kernel
theorem dX4_sponsorFor_61 : decode cX4_sponsorFor 61 = .ok (.iload_n 3, 1) := by decide +kernel
theorem dX4_sponsorFor_62 : decode cX4_sponsorFor 62 = .ok (.invokevirtual 128, 3) := by decide +kernel
theorem dX4_sponsorFor_65 : decode cX4_sponsorFor 65 = .ok (.iload_n 2, 1) := by decide +kernel
theorem dX4_sponsorFor_66 : decode cX4_sponsorFor 66 = .ok (.iconst (-1), 1) := by decide +kernel
theorem dX4_sponsorFor_67 : decode cX4_sponsorFor 67 = .ok (.if_icmp .ne 7, 3) := by decide +kernel
theorem dX4_sponsorFor_70 : decode cX4_sponsorFor 70 = .ok (.iconst 0, 1) := by decide +kernel
theorem dX4_sponsorFor_71 : decode cX4_sponsorFor 71 = .ok (.goto 8, 3) := by decide +kernel
theorem dX4_sponsorFor_74 : decode cX4_sponsorFor 74 = .ok (.aload_n 0, 1) := by decide +kernel
theorem dX4_sponsorFor_75 : decode cX4_sponsorFor 75 = .ok (.iload_n 2, 1) := by decide +kernel
theorem dX4_sponsorFor_76 : decode cX4_sponsorFor 76 = .ok (.invokevirtual 128, 3) := by decide +kernel
theorem dX4_sponsorFor_79 : decode cX4_sponsorFor 79 = .ok (.if_icmp .le 7, 3) := by decide +kernel
theorem dX4_sponsorFor_82 : decode cX4_sponsorFor 82 = .ok (.iload_n 3, 1) := by decide +kernel
theorem dX4_sponsorFor_83 : decode cX4_sponsorFor 83 = .ok (.goto 4, 3) := by decide +kernel
theorem dX4_sponsorFor_86 : decode cX4_sponsorFor 86 = .ok (.iload_n 2, 1) := by decide +kernel
theorem dX4_sponsorFor_87 : decode cX4_sponsorFor 87 = .ok (.istore_n 2, 1) := by decide +kernel
theorem dX4_sponsorFor_88 : decode cX4_sponsorFor 88 = .ok (.iinc 3 1, 3) := by decide +kernel
theorem dX4_sponsorFor_91 : decode cX4_sponsorFor 91 = .ok (.goto (-87), 3) := by decide +kernel
theorem dX4_sponsorFor_94 : decode cX4_sponsorFor 94 = .ok (.iload_n 2, 1) := by decide +kernel
theorem dX4_sponsorFor_95 : decode cX4_sponsorFor 95 = .ok (.ireturn, 1) := by decide +kernel
set_option maxRecDepth 20000 in
theorem ggX4_passes_X4_hottest : GoodIn wsX4_passes wsX4_hottest := goodIn_r _ [16, 17, 18, 10, 19, 20, 21, 15, 22, 23, 24, 25, 2, 26, 27, 28, 53, 54, 55, 56, 57, 58, 59, 60, 61, 62, 63, 64, 65, 66, 67, 68, 69, 70, 71, 72, 73, 74, 75, 76, 77, 78, 79, 80, 81] (by decide +kernel) (by decide +kernel)
set_option maxRecDepth 20000 in
theorem gX4_passes_X4_hottest : GoodIn wsX4_passes (wsV RX4 131 RX4 yX4_hottest wsX4_hottest) := goodIn_app (goodIn_of _ (by decide +kernel)) ggX4_passes_X4_hottest
set_option maxRecDepth 20000 in
theorem ggX4_passes_X4_chosen : GoodIn wsX4_passes wsX4_chosen := goodIn_r _ [32, 11, 6, 5, 53, 54, 55, 56, 57, 58, 59, 60, 61, 62, 63, 64, 65, 66, 67, 68, 69, 70, 71, 72, 73, 74, 75, 76, 77, 78, 79, 80, 81] (by decide +kernel) (by decide +kernel)
set_option maxRecDepth 20000 in
theorem gX4_passes_X4_chosen : GoodIn wsX4_passes (wsV RX4 135 RX4 yX4_chosen wsX4_chosen) := goodIn_app (goodIn_of _ (by decide +kernel)) ggX4_passes_X4_chosen
set_option maxRecDepth 20000 in
theorem ggX4_passes_X4_sponsorFor : GoodIn wsX4_passes wsX4_sponsorFor := goodIn_r _ [36, 37, 24, 25, 38, 39, 40, 15, 41, 42, 43, 44, 45, 46, 2, 4, 53, 54, 55, 56, 57, 58, 59, 60, 61, 62, 63, 64, 65, 66, 67, 68, 69, 70, 71, 72, 73, 74, 75, 76, 77, 78, 79, 80, 81] (by decide +kernel) (by decide +kernel)
set_option maxRecDepth 20000 in
theorem gX4_passes_X4_sponsorFor : GoodIn wsX4_passes (wsV RX4 138 RX4 yX4_sponsorFor wsX4_sponsorFor) := goodIn_app (goodIn_of _ (by decide +kernel)) ggX4_passes_X4_sponsorFor
set_option maxRecDepth 20000 in
theorem ggX4_passes_X4_see : GoodIn wsX4_passes wsX4_see := goodIn_r _ [50, 2, 51, 52, 53, 54, 55, 56, 57, 58, 59, 60, 61, 62, 63, 64, 65, 66, 67, 68, 69, 70, 71, 72, 73, 74, 75, 76, 77, 78, 79, 80, 81] (by decide +kernel) (by decide +kernel)
set_option maxRecDepth 20000 in
theorem gX4_passes_X4_see : GoodIn wsX4_passes (wsV RX4 121 RX4 yX4_see wsX4_see) := goodIn_app (goodIn_of _ (by decide +kernel)) ggX4_passes_X4_see
theorem dX4_passes_0 : decode cX4_passes 0 = .ok (.aload_n 0, 1) := by decide +kernel
theorem dX4_passes_1 : decode cX4_passes 1 = .ok (.invokevirtual 131, 3) := by decide +kernel
theorem dX4_passes_4 : decode cX4_passes 4 = .ok (.istore_n 1, 1) := by decide +kernel
theorem dX4_passes_5 : decode cX4_passes 5 = .ok (.iload_n 1, 1) := by decide +kernel
theorem dX4_passes_6 : decode cX4_passes 6 = .ok (.iconst (-1), 1) := by decide +kernel
theorem dX4_passes_7 : decode cX4_passes 7 = .ok (.if_icmp .ne 7, 3) := by decide +kernel
theorem dX4_passes_10 : decode cX4_passes 10 = .ok (.iconst (-1), 1) := by decide +kernel
theorem dX4_passes_11 : decode cX4_passes 11 = .ok (.goto 7, 3) := by decide +kernel
theorem dX4_passes_14 : decode cX4_passes 14 = .ok (.aload_n 0, 1) := by decide +kernel
theorem dX4_passes_15 : decode cX4_passes 15 = .ok (.invokevirtual 135, 3) := by decide +kernel
theorem dX4_passes_18 : decode cX4_passes 18 = .ok (.istore_n 2, 1) := by decide +kernel
theorem dX4_passes_19 : decode cX4_passes 19 = .ok (.iload_n 2, 1) := by decide +kernel
theorem dX4_passes_20 : decode cX4_passes 20 = .ok (.iconst (-1), 1) := by decide +kernel
theorem dX4_passes_21 : decode cX4_passes 21 = .ok (.if_icmp .ne 7, 3) := by decide +kernel
theorem dX4_passes_24 : decode cX4_passes 24 = .ok (.iconst (-1), 1) := by decide +kernel
theorem dX4_passes_25 : decode cX4_passes 25 = .ok (.goto 4, 3) := by decide +kernel
theorem dX4_passes_28 : decode cX4_passes 28 = .ok (.iload_n 1, 1) := by decide +kernel
theorem dX4_passes_29 : decode cX4_passes 29 = .ok (.istore_n 1, 1) := by decide +kernel
theorem dX4_passes_30 : decode cX4_passes 30 = .ok (.aload_n 0, 1) := by decide +kernel
theorem dX4_passes_31 : decode cX4_passes 31 = .ok (.getfield 50, 3) := by decide +kernel
theorem dX4_passes_34 : decode cX4_passes 34 = .ok (.aload_n 0, 1) := by decide +kernel
theorem dX4_passes_35 : decode cX4_passes 35 = .ok (.getfield 115, 3) := by decide +kernel
theorem dX4_passes_38 : decode cX4_passes 38 = .ok (.iload_n 1, 1) := by decide +kernel
theorem dX4_passes_39 : decode cX4_passes 39 = .ok (.iastore, 1) := by decide +kernel
theorem dX4_passes_40 : decode cX4_passes 40 = .ok (.aload_n 0, 1) := by decide +kernel
theorem dX4_passes_41 : decode cX4_passes 41 = .ok (.getfield 53, 3) := by decide +kernel
theorem dX4_passes_44 : decode cX4_passes 44 = .ok (.aload_n 0, 1) := by decide +kernel
theorem dX4_passes_45 : decode cX4_passes 45 = .ok (.getfield 115, 3) := by decide +kernel
theorem dX4_passes_48 : decode cX4_passes 48 = .ok (.iload_n 2, 1) := by decide +kernel
theorem dX4_passes_49 : decode cX4_passes 49 = .ok (.iastore, 1) := by decide +kernel
theorem dX4_passes_50 : decode cX4_passes 50 = .ok (.aload_n 0, 1) := by decide +kernel
theorem dX4_passes_51 : decode cX4_passes 51 = .ok (.getfield 56, 3) := by decide +kernel
theorem dX4_passes_54 : decode cX4_passes 54 = .ok (.aload_n 0, 1) := by decide +kernel
theorem dX4_passes_55 : decode cX4_passes 55 = .ok (.getfield 115, 3) := by decide +kernel
theorem dX4_passes_58 : decode cX4_passes 58 = .ok (.iload_n 1, 1) := by decide +kernel
theorem dX4_passes_59 : decode cX4_passes 59 = .ok (.iconst (-1), 1) := by decide +kernel
theorem dX4_passes_60 : decode cX4_passes 60 = .ok (.if_icmp .ne 7, 3) := by decide +kernel
theorem dX4_passes_63 : decode cX4_passes 63 = .ok (.iconst (-1), 1) := by decide +kernel
theorem dX4_passes_64 : decode cX4_passes 64 = .ok (.goto 8, 3) := by decide +kernel
theorem dX4_passes_67 : decode cX4_passes 67 = .ok (.aload_n 0, 1) := by decide +kernel
theorem dX4_passes_68 : decode cX4_passes 68 = .ok (.iload_n 1, 1) := by decide +kernel
theorem dX4_passes_69 : decode cX4_passes 69 = .ok (.invokevirtual 138, 3) := by decide +kernel
theorem dX4_passes_72 : decode cX4_passes 72 = .ok (.iastore, 1) := by decide +kernel
theorem dX4_passes_73 : decode cX4_passes 73 = .ok (.iconst 0, 1) := by decide +kernel
theorem dX4_passes_74 : decode cX4_passes 74 = .ok (.istore_n 3, 1) := by decide +kernel
theorem dX4_passes_75 : decode cX4_passes 75 = .ok (.iload_n 3, 1) := by decide +kernel
theorem dX4_passes_76 : decode cX4_passes 76 = .ok (.aload_n 0, 1) := by decide +kernel
theorem dX4_passes_77 : decode cX4_passes 77 = .ok (.getfield 118, 3) := by decide +kernel
theorem dX4_passes_80 : decode cX4_passes 80 = .ok (.if_icmp .ge 96, 3) := by decide +kernel
theorem dX4_passes_83 : decode cX4_passes 83 = .ok (.aload_n 0, 1) := by decide +kernel
theorem dX4_passes_84 : decode cX4_passes 84 = .ok (.getfield 41, 3) := by decide +kernel
theorem dX4_passes_87 : decode cX4_passes 87 = .ok (.iload_n 3, 1) := by decide +kernel
theorem dX4_passes_88 : decode cX4_passes 88 = .ok (.dup2, 1) := by decide +kernel
theorem dX4_passes_89 : decode cX4_passes 89 = .ok (.iaload, 1) := by decide +kernel
theorem dX4_passes_90 : decode cX4_passes 90 = .ok (.aload_n 0, 1) := by decide +kernel
theorem dX4_passes_91 : decode cX4_passes 91 = .ok (.getfield 41, 3) := by decide +kernel
theorem dX4_passes_94 : decode cX4_passes 94 = .ok (.iload_n 3, 1) := by decide +kernel
theorem dX4_passes_95 : decode cX4_passes 95 = .ok (.iaload, 1) := by decide +kernel
theorem dX4_passes_96 : decode cX4_passes 96 = .ok (.ifCond .le 7, 3) := by decide +kernel
theorem dX4_passes_99 : decode cX4_passes 99 = .ok (.iconst 1, 1) := by decide +kernel
theorem dX4_passes_100 : decode cX4_passes 100 = .ok (.goto 4, 3) := by decide +kernel
theorem dX4_passes_103 : decode cX4_passes 103 = .ok (.iconst 0, 1) := by decide +kernel
theorem dX4_passes_104 : decode cX4_passes 104 = .ok (.isub, 1) := by decide +kernel
theorem dX4_passes_105 : decode cX4_passes 105 = .ok (.iastore, 1) := by decide +kernel
theorem dX4_passes_106 : decode cX4_passes 106 = .ok (.aload_n 0, 1) := by decide +kernel
theorem dX4_passes_107 : decode cX4_passes 107 = .ok (.getfield 38, 3) := by decide +kernel
theorem dX4_passes_110 : decode cX4_passes 110 = .ok (.iload_n 3, 1) := by decide +kernel
theorem dX4_passes_111 : decode cX4_passes 111 = .ok (.iload_n 3, 1) := by decide +kernel
theorem dX4_passes_112 : decode cX4_passes 112 = .ok (.iload_n 2, 1) := by decide +kernel
theorem dX4_passes_113 : decode cX4_passes 113 = .ok (.if_icmp .eq 7, 3) := by decide +kernel
theorem dX4_passes_116 : decode cX4_passes 116 = .ok (.iconst 0, 1) := by decide +kernel
theorem dX4_passes_117 : decode cX4_passes 117 = .ok (.goto 11, 3) := by decide +kernel
theorem dX4_passes_120 : decode cX4_passes 120 = .ok (.aload_n 0, 1) := by decide +kernel
theorem dX4_passes_121 : decode cX4_passes 121 = .ok (.getfield 38, 3) := by decide +kernel
theorem dX4_passes_124 : decode cX4_passes 124 = .ok (.iload_n 3, 1) := by decide +kernel
theorem dX4_passes_125 : decode cX4_passes 125 = .ok (.iaload, 1) := by decide +kernel
theorem dX4_passes_126 : decode cX4_passes 126 = .ok (.iconst 1, 1) := by decide +kernel
theorem dX4_passes_127 : decode cX4_passes 127 = .ok (.iadd, 1) := by decide +kernel
theorem dX4_passes_128 : decode cX4_passes 128 = .ok (.iastore, 1) := by decide +kernel
theorem dX4_passes_129 : decode cX4_passes 129 = .ok (.aload_n 0, 1) := by decide +kernel
theorem dX4_passes_130 : decode cX4_passes 130 = .ok (.getfield 38, 3) := by decide +kernel
theorem dX4_passes_133 : decode cX4_passes 133 = .ok (.iload_n 3, 1) := by decide +kernel
theorem dX4_passes_134 : decode cX4_passes 134 = .ok (.iaload, 1) := by decide +kernel
theorem dX4_passes_135 : decode cX4_passes 135 = .ok (.aload_n 0, 1) := by decide +kernel
theorem dX4_passes_136 : decode cX4_passes 136 = .ok (.getfield 32, 3) := by decide +kernel
theorem dX4_passes_139 : decode cX4_passes 139 = .ok (.iload_n 3, 1) := by decide +kernel
theorem dX4_passes_140 : decode cX4_passes 140 = .ok (.iaload, 1) := by decide +kernel
theorem dX4_passes_141 : decode cX4_passes 141 = .ok (.if_icmp .ne 29, 3) := by decide +kernel
theorem dX4_passes_144 : decode cX4_passes 144 = .ok (.aload_n 0, 1) := by decide +kernel
theorem dX4_passes_145 : decode cX4_passes 145 = .ok (.getfield 41, 3) := by decide +kernel
theorem dX4_passes_148 : decode cX4_passes 148 = .ok (.iload_n 3, 1) := by decide +kernel
theorem dX4_passes_149 : decode cX4_passes 149 = .ok (.aload_n 0, 1) := by decide +kernel
theorem dX4_passes_150 : decode cX4_passes 150 = .ok (.getfield 35, 3) := by decide +kernel
theorem dX4_passes_153 : decode cX4_passes 153 = .ok (.iload_n 3, 1) := by decide +kernel
theorem dX4_passes_154 : decode cX4_passes 154 = .ok (.iaload, 1) := by decide +kernel
theorem dX4_passes_155 : decode cX4_passes 155 = .ok (.iconst 1, 1) := by decide +kernel
theorem dX4_passes_156 : decode cX4_passes 156 = .ok (.if_icmp .le 12, 3) := by decide +kernel
theorem dX4_passes_159 : decode cX4_passes 159 = .ok (.aload_n 0, 1) := by decide +kernel
theorem dX4_passes_160 : decode cX4_passes 160 = .ok (.getfield 35, 3) := by decide +kernel
theorem dX4_passes_163 : decode cX4_passes 163 = .ok (.iload_n 3, 1) := by decide +kernel
theorem dX4_passes_164 : decode cX4_passes 164 = .ok (.iaload, 1) := by decide +kernel
theorem dX4_passes_165 : decode cX4_passes 165 = .ok (.goto 4, 3) := by decide +kernel
theorem dX4_passes_168 : decode cX4_passes 168 = .ok (.iconst 1, 1) := by decide +kernel
theorem dX4_passes_169 : decode cX4_passes 169 = .ok (.iastore, 1) := by decide +kernel
theorem dX4_passes_170 : decode cX4_passes 170 = .ok (.iinc 3 1, 3) := by decide +kernel
theorem dX4_passes_173 : decode cX4_passes 173 = .ok (.goto (-98), 3) := by decide +kernel
theorem dX4_passes_176 : decode cX4_passes 176 = .ok (.aload_n 0, 1) := by decide +kernel
theorem dX4_passes_177 : decode cX4_passes 177 = .ok (.iload_n 1, 1) := by decide +kernel
theorem dX4_passes_178 : decode cX4_passes 178 = .ok (.putfield 47, 3) := by decide +kernel
theorem dX4_passes_181 : decode cX4_passes 181 = .ok (.aload_n 0, 1) := by decide +kernel
theorem dX4_passes_182 : decode cX4_passes 182 = .ok (.iload_n 2, 1) := by decide +kernel
theorem dX4_passes_183 : decode cX4_passes 183 = .ok (.putfield 44, 3) := by decide +kernel
theorem dX4_passes_186 : decode cX4_passes 186 = .ok (.aload_n 0, 1) := by decide +kernel
theorem dX4_passes_187 : decode cX4_passes 187 = .ok (.dup, 1) := by decide +kernel
theorem dX4_passes_188 : decode cX4_passes 188 = .ok (.getfield 115, 3) := by decide +kernel
theorem dX4_passes_191 : decode cX4_passes 191 = .ok (.iconst 1, 1) := by decide +kernel
theorem dX4_passes_192 : decode cX4_passes 192 = .ok (.iadd, 1) := by decide +kernel
theorem dX4_passes_193 : decode cX4_passes 193 = .ok (.putfield 115, 3) := by decide +kernel
theorem dX4_passes_196 : decode cX4_passes 196 = .ok (.aload_n 0, 1) := by decide +kernel
theorem dX4_passes_197 : decode cX4_passes 197 = .ok (.invokevirtual 121, 3) := by decide +kernel
theorem dX4_passes_200 : decode cX4_passes 200 = .ok (.return_, 1) := by decide +kernel
set_option maxRecDepth 20000 in
theorem ggX4_pass_X4_in : GoodIn wsX4_pass wsX4_in := goodIn_r _ [5] (by decide +kernel) (by decide +kernel)
set_option maxRecDepth 20000 in
theorem gX4_pass_X4_in : GoodIn wsX4_pass (va_wsS RX4 84 yX4_in wsX4_in) := goodIn_app (goodIn_of _ (by decide +kernel)) ggX4_pass_X4_in
set_option maxRecDepth 20000 in
theorem ggX4_pass_X4_refused : GoodIn wsX4_pass wsX4_refused := goodIn_r _ [9, 10, 65, 66, 67, 68, 69, 70, 71, 72, 73, 74, 75, 76, 77, 78, 79, 80, 81, 82, 83, 84, 85, 86, 87, 88, 89, 90, 91, 92, 93] (by decide +kernel) (by decide +kernel)
set_option maxRecDepth 20000 in
theorem gX4_pass_X4_refused : GoodIn wsX4_pass (wsV RX4 95 RX4 yX4_refused wsX4_refused) := goodIn_app (goodIn_of _ (by decide +kernel)) ggX4_pass_X4_refused
set_option maxRecDepth 20000 in
theorem ggX4_pass_X4_passes : GoodIn wsX4_pass wsX4_passes := goodIn_r _ [14, 15, 1, 16, 17, 18, 19, 20, 21, 22, 23, 24, 25, 26, 27, 4, 28, 29, 30, 31, 32, 33, 34, 35, 36, 37, 38, 39, 40, 41, 42, 43, 44, 45, 46, 47, 48, 49, 50, 51, 52, 53, 54, 55, 56, 57, 58, 59, 60, 61, 62, 63, 64, 65, 66, 67, 68, 69, 70, 71, 72, 73, 74, 75, 76, 77, 78, 79, 80, 81, 82, 83, 84, 85, 86, 87, 88, 89, 90, 91, 92, 93] (by decide +kernel) (by decide +kernel)
set_option maxRecDepth 20000 in
theorem gX4_pass_X4_passes : GoodIn wsX4_pass (wsV RX4 141 RX4 yX4_passes wsX4_passes) := goodIn_app (goodIn_of _ (by decide +kernel)) ggX4_pass_X4_passes
theorem dX4_pass_0 : decode cX4_pass 0 = .ok (.aload_n 0, 1) := by decide +kernel
theorem dX4_pass_1 : decode cX4_pass 1 = .ok (.iload_n 1, 1) := by decide +kernel
theorem dX4_pass_2 : decode cX4_pass 2 = .ok (.iconst 1, 1) := by decide +kernel
theorem dX4_pass_3 : decode cX4_pass 3 = .ok (.sipush 200, 3) := by decide +kernel
theorem dX4_pass_6 : decode cX4_pass 6 = .ok (.invokestatic 84, 3) := by decide +kernel
theorem dX4_pass_9 : decode cX4_pass 9 = .ok (.ifCond .ne 7, 3) := by decide +kernel
theorem dX4_pass_12 : decode cX4_pass 12 = .ok (.iconst 1, 1) := by decide +kernel
theorem dX4_pass_13 : decode cX4_pass 13 = .ok (.goto 20, 3) := by decide +kernel
theorem dX4_pass_16 : decode cX4_pass 16 = .ok (.aload_n 0, 1) := by decide +kernel
theorem dX4_pass_17 : decode cX4_pass 17 = .ok (.getfield 115, 3) := by decide +kernel
theorem dX4_pass_20 : decode cX4_pass 20 = .ok (.iload_n 1, 1) := by decide +kernel
theorem dX4_pass_21 : decode cX4_pass 21 = .ok (.iadd, 1) := by decide +kernel
theorem dX4_pass_22 : decode cX4_pass 22 = .ok (.sipush 3000, 3) := by decide +kernel
theorem dX4_pass_25 : decode cX4_pass 25 = .ok (.if_icmp .le 7, 3) := by decide +kernel
theorem dX4_pass_28 : decode cX4_pass 28 = .ok (.iconst 2, 1) := by decide +kernel
theorem dX4_pass_29 : decode cX4_pass 29 = .ok (.goto 4, 3) := by decide +kernel
theorem dX4_pass_32 : decode cX4_pass 32 = .ok (.iconst 0, 1) := by decide +kernel
theorem dX4_pass_33 : decode cX4_pass 33 = .ok (.invokevirtual 95, 3) := by decide +kernel
theorem dX4_pass_36 : decode cX4_pass 36 = .ok (.ifCond .eq 5, 3) := by decide +kernel
theorem dX4_pass_39 : decode cX4_pass 39 = .ok (.iconst 0, 1) := by decide +kernel
theorem dX4_pass_40 : decode cX4_pass 40 = .ok (.ireturn, 1) := by decide +kernel
theorem dX4_pass_41 : decode cX4_pass 41 = .ok (.iconst 0, 1) := by decide +kernel
theorem dX4_pass_42 : decode cX4_pass 42 = .ok (.istore_n 2, 1) := by decide +kernel
theorem dX4_pass_43 : decode cX4_pass 43 = .ok (.iload_n 2, 1) := by decide +kernel
theorem dX4_pass_44 : decode cX4_pass 44 = .ok (.iload_n 1, 1) := by decide +kernel
theorem dX4_pass_45 : decode cX4_pass 45 = .ok (.if_icmp .ge 13, 3) := by decide +kernel
theorem dX4_pass_48 : decode cX4_pass 48 = .ok (.aload_n 0, 1) := by decide +kernel
theorem dX4_pass_49 : decode cX4_pass 49 = .ok (.invokevirtual 141, 3) := by decide +kernel
theorem dX4_pass_52 : decode cX4_pass 52 = .ok (.iinc 2 1, 3) := by decide +kernel
theorem dX4_pass_55 : decode cX4_pass 55 = .ok (.goto (-12), 3) := by decide +kernel
theorem dX4_pass_58 : decode cX4_pass 58 = .ok (.aload_n 0, 1) := by decide +kernel
theorem dX4_pass_59 : decode cX4_pass 59 = .ok (.getfield 115, 3) := by decide +kernel
theorem dX4_pass_62 : decode cX4_pass 62 = .ok (.ireturn, 1) := by decide +kernel
set_option maxRecDepth 20000 in
theorem ggX4_blow_X4_isFight : GoodIn wsX4_blow wsX4_isFight := goodIn_r _ [14, 15, 16, 17, 13, 18, 27, 28, 29, 30, 31, 32, 33, 34, 35, 36, 37, 38, 39, 40, 41, 42, 43, 44, 45, 46, 47, 48, 49, 50, 51, 52, 53, 54, 55] (by decide +kernel) (by decide +kernel)
set_option maxRecDepth 20000 in
theorem gX4_blow_X4_isFight : GoodIn wsX4_blow (wsV RX4 105 RX4 yX4_isFight wsX4_isFight) := goodIn_app (goodIn_of _ (by decide +kernel)) ggX4_blow_X4_isFight
set_option maxRecDepth 20000 in
theorem ggX4_blow_X4_isPlayer : GoodIn wsX4_blow wsX4_isPlayer := goodIn_r _ [21, 16, 17, 13, 18] (by decide +kernel) (by decide +kernel)
set_option maxRecDepth 20000 in
theorem gX4_blow_X4_isPlayer : GoodIn wsX4_blow (va_wsS RX4 91 yX4_isPlayer wsX4_isPlayer) := goodIn_app (goodIn_of _ (by decide +kernel)) ggX4_blow_X4_isPlayer
set_option maxRecDepth 20000 in
theorem ggX4_blow_X4_in : GoodIn wsX4_blow wsX4_in := goodIn_r _ [18] (by decide +kernel) (by decide +kernel)
set_option maxRecDepth 20000 in
theorem gX4_blow_X4_in : GoodIn wsX4_blow (va_wsS RX4 84 yX4_in wsX4_in) := goodIn_app (goodIn_of _ (by decide +kernel)) ggX4_blow_X4_in
set_option maxRecDepth 20000 in
theorem ggX4_blow_X4_refused : GoodIn wsX4_blow wsX4_refused := goodIn_r _ [25, 26, 27, 28, 29, 30, 31, 32, 33, 34, 35, 36, 37, 38, 39, 40, 41, 42, 43, 44, 45, 46, 47, 48, 49, 50, 51, 52, 53, 54, 55] (by decide +kernel) (by decide +kernel)
set_option maxRecDepth 20000 in
theorem gX4_blow_X4_refused : GoodIn wsX4_blow (wsV RX4 95 RX4 yX4_refused wsX4_refused) := goodIn_app (goodIn_of _ (by decide +kernel)) ggX4_blow_X4_refused
theorem dX4_blow_0 : decode cX4_blow 0 = .ok (.aload_n 0, 1) := by decide +kernel
theorem dX4_blow_1 : decode cX4_blow 1 = .ok (.iload_n 1, 1) := by decide +kernel
theorem dX4_blow_2 : decode cX4_blow 2 = .ok (.invokevirtual 105, 3) := by decide +kernel
theorem dX4_blow_5 : decode cX4_blow 5 = .ok (.ifCond .eq 14, 3) := by decide +kernel
theorem dX4_blow_8 : decode cX4_blow 8 = .ok (.iload_n 2, 1) := by decide +kernel
theorem dX4_blow_9 : decode cX4_blow 9 = .ok (.invokestatic 91, 3) := by decide +kernel
theorem dX4_blow_12 : decode cX4_blow 12 = .ok (.ifCond .eq 7, 3) := by decide +kernel
theorem dX4_blow_15 : decode cX4_blow 15 = .ok (.iconst 1, 1) := by decide +kernel
theorem dX4_blow_16 : decode cX4_blow 16 = .ok (.goto 4, 3) := by decide +kernel
theorem dX4_blow_19 : decode cX4_blow 19 = .ok (.iconst 0, 1) := by decide +kernel
theorem dX4_blow_20 : decode cX4_blow 20 = .ok (.istore 4, 2) := by decide +kernel
theorem dX4_blow_22 : decode cX4_blow 22 = .ok (.iload 4, 2) := by decide +kernel
theorem dX4_blow_24 : decode cX4_blow 24 = .ok (.ifCond .eq 37, 3) := by decide +kernel
theorem dX4_blow_27 : decode cX4_blow 27 = .ok (.iload_n 3, 1) := by decide +kernel
theorem dX4_blow_28 : decode cX4_blow 28 = .ok (.iconst 1, 1) := by decide +kernel
theorem dX4_blow_29 : decode cX4_blow 29 = .ok (.bipush 9, 2) := by decide +kernel
theorem dX4_blow_31 : decode cX4_blow 31 = .ok (.invokestatic 84, 3) := by decide +kernel
theorem dX4_blow_34 : decode cX4_blow 34 = .ok (.ifCond .eq 27, 3) := by decide +kernel
theorem dX4_blow_37 : decode cX4_blow 37 = .ok (.aload_n 0, 1) := by decide +kernel
theorem dX4_blow_38 : decode cX4_blow 38 = .ok (.getfield 23, 3) := by decide +kernel
theorem dX4_blow_41 : decode cX4_blow 41 = .ok (.iload_n 1, 1) := by decide +kernel
theorem dX4_blow_42 : decode cX4_blow 42 = .ok (.iaload, 1) := by decide +kernel
theorem dX4_blow_43 : decode cX4_blow 43 = .ok (.iload_n 2, 1) := by decide +kernel
theorem dX4_blow_44 : decode cX4_blow 44 = .ok (.if_icmp .eq 13, 3) := by decide +kernel
theorem dX4_blow_47 : decode cX4_blow 47 = .ok (.aload_n 0, 1) := by decide +kernel
theorem dX4_blow_48 : decode cX4_blow 48 = .ok (.getfield 26, 3) := by decide +kernel
theorem dX4_blow_51 : decode cX4_blow 51 = .ok (.iload_n 1, 1) := by decide +kernel
theorem dX4_blow_52 : decode cX4_blow 52 = .ok (.iaload, 1) := by decide +kernel
theorem dX4_blow_53 : decode cX4_blow 53 = .ok (.iload_n 2, 1) := by decide +kernel
theorem dX4_blow_54 : decode cX4_blow 54 = .ok (.if_icmp .ne 7, 3) := by decide +kernel
theorem dX4_blow_57 : decode cX4_blow 57 = .ok (.iconst 1, 1) := by decide +kernel
theorem dX4_blow_58 : decode cX4_blow 58 = .ok (.goto 4, 3) := by decide +kernel
theorem dX4_blow_61 : decode cX4_blow 61 = .ok (.iconst 0, 1) := by decide +kernel
theorem dX4_blow_62 : decode cX4_blow 62 = .ok (.istore 5, 2) := by decide +kernel
theorem dX4_blow_64 : decode cX4_blow 64 = .ok (.aload_n 0, 1) := by decide +kernel
theorem dX4_blow_65 : decode cX4_blow 65 = .ok (.iload 4, 2) := by decide +kernel
theorem dX4_blow_67 : decode cX4_blow 67 = .ok (.ifCond .ne 7, 3) := by decide +kernel
theorem dX4_blow_70 : decode cX4_blow 70 = .ok (.iconst 1, 1) := by decide +kernel
theorem dX4_blow_71 : decode cX4_blow 71 = .ok (.goto 35, 3) := by decide +kernel
theorem dX4_blow_74 : decode cX4_blow 74 = .ok (.iload 5, 2) := by decide +kernel
theorem dX4_blow_76 : decode cX4_blow 76 = .ok (.ifCond .ne 7, 3) := by decide +kernel
theorem dX4_blow_79 : decode cX4_blow 79 = .ok (.iconst 2, 1) := by decide +kernel
theorem dX4_blow_80 : decode cX4_blow 80 = .ok (.goto 26, 3) := by decide +kernel
theorem dX4_blow_83 : decode cX4_blow 83 = .ok (.aload_n 0, 1) := by decide +kernel
theorem dX4_blow_84 : decode cX4_blow 84 = .ok (.getfield 20, 3) := by decide +kernel
theorem dX4_blow_87 : decode cX4_blow 87 = .ok (.iload_n 1, 1) := by decide +kernel
theorem dX4_blow_88 : decode cX4_blow 88 = .ok (.iaload, 1) := by decide +kernel
theorem dX4_blow_89 : decode cX4_blow 89 = .ok (.ifCond .ne 12, 3) := by decide +kernel
theorem dX4_blow_92 : decode cX4_blow 92 = .ok (.aload_n 0, 1) := by decide +kernel
theorem dX4_blow_93 : decode cX4_blow 93 = .ok (.getfield 112, 3) := by decide +kernel
theorem dX4_blow_96 : decode cX4_blow 96 = .ok (.bipush 80, 2) := by decide +kernel
theorem dX4_blow_98 : decode cX4_blow 98 = .ok (.if_icmp .ne 7, 3) := by decide +kernel
theorem dX4_blow_101 : decode cX4_blow 101 = .ok (.iconst 3, 1) := by decide +kernel
theorem dX4_blow_102 : decode cX4_blow 102 = .ok (.goto 4, 3) := by decide +kernel
theorem dX4_blow_105 : decode cX4_blow 105 = .ok (.iconst 0, 1) := by decide +kernel
theorem dX4_blow_106 : decode cX4_blow 106 = .ok (.invokevirtual 95, 3) := by decide +kernel
theorem dX4_blow_109 : decode cX4_blow 109 = .ok (.ifCond .eq 5, 3) := by decide +kernel
theorem dX4_blow_112 : decode cX4_blow 112 = .ok (.iconst 0, 1) := by decide +kernel
theorem dX4_blow_113 : decode cX4_blow 113 = .ok (.ireturn, 1) := by decide +kernel
theorem dX4_blow_114 : decode cX4_blow 114 = .ok (.aload_n 0, 1) := by decide +kernel
theorem dX4_blow_115 : decode cX4_blow 115 = .ok (.getfield 59, 3) := by decide +kernel
theorem dX4_blow_118 : decode cX4_blow 118 = .ok (.aload_n 0, 1) := by decide +kernel
theorem dX4_blow_119 : decode cX4_blow 119 = .ok (.getfield 112, 3) := by decide +kernel
theorem dX4_blow_122 : decode cX4_blow 122 = .ok (.iload_n 1, 1) := by decide +kernel
theorem dX4_blow_123 : decode cX4_blow 123 = .ok (.iastore, 1) := by decide +kernel
theorem dX4_blow_124 : decode cX4_blow 124 = .ok (.aload_n 0, 1) := by decide +kernel
theorem dX4_blow_125 : decode cX4_blow 125 = .ok (.getfield 62, 3) := by decide +kernel
theorem dX4_blow_128 : decode cX4_blow 128 = .ok (.aload_n 0, 1) := by decide +kernel
theorem dX4_blow_129 : decode cX4_blow 129 = .ok (.getfield 112, 3) := by decide +kernel
theorem dX4_blow_132 : decode cX4_blow 132 = .ok (.iload_n 2, 1) := by decide +kernel
theorem dX4_blow_133 : decode cX4_blow 133 = .ok (.iastore, 1) := by decide +kernel
theorem dX4_blow_134 : decode cX4_blow 134 = .ok (.aload_n 0, 1) := by decide +kernel
theorem dX4_blow_135 : decode cX4_blow 135 = .ok (.getfield 65, 3) := by decide +kernel
theorem dX4_blow_138 : decode cX4_blow 138 = .ok (.aload_n 0, 1) := by decide +kernel
theorem dX4_blow_139 : decode cX4_blow 139 = .ok (.getfield 112, 3) := by decide +kernel
theorem dX4_blow_142 : decode cX4_blow 142 = .ok (.iload_n 3, 1) := by decide +kernel
theorem dX4_blow_143 : decode cX4_blow 143 = .ok (.iastore, 1) := by decide +kernel
theorem dX4_blow_144 : decode cX4_blow 144 = .ok (.aload_n 0, 1) := by decide +kernel
theorem dX4_blow_145 : decode cX4_blow 145 = .ok (.getfield 68, 3) := by decide +kernel
theorem dX4_blow_148 : decode cX4_blow 148 = .ok (.aload_n 0, 1) := by decide +kernel
theorem dX4_blow_149 : decode cX4_blow 149 = .ok (.getfield 112, 3) := by decide +kernel
theorem dX4_blow_152 : decode cX4_blow 152 = .ok (.aload_n 0, 1) := by decide +kernel
theorem dX4_blow_153 : decode cX4_blow 153 = .ok (.getfield 115, 3) := by decide +kernel
theorem dX4_blow_156 : decode cX4_blow 156 = .ok (.iastore, 1) := by decide +kernel
theorem dX4_blow_157 : decode cX4_blow 157 = .ok (.aload_n 0, 1) := by decide +kernel
theorem dX4_blow_158 : decode cX4_blow 158 = .ok (.dup, 1) := by decide +kernel
theorem dX4_blow_159 : decode cX4_blow 159 = .ok (.getfield 112, 3) := by decide +kernel
theorem dX4_blow_162 : decode cX4_blow 162 = .ok (.iconst 1, 1) := by decide +kernel
theorem dX4_blow_163 : decode cX4_blow 163 = .ok (.iadd, 1) := by decide +kernel
theorem dX4_blow_164 : decode cX4_blow 164 = .ok (.putfield 112, 3) := by decide +kernel
theorem dX4_blow_167 : decode cX4_blow 167 = .ok (.aload_n 0, 1) := by decide +kernel
theorem dX4_blow_168 : decode cX4_blow 168 = .ok (.getfield 112, 3) := by decide +kernel
theorem dX4_blow_171 : decode cX4_blow 171 = .ok (.iconst 1, 1) := by decide +kernel
theorem dX4_blow_172 : decode cX4_blow 172 = .ok (.isub, 1) := by decide +kernel
theorem dX4_blow_173 : decode cX4_blow 173 = .ok (.ireturn, 1) := by decide +kernel
set_option maxRecDepth 20000 in
theorem ggX4_isEntry_X4_in : GoodIn wsX4_isEntry wsX4_in := goodIn_r _ [5] (by decide +kernel) (by decide +kernel)
set_option maxRecDepth 20000 in
theorem gX4_isEntry_X4_in : GoodIn wsX4_isEntry (va_wsS RX4 84 yX4_in wsX4_in) := goodIn_app (goodIn_of _ (by decide +kernel)) ggX4_isEntry_X4_in
theorem dX4_isEntry_0 : decode cX4_isEntry 0 = .ok (.iload_n 1, 1) := by decide +kernel
theorem dX4_isEntry_1 : decode cX4_isEntry 1 = .ok (.iconst 0, 1) := by decide +kernel
theorem dX4_isEntry_2 : decode cX4_isEntry 2 = .ok (.aload_n 0, 1) := by decide +kernel
theorem dX4_isEntry_3 : decode cX4_isEntry 3 = .ok (.getfield 112, 3) := by decide +kernel
theorem dX4_isEntry_6 : decode cX4_isEntry 6 = .ok (.iconst 1, 1) := by decide +kernel
theorem dX4_isEntry_7 : decode cX4_isEntry 7 = .ok (.isub, 1) := by decide +kernel
theorem dX4_isEntry_8 : decode cX4_isEntry 8 = .ok (.invokestatic 84, 3) := by decide +kernel
theorem dX4_isEntry_11 : decode cX4_isEntry 11 = .ok (.ireturn, 1) := by decide +kernel
theorem dX4_isFixed_0 : decode cX4_isFixed 0 = .ok (.aload_n 0, 1) := by decide +kernel
theorem dX4_isFixed_1 : decode cX4_isFixed 1 = .ok (.getfield 71, 3) := by decide +kernel
theorem dX4_isFixed_4 : decode cX4_isFixed 4 = .ok (.iload_n 1, 1) := by decide +kernel
theorem dX4_isFixed_5 : decode cX4_isFixed 5 = .ok (.baload, 1) := by decide +kernel
theorem dX4_isFixed_6 : decode cX4_isFixed 6 = .ok (.ifCond .ne 17, 3) := by decide +kernel
theorem dX4_isFixed_9 : decode cX4_isFixed 9 = .ok (.aload_n 0, 1) := by decide +kernel
theorem dX4_isFixed_10 : decode cX4_isFixed 10 = .ok (.getfield 20, 3) := by decide +kernel
theorem dX4_isFixed_13 : decode cX4_isFixed 13 = .ok (.aload_n 0, 1) := by decide +kernel
theorem dX4_isFixed_14 : decode cX4_isFixed 14 = .ok (.getfield 59, 3) := by decide +kernel
theorem dX4_isFixed_17 : decode cX4_isFixed 17 = .ok (.iload_n 1, 1) := by decide +kernel
theorem dX4_isFixed_18 : decode cX4_isFixed 18 = .ok (.iaload, 1) := by decide +kernel
theorem dX4_isFixed_19 : decode cX4_isFixed 19 = .ok (.iaload, 1) := by decide +kernel
theorem dX4_isFixed_20 : decode cX4_isFixed 20 = .ok (.ifCond .eq 7, 3) := by decide +kernel
theorem dX4_isFixed_23 : decode cX4_isFixed 23 = .ok (.iconst 1, 1) := by decide +kernel
theorem dX4_isFixed_24 : decode cX4_isFixed 24 = .ok (.goto 4, 3) := by decide +kernel
theorem dX4_isFixed_27 : decode cX4_isFixed 27 = .ok (.iconst 0, 1) := by decide +kernel
theorem dX4_isFixed_28 : decode cX4_isFixed 28 = .ok (.ireturn, 1) := by decide +kernel
set_option maxRecDepth 20000 in
theorem ggX4_strike_X4_isEntry : GoodIn wsX4_strike wsX4_isEntry := goodIn_r _ [7, 8, 9, 10, 6, 11, 23, 24, 25, 26, 27, 28, 29, 30, 31, 32, 33, 34, 35, 36, 37, 38, 39, 40, 41, 42, 43, 44, 45, 46, 47, 48, 49, 50, 51] (by decide +kernel) (by decide +kernel)
set_option maxRecDepth 20000 in
theorem gX4_strike_X4_isEntry : GoodIn wsX4_strike (wsV RX4 144 RX4 yX4_isEntry wsX4_isEntry) := goodIn_app (goodIn_of _ (by decide +kernel)) ggX4_strike_X4_isEntry
set_option maxRecDepth 20000 in
theorem ggX4_strike_X4_isFixed : GoodIn wsX4_strike wsX4_isFixed := goodIn_r _ [15, 1, 16, 17, 23, 24, 25, 26, 27, 28, 29, 30, 31, 32, 33, 34, 35, 36, 37, 38, 39, 40, 41, 42, 43, 44, 45, 46, 47, 48, 49, 50, 51] (by decide +kernel) (by decide +kernel)
set_option maxRecDepth 20000 in
theorem gX4_strike_X4_isFixed : GoodIn wsX4_strike (wsV RX4 147 RX4 yX4_isFixed wsX4_isFixed) := goodIn_app (goodIn_of _ (by decide +kernel)) ggX4_strike_X4_isFixed
set_option maxRecDepth 20000 in
theorem ggX4_strike_X4_refused : GoodIn wsX4_strike wsX4_refused := goodIn_r _ [21, 22, 23, 24, 25, 26, 27, 28, 29, 30, 31, 32, 33, 34, 35, 36, 37, 38, 39, 40, 41, 42, 43, 44, 45, 46, 47, 48, 49, 50, 51] (by decide +kernel) (by decide +kernel)
set_option maxRecDepth 20000 in
theorem gX4_strike_X4_refused : GoodIn wsX4_strike (wsV RX4 95 RX4 yX4_refused wsX4_refused) := goodIn_app (goodIn_of _ (by decide +kernel)) ggX4_strike_X4_refused
theorem dX4_strike_0 : decode cX4_strike 0 = .ok (.aload_n 0, 1) := by decide +kernel
theorem dX4_strike_1 : decode cX4_strike 1 = .ok (.iload_n 1, 1) := by decide +kernel
theorem dX4_strike_2 : decode cX4_strike 2 = .ok (.invokevirtual 144, 3) := by decide +kernel
theorem dX4_strike_5 : decode cX4_strike 5 = .ok (.istore_n 2, 1) := by decide +kernel
theorem dX4_strike_6 : decode cX4_strike 6 = .ok (.aload_n 0, 1) := by decide +kernel
theorem dX4_strike_7 : decode cX4_strike 7 = .ok (.iload_n 2, 1) := by decide +kernel
theorem dX4_strike_8 : decode cX4_strike 8 = .ok (.ifCond .ne 7, 3) := by decide +kernel
theorem dX4_strike_11 : decode cX4_strike 11 = .ok (.iconst 1, 1) := by decide +kernel
theorem dX4_strike_12 : decode cX4_strike 12 = .ok (.goto 16, 3) := by decide +kernel
theorem dX4_strike_15 : decode cX4_strike 15 = .ok (.aload_n 0, 1) := by decide +kernel
theorem dX4_strike_16 : decode cX4_strike 16 = .ok (.iload_n 1, 1) := by decide +kernel
theorem dX4_strike_17 : decode cX4_strike 17 = .ok (.invokevirtual 147, 3) := by decide +kernel
theorem dX4_strike_20 : decode cX4_strike 20 = .ok (.ifCond .eq 7, 3) := by decide +kernel
theorem dX4_strike_23 : decode cX4_strike 23 = .ok (.iconst 2, 1) := by decide +kernel
theorem dX4_strike_24 : decode cX4_strike 24 = .ok (.goto 4, 3) := by decide +kernel
theorem dX4_strike_27 : decode cX4_strike 27 = .ok (.iconst 0, 1) := by decide +kernel
theorem dX4_strike_28 : decode cX4_strike 28 = .ok (.invokevirtual 95, 3) := by decide +kernel
theorem dX4_strike_31 : decode cX4_strike 31 = .ok (.ifCond .eq 5, 3) := by decide +kernel
theorem dX4_strike_34 : decode cX4_strike 34 = .ok (.iconst 0, 1) := by decide +kernel
theorem dX4_strike_35 : decode cX4_strike 35 = .ok (.ireturn, 1) := by decide +kernel
theorem dX4_strike_36 : decode cX4_strike 36 = .ok (.aload_n 0, 1) := by decide +kernel
theorem dX4_strike_37 : decode cX4_strike 37 = .ok (.getfield 71, 3) := by decide +kernel
theorem dX4_strike_40 : decode cX4_strike 40 = .ok (.iload_n 1, 1) := by decide +kernel
theorem dX4_strike_41 : decode cX4_strike 41 = .ok (.iconst 1, 1) := by decide +kernel
theorem dX4_strike_42 : decode cX4_strike 42 = .ok (.bastore, 1) := by decide +kernel
theorem dX4_strike_43 : decode cX4_strike 43 = .ok (.aload_n 0, 1) := by decide +kernel
theorem dX4_strike_44 : decode cX4_strike 44 = .ok (.getfield 65, 3) := by decide +kernel
theorem dX4_strike_47 : decode cX4_strike 47 = .ok (.iload_n 1, 1) := by decide +kernel
theorem dX4_strike_48 : decode cX4_strike 48 = .ok (.iaload, 1) := by decide +kernel
theorem dX4_strike_49 : decode cX4_strike 49 = .ok (.ireturn, 1) := by decide +kernel
set_option maxRecDepth 20000 in
theorem ggX4_mend_X4_isEntry : GoodIn wsX4_mend wsX4_isEntry := goodIn_r _ [6, 7, 8, 9, 5, 10, 23, 24, 25, 26, 27, 28, 29, 30, 31, 32, 33, 34, 35, 36, 37, 38, 39, 40, 41, 42, 43, 44, 45, 46, 47, 48, 49, 50, 51] (by decide +kernel) (by decide +kernel)
set_option maxRecDepth 20000 in
theorem gX4_mend_X4_isEntry : GoodIn wsX4_mend (wsV RX4 144 RX4 yX4_isEntry wsX4_isEntry) := goodIn_app (goodIn_of _ (by decide +kernel)) ggX4_mend_X4_isEntry
set_option maxRecDepth 20000 in
theorem ggX4_mend_X4_in : GoodIn wsX4_mend wsX4_in := goodIn_r _ [10] (by decide +kernel) (by decide +kernel)
set_option maxRecDepth 20000 in
theorem gX4_mend_X4_in : GoodIn wsX4_mend (va_wsS RX4 84 yX4_in wsX4_in) := goodIn_app (goodIn_of _ (by decide +kernel)) ggX4_mend_X4_in
set_option maxRecDepth 20000 in
theorem ggX4_mend_X4_isFixed : GoodIn wsX4_mend wsX4_isFixed := goodIn_r _ [14, 15, 16, 17, 23, 24, 25, 26, 27, 28, 29, 30, 31, 32, 33, 34, 35, 36, 37, 38, 39, 40, 41, 42, 43, 44, 45, 46, 47, 48, 49, 50, 51] (by decide +kernel) (by decide +kernel)
set_option maxRecDepth 20000 in
theorem gX4_mend_X4_isFixed : GoodIn wsX4_mend (wsV RX4 147 RX4 yX4_isFixed wsX4_isFixed) := goodIn_app (goodIn_of _ (by decide +kernel)) ggX4_mend_X4_isFixed
set_option maxRecDepth 20000 in
theorem ggX4_mend_X4_refused : GoodIn wsX4_mend wsX4_refused := goodIn_r _ [21, 22, 23, 24, 25, 26, 27, 28, 29, 30, 31, 32, 33, 34, 35, 36, 37, 38, 39, 40, 41, 42, 43, 44, 45, 46, 47, 48, 49, 50, 51] (by decide +kernel) (by decide +kernel)
set_option maxRecDepth 20000 in
theorem gX4_mend_X4_refused : GoodIn wsX4_mend (wsV RX4 95 RX4 yX4_refused wsX4_refused) := goodIn_app (goodIn_of _ (by decide +kernel)) ggX4_mend_X4_refused
theorem dX4_mend_0 : decode cX4_mend 0 = .ok (.aload_n 0, 1) := by decide +kernel
theorem dX4_mend_1 : decode cX4_mend 1 = .ok (.iload_n 1, 1) := by decide +kernel
theorem dX4_mend_2 : decode cX4_mend 2 = .ok (.invokevirtual 144, 3) := by decide +kernel
theorem dX4_mend_5 : decode cX4_mend 5 = .ok (.istore_n 3, 1) := by decide +kernel
theorem dX4_mend_6 : decode cX4_mend 6 = .ok (.aload_n 0, 1) := by decide +kernel
theorem dX4_mend_7 : decode cX4_mend 7 = .ok (.iload_n 3, 1) := by decide +kernel
theorem dX4_mend_8 : decode cX4_mend 8 = .ok (.ifCond .ne 7, 3) := by decide +kernel
theorem dX4_mend_11 : decode cX4_mend 11 = .ok (.iconst 1, 1) := by decide +kernel
theorem dX4_mend_12 : decode cX4_mend 12 = .ok (.goto 30, 3) := by decide +kernel
theorem dX4_mend_15 : decode cX4_mend 15 = .ok (.iload_n 2, 1) := by decide +kernel
theorem dX4_mend_16 : decode cX4_mend 16 = .ok (.iconst 1, 1) := by decide +kernel
theorem dX4_mend_17 : decode cX4_mend 17 = .ok (.bipush 9, 2) := by decide +kernel
theorem dX4_mend_19 : decode cX4_mend 19 = .ok (.invokestatic 84, 3) := by decide +kernel
theorem dX4_mend_22 : decode cX4_mend 22 = .ok (.ifCond .ne 7, 3) := by decide +kernel
theorem dX4_mend_25 : decode cX4_mend 25 = .ok (.iconst 2, 1) := by decide +kernel
theorem dX4_mend_26 : decode cX4_mend 26 = .ok (.goto 16, 3) := by decide +kernel
theorem dX4_mend_29 : decode cX4_mend 29 = .ok (.aload_n 0, 1) := by decide +kernel
theorem dX4_mend_30 : decode cX4_mend 30 = .ok (.iload_n 1, 1) := by decide +kernel
theorem dX4_mend_31 : decode cX4_mend 31 = .ok (.invokevirtual 147, 3) := by decide +kernel
theorem dX4_mend_34 : decode cX4_mend 34 = .ok (.ifCond .eq 7, 3) := by decide +kernel
theorem dX4_mend_37 : decode cX4_mend 37 = .ok (.iconst 3, 1) := by decide +kernel
theorem dX4_mend_38 : decode cX4_mend 38 = .ok (.goto 4, 3) := by decide +kernel
theorem dX4_mend_41 : decode cX4_mend 41 = .ok (.iconst 0, 1) := by decide +kernel
theorem dX4_mend_42 : decode cX4_mend 42 = .ok (.invokevirtual 95, 3) := by decide +kernel
theorem dX4_mend_45 : decode cX4_mend 45 = .ok (.ifCond .eq 5, 3) := by decide +kernel
theorem dX4_mend_48 : decode cX4_mend 48 = .ok (.iconst 0, 1) := by decide +kernel
theorem dX4_mend_49 : decode cX4_mend 49 = .ok (.ireturn, 1) := by decide +kernel
theorem dX4_mend_50 : decode cX4_mend 50 = .ok (.aload_n 0, 1) := by decide +kernel
theorem dX4_mend_51 : decode cX4_mend 51 = .ok (.getfield 65, 3) := by decide +kernel
theorem dX4_mend_54 : decode cX4_mend 54 = .ok (.iload_n 1, 1) := by decide +kernel
theorem dX4_mend_55 : decode cX4_mend 55 = .ok (.iaload, 1) := by decide +kernel
theorem dX4_mend_56 : decode cX4_mend 56 = .ok (.istore 4, 2) := by decide +kernel
theorem dX4_mend_58 : decode cX4_mend 58 = .ok (.aload_n 0, 1) := by decide +kernel
theorem dX4_mend_59 : decode cX4_mend 59 = .ok (.getfield 65, 3) := by decide +kernel
theorem dX4_mend_62 : decode cX4_mend 62 = .ok (.iload_n 1, 1) := by decide +kernel
theorem dX4_mend_63 : decode cX4_mend 63 = .ok (.iload_n 2, 1) := by decide +kernel
theorem dX4_mend_64 : decode cX4_mend 64 = .ok (.iastore, 1) := by decide +kernel
theorem dX4_mend_65 : decode cX4_mend 65 = .ok (.iload 4, 2) := by decide +kernel
theorem dX4_mend_67 : decode cX4_mend 67 = .ok (.ireturn, 1) := by decide +kernel
set_option maxRecDepth 20000 in
theorem ggX4_promise_X4_isSponsor : GoodIn wsX4_promise wsX4_isSponsor := goodIn_r _ [5, 6, 7, 4, 8] (by decide +kernel) (by decide +kernel)
set_option maxRecDepth 20000 in
theorem gX4_promise_X4_isSponsor : GoodIn wsX4_promise (va_wsS RX4 150 yX4_isSponsor wsX4_isSponsor) := goodIn_app (goodIn_of _ (by decide +kernel)) ggX4_promise_X4_isSponsor
set_option maxRecDepth 20000 in
theorem ggX4_promise_X4_in : GoodIn wsX4_promise wsX4_in := goodIn_r _ [8] (by decide +kernel) (by decide +kernel)
set_option maxRecDepth 20000 in
theorem gX4_promise_X4_in : GoodIn wsX4_promise (va_wsS RX4 84 yX4_in wsX4_in) := goodIn_app (goodIn_of _ (by decide +kernel)) ggX4_promise_X4_in
set_option maxRecDepth 20000 in
theorem ggX4_promise_X4_refused : GoodIn wsX4_promise wsX4_refused := goodIn_r _ [12, 13, 14, 15, 16, 17, 18, 19, 20, 21, 22, 23, 24, 25, 26, 27, 28, 29, 30, 31, 32, 33, 34, 35, 36, 37, 38, 39, 40, 41, 42] (by decide +kernel) (by decide +kernel)
set_option maxRecDepth 20000 in
theorem gX4_promise_X4_refused : GoodIn wsX4_promise (wsV RX4 95 RX4 yX4_refused wsX4_refused) := goodIn_app (goodIn_of _ (by decide +kernel)) ggX4_promise_X4_refused
theorem dX4_promise_0 : decode cX4_promise 0 = .ok (.aload_n 0, 1) := by decide +kernel
theorem dX4_promise_1 : decode cX4_promise 1 = .ok (.iload_n 1, 1) := by decide +kernel
theorem dX4_promise_2 : decode cX4_promise 2 = .ok (.invokestatic 150, 3) := by decide +kernel
theorem dX4_promise_5 : decode cX4_promise 5 = .ok (.ifCond .ne 7, 3) := by decide +kernel
theorem dX4_promise_8 : decode cX4_promise 8 = .ok (.iconst 1, 1) := by decide +kernel
theorem dX4_promise_9 : decode cX4_promise 9 = .ok (.goto 19, 3) := by decide +kernel
theorem dX4_promise_12 : decode cX4_promise 12 = .ok (.iload_n 2, 1) := by decide +kernel
theorem dX4_promise_13 : decode cX4_promise 13 = .ok (.iconst 0, 1) := by decide +kernel
theorem dX4_promise_14 : decode cX4_promise 14 = .ok (.sipush 1000, 3) := by decide +kernel
theorem dX4_promise_17 : decode cX4_promise 17 = .ok (.invokestatic 84, 3) := by decide +kernel
theorem dX4_promise_20 : decode cX4_promise 20 = .ok (.ifCond .ne 7, 3) := by decide +kernel
theorem dX4_promise_23 : decode cX4_promise 23 = .ok (.iconst 2, 1) := by decide +kernel
theorem dX4_promise_24 : decode cX4_promise 24 = .ok (.goto 4, 3) := by decide +kernel
theorem dX4_promise_27 : decode cX4_promise 27 = .ok (.iconst 0, 1) := by decide +kernel
theorem dX4_promise_28 : decode cX4_promise 28 = .ok (.invokevirtual 95, 3) := by decide +kernel
theorem dX4_promise_31 : decode cX4_promise 31 = .ok (.ifCond .eq 5, 3) := by decide +kernel
theorem dX4_promise_34 : decode cX4_promise 34 = .ok (.iconst 0, 1) := by decide +kernel
theorem dX4_promise_35 : decode cX4_promise 35 = .ok (.ireturn, 1) := by decide +kernel
theorem dX4_promise_36 : decode cX4_promise 36 = .ok (.aload_n 0, 1) := by decide +kernel
theorem dX4_promise_37 : decode cX4_promise 37 = .ok (.getfield 75, 3) := by decide +kernel
theorem dX4_promise_40 : decode cX4_promise 40 = .ok (.iload_n 1, 1) := by decide +kernel
theorem dX4_promise_41 : decode cX4_promise 41 = .ok (.iaload, 1) := by decide +kernel
theorem dX4_promise_42 : decode cX4_promise 42 = .ok (.istore_n 3, 1) := by decide +kernel
theorem dX4_promise_43 : decode cX4_promise 43 = .ok (.aload_n 0, 1) := by decide +kernel
theorem dX4_promise_44 : decode cX4_promise 44 = .ok (.getfield 75, 3) := by decide +kernel
theorem dX4_promise_47 : decode cX4_promise 47 = .ok (.iload_n 1, 1) := by decide +kernel
theorem dX4_promise_48 : decode cX4_promise 48 = .ok (.iload_n 2, 1) := by decide +kernel
theorem dX4_promise_49 : decode cX4_promise 49 = .ok (.iastore, 1) := by decide +kernel
theorem dX4_promise_50 : decode cX4_promise 50 = .ok (.iload_n 3, 1) := by decide +kernel
theorem dX4_promise_51 : decode cX4_promise 51 = .ok (.ireturn, 1) := by decide +kernel
set_option maxRecDepth 20000 in
theorem ggX4_slot_X4_isSponsor : GoodIn wsX4_slot wsX4_isSponsor := goodIn_r _ [6, 7, 8, 5, 9] (by decide +kernel) (by decide +kernel)
set_option maxRecDepth 20000 in
theorem gX4_slot_X4_isSponsor : GoodIn wsX4_slot (va_wsS RX4 150 yX4_isSponsor wsX4_isSponsor) := goodIn_app (goodIn_of _ (by decide +kernel)) ggX4_slot_X4_isSponsor
set_option maxRecDepth 20000 in
theorem ggX4_slot_X4_isPlayer : GoodIn wsX4_slot wsX4_isPlayer := goodIn_r _ [12, 7, 8, 5, 9] (by decide +kernel) (by decide +kernel)
set_option maxRecDepth 20000 in
theorem gX4_slot_X4_isPlayer : GoodIn wsX4_slot (va_wsS RX4 91 yX4_isPlayer wsX4_isPlayer) := goodIn_app (goodIn_of _ (by decide +kernel)) ggX4_slot_X4_isPlayer
set_option maxRecDepth 20000 in
theorem ggX4_slot_X4_refused : GoodIn wsX4_slot wsX4_refused := goodIn_r _ [16, 17, 18, 19, 20, 21, 22, 23, 24, 25, 26, 27, 28, 29, 30, 31, 32, 33, 34, 35, 36, 37, 38, 39, 40, 41, 42, 43, 44, 45, 46] (by decide +kernel) (by decide +kernel)
set_option maxRecDepth 20000 in
theorem gX4_slot_X4_refused : GoodIn wsX4_slot (wsV RX4 95 RX4 yX4_refused wsX4_refused) := goodIn_app (goodIn_of _ (by decide +kernel)) ggX4_slot_X4_refused
theorem dX4_slot_0 : decode cX4_slot 0 = .ok (.iload_n 1, 1) := by decide +kernel
theorem dX4_slot_1 : decode cX4_slot 1 = .ok (.invokestatic 150, 3) := by decide +kernel
theorem dX4_slot_4 : decode cX4_slot 4 = .ok (.ifCond .eq 14, 3) := by decide +kernel
theorem dX4_slot_7 : decode cX4_slot 7 = .ok (.iload_n 2, 1) := by decide +kernel
theorem dX4_slot_8 : decode cX4_slot 8 = .ok (.invokestatic 91, 3) := by decide +kernel
theorem dX4_slot_11 : decode cX4_slot 11 = .ok (.ifCond .eq 7, 3) := by decide +kernel
theorem dX4_slot_14 : decode cX4_slot 14 = .ok (.iconst 1, 1) := by decide +kernel
theorem dX4_slot_15 : decode cX4_slot 15 = .ok (.goto 4, 3) := by decide +kernel
theorem dX4_slot_18 : decode cX4_slot 18 = .ok (.iconst 0, 1) := by decide +kernel
theorem dX4_slot_19 : decode cX4_slot 19 = .ok (.istore_n 3, 1) := by decide +kernel
theorem dX4_slot_20 : decode cX4_slot 20 = .ok (.aload_n 0, 1) := by decide +kernel
theorem dX4_slot_21 : decode cX4_slot 21 = .ok (.iload_n 3, 1) := by decide +kernel
theorem dX4_slot_22 : decode cX4_slot 22 = .ok (.ifCond .ne 7, 3) := by decide +kernel
theorem dX4_slot_25 : decode cX4_slot 25 = .ok (.iconst 1, 1) := by decide +kernel
theorem dX4_slot_26 : decode cX4_slot 26 = .ok (.goto 31, 3) := by decide +kernel
theorem dX4_slot_29 : decode cX4_slot 29 = .ok (.aload_n 0, 1) := by decide +kernel
theorem dX4_slot_30 : decode cX4_slot 30 = .ok (.getfield 153, 3) := by decide +kernel
theorem dX4_slot_33 : decode cX4_slot 33 = .ok (.bipush 12, 2) := by decide +kernel
theorem dX4_slot_35 : decode cX4_slot 35 = .ok (.if_icmp .eq 17, 3) := by decide +kernel
theorem dX4_slot_38 : decode cX4_slot 38 = .ok (.aload_n 0, 1) := by decide +kernel
theorem dX4_slot_39 : decode cX4_slot 39 = .ok (.getfield 78, 3) := by decide +kernel
theorem dX4_slot_42 : decode cX4_slot 42 = .ok (.bipush 10, 2) := by decide +kernel
theorem dX4_slot_44 : decode cX4_slot 44 = .ok (.iload_n 1, 1) := by decide +kernel
theorem dX4_slot_45 : decode cX4_slot 45 = .ok (.imul, 1) := by decide +kernel
theorem dX4_slot_46 : decode cX4_slot 46 = .ok (.iload_n 2, 1) := by decide +kernel
theorem dX4_slot_47 : decode cX4_slot 47 = .ok (.iadd, 1) := by decide +kernel
theorem dX4_slot_48 : decode cX4_slot 48 = .ok (.baload, 1) := by decide +kernel
theorem dX4_slot_49 : decode cX4_slot 49 = .ok (.ifCond .eq 7, 3) := by decide +kernel
theorem dX4_slot_52 : decode cX4_slot 52 = .ok (.iconst 2, 1) := by decide +kernel
theorem dX4_slot_53 : decode cX4_slot 53 = .ok (.goto 4, 3) := by decide +kernel
theorem dX4_slot_56 : decode cX4_slot 56 = .ok (.iconst 0, 1) := by decide +kernel
theorem dX4_slot_57 : decode cX4_slot 57 = .ok (.invokevirtual 95, 3) := by decide +kernel
theorem dX4_slot_60 : decode cX4_slot 60 = .ok (.ifCond .eq 5, 3) := by decide +kernel
theorem dX4_slot_63 : decode cX4_slot 63 = .ok (.iconst 0, 1) := by decide +kernel
theorem dX4_slot_64 : decode cX4_slot 64 = .ok (.ireturn, 1) := by decide +kernel
theorem dX4_slot_65 : decode cX4_slot 65 = .ok (.aload_n 0, 1) := by decide +kernel
theorem dX4_slot_66 : decode cX4_slot 66 = .ok (.getfield 78, 3) := by decide +kernel
theorem dX4_slot_69 : decode cX4_slot 69 = .ok (.bipush 10, 2) := by decide +kernel
theorem dX4_slot_71 : decode cX4_slot 71 = .ok (.iload_n 1, 1) := by decide +kernel
theorem dX4_slot_72 : decode cX4_slot 72 = .ok (.imul, 1) := by decide +kernel
theorem dX4_slot_73 : decode cX4_slot 73 = .ok (.iload_n 2, 1) := by decide +kernel
theorem dX4_slot_74 : decode cX4_slot 74 = .ok (.iadd, 1) := by decide +kernel
theorem dX4_slot_75 : decode cX4_slot 75 = .ok (.iconst 1, 1) := by decide +kernel
theorem dX4_slot_76 : decode cX4_slot 76 = .ok (.bastore, 1) := by decide +kernel
theorem dX4_slot_77 : decode cX4_slot 77 = .ok (.aload_n 0, 1) := by decide +kernel
theorem dX4_slot_78 : decode cX4_slot 78 = .ok (.dup, 1) := by decide +kernel
theorem dX4_slot_79 : decode cX4_slot 79 = .ok (.getfield 153, 3) := by decide +kernel
theorem dX4_slot_82 : decode cX4_slot 82 = .ok (.iconst 1, 1) := by decide +kernel
theorem dX4_slot_83 : decode cX4_slot 83 = .ok (.iadd, 1) := by decide +kernel
theorem dX4_slot_84 : decode cX4_slot 84 = .ok (.putfield 153, 3) := by decide +kernel
theorem dX4_slot_87 : decode cX4_slot 87 = .ok (.aload_n 0, 1) := by decide +kernel
theorem dX4_slot_88 : decode cX4_slot 88 = .ok (.getfield 153, 3) := by decide +kernel
theorem dX4_slot_91 : decode cX4_slot 91 = .ok (.ireturn, 1) := by decide +kernel
theorem dX4_frame_0 : decode cX4_frame 0 = .ok (.aload_n 0, 1) := by decide +kernel
theorem dX4_frame_1 : decode cX4_frame 1 = .ok (.iconst 0, 1) := by decide +kernel
theorem dX4_frame_2 : decode cX4_frame 2 = .ok (.putfield 81, 3) := by decide +kernel
theorem dX4_frame_5 : decode cX4_frame 5 = .ok (.aload_n 0, 1) := by decide +kernel
theorem dX4_frame_6 : decode cX4_frame 6 = .ok (.getfield 115, 3) := by decide +kernel
theorem dX4_frame_9 : decode cX4_frame 9 = .ok (.ireturn, 1) := by decide +kernel
set_option maxRecDepth 20000 in
theorem ggX4_shown_X4_in : GoodIn wsX4_shown wsX4_in := goodIn_r _ [8] (by decide +kernel) (by decide +kernel)
set_option maxRecDepth 20000 in
theorem gX4_shown_X4_in : GoodIn wsX4_shown (va_wsS RX4 84 yX4_in wsX4_in) := goodIn_app (goodIn_of _ (by decide +kernel)) ggX4_shown_X4_in
set_option maxRecDepth 20000 in
theorem ggX4_shown_X4_refused : GoodIn wsX4_shown wsX4_refused := goodIn_r _ [12, 13, 14, 15, 16, 17, 18, 19, 20, 21, 22, 23, 24, 25, 26, 27, 28, 29, 30, 31, 32, 33, 34, 35, 36, 37, 38, 39, 40, 41, 42] (by decide +kernel) (by decide +kernel)
set_option maxRecDepth 20000 in
theorem gX4_shown_X4_refused : GoodIn wsX4_shown (wsV RX4 95 RX4 yX4_refused wsX4_refused) := goodIn_app (goodIn_of _ (by decide +kernel)) ggX4_shown_X4_refused
theorem dX4_shown_0 : decode cX4_shown 0 = .ok (.aload_n 0, 1) := by decide +kernel
theorem dX4_shown_1 : decode cX4_shown 1 = .ok (.iload_n 1, 1) := by decide +kernel
theorem dX4_shown_2 : decode cX4_shown 2 = .ok (.iconst 0, 1) := by decide +kernel
theorem dX4_shown_3 : decode cX4_shown 3 = .ok (.aload_n 0, 1) := by decide +kernel
theorem dX4_shown_4 : decode cX4_shown 4 = .ok (.getfield 115, 3) := by decide +kernel
theorem dX4_shown_7 : decode cX4_shown 7 = .ok (.iconst 1, 1) := by decide +kernel
theorem dX4_shown_8 : decode cX4_shown 8 = .ok (.isub, 1) := by decide +kernel
theorem dX4_shown_9 : decode cX4_shown 9 = .ok (.invokestatic 84, 3) := by decide +kernel
theorem dX4_shown_12 : decode cX4_shown 12 = .ok (.ifCond .ne 7, 3) := by decide +kernel
theorem dX4_shown_15 : decode cX4_shown 15 = .ok (.iconst 1, 1) := by decide +kernel
theorem dX4_shown_16 : decode cX4_shown 16 = .ok (.goto 17, 3) := by decide +kernel
theorem dX4_shown_19 : decode cX4_shown 19 = .ok (.iload_n 2, 1) := by decide +kernel
theorem dX4_shown_20 : decode cX4_shown 20 = .ok (.iconst 0, 1) := by decide +kernel
theorem dX4_shown_21 : decode cX4_shown 21 = .ok (.iconst 2, 1) := by decide +kernel
theorem dX4_shown_22 : decode cX4_shown 22 = .ok (.invokestatic 84, 3) := by decide +kernel
theorem dX4_shown_25 : decode cX4_shown 25 = .ok (.ifCond .ne 7, 3) := by decide +kernel
theorem dX4_shown_28 : decode cX4_shown 28 = .ok (.iconst 2, 1) := by decide +kernel
theorem dX4_shown_29 : decode cX4_shown 29 = .ok (.goto 4, 3) := by decide +kernel
theorem dX4_shown_32 : decode cX4_shown 32 = .ok (.iconst 0, 1) := by decide +kernel
theorem dX4_shown_33 : decode cX4_shown 33 = .ok (.invokevirtual 95, 3) := by decide +kernel
theorem dX4_shown_36 : decode cX4_shown 36 = .ok (.ifCond .eq 5, 3) := by decide +kernel
theorem dX4_shown_39 : decode cX4_shown 39 = .ok (.iconst 0, 1) := by decide +kernel
theorem dX4_shown_40 : decode cX4_shown 40 = .ok (.ireturn, 1) := by decide +kernel
theorem dX4_shown_41 : decode cX4_shown 41 = .ok (.iload_n 2, 1) := by decide +kernel
theorem dX4_shown_42 : decode cX4_shown 42 = .ok (.ifCond .ne 12, 3) := by decide +kernel
theorem dX4_shown_45 : decode cX4_shown 45 = .ok (.aload_n 0, 1) := by decide +kernel
theorem dX4_shown_46 : decode cX4_shown 46 = .ok (.getfield 50, 3) := by decide +kernel
theorem dX4_shown_49 : decode cX4_shown 49 = .ok (.iload_n 1, 1) := by decide +kernel
theorem dX4_shown_50 : decode cX4_shown 50 = .ok (.iaload, 1) := by decide +kernel
theorem dX4_shown_51 : decode cX4_shown 51 = .ok (.goto 23, 3) := by decide +kernel
theorem dX4_shown_54 : decode cX4_shown 54 = .ok (.iload_n 2, 1) := by decide +kernel
theorem dX4_shown_55 : decode cX4_shown 55 = .ok (.iconst 1, 1) := by decide +kernel
theorem dX4_shown_56 : decode cX4_shown 56 = .ok (.if_icmp .ne 12, 3) := by decide +kernel
theorem dX4_shown_59 : decode cX4_shown 59 = .ok (.aload_n 0, 1) := by decide +kernel
theorem dX4_shown_60 : decode cX4_shown 60 = .ok (.getfield 53, 3) := by decide +kernel
theorem dX4_shown_63 : decode cX4_shown 63 = .ok (.iload_n 1, 1) := by decide +kernel
theorem dX4_shown_64 : decode cX4_shown 64 = .ok (.iaload, 1) := by decide +kernel
theorem dX4_shown_65 : decode cX4_shown 65 = .ok (.goto 9, 3) := by decide +kernel
theorem dX4_shown_68 : decode cX4_shown 68 = .ok (.aload_n 0, 1) := by decide +kernel
theorem dX4_shown_69 : decode cX4_shown 69 = .ok (.getfield 56, 3) := by decide +kernel
theorem dX4_shown_72 : decode cX4_shown 72 = .ok (.iload_n 1, 1) := by decide +kernel
theorem dX4_shown_73 : decode cX4_shown 73 = .ok (.iaload, 1) := by decide +kernel
theorem dX4_shown_74 : decode cX4_shown 74 = .ok (.ireturn, 1) := by decide +kernel
theorem dX4_seen_0 : decode cX4_seen 0 = .ok (.aload_n 0, 1) := by decide +kernel
theorem dX4_seen_1 : decode cX4_seen 1 = .ok (.iconst 0, 1) := by decide +kernel
theorem dX4_seen_2 : decode cX4_seen 2 = .ok (.putfield 81, 3) := by decide +kernel
theorem dX4_seen_5 : decode cX4_seen 5 = .ok (.aload_n 0, 1) := by decide +kernel
theorem dX4_seen_6 : decode cX4_seen 6 = .ok (.getfield 13, 3) := by decide +kernel
theorem dX4_seen_9 : decode cX4_seen 9 = .ok (.ireturn, 1) := by decide +kernel
theorem dX4_pointsOf_0 : decode cX4_pointsOf 0 = .ok (.iconst 0, 1) := by decide +kernel
theorem dX4_pointsOf_1 : decode cX4_pointsOf 1 = .ok (.istore 4, 2) := by decide +kernel
theorem dX4_pointsOf_3 : decode cX4_pointsOf 3 = .ok (.iconst 0, 1) := by decide +kernel
theorem dX4_pointsOf_4 : decode cX4_pointsOf 4 = .ok (.istore 5, 2) := by decide +kernel
theorem dX4_pointsOf_6 : decode cX4_pointsOf 6 = .ok (.iload 5, 2) := by decide +kernel
theorem dX4_pointsOf_8 : decode cX4_pointsOf 8 = .ok (.aload_n 0, 1) := by decide +kernel
theorem dX4_pointsOf_9 : decode cX4_pointsOf 9 = .ok (.getfield 112, 3) := by decide +kernel
theorem dX4_pointsOf_12 : decode cX4_pointsOf 12 = .ok (.if_icmp .ge 68, 3) := by decide +kernel
theorem dX4_pointsOf_15 : decode cX4_pointsOf 15 = .ok (.iload 4, 2) := by decide +kernel
theorem dX4_pointsOf_17 : decode cX4_pointsOf 17 = .ok (.aload_n 0, 1) := by decide +kernel
theorem dX4_pointsOf_18 : decode cX4_pointsOf 18 = .ok (.getfield 59, 3) := by decide +kernel
theorem dX4_pointsOf_21 : decode cX4_pointsOf 21 = .ok (.iload 5, 2) := by decide +kernel
theorem dX4_pointsOf_23 : decode cX4_pointsOf 23 = .ok (.iaload, 1) := by decide +kernel
theorem dX4_pointsOf_24 : decode cX4_pointsOf 24 = .ok (.iload_n 1, 1) := by decide +kernel
theorem dX4_pointsOf_25 : decode cX4_pointsOf 25 = .ok (.if_icmp .ne 45, 3) := by decide +kernel
theorem dX4_pointsOf_28 : decode cX4_pointsOf 28 = .ok (.aload_n 0, 1) := by decide +kernel
theorem dX4_pointsOf_29 : decode cX4_pointsOf 29 = .ok (.getfield 62, 3) := by decide +kernel
theorem dX4_pointsOf_32 : decode cX4_pointsOf 32 = .ok (.iload 5, 2) := by decide +kernel
theorem dX4_pointsOf_34 : decode cX4_pointsOf 34 = .ok (.iaload, 1) := by decide +kernel
theorem dX4_pointsOf_35 : decode cX4_pointsOf 35 = .ok (.iload_n 2, 1) := by decide +kernel
theorem dX4_pointsOf_36 : decode cX4_pointsOf 36 = .ok (.if_icmp .ne 34, 3) := by decide +kernel
theorem dX4_pointsOf_39 : decode cX4_pointsOf 39 = .ok (.aload_n 0, 1) := by decide +kernel
theorem dX4_pointsOf_40 : decode cX4_pointsOf 40 = .ok (.getfield 71, 3) := by decide +kernel
theorem dX4_pointsOf_43 : decode cX4_pointsOf 43 = .ok (.iload 5, 2) := by decide +kernel
theorem dX4_pointsOf_45 : decode cX4_pointsOf 45 = .ok (.baload, 1) := by decide +kernel
theorem dX4_pointsOf_46 : decode cX4_pointsOf 46 = .ok (.ifCond .ne 24, 3) := by decide +kernel
theorem dX4_pointsOf_49 : decode cX4_pointsOf 49 = .ok (.aload_n 0, 1) := by decide +kernel
theorem dX4_pointsOf_50 : decode cX4_pointsOf 50 = .ok (.getfield 68, 3) := by decide +kernel
theorem dX4_pointsOf_53 : decode cX4_pointsOf 53 = .ok (.iload 5, 2) := by decide +kernel
theorem dX4_pointsOf_55 : decode cX4_pointsOf 55 = .ok (.iaload, 1) := by decide +kernel
theorem dX4_pointsOf_56 : decode cX4_pointsOf 56 = .ok (.iload_n 3, 1) := by decide +kernel
theorem dX4_pointsOf_57 : decode cX4_pointsOf 57 = .ok (.if_icmp .gt 13, 3) := by decide +kernel
theorem dX4_pointsOf_60 : decode cX4_pointsOf 60 = .ok (.aload_n 0, 1) := by decide +kernel
theorem dX4_pointsOf_61 : decode cX4_pointsOf 61 = .ok (.getfield 65, 3) := by decide +kernel
theorem dX4_pointsOf_64 : decode cX4_pointsOf 64 = .ok (.iload 5, 2) := by decide +kernel
theorem dX4_pointsOf_66 : decode cX4_pointsOf 66 = .ok (.iaload, 1) := by decide +kernel
theorem dX4_pointsOf_67 : decode cX4_pointsOf 67 = .ok (.goto 4, 3) := by decide +kernel
theorem dX4_pointsOf_70 : decode cX4_pointsOf 70 = .ok (.iconst 0, 1) := by decide +kernel
theorem dX4_pointsOf_71 : decode cX4_pointsOf 71 = .ok (.iadd, 1) := by decide +kernel
theorem dX4_pointsOf_72 : decode cX4_pointsOf 72 = .ok (.istore 4, 2) := by decide +kernel
theorem dX4_pointsOf_74 : decode cX4_pointsOf 74 = .ok (.iinc 5 1, 3) := by decide +kernel
theorem dX4_pointsOf_77 : decode cX4_pointsOf 77 = .ok (.goto (-71), 3) := by decide +kernel
theorem dX4_pointsOf_80 : decode cX4_pointsOf 80 = .ok (.iload 4, 2) := by decide +kernel
theorem dX4_pointsOf_82 : decode cX4_pointsOf 82 = .ok (.ireturn, 1) := by decide +kernel
set_option maxRecDepth 20000 in
theorem ggX4_points_X4_isFight : GoodIn wsX4_points wsX4_isFight := goodIn_r _ [5, 6, 7, 8, 4, 9, 28, 29, 30, 31, 32, 33, 34, 35, 36, 37, 38, 39, 40, 41, 42, 43, 44, 45, 46, 47, 48, 49, 50, 51, 52, 53, 54, 55, 56] (by decide +kernel) (by decide +kernel)
set_option maxRecDepth 20000 in
theorem gX4_points_X4_isFight : GoodIn wsX4_points (wsV RX4 105 RX4 yX4_isFight wsX4_isFight) := goodIn_app (goodIn_of _ (by decide +kernel)) ggX4_points_X4_isFight
set_option maxRecDepth 20000 in
theorem ggX4_points_X4_isPlayer : GoodIn wsX4_points wsX4_isPlayer := goodIn_r _ [12, 7, 8, 4, 9] (by decide +kernel) (by decide +kernel)
set_option maxRecDepth 20000 in
theorem gX4_points_X4_isPlayer : GoodIn wsX4_points (va_wsS RX4 91 yX4_isPlayer wsX4_isPlayer) := goodIn_app (goodIn_of _ (by decide +kernel)) ggX4_points_X4_isPlayer
set_option maxRecDepth 20000 in
theorem ggX4_points_X4_refused : GoodIn wsX4_points wsX4_refused := goodIn_r _ [16, 17, 28, 29, 30, 31, 32, 33, 34, 35, 36, 37, 38, 39, 40, 41, 42, 43, 44, 45, 46, 47, 48, 49, 50, 51, 52, 53, 54, 55, 56] (by decide +kernel) (by decide +kernel)
set_option maxRecDepth 20000 in
theorem gX4_points_X4_refused : GoodIn wsX4_points (wsV RX4 95 RX4 yX4_refused wsX4_refused) := goodIn_app (goodIn_of _ (by decide +kernel)) ggX4_points_X4_refused
set_option maxRecDepth 20000 in
theorem ggX4_points_X4_pointsOf : GoodIn wsX4_points wsX4_pointsOf := goodIn_r _ [21, 22, 23, 24, 25, 26, 27, 28, 29, 30, 31, 32, 33, 34, 35, 36, 37, 38, 39, 40, 41, 42, 43, 44, 45, 46, 47, 48, 49, 50, 51, 52, 53, 54, 55, 56] (by decide +kernel) (by decide +kernel)
set_option maxRecDepth 20000 in
theorem gX4_points_X4_pointsOf : GoodIn wsX4_points (wsV RX4 108 RX4 yX4_pointsOf wsX4_pointsOf) := goodIn_app (goodIn_of _ (by decide +kernel)) ggX4_points_X4_pointsOf
theorem dX4_points_0 : decode cX4_points 0 = .ok (.aload_n 0, 1) := by decide +kernel
theorem dX4_points_1 : decode cX4_points 1 = .ok (.aload_n 0, 1) := by decide +kernel
theorem dX4_points_2 : decode cX4_points 2 = .ok (.iload_n 1, 1) := by decide +kernel
theorem dX4_points_3 : decode cX4_points 3 = .ok (.invokevirtual 105, 3) := by decide +kernel
theorem dX4_points_6 : decode cX4_points 6 = .ok (.ifCond .eq 14, 3) := by decide +kernel
theorem dX4_points_9 : decode cX4_points 9 = .ok (.iload_n 2, 1) := by decide +kernel
theorem dX4_points_10 : decode cX4_points 10 = .ok (.invokestatic 91, 3) := by decide +kernel
theorem dX4_points_13 : decode cX4_points 13 = .ok (.ifCond .eq 7, 3) := by decide +kernel
theorem dX4_points_16 : decode cX4_points 16 = .ok (.iconst 0, 1) := by decide +kernel
theorem dX4_points_17 : decode cX4_points 17 = .ok (.goto 4, 3) := by decide +kernel
theorem dX4_points_20 : decode cX4_points 20 = .ok (.iconst 1, 1) := by decide +kernel
theorem dX4_points_21 : decode cX4_points 21 = .ok (.invokevirtual 95, 3) := by decide +kernel
theorem dX4_points_24 : decode cX4_points 24 = .ok (.ifCond .eq 7, 3) := by decide +kernel
theorem dX4_points_27 : decode cX4_points 27 = .ok (.iconst 0, 1) := by decide +kernel
theorem dX4_points_28 : decode cX4_points 28 = .ok (.goto 12, 3) := by decide +kernel
theorem dX4_points_31 : decode cX4_points 31 = .ok (.aload_n 0, 1) := by decide +kernel
theorem dX4_points_32 : decode cX4_points 32 = .ok (.iload_n 1, 1) := by decide +kernel
theorem dX4_points_33 : decode cX4_points 33 = .ok (.iload_n 2, 1) := by decide +kernel
theorem dX4_points_34 : decode cX4_points 34 = .ok (.sipush 3000, 3) := by decide +kernel
theorem dX4_points_37 : decode cX4_points 37 = .ok (.invokevirtual 108, 3) := by decide +kernel
theorem dX4_points_40 : decode cX4_points 40 = .ok (.ireturn, 1) := by decide +kernel
set_option maxRecDepth 20000 in
theorem ggX4_overlay_X4_isFight : GoodIn wsX4_overlay wsX4_isFight := goodIn_r _ [6, 7, 8, 9, 5, 10, 29, 30, 31, 32, 33, 34, 35, 36, 37, 38, 39, 40, 41, 42, 43, 44, 45, 46, 47, 48, 49, 50, 51, 52, 53, 54, 55, 56, 57] (by decide +kernel) (by decide +kernel)
set_option maxRecDepth 20000 in
theorem gX4_overlay_X4_isFight : GoodIn wsX4_overlay (wsV RX4 105 RX4 yX4_isFight wsX4_isFight) := goodIn_app (goodIn_of _ (by decide +kernel)) ggX4_overlay_X4_isFight
set_option maxRecDepth 20000 in
theorem ggX4_overlay_X4_isPlayer : GoodIn wsX4_overlay wsX4_isPlayer := goodIn_r _ [13, 8, 9, 5, 10] (by decide +kernel) (by decide +kernel)
set_option maxRecDepth 20000 in
theorem gX4_overlay_X4_isPlayer : GoodIn wsX4_overlay (va_wsS RX4 91 yX4_isPlayer wsX4_isPlayer) := goodIn_app (goodIn_of _ (by decide +kernel)) ggX4_overlay_X4_isPlayer
set_option maxRecDepth 20000 in
theorem ggX4_overlay_X4_refused : GoodIn wsX4_overlay wsX4_refused := goodIn_r _ [17, 18, 29, 30, 31, 32, 33, 34, 35, 36, 37, 38, 39, 40, 41, 42, 43, 44, 45, 46, 47, 48, 49, 50, 51, 52, 53, 54, 55, 56, 57] (by decide +kernel) (by decide +kernel)
set_option maxRecDepth 20000 in
theorem gX4_overlay_X4_refused : GoodIn wsX4_overlay (wsV RX4 95 RX4 yX4_refused wsX4_refused) := goodIn_app (goodIn_of _ (by decide +kernel)) ggX4_overlay_X4_refused
set_option maxRecDepth 20000 in
theorem ggX4_overlay_X4_pointsOf : GoodIn wsX4_overlay wsX4_pointsOf := goodIn_r _ [22, 23, 24, 25, 26, 27, 28, 29, 30, 31, 32, 33, 34, 35, 36, 37, 38, 39, 40, 41, 42, 43, 44, 45, 46, 47, 48, 49, 50, 51, 52, 53, 54, 55, 56, 57] (by decide +kernel) (by decide +kernel)
set_option maxRecDepth 20000 in
theorem gX4_overlay_X4_pointsOf : GoodIn wsX4_overlay (wsV RX4 108 RX4 yX4_pointsOf wsX4_pointsOf) := goodIn_app (goodIn_of _ (by decide +kernel)) ggX4_overlay_X4_pointsOf
theorem dX4_overlay_0 : decode cX4_overlay 0 = .ok (.aload_n 0, 1) := by decide +kernel
theorem dX4_overlay_1 : decode cX4_overlay 1 = .ok (.aload_n 0, 1) := by decide +kernel
theorem dX4_overlay_2 : decode cX4_overlay 2 = .ok (.iload_n 1, 1) := by decide +kernel
theorem dX4_overlay_3 : decode cX4_overlay 3 = .ok (.invokevirtual 105, 3) := by decide +kernel
theorem dX4_overlay_6 : decode cX4_overlay 6 = .ok (.ifCond .eq 14, 3) := by decide +kernel
theorem dX4_overlay_9 : decode cX4_overlay 9 = .ok (.iload_n 2, 1) := by decide +kernel
theorem dX4_overlay_10 : decode cX4_overlay 10 = .ok (.invokestatic 91, 3) := by decide +kernel
theorem dX4_overlay_13 : decode cX4_overlay 13 = .ok (.ifCond .eq 7, 3) := by decide +kernel
theorem dX4_overlay_16 : decode cX4_overlay 16 = .ok (.iconst 0, 1) := by decide +kernel
theorem dX4_overlay_17 : decode cX4_overlay 17 = .ok (.goto 4, 3) := by decide +kernel
theorem dX4_overlay_20 : decode cX4_overlay 20 = .ok (.iconst 1, 1) := by decide +kernel
theorem dX4_overlay_21 : decode cX4_overlay 21 = .ok (.invokevirtual 95, 3) := by decide +kernel
theorem dX4_overlay_24 : decode cX4_overlay 24 = .ok (.ifCond .eq 7, 3) := by decide +kernel
theorem dX4_overlay_27 : decode cX4_overlay 27 = .ok (.iconst 0, 1) := by decide +kernel
theorem dX4_overlay_28 : decode cX4_overlay 28 = .ok (.goto 13, 3) := by decide +kernel
theorem dX4_overlay_31 : decode cX4_overlay 31 = .ok (.aload_n 0, 1) := by decide +kernel
theorem dX4_overlay_32 : decode cX4_overlay 32 = .ok (.iload_n 1, 1) := by decide +kernel
theorem dX4_overlay_33 : decode cX4_overlay 33 = .ok (.iload_n 2, 1) := by decide +kernel
theorem dX4_overlay_34 : decode cX4_overlay 34 = .ok (.aload_n 0, 1) := by decide +kernel
theorem dX4_overlay_35 : decode cX4_overlay 35 = .ok (.getfield 13, 3) := by decide +kernel
theorem dX4_overlay_38 : decode cX4_overlay 38 = .ok (.invokevirtual 108, 3) := by decide +kernel
theorem dX4_overlay_41 : decode cX4_overlay 41 = .ok (.ireturn, 1) := by decide +kernel
set_option maxRecDepth 20000 in
theorem ggX4_fightOf_X4_isFight : GoodIn wsX4_fightOf wsX4_isFight := goodIn_r _ [11, 12, 13, 14, 10, 15, 21, 22, 23, 24, 25, 26, 27, 28, 29, 30, 31, 32, 33, 34, 35, 36, 37, 38, 39, 40, 41, 42, 43, 44, 45, 46, 47, 48, 49] (by decide +kernel) (by decide +kernel)
set_option maxRecDepth 20000 in
theorem gX4_fightOf_X4_isFight : GoodIn wsX4_fightOf (wsV RX4 105 RX4 yX4_isFight wsX4_isFight) := goodIn_app (goodIn_of _ (by decide +kernel)) ggX4_fightOf_X4_isFight
set_option maxRecDepth 20000 in
theorem ggX4_fightOf_X4_in : GoodIn wsX4_fightOf wsX4_in := goodIn_r _ [15] (by decide +kernel) (by decide +kernel)
set_option maxRecDepth 20000 in
theorem gX4_fightOf_X4_in : GoodIn wsX4_fightOf (va_wsS RX4 84 yX4_in wsX4_in) := goodIn_app (goodIn_of _ (by decide +kernel)) ggX4_fightOf_X4_in
set_option maxRecDepth 20000 in
theorem ggX4_fightOf_X4_refused : GoodIn wsX4_fightOf wsX4_refused := goodIn_r _ [19, 20, 21, 22, 23, 24, 25, 26, 27, 28, 29, 30, 31, 32, 33, 34, 35, 36, 37, 38, 39, 40, 41, 42, 43, 44, 45, 46, 47, 48, 49] (by decide +kernel) (by decide +kernel)
set_option maxRecDepth 20000 in
theorem gX4_fightOf_X4_refused : GoodIn wsX4_fightOf (wsV RX4 95 RX4 yX4_refused wsX4_refused) := goodIn_app (goodIn_of _ (by decide +kernel)) ggX4_fightOf_X4_refused
theorem dX4_fightOf_0 : decode cX4_fightOf 0 = .ok (.aload_n 0, 1) := by decide +kernel
theorem dX4_fightOf_1 : decode cX4_fightOf 1 = .ok (.aload_n 0, 1) := by decide +kernel
theorem dX4_fightOf_2 : decode cX4_fightOf 2 = .ok (.iload_n 1, 1) := by decide +kernel
theorem dX4_fightOf_3 : decode cX4_fightOf 3 = .ok (.invokevirtual 105, 3) := by decide +kernel
theorem dX4_fightOf_6 : decode cX4_fightOf 6 = .ok (.ifCond .ne 7, 3) := by decide +kernel
theorem dX4_fightOf_9 : decode cX4_fightOf 9 = .ok (.iconst 1, 1) := by decide +kernel
theorem dX4_fightOf_10 : decode cX4_fightOf 10 = .ok (.goto 17, 3) := by decide +kernel
theorem dX4_fightOf_13 : decode cX4_fightOf 13 = .ok (.iload_n 2, 1) := by decide +kernel
theorem dX4_fightOf_14 : decode cX4_fightOf 14 = .ok (.iconst 0, 1) := by decide +kernel
theorem dX4_fightOf_15 : decode cX4_fightOf 15 = .ok (.iconst 4, 1) := by decide +kernel
theorem dX4_fightOf_16 : decode cX4_fightOf 16 = .ok (.invokestatic 84, 3) := by decide +kernel
theorem dX4_fightOf_19 : decode cX4_fightOf 19 = .ok (.ifCond .ne 7, 3) := by decide +kernel
theorem dX4_fightOf_22 : decode cX4_fightOf 22 = .ok (.iconst 2, 1) := by decide +kernel
theorem dX4_fightOf_23 : decode cX4_fightOf 23 = .ok (.goto 4, 3) := by decide +kernel
theorem dX4_fightOf_26 : decode cX4_fightOf 26 = .ok (.iconst 0, 1) := by decide +kernel
theorem dX4_fightOf_27 : decode cX4_fightOf 27 = .ok (.invokevirtual 95, 3) := by decide +kernel
theorem dX4_fightOf_30 : decode cX4_fightOf 30 = .ok (.ifCond .eq 5, 3) := by decide +kernel
theorem dX4_fightOf_33 : decode cX4_fightOf 33 = .ok (.iconst 0, 1) := by decide +kernel
theorem dX4_fightOf_34 : decode cX4_fightOf 34 = .ok (.ireturn, 1) := by decide +kernel
theorem dX4_fightOf_35 : decode cX4_fightOf 35 = .ok (.iload_n 2, 1) := by decide +kernel
theorem dX4_fightOf_36 : decode cX4_fightOf 36 = .ok (.iconst 4, 1) := by decide +kernel
theorem dX4_fightOf_37 : decode cX4_fightOf 37 = .ok (.if_icmp .ge 51, 3) := by decide +kernel
theorem dX4_fightOf_40 : decode cX4_fightOf 40 = .ok (.iload_n 2, 1) := by decide +kernel
theorem dX4_fightOf_41 : decode cX4_fightOf 41 = .ok (.ifCond .ne 12, 3) := by decide +kernel
theorem dX4_fightOf_44 : decode cX4_fightOf 44 = .ok (.aload_n 0, 1) := by decide +kernel
theorem dX4_fightOf_45 : decode cX4_fightOf 45 = .ok (.getfield 20, 3) := by decide +kernel
theorem dX4_fightOf_48 : decode cX4_fightOf 48 = .ok (.iload_n 1, 1) := by decide +kernel
theorem dX4_fightOf_49 : decode cX4_fightOf 49 = .ok (.iaload, 1) := by decide +kernel
theorem dX4_fightOf_50 : decode cX4_fightOf 50 = .ok (.goto 37, 3) := by decide +kernel
theorem dX4_fightOf_53 : decode cX4_fightOf 53 = .ok (.iload_n 2, 1) := by decide +kernel
theorem dX4_fightOf_54 : decode cX4_fightOf 54 = .ok (.iconst 1, 1) := by decide +kernel
theorem dX4_fightOf_55 : decode cX4_fightOf 55 = .ok (.if_icmp .ne 12, 3) := by decide +kernel
theorem dX4_fightOf_58 : decode cX4_fightOf 58 = .ok (.aload_n 0, 1) := by decide +kernel
theorem dX4_fightOf_59 : decode cX4_fightOf 59 = .ok (.getfield 23, 3) := by decide +kernel
theorem dX4_fightOf_62 : decode cX4_fightOf 62 = .ok (.iload_n 1, 1) := by decide +kernel
theorem dX4_fightOf_63 : decode cX4_fightOf 63 = .ok (.iaload, 1) := by decide +kernel
theorem dX4_fightOf_64 : decode cX4_fightOf 64 = .ok (.goto 23, 3) := by decide +kernel
theorem dX4_fightOf_67 : decode cX4_fightOf 67 = .ok (.iload_n 2, 1) := by decide +kernel
theorem dX4_fightOf_68 : decode cX4_fightOf 68 = .ok (.iconst 2, 1) := by decide +kernel
theorem dX4_fightOf_69 : decode cX4_fightOf 69 = .ok (.if_icmp .ne 12, 3) := by decide +kernel
theorem dX4_fightOf_72 : decode cX4_fightOf 72 = .ok (.aload_n 0, 1) := by decide +kernel
theorem dX4_fightOf_73 : decode cX4_fightOf 73 = .ok (.getfield 26, 3) := by decide +kernel
theorem dX4_fightOf_76 : decode cX4_fightOf 76 = .ok (.iload_n 1, 1) := by decide +kernel
theorem dX4_fightOf_77 : decode cX4_fightOf 77 = .ok (.iaload, 1) := by decide +kernel
theorem dX4_fightOf_78 : decode cX4_fightOf 78 = .ok (.goto 9, 3) := by decide +kernel
theorem dX4_fightOf_81 : decode cX4_fightOf 81 = .ok (.aload_n 0, 1) := by decide +kernel
theorem dX4_fightOf_82 : decode cX4_fightOf 82 = .ok (.getfield 29, 3) := by decide +kernel
theorem dX4_fightOf_85 : decode cX4_fightOf 85 = .ok (.iload_n 1, 1) := by decide +kernel
theorem dX4_fightOf_86 : decode cX4_fightOf 86 = .ok (.iaload, 1) := by decide +kernel
theorem dX4_fightOf_87 : decode cX4_fightOf 87 = .ok (.ireturn, 1) := by decide +kernel
theorem dX4_fightOf_88 : decode cX4_fightOf 88 = .ok (.iconst 0, 1) := by decide +kernel
theorem dX4_fightOf_89 : decode cX4_fightOf 89 = .ok (.istore_n 3, 1) := by decide +kernel
theorem dX4_fightOf_90 : decode cX4_fightOf 90 = .ok (.iconst 0, 1) := by decide +kernel
theorem dX4_fightOf_91 : decode cX4_fightOf 91 = .ok (.istore 4, 2) := by decide +kernel
theorem dX4_fightOf_93 : decode cX4_fightOf 93 = .ok (.iload 4, 2) := by decide +kernel
theorem dX4_fightOf_95 : decode cX4_fightOf 95 = .ok (.aload_n 0, 1) := by decide +kernel
theorem dX4_fightOf_96 : decode cX4_fightOf 96 = .ok (.getfield 115, 3) := by decide +kernel
theorem dX4_fightOf_99 : decode cX4_fightOf 99 = .ok (.if_icmp .ge 28, 3) := by decide +kernel
theorem dX4_fightOf_102 : decode cX4_fightOf 102 = .ok (.iload_n 3, 1) := by decide +kernel
theorem dX4_fightOf_103 : decode cX4_fightOf 103 = .ok (.aload_n 0, 1) := by decide +kernel
theorem dX4_fightOf_104 : decode cX4_fightOf 104 = .ok (.getfield 50, 3) := by decide +kernel
theorem dX4_fightOf_107 : decode cX4_fightOf 107 = .ok (.iload 4, 2) := by decide +kernel
theorem dX4_fightOf_109 : decode cX4_fightOf 109 = .ok (.iaload, 1) := by decide +kernel
theorem dX4_fightOf_110 : decode cX4_fightOf 110 = .ok (.iload_n 1, 1) := by decide +kernel
theorem dX4_fightOf_111 : decode cX4_fightOf 111 = .ok (.if_icmp .ne 7, 3) := by decide +kernel
theorem dX4_fightOf_114 : decode cX4_fightOf 114 = .ok (.iconst 1, 1) := by decide +kernel
theorem dX4_fightOf_115 : decode cX4_fightOf 115 = .ok (.goto 4, 3) := by decide +kernel
theorem dX4_fightOf_118 : decode cX4_fightOf 118 = .ok (.iconst 0, 1) := by decide +kernel
theorem dX4_fightOf_119 : decode cX4_fightOf 119 = .ok (.iadd, 1) := by decide +kernel
theorem dX4_fightOf_120 : decode cX4_fightOf 120 = .ok (.istore_n 3, 1) := by decide +kernel
theorem dX4_fightOf_121 : decode cX4_fightOf 121 = .ok (.iinc 4 1, 3) := by decide +kernel
theorem dX4_fightOf_124 : decode cX4_fightOf 124 = .ok (.goto (-31), 3) := by decide +kernel
theorem dX4_fightOf_127 : decode cX4_fightOf 127 = .ok (.iload_n 3, 1) := by decide +kernel
theorem dX4_fightOf_128 : decode cX4_fightOf 128 = .ok (.ireturn, 1) := by decide +kernel
set_option maxRecDepth 20000 in
theorem ggX4_cameraOf_X4_in : GoodIn wsX4_cameraOf wsX4_in := goodIn_r _ [7] (by decide +kernel) (by decide +kernel)
set_option maxRecDepth 20000 in
theorem gX4_cameraOf_X4_in : GoodIn wsX4_cameraOf (va_wsS RX4 84 yX4_in wsX4_in) := goodIn_app (goodIn_of _ (by decide +kernel)) ggX4_cameraOf_X4_in
set_option maxRecDepth 20000 in
theorem ggX4_cameraOf_X4_refused : GoodIn wsX4_cameraOf wsX4_refused := goodIn_r _ [11, 12, 13, 14, 15, 16, 17, 18, 19, 20, 21, 22, 23, 24, 25, 26, 27, 28, 29, 30, 31, 32, 33, 34, 35, 36, 37, 38, 39, 40, 41] (by decide +kernel) (by decide +kernel)
set_option maxRecDepth 20000 in
theorem gX4_cameraOf_X4_refused : GoodIn wsX4_cameraOf (wsV RX4 95 RX4 yX4_refused wsX4_refused) := goodIn_app (goodIn_of _ (by decide +kernel)) ggX4_cameraOf_X4_refused
theorem dX4_cameraOf_0 : decode cX4_cameraOf 0 = .ok (.aload_n 0, 1) := by decide +kernel
theorem dX4_cameraOf_1 : decode cX4_cameraOf 1 = .ok (.iload_n 1, 1) := by decide +kernel
theorem dX4_cameraOf_2 : decode cX4_cameraOf 2 = .ok (.iconst 0, 1) := by decide +kernel
theorem dX4_cameraOf_3 : decode cX4_cameraOf 3 = .ok (.aload_n 0, 1) := by decide +kernel
theorem dX4_cameraOf_4 : decode cX4_cameraOf 4 = .ok (.getfield 118, 3) := by decide +kernel
theorem dX4_cameraOf_7 : decode cX4_cameraOf 7 = .ok (.iconst 1, 1) := by decide +kernel
theorem dX4_cameraOf_8 : decode cX4_cameraOf 8 = .ok (.isub, 1) := by decide +kernel
theorem dX4_cameraOf_9 : decode cX4_cameraOf 9 = .ok (.invokestatic 84, 3) := by decide +kernel
theorem dX4_cameraOf_12 : decode cX4_cameraOf 12 = .ok (.ifCond .ne 7, 3) := by decide +kernel
theorem dX4_cameraOf_15 : decode cX4_cameraOf 15 = .ok (.iconst 1, 1) := by decide +kernel
theorem dX4_cameraOf_16 : decode cX4_cameraOf 16 = .ok (.goto 17, 3) := by decide +kernel
theorem dX4_cameraOf_19 : decode cX4_cameraOf 19 = .ok (.iload_n 2, 1) := by decide +kernel
theorem dX4_cameraOf_20 : decode cX4_cameraOf 20 = .ok (.iconst 0, 1) := by decide +kernel
theorem dX4_cameraOf_21 : decode cX4_cameraOf 21 = .ok (.iconst 1, 1) := by decide +kernel
theorem dX4_cameraOf_22 : decode cX4_cameraOf 22 = .ok (.invokestatic 84, 3) := by decide +kernel
theorem dX4_cameraOf_25 : decode cX4_cameraOf 25 = .ok (.ifCond .ne 7, 3) := by decide +kernel
theorem dX4_cameraOf_28 : decode cX4_cameraOf 28 = .ok (.iconst 2, 1) := by decide +kernel
theorem dX4_cameraOf_29 : decode cX4_cameraOf 29 = .ok (.goto 4, 3) := by decide +kernel
theorem dX4_cameraOf_32 : decode cX4_cameraOf 32 = .ok (.iconst 0, 1) := by decide +kernel
theorem dX4_cameraOf_33 : decode cX4_cameraOf 33 = .ok (.invokevirtual 95, 3) := by decide +kernel
theorem dX4_cameraOf_36 : decode cX4_cameraOf 36 = .ok (.ifCond .eq 5, 3) := by decide +kernel
theorem dX4_cameraOf_39 : decode cX4_cameraOf 39 = .ok (.iconst 0, 1) := by decide +kernel
theorem dX4_cameraOf_40 : decode cX4_cameraOf 40 = .ok (.ireturn, 1) := by decide +kernel
theorem dX4_cameraOf_41 : decode cX4_cameraOf 41 = .ok (.iload_n 2, 1) := by decide +kernel
theorem dX4_cameraOf_42 : decode cX4_cameraOf 42 = .ok (.ifCond .ne 12, 3) := by decide +kernel
theorem dX4_cameraOf_45 : decode cX4_cameraOf 45 = .ok (.aload_n 0, 1) := by decide +kernel
theorem dX4_cameraOf_46 : decode cX4_cameraOf 46 = .ok (.getfield 38, 3) := by decide +kernel
theorem dX4_cameraOf_49 : decode cX4_cameraOf 49 = .ok (.iload_n 1, 1) := by decide +kernel
theorem dX4_cameraOf_50 : decode cX4_cameraOf 50 = .ok (.iaload, 1) := by decide +kernel
theorem dX4_cameraOf_51 : decode cX4_cameraOf 51 = .ok (.goto 9, 3) := by decide +kernel
theorem dX4_cameraOf_54 : decode cX4_cameraOf 54 = .ok (.aload_n 0, 1) := by decide +kernel
theorem dX4_cameraOf_55 : decode cX4_cameraOf 55 = .ok (.getfield 41, 3) := by decide +kernel
theorem dX4_cameraOf_58 : decode cX4_cameraOf 58 = .ok (.iload_n 1, 1) := by decide +kernel
theorem dX4_cameraOf_59 : decode cX4_cameraOf 59 = .ok (.iaload, 1) := by decide +kernel
theorem dX4_cameraOf_60 : decode cX4_cameraOf 60 = .ok (.ireturn, 1) := by decide +kernel
theorem dX4_countedFor_0 : decode cX4_countedFor 0 = .ok (.iconst 0, 1) := by decide +kernel
theorem dX4_countedFor_1 : decode cX4_countedFor 1 = .ok (.istore_n 2, 1) := by decide +kernel
theorem dX4_countedFor_2 : decode cX4_countedFor 2 = .ok (.iconst 0, 1) := by decide +kernel
theorem dX4_countedFor_3 : decode cX4_countedFor 3 = .ok (.istore_n 3, 1) := by decide +kernel
theorem dX4_countedFor_4 : decode cX4_countedFor 4 = .ok (.iload_n 3, 1) := by decide +kernel
theorem dX4_countedFor_5 : decode cX4_countedFor 5 = .ok (.aload_n 0, 1) := by decide +kernel
theorem dX4_countedFor_6 : decode cX4_countedFor 6 = .ok (.getfield 115, 3) := by decide +kernel
theorem dX4_countedFor_9 : decode cX4_countedFor 9 = .ok (.if_icmp .ge 27, 3) := by decide +kernel
theorem dX4_countedFor_12 : decode cX4_countedFor 12 = .ok (.iload_n 2, 1) := by decide +kernel
theorem dX4_countedFor_13 : decode cX4_countedFor 13 = .ok (.aload_n 0, 1) := by decide +kernel
theorem dX4_countedFor_14 : decode cX4_countedFor 14 = .ok (.getfield 56, 3) := by decide +kernel
theorem dX4_countedFor_17 : decode cX4_countedFor 17 = .ok (.iload_n 3, 1) := by decide +kernel
theorem dX4_countedFor_18 : decode cX4_countedFor 18 = .ok (.iaload, 1) := by decide +kernel
theorem dX4_countedFor_19 : decode cX4_countedFor 19 = .ok (.iload_n 1, 1) := by decide +kernel
theorem dX4_countedFor_20 : decode cX4_countedFor 20 = .ok (.if_icmp .ne 7, 3) := by decide +kernel
theorem dX4_countedFor_23 : decode cX4_countedFor 23 = .ok (.iconst 1, 1) := by decide +kernel
theorem dX4_countedFor_24 : decode cX4_countedFor 24 = .ok (.goto 4, 3) := by decide +kernel
theorem dX4_countedFor_27 : decode cX4_countedFor 27 = .ok (.iconst 0, 1) := by decide +kernel
theorem dX4_countedFor_28 : decode cX4_countedFor 28 = .ok (.iadd, 1) := by decide +kernel
theorem dX4_countedFor_29 : decode cX4_countedFor 29 = .ok (.istore_n 2, 1) := by decide +kernel
theorem dX4_countedFor_30 : decode cX4_countedFor 30 = .ok (.iinc 3 1, 3) := by decide +kernel
theorem dX4_countedFor_33 : decode cX4_countedFor 33 = .ok (.goto (-29), 3) := by decide +kernel
theorem dX4_countedFor_36 : decode cX4_countedFor 36 = .ok (.iload_n 2, 1) := by decide +kernel
theorem dX4_countedFor_37 : decode cX4_countedFor 37 = .ok (.ireturn, 1) := by decide +kernel
set_option maxRecDepth 20000 in
theorem ggX4_owedTo_X4_countedFor : GoodIn wsX4_owedTo wsX4_countedFor := goodIn_r _ [6, 7, 8, 9, 10, 11, 12, 13, 14, 15, 16, 17, 18, 19, 20, 21, 22, 23, 24, 25, 26, 27, 28, 29, 30, 31, 32, 33, 34, 35, 36, 37] (by decide +kernel) (by decide +kernel)
set_option maxRecDepth 20000 in
theorem gX4_owedTo_X4_countedFor : GoodIn wsX4_owedTo (wsV RX4 156 RX4 yX4_countedFor wsX4_countedFor) := goodIn_app (goodIn_of _ (by decide +kernel)) ggX4_owedTo_X4_countedFor
theorem dX4_owedTo_0 : decode cX4_owedTo 0 = .ok (.aload_n 0, 1) := by decide +kernel
theorem dX4_owedTo_1 : decode cX4_owedTo 1 = .ok (.getfield 75, 3) := by decide +kernel
theorem dX4_owedTo_4 : decode cX4_owedTo 4 = .ok (.iload_n 1, 1) := by decide +kernel
theorem dX4_owedTo_5 : decode cX4_owedTo 5 = .ok (.iaload, 1) := by decide +kernel
theorem dX4_owedTo_6 : decode cX4_owedTo 6 = .ok (.aload_n 0, 1) := by decide +kernel
theorem dX4_owedTo_7 : decode cX4_owedTo 7 = .ok (.iload_n 1, 1) := by decide +kernel
theorem dX4_owedTo_8 : decode cX4_owedTo 8 = .ok (.invokevirtual 156, 3) := by decide +kernel
theorem dX4_owedTo_11 : decode cX4_owedTo 11 = .ok (.isub, 1) := by decide +kernel
theorem dX4_owedTo_12 : decode cX4_owedTo 12 = .ok (.istore_n 2, 1) := by decide +kernel
theorem dX4_owedTo_13 : decode cX4_owedTo 13 = .ok (.iload_n 2, 1) := by decide +kernel
theorem dX4_owedTo_14 : decode cX4_owedTo 14 = .ok (.ifCond .ge 7, 3) := by decide +kernel
theorem dX4_owedTo_17 : decode cX4_owedTo 17 = .ok (.iconst 0, 1) := by decide +kernel
theorem dX4_owedTo_18 : decode cX4_owedTo 18 = .ok (.goto 4, 3) := by decide +kernel
theorem dX4_owedTo_21 : decode cX4_owedTo 21 = .ok (.iload_n 2, 1) := by decide +kernel
theorem dX4_owedTo_22 : decode cX4_owedTo 22 = .ok (.ireturn, 1) := by decide +kernel
set_option maxRecDepth 20000 in
theorem ggX4_counted_X4_isSponsor : GoodIn wsX4_counted wsX4_isSponsor := goodIn_r _ [4, 5, 6, 3, 7] (by decide +kernel) (by decide +kernel)
set_option maxRecDepth 20000 in
theorem gX4_counted_X4_isSponsor : GoodIn wsX4_counted (va_wsS RX4 150 yX4_isSponsor wsX4_isSponsor) := goodIn_app (goodIn_of _ (by decide +kernel)) ggX4_counted_X4_isSponsor
set_option maxRecDepth 20000 in
theorem ggX4_counted_X4_refused : GoodIn wsX4_counted wsX4_refused := goodIn_r _ [11, 12, 19, 20, 21, 22, 23, 24, 25, 26, 27, 28, 29, 30, 31, 32, 33, 34, 35, 36, 37, 38, 39, 40, 41, 42, 43, 44, 45, 46, 47] (by decide +kernel) (by decide +kernel)
set_option maxRecDepth 20000 in
theorem gX4_counted_X4_refused : GoodIn wsX4_counted (wsV RX4 95 RX4 yX4_refused wsX4_refused) := goodIn_app (goodIn_of _ (by decide +kernel)) ggX4_counted_X4_refused
set_option maxRecDepth 20000 in
theorem ggX4_counted_X4_countedFor : GoodIn wsX4_counted wsX4_countedFor := goodIn_r _ [16, 17, 18, 19, 20, 21, 22, 23, 24, 25, 26, 27, 28, 29, 30, 31, 32, 33, 34, 35, 36, 37, 38, 39, 40, 41, 42, 43, 44, 45, 46, 47] (by decide +kernel) (by decide +kernel)
set_option maxRecDepth 20000 in
theorem gX4_counted_X4_countedFor : GoodIn wsX4_counted (wsV RX4 156 RX4 yX4_countedFor wsX4_countedFor) := goodIn_app (goodIn_of _ (by decide +kernel)) ggX4_counted_X4_countedFor
theorem dX4_counted_0 : decode cX4_counted 0 = .ok (.aload_n 0, 1) := by decide +kernel
theorem dX4_counted_1 : decode cX4_counted 1 = .ok (.iload_n 1, 1) := by decide +kernel
theorem dX4_counted_2 : decode cX4_counted 2 = .ok (.invokestatic 150, 3) := by decide +kernel
theorem dX4_counted_5 : decode cX4_counted 5 = .ok (.ifCond .eq 7, 3) := by decide +kernel
theorem dX4_counted_8 : decode cX4_counted 8 = .ok (.iconst 0, 1) := by decide +kernel
theorem dX4_counted_9 : decode cX4_counted 9 = .ok (.goto 4, 3) := by decide +kernel
theorem dX4_counted_12 : decode cX4_counted 12 = .ok (.iconst 1, 1) := by decide +kernel
theorem dX4_counted_13 : decode cX4_counted 13 = .ok (.invokevirtual 95, 3) := by decide +kernel
theorem dX4_counted_16 : decode cX4_counted 16 = .ok (.ifCond .eq 7, 3) := by decide +kernel
theorem dX4_counted_19 : decode cX4_counted 19 = .ok (.iconst 0, 1) := by decide +kernel
theorem dX4_counted_20 : decode cX4_counted 20 = .ok (.goto 8, 3) := by decide +kernel
theorem dX4_counted_23 : decode cX4_counted 23 = .ok (.aload_n 0, 1) := by decide +kernel
theorem dX4_counted_24 : decode cX4_counted 24 = .ok (.iload_n 1, 1) := by decide +kernel
theorem dX4_counted_25 : decode cX4_counted 25 = .ok (.invokevirtual 156, 3) := by decide +kernel
theorem dX4_counted_28 : decode cX4_counted 28 = .ok (.ireturn, 1) := by decide +kernel
set_option maxRecDepth 20000 in
theorem ggX4_countedAnew_X4_counted : GoodIn wsX4_countedAnew wsX4_counted := goodIn_r _ [5, 6, 7, 4, 8, 9, 10, 11, 12, 13, 14, 15, 16, 17, 18, 19, 20, 21, 22, 23, 24, 25, 26, 27, 28, 29, 30, 31, 32, 33, 34, 35, 36, 37, 38, 39, 40, 41, 42, 43, 44, 45, 46, 47, 48, 49, 50, 51] (by decide +kernel) (by decide +kernel)
set_option maxRecDepth 20000 in
theorem gX4_countedAnew_X4_counted : GoodIn wsX4_countedAnew (wsV RX4 159 RX4 yX4_counted wsX4_counted) := goodIn_app (goodIn_of _ (by decide +kernel)) ggX4_countedAnew_X4_counted
theorem dX4_countedAnew_0 : decode cX4_countedAnew 0 = .ok (.aload_n 0, 1) := by decide +kernel
theorem dX4_countedAnew_1 : decode cX4_countedAnew 1 = .ok (.iload_n 1, 1) := by decide +kernel
theorem dX4_countedAnew_2 : decode cX4_countedAnew 2 = .ok (.invokevirtual 159, 3) := by decide +kernel
theorem dX4_countedAnew_5 : decode cX4_countedAnew 5 = .ok (.ireturn, 1) := by decide +kernel
set_option maxRecDepth 20000 in
theorem ggX4_owed_X4_isSponsor : GoodIn wsX4_owed wsX4_isSponsor := goodIn_r _ [4, 5, 6, 3, 7] (by decide +kernel) (by decide +kernel)
set_option maxRecDepth 20000 in
theorem gX4_owed_X4_isSponsor : GoodIn wsX4_owed (va_wsS RX4 150 yX4_isSponsor wsX4_isSponsor) := goodIn_app (goodIn_of _ (by decide +kernel)) ggX4_owed_X4_isSponsor
set_option maxRecDepth 20000 in
theorem ggX4_owed_X4_refused : GoodIn wsX4_owed wsX4_refused := goodIn_r _ [11, 12, 24, 25, 26, 27, 28, 29, 30, 31, 32, 33, 34, 35, 36, 37, 38, 39, 40, 41, 42, 43, 44, 45, 46, 47, 48, 49, 50, 51, 52] (by decide +kernel) (by decide +kernel)
set_option maxRecDepth 20000 in
theorem gX4_owed_X4_refused : GoodIn wsX4_owed (wsV RX4 95 RX4 yX4_refused wsX4_refused) := goodIn_app (goodIn_of _ (by decide +kernel)) ggX4_owed_X4_refused
set_option maxRecDepth 20000 in
theorem ggX4_owed_X4_owedTo : GoodIn wsX4_owed wsX4_owedTo := goodIn_r _ [16, 17, 18, 19, 20, 3, 21, 22, 23, 24, 25, 26, 27, 28, 29, 30, 31, 32, 33, 34, 35, 36, 37, 38, 39, 40, 41, 42, 43, 44, 45, 46, 47, 48, 49, 50, 51, 52] (by decide +kernel) (by decide +kernel)
set_option maxRecDepth 20000 in
theorem gX4_owed_X4_owedTo : GoodIn wsX4_owed (wsV RX4 128 RX4 yX4_owedTo wsX4_owedTo) := goodIn_app (goodIn_of _ (by decide +kernel)) ggX4_owed_X4_owedTo
theorem dX4_owed_0 : decode cX4_owed 0 = .ok (.aload_n 0, 1) := by decide +kernel
theorem dX4_owed_1 : decode cX4_owed 1 = .ok (.iload_n 1, 1) := by decide +kernel
theorem dX4_owed_2 : decode cX4_owed 2 = .ok (.invokestatic 150, 3) := by decide +kernel
theorem dX4_owed_5 : decode cX4_owed 5 = .ok (.ifCond .eq 7, 3) := by decide +kernel
theorem dX4_owed_8 : decode cX4_owed 8 = .ok (.iconst 0, 1) := by decide +kernel
theorem dX4_owed_9 : decode cX4_owed 9 = .ok (.goto 4, 3) := by decide +kernel
theorem dX4_owed_12 : decode cX4_owed 12 = .ok (.iconst 1, 1) := by decide +kernel
theorem dX4_owed_13 : decode cX4_owed 13 = .ok (.invokevirtual 95, 3) := by decide +kernel
theorem dX4_owed_16 : decode cX4_owed 16 = .ok (.ifCond .eq 7, 3) := by decide +kernel
theorem dX4_owed_19 : decode cX4_owed 19 = .ok (.iconst 0, 1) := by decide +kernel
theorem dX4_owed_20 : decode cX4_owed 20 = .ok (.goto 8, 3) := by decide +kernel
theorem dX4_owed_23 : decode cX4_owed 23 = .ok (.aload_n 0, 1) := by decide +kernel
theorem dX4_owed_24 : decode cX4_owed 24 = .ok (.iload_n 1, 1) := by decide +kernel
theorem dX4_owed_25 : decode cX4_owed 25 = .ok (.invokevirtual 128, 3) := by decide +kernel
theorem dX4_owed_28 : decode cX4_owed 28 = .ok (.ireturn, 1) := by decide +kernel
theorem dX4_wins_0 : decode cX4_wins 0 = .ok (.iconst 0, 1) := by decide +kernel
theorem dX4_wins_1 : decode cX4_wins 1 = .ok (.istore_n 2, 1) := by decide +kernel
theorem dX4_wins_2 : decode cX4_wins 2 = .ok (.iconst 0, 1) := by decide +kernel
theorem dX4_wins_3 : decode cX4_wins 3 = .ok (.istore_n 3, 1) := by decide +kernel
theorem dX4_wins_4 : decode cX4_wins 4 = .ok (.iload_n 3, 1) := by decide +kernel
theorem dX4_wins_5 : decode cX4_wins 5 = .ok (.aload_n 0, 1) := by decide +kernel
theorem dX4_wins_6 : decode cX4_wins 6 = .ok (.getfield 88, 3) := by decide +kernel
theorem dX4_wins_9 : decode cX4_wins 9 = .ok (.if_icmp .ge 37, 3) := by decide +kernel
theorem dX4_wins_12 : decode cX4_wins 12 = .ok (.iload_n 2, 1) := by decide +kernel
theorem dX4_wins_13 : decode cX4_wins 13 = .ok (.aload_n 0, 1) := by decide +kernel
theorem dX4_wins_14 : decode cX4_wins 14 = .ok (.getfield 20, 3) := by decide +kernel
theorem dX4_wins_17 : decode cX4_wins 17 = .ok (.iload_n 3, 1) := by decide +kernel
theorem dX4_wins_18 : decode cX4_wins 18 = .ok (.iaload, 1) := by decide +kernel
theorem dX4_wins_19 : decode cX4_wins 19 = .ok (.iconst 1, 1) := by decide +kernel
theorem dX4_wins_20 : decode cX4_wins 20 = .ok (.if_icmp .ne 17, 3) := by decide +kernel
theorem dX4_wins_23 : decode cX4_wins 23 = .ok (.aload_n 0, 1) := by decide +kernel
theorem dX4_wins_24 : decode cX4_wins 24 = .ok (.getfield 29, 3) := by decide +kernel
theorem dX4_wins_27 : decode cX4_wins 27 = .ok (.iload_n 3, 1) := by decide +kernel
theorem dX4_wins_28 : decode cX4_wins 28 = .ok (.iaload, 1) := by decide +kernel
theorem dX4_wins_29 : decode cX4_wins 29 = .ok (.iload_n 1, 1) := by decide +kernel
theorem dX4_wins_30 : decode cX4_wins 30 = .ok (.if_icmp .ne 7, 3) := by decide +kernel
theorem dX4_wins_33 : decode cX4_wins 33 = .ok (.iconst 1, 1) := by decide +kernel
theorem dX4_wins_34 : decode cX4_wins 34 = .ok (.goto 4, 3) := by decide +kernel
theorem dX4_wins_37 : decode cX4_wins 37 = .ok (.iconst 0, 1) := by decide +kernel
theorem dX4_wins_38 : decode cX4_wins 38 = .ok (.iadd, 1) := by decide +kernel
theorem dX4_wins_39 : decode cX4_wins 39 = .ok (.istore_n 2, 1) := by decide +kernel
theorem dX4_wins_40 : decode cX4_wins 40 = .ok (.iinc 3 1, 3) := by decide +kernel
theorem dX4_wins_43 : decode cX4_wins 43 = .ok (.goto (-39), 3) := by decide +kernel
theorem dX4_wins_46 : decode cX4_wins 46 = .ok (.iload_n 2, 1) := by decide +kernel
theorem dX4_wins_47 : decode cX4_wins 47 = .ok (.ireturn, 1) := by decide +kernel
set_option maxRecDepth 20000 in
theorem ggX4_leader_X4_isPlayer : GoodIn wsX4_leader wsX4_isPlayer := goodIn_r _ [4, 5, 6, 3, 7] (by decide +kernel) (by decide +kernel)
set_option maxRecDepth 20000 in
theorem gX4_leader_X4_isPlayer : GoodIn wsX4_leader (va_wsS RX4 91 yX4_isPlayer wsX4_isPlayer) := goodIn_app (goodIn_of _ (by decide +kernel)) ggX4_leader_X4_isPlayer
set_option maxRecDepth 20000 in
theorem ggX4_leader_X4_refused : GoodIn wsX4_leader wsX4_refused := goodIn_r _ [11, 12, 20, 21, 22, 23, 24, 25, 26, 27, 28, 29, 30, 31, 32, 33, 34, 35, 36, 37, 38, 39, 40, 41, 42, 43, 44, 45, 46, 47, 48] (by decide +kernel) (by decide +kernel)
set_option maxRecDepth 20000 in
theorem gX4_leader_X4_refused : GoodIn wsX4_leader (wsV RX4 95 RX4 yX4_refused wsX4_refused) := goodIn_app (goodIn_of _ (by decide +kernel)) ggX4_leader_X4_refused
set_option maxRecDepth 20000 in
theorem ggX4_leader_X4_wins : GoodIn wsX4_leader wsX4_wins := goodIn_r _ [16, 17, 18, 19, 20, 21, 22, 23, 24, 25, 26, 27, 28, 29, 30, 31, 32, 33, 34, 35, 36, 37, 38, 39, 40, 41, 42, 43, 44, 45, 46, 47, 48] (by decide +kernel) (by decide +kernel)
set_option maxRecDepth 20000 in
theorem gX4_leader_X4_wins : GoodIn wsX4_leader (wsV RX4 162 RX4 yX4_wins wsX4_wins) := goodIn_app (goodIn_of _ (by decide +kernel)) ggX4_leader_X4_wins
theorem dX4_leader_0 : decode cX4_leader 0 = .ok (.aload_n 0, 1) := by decide +kernel
theorem dX4_leader_1 : decode cX4_leader 1 = .ok (.iload_n 1, 1) := by decide +kernel
theorem dX4_leader_2 : decode cX4_leader 2 = .ok (.invokestatic 91, 3) := by decide +kernel
theorem dX4_leader_5 : decode cX4_leader 5 = .ok (.ifCond .eq 7, 3) := by decide +kernel
theorem dX4_leader_8 : decode cX4_leader 8 = .ok (.iconst 0, 1) := by decide +kernel
theorem dX4_leader_9 : decode cX4_leader 9 = .ok (.goto 4, 3) := by decide +kernel
theorem dX4_leader_12 : decode cX4_leader 12 = .ok (.iconst 1, 1) := by decide +kernel
theorem dX4_leader_13 : decode cX4_leader 13 = .ok (.invokevirtual 95, 3) := by decide +kernel
theorem dX4_leader_16 : decode cX4_leader 16 = .ok (.ifCond .eq 5, 3) := by decide +kernel
theorem dX4_leader_19 : decode cX4_leader 19 = .ok (.iconst 0, 1) := by decide +kernel
theorem dX4_leader_20 : decode cX4_leader 20 = .ok (.ireturn, 1) := by decide +kernel
theorem dX4_leader_21 : decode cX4_leader 21 = .ok (.iconst 0, 1) := by decide +kernel
theorem dX4_leader_22 : decode cX4_leader 22 = .ok (.istore_n 2, 1) := by decide +kernel
theorem dX4_leader_23 : decode cX4_leader 23 = .ok (.iconst 0, 1) := by decide +kernel
theorem dX4_leader_24 : decode cX4_leader 24 = .ok (.istore_n 3, 1) := by decide +kernel
theorem dX4_leader_25 : decode cX4_leader 25 = .ok (.iload_n 3, 1) := by decide +kernel
theorem dX4_leader_26 : decode cX4_leader 26 = .ok (.bipush 10, 2) := by decide +kernel
theorem dX4_leader_28 : decode cX4_leader 28 = .ok (.if_icmp .ge 84, 3) := by decide +kernel
theorem dX4_leader_31 : decode cX4_leader 31 = .ok (.iconst 0, 1) := by decide +kernel
theorem dX4_leader_32 : decode cX4_leader 32 = .ok (.istore 4, 2) := by decide +kernel
theorem dX4_leader_34 : decode cX4_leader 34 = .ok (.iconst 0, 1) := by decide +kernel
theorem dX4_leader_35 : decode cX4_leader 35 = .ok (.istore 5, 2) := by decide +kernel
theorem dX4_leader_37 : decode cX4_leader 37 = .ok (.iload 5, 2) := by decide +kernel
theorem dX4_leader_39 : decode cX4_leader 39 = .ok (.bipush 10, 2) := by decide +kernel
theorem dX4_leader_41 : decode cX4_leader 41 = .ok (.if_icmp .ge 53, 3) := by decide +kernel
theorem dX4_leader_44 : decode cX4_leader 44 = .ok (.iload 4, 2) := by decide +kernel
theorem dX4_leader_46 : decode cX4_leader 46 = .ok (.aload_n 0, 1) := by decide +kernel
theorem dX4_leader_47 : decode cX4_leader 47 = .ok (.iload 5, 2) := by decide +kernel
theorem dX4_leader_49 : decode cX4_leader 49 = .ok (.invokevirtual 162, 3) := by decide +kernel
theorem dX4_leader_52 : decode cX4_leader 52 = .ok (.aload_n 0, 1) := by decide +kernel
theorem dX4_leader_53 : decode cX4_leader 53 = .ok (.iload_n 3, 1) := by decide +kernel
theorem dX4_leader_54 : decode cX4_leader 54 = .ok (.invokevirtual 162, 3) := by decide +kernel
theorem dX4_leader_57 : decode cX4_leader 57 = .ok (.if_icmp .gt 23, 3) := by decide +kernel
theorem dX4_leader_60 : decode cX4_leader 60 = .ok (.aload_n 0, 1) := by decide +kernel
theorem dX4_leader_61 : decode cX4_leader 61 = .ok (.iload 5, 2) := by decide +kernel
theorem dX4_leader_63 : decode cX4_leader 63 = .ok (.invokevirtual 162, 3) := by decide +kernel
theorem dX4_leader_66 : decode cX4_leader 66 = .ok (.aload_n 0, 1) := by decide +kernel
theorem dX4_leader_67 : decode cX4_leader 67 = .ok (.iload_n 3, 1) := by decide +kernel
theorem dX4_leader_68 : decode cX4_leader 68 = .ok (.invokevirtual 162, 3) := by decide +kernel
theorem dX4_leader_71 : decode cX4_leader 71 = .ok (.if_icmp .ne 13, 3) := by decide +kernel
theorem dX4_leader_74 : decode cX4_leader 74 = .ok (.iload 5, 2) := by decide +kernel
theorem dX4_leader_76 : decode cX4_leader 76 = .ok (.iload_n 3, 1) := by decide +kernel
theorem dX4_leader_77 : decode cX4_leader 77 = .ok (.if_icmp .ge 7, 3) := by decide +kernel
theorem dX4_leader_80 : decode cX4_leader 80 = .ok (.iconst 1, 1) := by decide +kernel
theorem dX4_leader_81 : decode cX4_leader 81 = .ok (.goto 4, 3) := by decide +kernel
theorem dX4_leader_84 : decode cX4_leader 84 = .ok (.iconst 0, 1) := by decide +kernel
theorem dX4_leader_85 : decode cX4_leader 85 = .ok (.iadd, 1) := by decide +kernel
theorem dX4_leader_86 : decode cX4_leader 86 = .ok (.istore 4, 2) := by decide +kernel
theorem dX4_leader_88 : decode cX4_leader 88 = .ok (.iinc 5 1, 3) := by decide +kernel
theorem dX4_leader_91 : decode cX4_leader 91 = .ok (.goto (-54), 3) := by decide +kernel
theorem dX4_leader_94 : decode cX4_leader 94 = .ok (.iload 4, 2) := by decide +kernel
theorem dX4_leader_96 : decode cX4_leader 96 = .ok (.iload_n 1, 1) := by decide +kernel
theorem dX4_leader_97 : decode cX4_leader 97 = .ok (.if_icmp .ne 7, 3) := by decide +kernel
theorem dX4_leader_100 : decode cX4_leader 100 = .ok (.iload_n 3, 1) := by decide +kernel
theorem dX4_leader_101 : decode cX4_leader 101 = .ok (.goto 4, 3) := by decide +kernel
theorem dX4_leader_104 : decode cX4_leader 104 = .ok (.iload_n 2, 1) := by decide +kernel
theorem dX4_leader_105 : decode cX4_leader 105 = .ok (.istore_n 2, 1) := by decide +kernel
theorem dX4_leader_106 : decode cX4_leader 106 = .ok (.iinc 3 1, 3) := by decide +kernel
theorem dX4_leader_109 : decode cX4_leader 109 = .ok (.goto (-84), 3) := by decide +kernel
theorem dX4_leader_112 : decode cX4_leader 112 = .ok (.iload_n 2, 1) := by decide +kernel
theorem dX4_leader_113 : decode cX4_leader 113 = .ok (.ireturn, 1) := by decide +kernel
theorem dJ6_bitCount_0f7a4_0 : decode cJ6_bitCount_0f7a4 0 = .ok (.iload_n 0, 1) := by decide +kernel
theorem dJ6_bitCount_0f7a4_1 : decode cJ6_bitCount_0f7a4 1 = .ok (.iload_n 0, 1) := by decide +kernel
theorem dJ6_bitCount_0f7a4_2 : decode cJ6_bitCount_0f7a4 2 = .ok (.iconst 1, 1) := by decide +kernel
theorem dJ6_bitCount_0f7a4_3 : decode cJ6_bitCount_0f7a4 3 = .ok (.iushr, 1) := by decide +kernel
theorem dJ6_bitCount_0f7a4_4 : decode cJ6_bitCount_0f7a4 4 = .ok (.ldc_w 265, 3) := by decide +kernel
theorem dJ6_bitCount_0f7a4_7 : decode cJ6_bitCount_0f7a4 7 = .ok (.iand, 1) := by decide +kernel
theorem dJ6_bitCount_0f7a4_8 : decode cJ6_bitCount_0f7a4 8 = .ok (.isub, 1) := by decide +kernel
theorem dJ6_bitCount_0f7a4_9 : decode cJ6_bitCount_0f7a4 9 = .ok (.istore_n 0, 1) := by decide +kernel
theorem dJ6_bitCount_0f7a4_10 : decode cJ6_bitCount_0f7a4 10 = .ok (.iload_n 0, 1) := by decide +kernel
theorem dJ6_bitCount_0f7a4_11 : decode cJ6_bitCount_0f7a4 11 = .ok (.ldc_w 266, 3) := by decide +kernel
theorem dJ6_bitCount_0f7a4_14 : decode cJ6_bitCount_0f7a4 14 = .ok (.iand, 1) := by decide +kernel
theorem dJ6_bitCount_0f7a4_15 : decode cJ6_bitCount_0f7a4 15 = .ok (.iload_n 0, 1) := by decide +kernel
theorem dJ6_bitCount_0f7a4_16 : decode cJ6_bitCount_0f7a4 16 = .ok (.iconst 2, 1) := by decide +kernel
theorem dJ6_bitCount_0f7a4_17 : decode cJ6_bitCount_0f7a4 17 = .ok (.iushr, 1) := by decide +kernel
theorem dJ6_bitCount_0f7a4_18 : decode cJ6_bitCount_0f7a4 18 = .ok (.ldc_w 266, 3) := by decide +kernel
theorem dJ6_bitCount_0f7a4_21 : decode cJ6_bitCount_0f7a4 21 = .ok (.iand, 1) := by decide +kernel
theorem dJ6_bitCount_0f7a4_22 : decode cJ6_bitCount_0f7a4 22 = .ok (.iadd, 1) := by decide +kernel
theorem dJ6_bitCount_0f7a4_23 : decode cJ6_bitCount_0f7a4 23 = .ok (.istore_n 0, 1) := by decide +kernel
theorem dJ6_bitCount_0f7a4_24 : decode cJ6_bitCount_0f7a4 24 = .ok (.iload_n 0, 1) := by decide +kernel
theorem dJ6_bitCount_0f7a4_25 : decode cJ6_bitCount_0f7a4 25 = .ok (.iload_n 0, 1) := by decide +kernel
theorem dJ6_bitCount_0f7a4_26 : decode cJ6_bitCount_0f7a4 26 = .ok (.iconst 4, 1) := by decide +kernel
theorem dJ6_bitCount_0f7a4_27 : decode cJ6_bitCount_0f7a4 27 = .ok (.iushr, 1) := by decide +kernel
theorem dJ6_bitCount_0f7a4_28 : decode cJ6_bitCount_0f7a4 28 = .ok (.iadd, 1) := by decide +kernel
theorem dJ6_bitCount_0f7a4_29 : decode cJ6_bitCount_0f7a4 29 = .ok (.ldc_w 267, 3) := by decide +kernel
theorem dJ6_bitCount_0f7a4_32 : decode cJ6_bitCount_0f7a4 32 = .ok (.iand, 1) := by decide +kernel
theorem dJ6_bitCount_0f7a4_33 : decode cJ6_bitCount_0f7a4 33 = .ok (.istore_n 0, 1) := by decide +kernel
theorem dJ6_bitCount_0f7a4_34 : decode cJ6_bitCount_0f7a4 34 = .ok (.iload_n 0, 1) := by decide +kernel
theorem dJ6_bitCount_0f7a4_35 : decode cJ6_bitCount_0f7a4 35 = .ok (.iload_n 0, 1) := by decide +kernel
theorem dJ6_bitCount_0f7a4_36 : decode cJ6_bitCount_0f7a4 36 = .ok (.bipush 8, 2) := by decide +kernel
theorem dJ6_bitCount_0f7a4_38 : decode cJ6_bitCount_0f7a4 38 = .ok (.iushr, 1) := by decide +kernel
theorem dJ6_bitCount_0f7a4_39 : decode cJ6_bitCount_0f7a4 39 = .ok (.iadd, 1) := by decide +kernel
theorem dJ6_bitCount_0f7a4_40 : decode cJ6_bitCount_0f7a4 40 = .ok (.istore_n 0, 1) := by decide +kernel
theorem dJ6_bitCount_0f7a4_41 : decode cJ6_bitCount_0f7a4 41 = .ok (.iload_n 0, 1) := by decide +kernel
theorem dJ6_bitCount_0f7a4_42 : decode cJ6_bitCount_0f7a4 42 = .ok (.iload_n 0, 1) := by decide +kernel
theorem dJ6_bitCount_0f7a4_43 : decode cJ6_bitCount_0f7a4 43 = .ok (.bipush 16, 2) := by decide +kernel
theorem dJ6_bitCount_0f7a4_45 : decode cJ6_bitCount_0f7a4 45 = .ok (.iushr, 1) := by decide +kernel
theorem dJ6_bitCount_0f7a4_46 : decode cJ6_bitCount_0f7a4 46 = .ok (.iadd, 1) := by decide +kernel
theorem dJ6_bitCount_0f7a4_47 : decode cJ6_bitCount_0f7a4 47 = .ok (.istore_n 0, 1) := by decide +kernel
theorem dJ6_bitCount_0f7a4_48 : decode cJ6_bitCount_0f7a4 48 = .ok (.iload_n 0, 1) := by decide +kernel
theorem dJ6_bitCount_0f7a4_49 : decode cJ6_bitCount_0f7a4 49 = .ok (.bipush 63, 2) := by decide +kernel
theorem dJ6_bitCount_0f7a4_51 : decode cJ6_bitCount_0f7a4 51 = .ok (.iand, 1) := by decide +kernel
theorem dJ6_bitCount_0f7a4_52 : decode cJ6_bitCount_0f7a4 52 = .ok (.ireturn, 1) := by decide +kernel
theorem dJ9_max_7cf53_0 : decode cJ9_max_7cf53 0 = .ok (.iload_n 0, 1) := by decide +kernel
theorem dJ9_max_7cf53_1 : decode cJ9_max_7cf53 1 = .ok (.iload_n 1, 1) := by decide +kernel
theorem dJ9_max_7cf53_2 : decode cJ9_max_7cf53 2 = .ok (.if_icmp .lt 7, 3) := by decide +kernel
theorem dJ9_max_7cf53_5 : decode cJ9_max_7cf53 5 = .ok (.iload_n 0, 1) := by decide +kernel
theorem dJ9_max_7cf53_6 : decode cJ9_max_7cf53 6 = .ok (.goto 4, 3) := by decide +kernel
theorem dJ9_max_7cf53_9 : decode cJ9_max_7cf53 9 = .ok (.iload_n 1, 1) := by decide +kernel
theorem dJ9_max_7cf53_10 : decode cJ9_max_7cf53 10 = .ok (.ireturn, 1) := by decide +kernel
theorem dJ9_min_7cf53_0 : decode cJ9_min_7cf53 0 = .ok (.iload_n 0, 1) := by decide +kernel
theorem dJ9_min_7cf53_1 : decode cJ9_min_7cf53 1 = .ok (.iload_n 1, 1) := by decide +kernel
theorem dJ9_min_7cf53_2 : decode cJ9_min_7cf53 2 = .ok (.if_icmp .gt 7, 3) := by decide +kernel
theorem dJ9_min_7cf53_5 : decode cJ9_min_7cf53 5 = .ok (.iload_n 0, 1) := by decide +kernel
theorem dJ9_min_7cf53_6 : decode cJ9_min_7cf53 6 = .ok (.goto 4, 3) := by decide +kernel
theorem dJ9_min_7cf53_9 : decode cJ9_min_7cf53 9 = .ok (.iload_n 1, 1) := by decide +kernel
theorem dJ9_min_7cf53_10 : decode cJ9_min_7cf53 10 = .ok (.ireturn, 1) := by decide +kernel
theorem dJxa1e45_init_da8c8_0 : decode cJxa1e45_init_da8c8 0 = .ok (.aload_n 0, 1) := by decide +kernel
theorem dJxa1e45_init_da8c8_1 : decode cJxa1e45_init_da8c8 1 = .ok (.invokespecial 1, 3) := by decide +kernel
theorem dJxa1e45_init_da8c8_4 : decode cJxa1e45_init_da8c8 4 = .ok (.return_, 1) := by decide +kernel
set_option maxRecDepth 20000 in
theorem ggJxc12de_init_da8c8_Jxa1e45_init_da8c8 : GoodIn wsJxc12de_init_da8c8 wsJxa1e45_init_da8c8 := goodIn_r _ [5, 6, 7, 8] (by decide +kernel) (by decide +kernel)
set_option maxRecDepth 20000 in
theorem gJxc12de_init_da8c8_Jxa1e45_init_da8c8 : GoodIn wsJxc12de_init_da8c8 (wsJxa1e45_init_da8c8) := ggJxc12de_init_da8c8_Jxa1e45_init_da8c8
theorem dJxc12de_init_da8c8_0 : decode cJxc12de_init_da8c8 0 = .ok (.aload_n 0, 1) := by decide +kernel
theorem dJxc12de_init_da8c8_1 : decode cJxc12de_init_da8c8 1 = .ok (.invokespecial 1, 3) := by decide +kernel
theorem dJxc12de_init_da8c8_4 : decode cJxc12de_init_da8c8 4 = .ok (.aload_n 0, 1) := by decide +kernel
theorem dJxc12de_init_da8c8_5 : decode cJxc12de_init_da8c8 5 = .ok (.iconst 0, 1) := by decide +kernel
theorem dJxc12de_init_da8c8_6 : decode cJxc12de_init_da8c8 6 = .ok (.putfield 7, 3) := by decide +kernel
theorem dJxc12de_init_da8c8_9 : decode cJxc12de_init_da8c8 9 = .ok (.return_, 1) := by decide +kernel
set_option maxRecDepth 20000 in
theorem ggJx4a65c_init_da8c8_Jxc12de_init_da8c8 : GoodIn wsJx4a65c_init_da8c8 wsJxc12de_init_da8c8 := goodIn_r _ [6, 7, 8, 9, 10, 11, 12, 13, 14, 15, 16, 17] (by decide +kernel) (by decide +kernel)
set_option maxRecDepth 20000 in
theorem gJx4a65c_init_da8c8_Jxc12de_init_da8c8 : GoodIn wsJx4a65c_init_da8c8 (wsJxc12de_init_da8c8) := ggJx4a65c_init_da8c8_Jxc12de_init_da8c8
theorem dJx4a65c_init_da8c8_0 : decode cJx4a65c_init_da8c8 0 = .ok (.aload_n 0, 1) := by decide +kernel
theorem dJx4a65c_init_da8c8_1 : decode cJx4a65c_init_da8c8 1 = .ok (.invokespecial 1, 3) := by decide +kernel
theorem dJx4a65c_init_da8c8_4 : decode cJx4a65c_init_da8c8 4 = .ok (.aload_n 0, 1) := by decide +kernel
theorem dJx4a65c_init_da8c8_5 : decode cJx4a65c_init_da8c8 5 = .ok (.getstatic 39, 3) := by decide +kernel
theorem dJx4a65c_init_da8c8_8 : decode cJx4a65c_init_da8c8 8 = .ok (.putfield 9, 3) := by decide +kernel
theorem dJx4a65c_init_da8c8_11 : decode cJx4a65c_init_da8c8 11 = .ok (.return_, 1) := by decide +kernel
set_option maxRecDepth 20000 in
theorem ggJx4a65c_grow_92f84_J8_newLength_cabcc : GoodIn wsJx4a65c_grow_92f84 wsJ8_newLength_cabcc := goodIn_r _ [11, 12, 4, 5, 6, 13, 14, 15, 10, 16] (by decide +kernel) (by decide +kernel)
set_option maxRecDepth 20000 in
theorem gJx4a65c_grow_92f84_J8_newLength_cabcc : GoodIn wsJx4a65c_grow_92f84 (va_wsS RJx4a65c 73 yJ8_newLength_cabcc wsJ8_newLength_cabcc) := goodIn_app (goodIn_of _ (by decide +kernel)) ggJx4a65c_grow_92f84_J8_newLength_cabcc
set_option maxRecDepth 20000 in
theorem ggJx4a65c_grow_92f84_J7_copyOf_1904c : GoodIn wsJx4a65c_grow_92f84 wsJ7_copyOf_1904c := goodIn_r _ [20, 21, 22, 23, 24, 25, 26, 19, 27, 28, 29, 30, 31, 5, 32, 33, 34, 35, 36] (by decide +kernel) (by decide +kernel)
set_option maxRecDepth 20000 in
theorem gJx4a65c_grow_92f84_J7_copyOf_1904c : GoodIn wsJx4a65c_grow_92f84 (va_wsS RJx4a65c 66 yJ7_copyOf_1904c wsJ7_copyOf_1904c) := goodIn_app (goodIn_of _ (by decide +kernel)) ggJx4a65c_grow_92f84_J7_copyOf_1904c
theorem dJx4a65c_grow_92f84_0 : decode cJx4a65c_grow_92f84 0 = .ok (.aload_n 0, 1) := by decide +kernel
theorem dJx4a65c_grow_92f84_1 : decode cJx4a65c_grow_92f84 1 = .ok (.getfield 9, 3) := by decide +kernel
theorem dJx4a65c_grow_92f84_4 : decode cJx4a65c_grow_92f84 4 = .ok (.arraylength, 1) := by decide +kernel
theorem dJx4a65c_grow_92f84_5 : decode cJx4a65c_grow_92f84 5 = .ok (.istore_n 2, 1) := by decide +kernel
theorem dJx4a65c_grow_92f84_6 : decode cJx4a65c_grow_92f84 6 = .ok (.iload_n 2, 1) := by decide +kernel
theorem dJx4a65c_grow_92f84_7 : decode cJx4a65c_grow_92f84 7 = .ok (.ifCond .gt 13, 3) := by decide +kernel
theorem dJx4a65c_grow_92f84_10 : decode cJx4a65c_grow_92f84 10 = .ok (.aload_n 0, 1) := by decide +kernel
theorem dJx4a65c_grow_92f84_11 : decode cJx4a65c_grow_92f84 11 = .ok (.getfield 9, 3) := by decide +kernel
theorem dJx4a65c_grow_92f84_14 : decode cJx4a65c_grow_92f84 14 = .ok (.getstatic 39, 3) := by decide +kernel
theorem dJx4a65c_grow_92f84_17 : decode cJx4a65c_grow_92f84 17 = .ok (.if_acmp .eq 28, 3) := by decide +kernel
theorem dJx4a65c_grow_92f84_20 : decode cJx4a65c_grow_92f84 20 = .ok (.iload_n 2, 1) := by decide +kernel
theorem dJx4a65c_grow_92f84_21 : decode cJx4a65c_grow_92f84 21 = .ok (.iload_n 1, 1) := by decide +kernel
theorem dJx4a65c_grow_92f84_22 : decode cJx4a65c_grow_92f84 22 = .ok (.iload_n 2, 1) := by decide +kernel
theorem dJx4a65c_grow_92f84_23 : decode cJx4a65c_grow_92f84 23 = .ok (.isub, 1) := by decide +kernel
theorem dJx4a65c_grow_92f84_24 : decode cJx4a65c_grow_92f84 24 = .ok (.iload_n 2, 1) := by decide +kernel
theorem dJx4a65c_grow_92f84_25 : decode cJx4a65c_grow_92f84 25 = .ok (.iconst 1, 1) := by decide +kernel
theorem dJx4a65c_grow_92f84_26 : decode cJx4a65c_grow_92f84 26 = .ok (.ishr, 1) := by decide +kernel
theorem dJx4a65c_grow_92f84_27 : decode cJx4a65c_grow_92f84 27 = .ok (.invokestatic 73, 3) := by decide +kernel
theorem dJx4a65c_grow_92f84_30 : decode cJx4a65c_grow_92f84 30 = .ok (.istore_n 3, 1) := by decide +kernel
theorem dJx4a65c_grow_92f84_31 : decode cJx4a65c_grow_92f84 31 = .ok (.aload_n 0, 1) := by decide +kernel
theorem dJx4a65c_grow_92f84_32 : decode cJx4a65c_grow_92f84 32 = .ok (.aload_n 0, 1) := by decide +kernel
theorem dJx4a65c_grow_92f84_33 : decode cJx4a65c_grow_92f84 33 = .ok (.getfield 9, 3) := by decide +kernel
theorem dJx4a65c_grow_92f84_36 : decode cJx4a65c_grow_92f84 36 = .ok (.iload_n 3, 1) := by decide +kernel
theorem dJx4a65c_grow_92f84_37 : decode cJx4a65c_grow_92f84 37 = .ok (.invokestatic 66, 3) := by decide +kernel
theorem dJx4a65c_grow_92f84_40 : decode cJx4a65c_grow_92f84 40 = .ok (.dup_x1, 1) := by decide +kernel
theorem dJx4a65c_grow_92f84_41 : decode cJx4a65c_grow_92f84 41 = .ok (.putfield 9, 3) := by decide +kernel
theorem dJx4a65c_grow_92f84_44 : decode cJx4a65c_grow_92f84 44 = .ok (.areturn, 1) := by decide +kernel
theorem dJx4a65c_grow_92f84_45 : decode cJx4a65c_grow_92f84 45 = .ok (.aload_n 0, 1) := by decide +kernel
theorem dJx4a65c_grow_92f84_46 : decode cJx4a65c_grow_92f84 46 = .ok (.bipush 10, 2) := by decide +kernel
theorem dJx4a65c_grow_92f84_48 : decode cJx4a65c_grow_92f84 48 = .ok (.iload_n 1, 1) := by decide +kernel
theorem dJx4a65c_grow_92f84_49 : decode cJx4a65c_grow_92f84 49 = .ok (.invokestatic 79, 3) := by decide +kernel
theorem dJx4a65c_grow_92f84_52 : decode cJx4a65c_grow_92f84 52 = .ok (.anewarray 7, 3) := by decide +kernel
theorem dJx4a65c_grow_92f84_55 : decode cJx4a65c_grow_92f84 55 = .ok (.dup_x1, 1) := by decide +kernel
theorem dJx4a65c_grow_92f84_56 : decode cJx4a65c_grow_92f84 56 = .ok (.putfield 9, 3) := by decide +kernel
theorem dJx4a65c_grow_92f84_59 : decode cJx4a65c_grow_92f84 59 = .ok (.areturn, 1) := by decide +kernel
set_option maxRecDepth 20000 in
theorem ggJx4a65c_grow_d5877_Jx4a65c_grow_92f84 : GoodIn wsJx4a65c_grow_d5877 wsJx4a65c_grow_92f84 := goodIn_r _ [6, 7, 8, 9, 10, 11, 12, 13, 14, 15, 16, 17, 18, 19, 20, 21, 22, 23, 24, 25, 26, 27, 28, 29, 30, 31, 32, 33, 34, 35, 36, 37, 38, 39, 40, 41, 42, 43, 44, 45] (by decide +kernel) (by decide +kernel)
set_option maxRecDepth 20000 in
theorem gJx4a65c_grow_d5877_Jx4a65c_grow_92f84 : GoodIn wsJx4a65c_grow_d5877 (wsV RJx4a65c 69 RJx4a65c yJx4a65c_grow_92f84 wsJx4a65c_grow_92f84) := goodIn_app (goodIn_of _ (by decide +kernel)) ggJx4a65c_grow_d5877_Jx4a65c_grow_92f84
theorem dJx4a65c_grow_d5877_0 : decode cJx4a65c_grow_d5877 0 = .ok (.aload_n 0, 1) := by decide +kernel
theorem dJx4a65c_grow_d5877_1 : decode cJx4a65c_grow_d5877 1 = .ok (.aload_n 0, 1) := by decide +kernel
theorem dJx4a65c_grow_d5877_2 : decode cJx4a65c_grow_d5877 2 = .ok (.getfield 48, 3) := by decide +kernel
theorem dJx4a65c_grow_d5877_5 : decode cJx4a65c_grow_d5877 5 = .ok (.iconst 1, 1) := by decide +kernel
theorem dJx4a65c_grow_d5877_6 : decode cJx4a65c_grow_d5877 6 = .ok (.iadd, 1) := by decide +kernel
theorem dJx4a65c_grow_d5877_7 : decode cJx4a65c_grow_d5877 7 = .ok (.invokevirtual 69, 3) := by decide +kernel
theorem dJx4a65c_grow_d5877_10 : decode cJx4a65c_grow_d5877 10 = .ok (.areturn, 1) := by decide +kernel
theorem dJx4a65c_size_8abf5_0 : decode cJx4a65c_size_8abf5 0 = .ok (.aload_n 0, 1) := by decide +kernel
theorem dJx4a65c_size_8abf5_1 : decode cJx4a65c_size_8abf5 1 = .ok (.getfield 48, 3) := by decide +kernel
theorem dJx4a65c_size_8abf5_4 : decode cJx4a65c_size_8abf5 4 = .ok (.ireturn, 1) := by decide +kernel
theorem dJx4a65c_elementData_915e3_0 : decode cJx4a65c_elementData_915e3 0 = .ok (.aload_n 0, 1) := by decide +kernel
theorem dJx4a65c_elementData_915e3_1 : decode cJx4a65c_elementData_915e3 1 = .ok (.getfield 9, 3) := by decide +kernel
theorem dJx4a65c_elementData_915e3_4 : decode cJx4a65c_elementData_915e3 4 = .ok (.iload_n 1, 1) := by decide +kernel
theorem dJx4a65c_elementData_915e3_5 : decode cJx4a65c_elementData_915e3 5 = .ok (.aaload, 1) := by decide +kernel
theorem dJx4a65c_elementData_915e3_6 : decode cJx4a65c_elementData_915e3 6 = .ok (.areturn, 1) := by decide +kernel
set_option maxRecDepth 20000 in
theorem ggJx4a65c_get_915e3_J15_checkIndex_7cf53 : GoodIn wsJx4a65c_get_915e3 wsJ15_checkIndex_7cf53 := goodIn_r _ [5, 6, 7, 8, 9] (by decide +kernel) (by decide +kernel)
set_option maxRecDepth 20000 in
theorem gJx4a65c_get_915e3_J15_checkIndex_7cf53 : GoodIn wsJx4a65c_get_915e3 (va_wsS RJx4a65c 118 yJ15_checkIndex_7cf53 wsJ15_checkIndex_7cf53) := goodIn_app (goodIn_of _ (by decide +kernel)) ggJx4a65c_get_915e3_J15_checkIndex_7cf53
set_option maxRecDepth 20000 in
theorem ggJx4a65c_get_915e3_Jx4a65c_elementData_915e3 : GoodIn wsJx4a65c_get_915e3 wsJx4a65c_elementData_915e3 := goodIn_r _ [14, 15, 16, 17, 18] (by decide +kernel) (by decide +kernel)
set_option maxRecDepth 20000 in
theorem gJx4a65c_get_915e3_Jx4a65c_elementData_915e3 : GoodIn wsJx4a65c_get_915e3 (wsV RJx4a65c 123 RJx4a65c yJx4a65c_elementData_915e3 wsJx4a65c_elementData_915e3) := goodIn_app (goodIn_of _ (by decide +kernel)) ggJx4a65c_get_915e3_Jx4a65c_elementData_915e3
theorem dJx4a65c_get_915e3_0 : decode cJx4a65c_get_915e3 0 = .ok (.iload_n 1, 1) := by decide +kernel
theorem dJx4a65c_get_915e3_1 : decode cJx4a65c_get_915e3 1 = .ok (.aload_n 0, 1) := by decide +kernel
theorem dJx4a65c_get_915e3_2 : decode cJx4a65c_get_915e3 2 = .ok (.getfield 48, 3) := by decide +kernel
theorem dJx4a65c_get_915e3_5 : decode cJx4a65c_get_915e3 5 = .ok (.invokestatic 118, 3) := by decide +kernel
theorem dJx4a65c_get_915e3_8 : decode cJx4a65c_get_915e3 8 = .ok (.pop, 1) := by decide +kernel
theorem dJx4a65c_get_915e3_9 : decode cJx4a65c_get_915e3 9 = .ok (.aload_n 0, 1) := by decide +kernel
theorem dJx4a65c_get_915e3_10 : decode cJx4a65c_get_915e3 10 = .ok (.iload_n 1, 1) := by decide +kernel
theorem dJx4a65c_get_915e3_11 : decode cJx4a65c_get_915e3 11 = .ok (.invokevirtual 123, 3) := by decide +kernel
theorem dJx4a65c_get_915e3_14 : decode cJx4a65c_get_915e3 14 = .ok (.areturn, 1) := by decide +kernel
set_option maxRecDepth 20000 in
theorem ggJx4a65c_add_72be8_Jx4a65c_grow_d5877 : GoodIn wsJx4a65c_add_72be8 wsJx4a65c_grow_d5877 := goodIn_r _ [6, 1, 7, 8, 9, 5, 10, 11, 12, 13, 14, 15, 16, 17, 18, 19, 20, 21, 22, 23, 24, 25, 26, 27, 28, 29, 30, 31, 32, 33, 34, 35, 36, 37, 38, 39, 40, 41, 42, 43, 44, 45, 46, 47, 48, 49] (by decide +kernel) (by decide +kernel)
set_option maxRecDepth 20000 in
theorem gJx4a65c_add_72be8_Jx4a65c_grow_d5877 : GoodIn wsJx4a65c_add_72be8 (wsV RJx4a65c 129 RJx4a65c yJx4a65c_grow_d5877 wsJx4a65c_grow_d5877) := goodIn_app (goodIn_of _ (by decide +kernel)) ggJx4a65c_add_72be8_Jx4a65c_grow_d5877
theorem dJx4a65c_add_72be8_0 : decode cJx4a65c_add_72be8 0 = .ok (.iload_n 3, 1) := by decide +kernel
theorem dJx4a65c_add_72be8_1 : decode cJx4a65c_add_72be8 1 = .ok (.aload_n 2, 1) := by decide +kernel
theorem dJx4a65c_add_72be8_2 : decode cJx4a65c_add_72be8 2 = .ok (.arraylength, 1) := by decide +kernel
theorem dJx4a65c_add_72be8_3 : decode cJx4a65c_add_72be8 3 = .ok (.if_icmp .ne 8, 3) := by decide +kernel
theorem dJx4a65c_add_72be8_6 : decode cJx4a65c_add_72be8 6 = .ok (.aload_n 0, 1) := by decide +kernel
theorem dJx4a65c_add_72be8_7 : decode cJx4a65c_add_72be8 7 = .ok (.invokevirtual 129, 3) := by decide +kernel
theorem dJx4a65c_add_72be8_10 : decode cJx4a65c_add_72be8 10 = .ok (.astore_n 2, 1) := by decide +kernel
theorem dJx4a65c_add_72be8_11 : decode cJx4a65c_add_72be8 11 = .ok (.aload_n 2, 1) := by decide +kernel
theorem dJx4a65c_add_72be8_12 : decode cJx4a65c_add_72be8 12 = .ok (.iload_n 3, 1) := by decide +kernel
theorem dJx4a65c_add_72be8_13 : decode cJx4a65c_add_72be8 13 = .ok (.aload_n 1, 1) := by decide +kernel
theorem dJx4a65c_add_72be8_14 : decode cJx4a65c_add_72be8 14 = .ok (.aastore, 1) := by decide +kernel
theorem dJx4a65c_add_72be8_15 : decode cJx4a65c_add_72be8 15 = .ok (.aload_n 0, 1) := by decide +kernel
theorem dJx4a65c_add_72be8_16 : decode cJx4a65c_add_72be8 16 = .ok (.iload_n 3, 1) := by decide +kernel
theorem dJx4a65c_add_72be8_17 : decode cJx4a65c_add_72be8 17 = .ok (.iconst 1, 1) := by decide +kernel
theorem dJx4a65c_add_72be8_18 : decode cJx4a65c_add_72be8 18 = .ok (.iadd, 1) := by decide +kernel
theorem dJx4a65c_add_72be8_19 : decode cJx4a65c_add_72be8 19 = .ok (.putfield 48, 3) := by decide +kernel
theorem dJx4a65c_add_72be8_22 : decode cJx4a65c_add_72be8 22 = .ok (.return_, 1) := by decide +kernel
set_option maxRecDepth 20000 in
theorem ggJx4a65c_add_9ea2d_Jx4a65c_add_72be8 : GoodIn wsJx4a65c_add_9ea2d wsJx4a65c_add_72be8 := goodIn_r _ [9, 4, 10, 11, 12, 8, 13, 14, 15, 16, 17, 3, 18, 19, 20, 21, 22, 23, 24, 25, 26, 27, 28, 29, 30, 31, 32, 33, 34, 35, 36, 37, 38, 39, 40, 41, 42, 43, 44, 45, 46, 47, 48, 49, 50, 51, 52, 53, 54, 55] (by decide +kernel) (by decide +kernel)
set_option maxRecDepth 20000 in
theorem gJx4a65c_add_9ea2d_Jx4a65c_add_72be8 : GoodIn wsJx4a65c_add_9ea2d (wsV RJx4a65c 131 RJx4a65c yJx4a65c_add_72be8 wsJx4a65c_add_72be8) := goodIn_app (goodIn_of _ (by decide +kernel)) ggJx4a65c_add_9ea2d_Jx4a65c_add_72be8
theorem dJx4a65c_add_9ea2d_0 : decode cJx4a65c_add_9ea2d 0 = .ok (.aload_n 0, 1) := by decide +kernel
theorem dJx4a65c_add_9ea2d_1 : decode cJx4a65c_add_9ea2d 1 = .ok (.dup, 1) := by decide +kernel
theorem dJx4a65c_add_9ea2d_2 : decode cJx4a65c_add_9ea2d 2 = .ok (.getfield 63, 3) := by decide +kernel
theorem dJx4a65c_add_9ea2d_5 : decode cJx4a65c_add_9ea2d 5 = .ok (.iconst 1, 1) := by decide +kernel
theorem dJx4a65c_add_9ea2d_6 : decode cJx4a65c_add_9ea2d 6 = .ok (.iadd, 1) := by decide +kernel
theorem dJx4a65c_add_9ea2d_7 : decode cJx4a65c_add_9ea2d 7 = .ok (.putfield 63, 3) := by decide +kernel
theorem dJx4a65c_add_9ea2d_10 : decode cJx4a65c_add_9ea2d 10 = .ok (.aload_n 0, 1) := by decide +kernel
theorem dJx4a65c_add_9ea2d_11 : decode cJx4a65c_add_9ea2d 11 = .ok (.aload_n 1, 1) := by decide +kernel
theorem dJx4a65c_add_9ea2d_12 : decode cJx4a65c_add_9ea2d 12 = .ok (.aload_n 0, 1) := by decide +kernel
theorem dJx4a65c_add_9ea2d_13 : decode cJx4a65c_add_9ea2d 13 = .ok (.getfield 9, 3) := by decide +kernel
theorem dJx4a65c_add_9ea2d_16 : decode cJx4a65c_add_9ea2d 16 = .ok (.aload_n 0, 1) := by decide +kernel
theorem dJx4a65c_add_9ea2d_17 : decode cJx4a65c_add_9ea2d 17 = .ok (.getfield 48, 3) := by decide +kernel
theorem dJx4a65c_add_9ea2d_20 : decode cJx4a65c_add_9ea2d 20 = .ok (.invokevirtual 131, 3) := by decide +kernel
theorem dJx4a65c_add_9ea2d_23 : decode cJx4a65c_add_9ea2d 23 = .ok (.iconst 1, 1) := by decide +kernel
theorem dJx4a65c_add_9ea2d_24 : decode cJx4a65c_add_9ea2d 24 = .ok (.ireturn, 1) := by decide +kernel
set_option maxRecDepth 20000 in
theorem ggJ7_copyOf_1904c_J7_copyOf_6403c : GoodIn wsJ7_copyOf_1904c wsJ7_copyOf_6403c := goodIn_r _ [8, 9, 10, 11, 12, 13, 14, 15, 16, 17, 18] (by decide +kernel) (by decide +kernel)
set_option maxRecDepth 20000 in
theorem gJ7_copyOf_1904c_J7_copyOf_6403c : GoodIn wsJ7_copyOf_1904c (va_wsS RJ7 300 yJ7_copyOf_6403c wsJ7_copyOf_6403c) := goodIn_app (goodIn_of _ (by decide +kernel)) ggJ7_copyOf_1904c_J7_copyOf_6403c
theorem dJ7_copyOf_1904c_0 : decode cJ7_copyOf_1904c 0 = .ok (.aload_n 0, 1) := by decide +kernel
theorem dJ7_copyOf_1904c_1 : decode cJ7_copyOf_1904c 1 = .ok (.iload_n 1, 1) := by decide +kernel
theorem dJ7_copyOf_1904c_2 : decode cJ7_copyOf_1904c 2 = .ok (.aload_n 0, 1) := by decide +kernel
theorem dJ7_copyOf_1904c_3 : decode cJ7_copyOf_1904c 3 = .ok (.invokevirtual 86, 3) := by decide +kernel
theorem dJ7_copyOf_1904c_6 : decode cJ7_copyOf_1904c 6 = .ok (.invokestatic 300, 3) := by decide +kernel
theorem dJ7_copyOf_1904c_9 : decode cJ7_copyOf_1904c 9 = .ok (.areturn, 1) := by decide +kernel
theorem dJ7_copyOf_6403c_0 : decode cJ7_copyOf_6403c 0 = .ok (.aload_n 2, 1) := by decide +kernel
theorem dJ7_copyOf_6403c_1 : decode cJ7_copyOf_6403c 1 = .ok (.ldc 110, 2) := by decide +kernel
theorem dJ7_copyOf_6403c_3 : decode cJ7_copyOf_6403c 3 = .ok (.if_acmp .ne 10, 3) := by decide +kernel
theorem dJ7_copyOf_6403c_6 : decode cJ7_copyOf_6403c 6 = .ok (.iload_n 1, 1) := by decide +kernel
theorem dJ7_copyOf_6403c_7 : decode cJ7_copyOf_6403c 7 = .ok (.anewarray 2, 3) := by decide +kernel
theorem dJ7_copyOf_6403c_10 : decode cJ7_copyOf_6403c 10 = .ok (.goto 14, 3) := by decide +kernel
theorem dJ7_copyOf_6403c_13 : decode cJ7_copyOf_6403c 13 = .ok (.aload_n 2, 1) := by decide +kernel
theorem dJ7_copyOf_6403c_14 : decode cJ7_copyOf_6403c 14 = .ok (.invokevirtual 90, 3) := by decide +kernel
theorem dJ7_copyOf_6403c_17 : decode cJ7_copyOf_6403c 17 = .ok (.iload_n 1, 1) := by decide +kernel
theorem dJ7_copyOf_6403c_18 : decode cJ7_copyOf_6403c 18 = .ok (.invokestatic 95, 3) := by decide +kernel
theorem dJ7_copyOf_6403c_21 : decode cJ7_copyOf_6403c 21 = .ok (.checkcast 110, 3) := by decide +kernel
theorem dJ7_copyOf_6403c_24 : decode cJ7_copyOf_6403c 24 = .ok (.astore_n 3, 1) := by decide +kernel
theorem dJ7_copyOf_6403c_25 : decode cJ7_copyOf_6403c 25 = .ok (.aload_n 0, 1) := by decide +kernel
theorem dJ7_copyOf_6403c_26 : decode cJ7_copyOf_6403c 26 = .ok (.iconst 0, 1) := by decide +kernel
theorem dJ7_copyOf_6403c_27 : decode cJ7_copyOf_6403c 27 = .ok (.aload_n 3, 1) := by decide +kernel
theorem dJ7_copyOf_6403c_28 : decode cJ7_copyOf_6403c 28 = .ok (.iconst 0, 1) := by decide +kernel
theorem dJ7_copyOf_6403c_29 : decode cJ7_copyOf_6403c 29 = .ok (.aload_n 0, 1) := by decide +kernel
theorem dJ7_copyOf_6403c_30 : decode cJ7_copyOf_6403c 30 = .ok (.arraylength, 1) := by decide +kernel
theorem dJ7_copyOf_6403c_31 : decode cJ7_copyOf_6403c 31 = .ok (.iload_n 1, 1) := by decide +kernel
theorem dJ7_copyOf_6403c_32 : decode cJ7_copyOf_6403c 32 = .ok (.invokestatic 304, 3) := by decide +kernel
theorem dJ7_copyOf_6403c_35 : decode cJ7_copyOf_6403c 35 = .ok (.invokestatic 150, 3) := by decide +kernel
theorem dJ7_copyOf_6403c_38 : decode cJ7_copyOf_6403c 38 = .ok (.aload_n 3, 1) := by decide +kernel
theorem dJ7_copyOf_6403c_39 : decode cJ7_copyOf_6403c 39 = .ok (.areturn, 1) := by decide +kernel
set_option maxRecDepth 20000 in
theorem ggJ15_checkIndex_7cf53_J3_checkIndex_8e157 : GoodIn wsJ15_checkIndex_7cf53 wsJ3_checkIndex_8e157 := goodIn_r _ [4] (by decide +kernel) (by decide +kernel)
set_option maxRecDepth 20000 in
theorem gJ15_checkIndex_7cf53_J3_checkIndex_8e157 : GoodIn wsJ15_checkIndex_7cf53 (va_wsS RJ15 105 yJ3_checkIndex_8e157 wsJ3_checkIndex_8e157) := goodIn_app (goodIn_of _ (by decide +kernel)) ggJ15_checkIndex_7cf53_J3_checkIndex_8e157
theorem dJ15_checkIndex_7cf53_0 : decode cJ15_checkIndex_7cf53 0 = .ok (.iload_n 0, 1) := by decide +kernel
theorem dJ15_checkIndex_7cf53_1 : decode cJ15_checkIndex_7cf53 1 = .ok (.iload_n 1, 1) := by decide +kernel
theorem dJ15_checkIndex_7cf53_2 : decode cJ15_checkIndex_7cf53 2 = .ok (.aconst_null, 1) := by decide +kernel
theorem dJ15_checkIndex_7cf53_3 : decode cJ15_checkIndex_7cf53 3 = .ok (.invokestatic 105, 3) := by decide +kernel
theorem dJ15_checkIndex_7cf53_6 : decode cJ15_checkIndex_7cf53 6 = .ok (.ireturn, 1) := by decide +kernel
set_option maxRecDepth 20000 in
theorem ggJ8_newLength_cabcc_J8_hugeLength_7cf53 : GoodIn wsJ8_newLength_cabcc wsJ8_hugeLength_7cf53 := goodIn_r _ [9, 5] (by decide +kernel) (by decide +kernel)
set_option maxRecDepth 20000 in
theorem gJ8_newLength_cabcc_J8_hugeLength_7cf53 : GoodIn wsJ8_newLength_cabcc (va_wsS RJ8 201 yJ8_hugeLength_7cf53 wsJ8_hugeLength_7cf53) := goodIn_app (goodIn_of _ (by decide +kernel)) ggJ8_newLength_cabcc_J8_hugeLength_7cf53
theorem dJ8_newLength_cabcc_0 : decode cJ8_newLength_cabcc 0 = .ok (.iload_n 0, 1) := by decide +kernel
theorem dJ8_newLength_cabcc_1 : decode cJ8_newLength_cabcc 1 = .ok (.iload_n 1, 1) := by decide +kernel
theorem dJ8_newLength_cabcc_2 : decode cJ8_newLength_cabcc 2 = .ok (.iload_n 2, 1) := by decide +kernel
theorem dJ8_newLength_cabcc_3 : decode cJ8_newLength_cabcc 3 = .ok (.invokestatic 194, 3) := by decide +kernel
theorem dJ8_newLength_cabcc_6 : decode cJ8_newLength_cabcc 6 = .ok (.iadd, 1) := by decide +kernel
theorem dJ8_newLength_cabcc_7 : decode cJ8_newLength_cabcc 7 = .ok (.istore_n 3, 1) := by decide +kernel
theorem dJ8_newLength_cabcc_8 : decode cJ8_newLength_cabcc 8 = .ok (.iconst 0, 1) := by decide +kernel
theorem dJ8_newLength_cabcc_9 : decode cJ8_newLength_cabcc 9 = .ok (.iload_n 3, 1) := by decide +kernel
theorem dJ8_newLength_cabcc_10 : decode cJ8_newLength_cabcc 10 = .ok (.if_icmp .ge 11, 3) := by decide +kernel
theorem dJ8_newLength_cabcc_13 : decode cJ8_newLength_cabcc 13 = .ok (.iload_n 3, 1) := by decide +kernel
theorem dJ8_newLength_cabcc_14 : decode cJ8_newLength_cabcc 14 = .ok (.ldc 200, 2) := by decide +kernel
theorem dJ8_newLength_cabcc_16 : decode cJ8_newLength_cabcc 16 = .ok (.if_icmp .gt 5, 3) := by decide +kernel
theorem dJ8_newLength_cabcc_19 : decode cJ8_newLength_cabcc 19 = .ok (.iload_n 3, 1) := by decide +kernel
theorem dJ8_newLength_cabcc_20 : decode cJ8_newLength_cabcc 20 = .ok (.ireturn, 1) := by decide +kernel
theorem dJ8_newLength_cabcc_21 : decode cJ8_newLength_cabcc 21 = .ok (.iload_n 0, 1) := by decide +kernel
theorem dJ8_newLength_cabcc_22 : decode cJ8_newLength_cabcc 22 = .ok (.iload_n 1, 1) := by decide +kernel
theorem dJ8_newLength_cabcc_23 : decode cJ8_newLength_cabcc 23 = .ok (.invokestatic 201, 3) := by decide +kernel
theorem dJ8_newLength_cabcc_26 : decode cJ8_newLength_cabcc 26 = .ok (.ireturn, 1) := by decide +kernel
theorem dJ8_hugeLength_7cf53_0 : decode cJ8_hugeLength_7cf53 0 = .ok (.iload_n 0, 1) := by decide +kernel
theorem dJ8_hugeLength_7cf53_1 : decode cJ8_hugeLength_7cf53 1 = .ok (.iload_n 1, 1) := by decide +kernel
theorem dJ8_hugeLength_7cf53_2 : decode cJ8_hugeLength_7cf53 2 = .ok (.iadd, 1) := by decide +kernel
theorem dJ8_hugeLength_7cf53_3 : decode cJ8_hugeLength_7cf53 3 = .ok (.istore_n 2, 1) := by decide +kernel
theorem dJ8_hugeLength_7cf53_4 : decode cJ8_hugeLength_7cf53 4 = .ok (.iload_n 2, 1) := by decide +kernel
theorem dJ8_hugeLength_7cf53_5 : decode cJ8_hugeLength_7cf53 5 = .ok (.ifCond .ge 44, 3) := by decide +kernel
theorem dJ8_hugeLength_7cf53_8 : decode cJ8_hugeLength_7cf53 8 = .ok (.new 204, 3) := by decide +kernel
theorem dJ8_hugeLength_7cf53_11 : decode cJ8_hugeLength_7cf53 11 = .ok (.dup, 1) := by decide +kernel
theorem dJ8_hugeLength_7cf53_12 : decode cJ8_hugeLength_7cf53 12 = .ok (.new 89, 3) := by decide +kernel
theorem dJ8_hugeLength_7cf53_15 : decode cJ8_hugeLength_7cf53 15 = .ok (.dup, 1) := by decide +kernel
theorem dJ8_hugeLength_7cf53_16 : decode cJ8_hugeLength_7cf53 16 = .ok (.invokespecial 91, 3) := by decide +kernel
theorem dJ8_hugeLength_7cf53_19 : decode cJ8_hugeLength_7cf53 19 = .ok (.ldc 206, 2) := by decide +kernel
theorem dJ8_hugeLength_7cf53_21 : decode cJ8_hugeLength_7cf53 21 = .ok (.invokevirtual 94, 3) := by decide +kernel
theorem dJ8_hugeLength_7cf53_24 : decode cJ8_hugeLength_7cf53 24 = .ok (.iload_n 0, 1) := by decide +kernel
theorem dJ8_hugeLength_7cf53_25 : decode cJ8_hugeLength_7cf53 25 = .ok (.invokevirtual 98, 3) := by decide +kernel
theorem dJ8_hugeLength_7cf53_28 : decode cJ8_hugeLength_7cf53 28 = .ok (.ldc 208, 2) := by decide +kernel
theorem dJ8_hugeLength_7cf53_30 : decode cJ8_hugeLength_7cf53 30 = .ok (.invokevirtual 94, 3) := by decide +kernel
theorem dJ8_hugeLength_7cf53_33 : decode cJ8_hugeLength_7cf53 33 = .ok (.iload_n 1, 1) := by decide +kernel
theorem dJ8_hugeLength_7cf53_34 : decode cJ8_hugeLength_7cf53 34 = .ok (.invokevirtual 98, 3) := by decide +kernel
theorem dJ8_hugeLength_7cf53_37 : decode cJ8_hugeLength_7cf53 37 = .ok (.ldc 210, 2) := by decide +kernel
theorem dJ8_hugeLength_7cf53_39 : decode cJ8_hugeLength_7cf53 39 = .ok (.invokevirtual 94, 3) := by decide +kernel
theorem dJ8_hugeLength_7cf53_42 : decode cJ8_hugeLength_7cf53 42 = .ok (.invokevirtual 101, 3) := by decide +kernel
theorem dJ8_hugeLength_7cf53_45 : decode cJ8_hugeLength_7cf53 45 = .ok (.invokespecial 212, 3) := by decide +kernel
theorem dJ8_hugeLength_7cf53_48 : decode cJ8_hugeLength_7cf53 48 = .ok (.athrow, 1) := by decide +kernel
theorem dJ8_hugeLength_7cf53_49 : decode cJ8_hugeLength_7cf53 49 = .ok (.iload_n 2, 1) := by decide +kernel
theorem dJ8_hugeLength_7cf53_50 : decode cJ8_hugeLength_7cf53 50 = .ok (.ldc 200, 2) := by decide +kernel
theorem dJ8_hugeLength_7cf53_52 : decode cJ8_hugeLength_7cf53 52 = .ok (.if_icmp .gt 6, 3) := by decide +kernel
theorem dJ8_hugeLength_7cf53_55 : decode cJ8_hugeLength_7cf53 55 = .ok (.ldc 200, 2) := by decide +kernel
theorem dJ8_hugeLength_7cf53_57 : decode cJ8_hugeLength_7cf53 57 = .ok (.ireturn, 1) := by decide +kernel
theorem dJ8_hugeLength_7cf53_58 : decode cJ8_hugeLength_7cf53 58 = .ok (.iload_n 2, 1) := by decide +kernel
theorem dJ8_hugeLength_7cf53_59 : decode cJ8_hugeLength_7cf53 59 = .ok (.ireturn, 1) := by decide +kernel
theorem dJ3_checkIndex_8e157_0 : decode cJ3_checkIndex_8e157 0 = .ok (.iload_n 0, 1) := by decide +kernel
theorem dJ3_checkIndex_8e157_1 : decode cJ3_checkIndex_8e157 1 = .ok (.ifCond .lt 8, 3) := by decide +kernel
theorem dJ3_checkIndex_8e157_4 : decode cJ3_checkIndex_8e157 4 = .ok (.iload_n 0, 1) := by decide +kernel
theorem dJ3_checkIndex_8e157_5 : decode cJ3_checkIndex_8e157 5 = .ok (.iload_n 1, 1) := by decide +kernel
theorem dJ3_checkIndex_8e157_6 : decode cJ3_checkIndex_8e157 6 = .ok (.if_icmp .lt 10, 3) := by decide +kernel
theorem dJ3_checkIndex_8e157_9 : decode cJ3_checkIndex_8e157 9 = .ok (.aload_n 2, 1) := by decide +kernel
theorem dJ3_checkIndex_8e157_10 : decode cJ3_checkIndex_8e157 10 = .ok (.iload_n 0, 1) := by decide +kernel
theorem dJ3_checkIndex_8e157_11 : decode cJ3_checkIndex_8e157 11 = .ok (.iload_n 1, 1) := by decide +kernel
theorem dJ3_checkIndex_8e157_12 : decode cJ3_checkIndex_8e157 12 = .ok (.invokestatic 95, 3) := by decide +kernel
theorem dJ3_checkIndex_8e157_15 : decode cJ3_checkIndex_8e157 15 = .ok (.athrow, 1) := by decide +kernel
theorem dJ3_checkIndex_8e157_16 : decode cJ3_checkIndex_8e157 16 = .ok (.iload_n 0, 1) := by decide +kernel
theorem dJ3_checkIndex_8e157_17 : decode cJ3_checkIndex_8e157 17 = .ok (.ireturn, 1) := by decide +kernel
set_option maxRecDepth 20000 in
theorem ggL_rank_X3_rank : GoodIn wsL_rank wsX3_rank := goodIn_ca (goodIn_ca (goodIn_r _ [7, 8, 9, 10, 6, 11, 12, 13, 14, 15, 16, 17, 18, 19, 20, 21, 22, 23, 24, 25, 26, 27, 28, 29, 30, 31, 32, 33] (by decide +kernel) (by decide +kernel)) (goodIn_sub (fun _ h => List.mem_cons_of_mem _ (List.mem_append_left _ (List.mem_append_right _ h))) (by decide +kernel))) (goodIn_sub (fun _ h => List.mem_cons_of_mem _ (List.mem_append_right _ h)) (by decide +kernel))
set_option maxRecDepth 20000 in
theorem gL_rank_X3_rank : GoodIn wsL_rank (wsV RL 7 RX3 yX3_rank wsX3_rank) := goodIn_app (goodIn_of _ (by decide +kernel)) ggL_rank_X3_rank
