set_option maxRecDepth 20000 in
theorem ggL_isAlike_X3_frame : GoodIn wsL_isAlike wsX3_frame := goodIn_r _ [5, 6, 150, 151, 152, 153, 154, 155, 156, 157, 158, 159, 160, 161, 162, 163, 164] (by decide +kernel) (by decide +kernel)
set_option maxRecDepth 20000 in
theorem gL_isAlike_X3_frame : GoodIn wsL_isAlike (wsV RL 86 RX3 yX3_frame wsX3_frame) := goodIn_app (goodIn_of _ (by decide +kernel)) ggL_isAlike_X3_frame
set_option maxRecDepth 20000 in
theorem ggL_isAlike_X3_seen : GoodIn wsL_isAlike wsX3_seen := goodIn_r _ [10, 11, 150, 151, 152, 153, 154, 155, 156, 157, 158, 159, 160, 161, 162, 163, 164] (by decide +kernel) (by decide +kernel)
set_option maxRecDepth 20000 in
theorem gL_isAlike_X3_seen : GoodIn wsL_isAlike (wsV RL 138 RX3 yX3_seen wsX3_seen) := goodIn_app (goodIn_of _ (by decide +kernel)) ggL_isAlike_X3_seen
set_option maxRecDepth 20000 in
theorem ggL_isAlike_L_counted : GoodIn wsL_isAlike wsL_counted := goodIn_ca (goodIn_r _ [15, 16, 17, 18, 19, 20, 4, 21, 22, 23, 24, 25, 26, 27, 150, 151, 152, 153, 154, 155, 156, 157, 158, 159, 160, 161, 162, 163, 164] (by decide +kernel) (by decide +kernel)) (goodIn_sub (fun _ h => List.mem_cons_of_mem _ (List.mem_append_left _ (List.mem_append_right _ h))) (by decide +kernel))
set_option maxRecDepth 20000 in
theorem gL_isAlike_L_counted : GoodIn wsL_isAlike (va_wsS RL 129 yL_counted wsL_counted) := goodIn_app (goodIn_of _ (by decide +kernel)) ggL_isAlike_L_counted
set_option maxRecDepth 20000 in
theorem ggL_isAlike_L_owed : GoodIn wsL_isAlike wsL_owed := goodIn_ca (goodIn_r _ [30, 16, 17, 31, 32, 33, 4, 34, 23, 24, 25, 26, 27, 35, 36, 37, 38, 39, 22, 40, 41, 42, 43, 150, 151, 152, 153, 154, 155, 156, 157, 158, 159, 160, 161, 162, 163, 164] (by decide +kernel) (by decide +kernel)) (goodIn_sub (fun _ h => List.mem_cons_of_mem _ (List.mem_append_left _ (List.mem_append_right _ h))) (by decide +kernel))
set_option maxRecDepth 20000 in
theorem gL_isAlike_L_owed : GoodIn wsL_isAlike (va_wsS RL 134 yL_owed wsL_owed) := goodIn_app (goodIn_of _ (by decide +kernel)) ggL_isAlike_L_owed
set_option maxRecDepth 20000 in
theorem ggL_isAlike_L_leader : GoodIn wsL_isAlike wsL_leader := goodIn_ca (goodIn_r _ [46, 16, 17, 47, 48, 49, 4, 50, 26, 27, 51, 52, 53, 54, 55, 150, 151, 152, 153, 154, 155, 156, 157, 158, 159, 160, 161, 162, 163, 164] (by decide +kernel) (by decide +kernel)) (goodIn_sub (fun _ h => List.mem_cons_of_mem _ (List.mem_append_left _ (List.mem_append_right _ h))) (by decide +kernel))
set_option maxRecDepth 20000 in
theorem gL_isAlike_L_leader : GoodIn wsL_isAlike (va_wsS RL 136 yL_leader wsL_leader) := goodIn_app (goodIn_of _ (by decide +kernel)) ggL_isAlike_L_leader
set_option maxRecDepth 20000 in
theorem ggL_isAlike_L_points : GoodIn wsL_isAlike wsL_points := goodIn_ca (goodIn_r _ [58, 16, 17, 59, 60, 61, 4, 62, 6, 63, 64, 65, 66, 26, 27, 67, 68, 69, 70, 71, 72, 73, 74, 75, 76, 77, 78, 79, 80, 81, 82, 83, 84, 85, 86, 87, 88, 89, 90, 91, 92, 93, 94, 95, 96, 97, 98, 99, 100, 101, 102, 103, 104, 105, 150, 151, 152, 153, 154, 155, 156, 157, 158, 159, 160, 161, 162, 163, 164, 165, 166, 167, 168, 169, 170, 171, 172] (by decide +kernel) (by decide +kernel)) (goodIn_sub (fun _ h => List.mem_cons_of_mem _ (List.mem_append_left _ (List.mem_append_right _ h))) (by decide +kernel))
set_option maxRecDepth 20000 in
theorem gL_isAlike_L_points : GoodIn wsL_isAlike (va_wsS RL 121 yL_points wsL_points) := goodIn_app (goodIn_of _ (by decide +kernel)) ggL_isAlike_L_points
set_option maxRecDepth 20000 in
theorem ggL_isAlike_L_overlay : GoodIn wsL_isAlike wsL_overlay := goodIn_ca (goodIn_r _ [108, 16, 17, 109, 110, 111, 4, 112, 11, 63, 64, 65, 66, 26, 27, 67, 68, 69, 70, 71, 72, 73, 74, 75, 76, 77, 78, 79, 80, 81, 82, 83, 84, 85, 86, 87, 88, 89, 90, 91, 92, 93, 94, 95, 96, 97, 98, 99, 100, 101, 102, 103, 104, 105, 150, 151, 152, 153, 154, 155, 156, 157, 158, 159, 160, 161, 162, 163, 164, 165, 166, 167, 168, 169, 170, 171, 172] (by decide +kernel) (by decide +kernel)) (goodIn_sub (fun _ h => List.mem_cons_of_mem _ (List.mem_append_left _ (List.mem_append_right _ h))) (by decide +kernel))
set_option maxRecDepth 20000 in
theorem gL_isAlike_L_overlay : GoodIn wsL_isAlike (va_wsS RL 123 yL_overlay wsL_overlay) := goodIn_app (goodIn_of _ (by decide +kernel)) ggL_isAlike_L_overlay
set_option maxRecDepth 20000 in
theorem ggL_isAlike_L_fightOf : GoodIn wsL_isAlike wsL_fightOf := goodIn_ca (goodIn_ca (goodIn_r _ [115, 16, 116, 17, 117, 118, 119, 120, 4, 121, 122, 123, 124, 125, 126, 127, 128, 63, 64, 65, 66, 26, 27, 67, 68, 69, 70, 71, 72, 73, 74, 75, 76, 77, 78, 79, 80, 81, 82, 83, 84, 85, 86, 87, 88, 89, 90, 91, 173, 174, 175, 176, 177, 178, 179, 150, 151, 152, 153, 154, 155, 156, 157, 158, 159, 160, 161, 162, 163, 164, 165, 166, 167] (by decide +kernel) (by decide +kernel)) (goodIn_sub (fun _ h => List.mem_cons_of_mem _ (List.mem_append_right _ h)) (by decide +kernel))) (goodIn_sub (fun _ h => List.mem_cons_of_mem _ (List.mem_append_left _ (List.mem_append_right _ h))) (by decide +kernel))
set_option maxRecDepth 20000 in
theorem gL_isAlike_L_fightOf : GoodIn wsL_isAlike (va_wsS RL 125 yL_fightOf wsL_fightOf) := goodIn_app (goodIn_of _ (by decide +kernel)) ggL_isAlike_L_fightOf
set_option maxRecDepth 20000 in
theorem ggL_isAlike_L_cameraOf : GoodIn wsL_isAlike wsL_cameraOf := goodIn_ca (goodIn_ca (goodIn_r _ [131, 16, 116, 17, 117, 132, 133, 134, 4, 135, 26, 27, 122, 123, 136, 137, 138, 139, 69, 70, 71, 72, 73, 74, 75, 76, 77, 78, 79, 80, 81, 82, 83, 84, 85, 86, 87, 88, 89, 90, 91, 150, 151, 152, 153, 154, 155, 156, 157, 158, 159, 160, 161, 162, 163, 164, 180, 181, 182, 183, 165, 166, 167] (by decide +kernel) (by decide +kernel)) (goodIn_sub (fun _ h => List.mem_cons_of_mem _ (List.mem_append_left _ (List.mem_append_right _ h))) (by decide +kernel))) (goodIn_sub (fun _ h => List.mem_cons_of_mem _ (List.mem_append_right _ h)) (by decide +kernel))
set_option maxRecDepth 20000 in
theorem gL_isAlike_L_cameraOf : GoodIn wsL_isAlike (va_wsS RL 127 yL_cameraOf wsL_cameraOf) := goodIn_app (goodIn_of _ (by decide +kernel)) ggL_isAlike_L_cameraOf
set_option maxRecDepth 20000 in
theorem ggL_isAlike_L_shown : GoodIn wsL_isAlike wsL_shown := goodIn_ca (goodIn_ca (goodIn_r _ [142, 16, 116, 17, 117, 143, 144, 145, 4, 146, 26, 27, 122, 123, 6, 147, 148, 149, 150, 151, 152, 153, 154, 155, 156, 157, 158, 159, 160, 161, 162, 163, 164] (by decide +kernel) (by decide +kernel)) (goodIn_sub (fun _ h => List.mem_cons_of_mem _ (List.mem_append_left _ (List.mem_append_right _ h))) (by decide +kernel))) (goodIn_sub (fun _ h => List.mem_cons_of_mem _ (List.mem_append_right _ h)) (by decide +kernel))
set_option maxRecDepth 20000 in
theorem gL_isAlike_L_shown : GoodIn wsL_isAlike (va_wsS RL 119 yL_shown wsL_shown) := goodIn_app (goodIn_of _ (by decide +kernel)) ggL_isAlike_L_shown
theorem dL_isAlike_0 : decode cL_isAlike 0 = .ok (.aload_n 2, 1) := by decide +kernel
theorem dL_isAlike_1 : decode cL_isAlike 1 = .ok (.iconst 0, 1) := by decide +kernel
theorem dL_isAlike_2 : decode cL_isAlike 2 = .ok (.iaload, 1) := by decide +kernel
theorem dL_isAlike_3 : decode cL_isAlike 3 = .ok (.ifCond .ne 7, 3) := by decide +kernel
theorem dL_isAlike_6 : decode cL_isAlike 6 = .ok (.iconst 0, 1) := by decide +kernel
theorem dL_isAlike_7 : decode cL_isAlike 7 = .ok (.goto 8, 3) := by decide +kernel
theorem dL_isAlike_10 : decode cL_isAlike 10 = .ok (.iload_n 3, 1) := by decide +kernel
theorem dL_isAlike_11 : decode cL_isAlike 11 = .ok (.aload_n 2, 1) := by decide +kernel
theorem dL_isAlike_12 : decode cL_isAlike 12 = .ok (.iconst 0, 1) := by decide +kernel
theorem dL_isAlike_13 : decode cL_isAlike 13 = .ok (.iaload, 1) := by decide +kernel
theorem dL_isAlike_14 : decode cL_isAlike 14 = .ok (.irem, 1) := by decide +kernel
theorem dL_isAlike_15 : decode cL_isAlike 15 = .ok (.istore 4, 2) := by decide +kernel
theorem dL_isAlike_17 : decode cL_isAlike 17 = .ok (.aload_n 2, 1) := by decide +kernel
theorem dL_isAlike_18 : decode cL_isAlike 18 = .ok (.iconst 1, 1) := by decide +kernel
theorem dL_isAlike_19 : decode cL_isAlike 19 = .ok (.iaload, 1) := by decide +kernel
theorem dL_isAlike_20 : decode cL_isAlike 20 = .ok (.ifCond .ne 7, 3) := by decide +kernel
theorem dL_isAlike_23 : decode cL_isAlike 23 = .ok (.iconst 0, 1) := by decide +kernel
theorem dL_isAlike_24 : decode cL_isAlike 24 = .ok (.goto 8, 3) := by decide +kernel
theorem dL_isAlike_27 : decode cL_isAlike 27 = .ok (.iload_n 3, 1) := by decide +kernel
theorem dL_isAlike_28 : decode cL_isAlike 28 = .ok (.aload_n 2, 1) := by decide +kernel
theorem dL_isAlike_29 : decode cL_isAlike 29 = .ok (.iconst 1, 1) := by decide +kernel
theorem dL_isAlike_30 : decode cL_isAlike 30 = .ok (.iaload, 1) := by decide +kernel
theorem dL_isAlike_31 : decode cL_isAlike 31 = .ok (.irem, 1) := by decide +kernel
theorem dL_isAlike_32 : decode cL_isAlike 32 = .ok (.istore 5, 2) := by decide +kernel
theorem dL_isAlike_34 : decode cL_isAlike 34 = .ok (.aload_n 0, 1) := by decide +kernel
theorem dL_isAlike_35 : decode cL_isAlike 35 = .ok (.invokevirtual 86, 3) := by decide +kernel
theorem dL_isAlike_38 : decode cL_isAlike 38 = .ok (.ifCond .ne 7, 3) := by decide +kernel
theorem dL_isAlike_41 : decode cL_isAlike 41 = .ok (.iconst 0, 1) := by decide +kernel
theorem dL_isAlike_42 : decode cL_isAlike 42 = .ok (.goto 9, 3) := by decide +kernel
theorem dL_isAlike_45 : decode cL_isAlike 45 = .ok (.iload_n 3, 1) := by decide +kernel
theorem dL_isAlike_46 : decode cL_isAlike 46 = .ok (.aload_n 0, 1) := by decide +kernel
theorem dL_isAlike_47 : decode cL_isAlike 47 = .ok (.invokevirtual 86, 3) := by decide +kernel
theorem dL_isAlike_50 : decode cL_isAlike 50 = .ok (.irem, 1) := by decide +kernel
theorem dL_isAlike_51 : decode cL_isAlike 51 = .ok (.istore 6, 2) := by decide +kernel
theorem dL_isAlike_53 : decode cL_isAlike 53 = .ok (.aload_n 0, 1) := by decide +kernel
theorem dL_isAlike_54 : decode cL_isAlike 54 = .ok (.invokevirtual 86, 3) := by decide +kernel
theorem dL_isAlike_57 : decode cL_isAlike 57 = .ok (.aload_n 1, 1) := by decide +kernel
theorem dL_isAlike_58 : decode cL_isAlike 58 = .ok (.invokevirtual 86, 3) := by decide +kernel
theorem dL_isAlike_61 : decode cL_isAlike 61 = .ok (.if_icmp .ne 133, 3) := by decide +kernel
theorem dL_isAlike_64 : decode cL_isAlike 64 = .ok (.aload_n 0, 1) := by decide +kernel
theorem dL_isAlike_65 : decode cL_isAlike 65 = .ok (.invokevirtual 138, 3) := by decide +kernel
theorem dL_isAlike_68 : decode cL_isAlike 68 = .ok (.aload_n 1, 1) := by decide +kernel
theorem dL_isAlike_69 : decode cL_isAlike 69 = .ok (.invokevirtual 138, 3) := by decide +kernel
theorem dL_isAlike_72 : decode cL_isAlike 72 = .ok (.if_icmp .ne 122, 3) := by decide +kernel
theorem dL_isAlike_75 : decode cL_isAlike 75 = .ok (.aload_n 0, 1) := by decide +kernel
theorem dL_isAlike_76 : decode cL_isAlike 76 = .ok (.iload_n 3, 1) := by decide +kernel
theorem dL_isAlike_77 : decode cL_isAlike 77 = .ok (.bipush 6, 2) := by decide +kernel
theorem dL_isAlike_79 : decode cL_isAlike 79 = .ok (.irem, 1) := by decide +kernel
theorem dL_isAlike_80 : decode cL_isAlike 80 = .ok (.invokestatic 129, 3) := by decide +kernel
theorem dL_isAlike_83 : decode cL_isAlike 83 = .ok (.aload_n 1, 1) := by decide +kernel
theorem dL_isAlike_84 : decode cL_isAlike 84 = .ok (.iload_n 3, 1) := by decide +kernel
theorem dL_isAlike_85 : decode cL_isAlike 85 = .ok (.bipush 6, 2) := by decide +kernel
theorem dL_isAlike_87 : decode cL_isAlike 87 = .ok (.irem, 1) := by decide +kernel
theorem dL_isAlike_88 : decode cL_isAlike 88 = .ok (.invokestatic 129, 3) := by decide +kernel
theorem dL_isAlike_91 : decode cL_isAlike 91 = .ok (.if_icmp .ne 103, 3) := by decide +kernel
theorem dL_isAlike_94 : decode cL_isAlike 94 = .ok (.aload_n 0, 1) := by decide +kernel
theorem dL_isAlike_95 : decode cL_isAlike 95 = .ok (.iload_n 3, 1) := by decide +kernel
theorem dL_isAlike_96 : decode cL_isAlike 96 = .ok (.bipush 6, 2) := by decide +kernel
theorem dL_isAlike_98 : decode cL_isAlike 98 = .ok (.irem, 1) := by decide +kernel
theorem dL_isAlike_99 : decode cL_isAlike 99 = .ok (.invokestatic 134, 3) := by decide +kernel
theorem dL_isAlike_102 : decode cL_isAlike 102 = .ok (.aload_n 1, 1) := by decide +kernel
theorem dL_isAlike_103 : decode cL_isAlike 103 = .ok (.iload_n 3, 1) := by decide +kernel
theorem dL_isAlike_104 : decode cL_isAlike 104 = .ok (.bipush 6, 2) := by decide +kernel
theorem dL_isAlike_106 : decode cL_isAlike 106 = .ok (.irem, 1) := by decide +kernel
theorem dL_isAlike_107 : decode cL_isAlike 107 = .ok (.invokestatic 134, 3) := by decide +kernel
theorem dL_isAlike_110 : decode cL_isAlike 110 = .ok (.if_icmp .ne 84, 3) := by decide +kernel
theorem dL_isAlike_113 : decode cL_isAlike 113 = .ok (.aload_n 0, 1) := by decide +kernel
theorem dL_isAlike_114 : decode cL_isAlike 114 = .ok (.iload_n 3, 1) := by decide +kernel
theorem dL_isAlike_115 : decode cL_isAlike 115 = .ok (.bipush 10, 2) := by decide +kernel
theorem dL_isAlike_117 : decode cL_isAlike 117 = .ok (.irem, 1) := by decide +kernel
theorem dL_isAlike_118 : decode cL_isAlike 118 = .ok (.invokestatic 136, 3) := by decide +kernel
theorem dL_isAlike_121 : decode cL_isAlike 121 = .ok (.aload_n 1, 1) := by decide +kernel
theorem dL_isAlike_122 : decode cL_isAlike 122 = .ok (.iload_n 3, 1) := by decide +kernel
theorem dL_isAlike_123 : decode cL_isAlike 123 = .ok (.bipush 10, 2) := by decide +kernel
theorem dL_isAlike_125 : decode cL_isAlike 125 = .ok (.irem, 1) := by decide +kernel
theorem dL_isAlike_126 : decode cL_isAlike 126 = .ok (.invokestatic 136, 3) := by decide +kernel
theorem dL_isAlike_129 : decode cL_isAlike 129 = .ok (.if_icmp .ne 65, 3) := by decide +kernel
theorem dL_isAlike_132 : decode cL_isAlike 132 = .ok (.aload_n 0, 1) := by decide +kernel
theorem dL_isAlike_133 : decode cL_isAlike 133 = .ok (.iload 4, 2) := by decide +kernel
theorem dL_isAlike_135 : decode cL_isAlike 135 = .ok (.iload_n 3, 1) := by decide +kernel
theorem dL_isAlike_136 : decode cL_isAlike 136 = .ok (.bipush 7, 2) := by decide +kernel
theorem dL_isAlike_138 : decode cL_isAlike 138 = .ok (.idiv, 1) := by decide +kernel
theorem dL_isAlike_139 : decode cL_isAlike 139 = .ok (.bipush 6, 2) := by decide +kernel
theorem dL_isAlike_141 : decode cL_isAlike 141 = .ok (.irem, 1) := by decide +kernel
theorem dL_isAlike_142 : decode cL_isAlike 142 = .ok (.invokestatic 121, 3) := by decide +kernel
theorem dL_isAlike_145 : decode cL_isAlike 145 = .ok (.aload_n 1, 1) := by decide +kernel
theorem dL_isAlike_146 : decode cL_isAlike 146 = .ok (.iload 4, 2) := by decide +kernel
theorem dL_isAlike_148 : decode cL_isAlike 148 = .ok (.iload_n 3, 1) := by decide +kernel
theorem dL_isAlike_149 : decode cL_isAlike 149 = .ok (.bipush 7, 2) := by decide +kernel
theorem dL_isAlike_151 : decode cL_isAlike 151 = .ok (.idiv, 1) := by decide +kernel
theorem dL_isAlike_152 : decode cL_isAlike 152 = .ok (.bipush 6, 2) := by decide +kernel
theorem dL_isAlike_154 : decode cL_isAlike 154 = .ok (.irem, 1) := by decide +kernel
theorem dL_isAlike_155 : decode cL_isAlike 155 = .ok (.invokestatic 121, 3) := by decide +kernel
theorem dL_isAlike_158 : decode cL_isAlike 158 = .ok (.if_icmp .ne 36, 3) := by decide +kernel
theorem dL_isAlike_161 : decode cL_isAlike 161 = .ok (.aload_n 0, 1) := by decide +kernel
theorem dL_isAlike_162 : decode cL_isAlike 162 = .ok (.iload 4, 2) := by decide +kernel
theorem dL_isAlike_164 : decode cL_isAlike 164 = .ok (.iload_n 3, 1) := by decide +kernel
theorem dL_isAlike_165 : decode cL_isAlike 165 = .ok (.bipush 7, 2) := by decide +kernel
theorem dL_isAlike_167 : decode cL_isAlike 167 = .ok (.idiv, 1) := by decide +kernel
theorem dL_isAlike_168 : decode cL_isAlike 168 = .ok (.bipush 6, 2) := by decide +kernel
theorem dL_isAlike_170 : decode cL_isAlike 170 = .ok (.irem, 1) := by decide +kernel
theorem dL_isAlike_171 : decode cL_isAlike 171 = .ok (.invokestatic 123, 3) := by decide +kernel
theorem dL_isAlike_174 : decode cL_isAlike 174 = .ok (.aload_n 1, 1) := by decide +kernel
theorem dL_isAlike_175 : decode cL_isAlike 175 = .ok (.iload 4, 2) := by decide +kernel
theorem dL_isAlike_177 : decode cL_isAlike 177 = .ok (.iload_n 3, 1) := by decide +kernel
theorem dL_isAlike_178 : decode cL_isAlike 178 = .ok (.bipush 7, 2) := by decide +kernel
theorem dL_isAlike_180 : decode cL_isAlike 180 = .ok (.idiv, 1) := by decide +kernel
theorem dL_isAlike_181 : decode cL_isAlike 181 = .ok (.bipush 6, 2) := by decide +kernel
theorem dL_isAlike_183 : decode cL_isAlike 183 = .ok (.irem, 1) := by decide +kernel
theorem dL_isAlike_184 : decode cL_isAlike 184 = .ok (.invokestatic 123, 3) := by decide +kernel
theorem dL_isAlike_187 : decode cL_isAlike 187 = .ok (.if_icmp .ne 7, 3) := by decide +kernel
theorem dL_isAlike_190 : decode cL_isAlike 190 = .ok (.iconst 1, 1) := by decide +kernel
theorem dL_isAlike_191 : decode cL_isAlike 191 = .ok (.goto 4, 3) := by decide +kernel
theorem dL_isAlike_194 : decode cL_isAlike 194 = .ok (.iconst 0, 1) := by decide +kernel
theorem dL_isAlike_195 : decode cL_isAlike 195 = .ok (.istore 7, 2) := by decide +kernel
theorem dL_isAlike_197 : decode cL_isAlike 197 = .ok (.iconst 0, 1) := by decide +kernel
theorem dL_isAlike_198 : decode cL_isAlike 198 = .ok (.istore 8, 2) := by decide +kernel
theorem dL_isAlike_200 : decode cL_isAlike 200 = .ok (.iload 8, 2) := by decide +kernel
theorem dL_isAlike_202 : decode cL_isAlike 202 = .ok (.iconst 5, 1) := by decide +kernel
theorem dL_isAlike_203 : decode cL_isAlike 203 = .ok (.if_icmp .ge 78, 3) := by decide +kernel
theorem dL_isAlike_206 : decode cL_isAlike 206 = .ok (.iload 7, 2) := by decide +kernel
theorem dL_isAlike_208 : decode cL_isAlike 208 = .ok (.ifCond .eq 73, 3) := by decide +kernel
theorem dL_isAlike_211 : decode cL_isAlike 211 = .ok (.aload_n 0, 1) := by decide +kernel
theorem dL_isAlike_212 : decode cL_isAlike 212 = .ok (.iload 4, 2) := by decide +kernel
theorem dL_isAlike_214 : decode cL_isAlike 214 = .ok (.iload 8, 2) := by decide +kernel
theorem dL_isAlike_216 : decode cL_isAlike 216 = .ok (.invokestatic 125, 3) := by decide +kernel
theorem dL_isAlike_219 : decode cL_isAlike 219 = .ok (.aload_n 1, 1) := by decide +kernel
theorem dL_isAlike_220 : decode cL_isAlike 220 = .ok (.iload 4, 2) := by decide +kernel
theorem dL_isAlike_222 : decode cL_isAlike 222 = .ok (.iload 8, 2) := by decide +kernel
theorem dL_isAlike_224 : decode cL_isAlike 224 = .ok (.invokestatic 125, 3) := by decide +kernel
theorem dL_isAlike_227 : decode cL_isAlike 227 = .ok (.if_icmp .ne 45, 3) := by decide +kernel
theorem dL_isAlike_230 : decode cL_isAlike 230 = .ok (.aload_n 0, 1) := by decide +kernel
theorem dL_isAlike_231 : decode cL_isAlike 231 = .ok (.iload 5, 2) := by decide +kernel
theorem dL_isAlike_233 : decode cL_isAlike 233 = .ok (.iload 8, 2) := by decide +kernel
theorem dL_isAlike_235 : decode cL_isAlike 235 = .ok (.invokestatic 127, 3) := by decide +kernel
theorem dL_isAlike_238 : decode cL_isAlike 238 = .ok (.aload_n 1, 1) := by decide +kernel
theorem dL_isAlike_239 : decode cL_isAlike 239 = .ok (.iload 5, 2) := by decide +kernel
theorem dL_isAlike_241 : decode cL_isAlike 241 = .ok (.iload 8, 2) := by decide +kernel
theorem dL_isAlike_243 : decode cL_isAlike 243 = .ok (.invokestatic 127, 3) := by decide +kernel
theorem dL_isAlike_246 : decode cL_isAlike 246 = .ok (.if_icmp .ne 26, 3) := by decide +kernel
theorem dL_isAlike_249 : decode cL_isAlike 249 = .ok (.aload_n 0, 1) := by decide +kernel
theorem dL_isAlike_250 : decode cL_isAlike 250 = .ok (.iload 6, 2) := by decide +kernel
theorem dL_isAlike_252 : decode cL_isAlike 252 = .ok (.iload 8, 2) := by decide +kernel
theorem dL_isAlike_254 : decode cL_isAlike 254 = .ok (.invokestatic 119, 3) := by decide +kernel
theorem dL_isAlike_257 : decode cL_isAlike 257 = .ok (.aload_n 1, 1) := by decide +kernel
theorem dL_isAlike_258 : decode cL_isAlike 258 = .ok (.iload 6, 2) := by decide +kernel
theorem dL_isAlike_260 : decode cL_isAlike 260 = .ok (.iload 8, 2) := by decide +kernel
theorem dL_isAlike_262 : decode cL_isAlike 262 = .ok (.invokestatic 119, 3) := by decide +kernel
theorem dL_isAlike_265 : decode cL_isAlike 265 = .ok (.if_icmp .ne 7, 3) := by decide +kernel
theorem dL_isAlike_268 : decode cL_isAlike 268 = .ok (.iconst 1, 1) := by decide +kernel
theorem dL_isAlike_269 : decode cL_isAlike 269 = .ok (.goto 4, 3) := by decide +kernel
theorem dL_isAlike_272 : decode cL_isAlike 272 = .ok (.iconst 0, 1) := by decide +kernel
theorem dL_isAlike_273 : decode cL_isAlike 273 = .ok (.istore 7, 2) := by decide +kernel
theorem dL_isAlike_275 : decode cL_isAlike 275 = .ok (.iinc 8 1, 3) := by decide +kernel
theorem dL_isAlike_278 : decode cL_isAlike 278 = .ok (.goto (-78), 3) := by decide +kernel
theorem dL_isAlike_281 : decode cL_isAlike 281 = .ok (.iload 7, 2) := by decide +kernel
theorem dL_isAlike_283 : decode cL_isAlike 283 = .ok (.ireturn, 1) := by decide +kernel
