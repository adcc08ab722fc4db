set_option maxRecDepth 20000 in
theorem ggL_isWhole_X3_seen : GoodIn wsL_isWhole wsX3_seen := goodIn_r _ [5, 6, 145, 146, 147, 148, 149, 150, 151, 152, 153, 154, 155, 156, 157, 158, 159] (by decide +kernel) (by decide +kernel)
set_option maxRecDepth 20000 in
theorem gL_isWhole_X3_seen : GoodIn wsL_isWhole (wsV RL 138 RX3 yX3_seen wsX3_seen) := goodIn_app (goodIn_of _ (by decide +kernel)) ggL_isWhole_X3_seen
set_option maxRecDepth 20000 in
theorem ggL_isWhole_X3_frame : GoodIn wsL_isWhole wsX3_frame := goodIn_r _ [10, 11, 145, 146, 147, 148, 149, 150, 151, 152, 153, 154, 155, 156, 157, 158, 159] (by decide +kernel) (by decide +kernel)
set_option maxRecDepth 20000 in
theorem gL_isWhole_X3_frame : GoodIn wsL_isWhole (wsV RL 86 RX3 yX3_frame wsX3_frame) := goodIn_app (goodIn_of _ (by decide +kernel)) ggL_isWhole_X3_frame
set_option maxRecDepth 20000 in
theorem ggL_isWhole_L_counted : GoodIn wsL_isWhole wsL_counted := goodIn_ca (goodIn_r _ [15, 16, 17, 18, 19, 20, 4, 21, 22, 23, 24, 25, 26, 27, 145, 146, 147, 148, 149, 150, 151, 152, 153, 154, 155, 156, 157, 158, 159] (by decide +kernel) (by decide +kernel)) (goodIn_sub (fun _ h => List.mem_cons_of_mem _ (List.mem_append_left _ (List.mem_append_right _ h))) (by decide +kernel))
set_option maxRecDepth 20000 in
theorem gL_isWhole_L_counted : GoodIn wsL_isWhole (va_wsS RL 129 yL_counted wsL_counted) := goodIn_app (goodIn_of _ (by decide +kernel)) ggL_isWhole_L_counted
set_option maxRecDepth 20000 in
theorem ggL_isWhole_L_anew : GoodIn wsL_isWhole wsL_anew := goodIn_ca (goodIn_r _ [30, 16, 17, 31, 32, 33, 4, 34, 11, 35, 23, 24, 25, 26, 27, 145, 146, 147, 148, 149, 150, 151, 152, 153, 154, 155, 156, 157, 158, 159] (by decide +kernel) (by decide +kernel)) (goodIn_sub (fun _ h => List.mem_cons_of_mem _ (List.mem_append_left _ (List.mem_append_right _ h))) (by decide +kernel))
set_option maxRecDepth 20000 in
theorem gL_isWhole_L_anew : GoodIn wsL_isWhole (va_wsS RL 131 yL_anew wsL_anew) := goodIn_app (goodIn_of _ (by decide +kernel)) ggL_isWhole_L_anew
set_option maxRecDepth 20000 in
theorem ggL_isWhole_L_owed : GoodIn wsL_isWhole wsL_owed := goodIn_ca (goodIn_r _ [38, 16, 17, 39, 40, 41, 4, 42, 23, 24, 25, 26, 27, 43, 44, 45, 46, 47, 22, 48, 49, 50, 51, 145, 146, 147, 148, 149, 150, 151, 152, 153, 154, 155, 156, 157, 158, 159] (by decide +kernel) (by decide +kernel)) (goodIn_sub (fun _ h => List.mem_cons_of_mem _ (List.mem_append_left _ (List.mem_append_right _ h))) (by decide +kernel))
set_option maxRecDepth 20000 in
theorem gL_isWhole_L_owed : GoodIn wsL_isWhole (va_wsS RL 134 yL_owed wsL_owed) := goodIn_app (goodIn_of _ (by decide +kernel)) ggL_isWhole_L_owed
set_option maxRecDepth 20000 in
theorem ggL_isWhole_L_fightOf : GoodIn wsL_isWhole wsL_fightOf := goodIn_ca (goodIn_ca (goodIn_r _ [54, 16, 55, 17, 56, 57, 58, 59, 4, 60, 61, 62, 63, 64, 65, 66, 67, 68, 69, 70, 71, 26, 27, 72, 73, 74, 75, 76, 77, 78, 79, 80, 81, 82, 83, 84, 85, 86, 87, 88, 89, 90, 91, 92, 93, 94, 95, 96, 160, 161, 162, 163, 164, 165, 166, 145, 146, 147, 148, 149, 150, 151, 152, 153, 154, 155, 156, 157, 158, 159, 167, 168, 169] (by decide +kernel) (by decide +kernel)) (goodIn_sub (fun _ h => List.mem_cons_of_mem _ (List.mem_append_right _ h)) (by decide +kernel))) (goodIn_sub (fun _ h => List.mem_cons_of_mem _ (List.mem_append_left _ (List.mem_append_right _ h))) (by decide +kernel))
set_option maxRecDepth 20000 in
theorem gL_isWhole_L_fightOf : GoodIn wsL_isWhole (va_wsS RL 125 yL_fightOf wsL_fightOf) := goodIn_app (goodIn_of _ (by decide +kernel)) ggL_isWhole_L_fightOf
set_option maxRecDepth 20000 in
theorem ggL_isWhole_L_overlay : GoodIn wsL_isWhole wsL_overlay := goodIn_ca (goodIn_r _ [99, 16, 17, 100, 101, 102, 4, 103, 6, 68, 69, 70, 71, 26, 27, 72, 73, 74, 75, 76, 77, 78, 79, 80, 81, 82, 83, 84, 85, 86, 87, 88, 89, 90, 91, 92, 93, 94, 95, 96, 104, 105, 106, 107, 108, 109, 110, 111, 112, 113, 114, 115, 116, 117, 145, 146, 147, 148, 149, 150, 151, 152, 153, 154, 155, 156, 157, 158, 159, 167, 168, 169, 170, 171, 172, 173, 174] (by decide +kernel) (by decide +kernel)) (goodIn_sub (fun _ h => List.mem_cons_of_mem _ (List.mem_append_left _ (List.mem_append_right _ h))) (by decide +kernel))
set_option maxRecDepth 20000 in
theorem gL_isWhole_L_overlay : GoodIn wsL_isWhole (va_wsS RL 123 yL_overlay wsL_overlay) := goodIn_app (goodIn_of _ (by decide +kernel)) ggL_isWhole_L_overlay
set_option maxRecDepth 20000 in
theorem ggL_isWhole_L_points : GoodIn wsL_isWhole wsL_points := goodIn_ca (goodIn_r _ [120, 16, 17, 121, 122, 123, 4, 124, 11, 68, 69, 70, 71, 26, 27, 72, 73, 74, 75, 76, 77, 78, 79, 80, 81, 82, 83, 84, 85, 86, 87, 88, 89, 90, 91, 92, 93, 94, 95, 96, 104, 105, 106, 107, 108, 109, 110, 111, 112, 113, 114, 115, 116, 117, 145, 146, 147, 148, 149, 150, 151, 152, 153, 154, 155, 156, 157, 158, 159, 167, 168, 169, 170, 171, 172, 173, 174] (by decide +kernel) (by decide +kernel)) (goodIn_sub (fun _ h => List.mem_cons_of_mem _ (List.mem_append_left _ (List.mem_append_right _ h))) (by decide +kernel))
set_option maxRecDepth 20000 in
theorem gL_isWhole_L_points : GoodIn wsL_isWhole (va_wsS RL 121 yL_points wsL_points) := goodIn_app (goodIn_of _ (by decide +kernel)) ggL_isWhole_L_points
set_option maxRecDepth 20000 in
theorem ggL_isWhole_L_cameraOf : GoodIn wsL_isWhole wsL_cameraOf := goodIn_ca (goodIn_ca (goodIn_r _ [127, 16, 55, 17, 56, 128, 129, 130, 4, 131, 26, 27, 61, 62, 132, 133, 134, 135, 74, 75, 76, 77, 78, 79, 80, 81, 82, 83, 84, 85, 86, 87, 88, 89, 90, 91, 92, 93, 94, 95, 96, 145, 146, 147, 148, 149, 150, 151, 152, 153, 154, 155, 156, 157, 158, 159, 175, 176, 177, 178, 167, 168, 169] (by decide +kernel) (by decide +kernel)) (goodIn_sub (fun _ h => List.mem_cons_of_mem _ (List.mem_append_left _ (List.mem_append_right _ h))) (by decide +kernel))) (goodIn_sub (fun _ h => List.mem_cons_of_mem _ (List.mem_append_right _ h)) (by decide +kernel))
set_option maxRecDepth 20000 in
theorem gL_isWhole_L_cameraOf : GoodIn wsL_isWhole (va_wsS RL 127 yL_cameraOf wsL_cameraOf) := goodIn_app (goodIn_of _ (by decide +kernel)) ggL_isWhole_L_cameraOf
set_option maxRecDepth 20000 in
theorem ggL_isWhole_L_shown : GoodIn wsL_isWhole wsL_shown := goodIn_ca (goodIn_ca (goodIn_r _ [138, 16, 55, 17, 56, 139, 140, 141, 4, 142, 26, 27, 61, 62, 11, 143, 144, 35, 145, 146, 147, 148, 149, 150, 151, 152, 153, 154, 155, 156, 157, 158, 159] (by decide +kernel) (by decide +kernel)) (goodIn_sub (fun _ h => List.mem_cons_of_mem _ (List.mem_append_left _ (List.mem_append_right _ h))) (by decide +kernel))) (goodIn_sub (fun _ h => List.mem_cons_of_mem _ (List.mem_append_right _ h)) (by decide +kernel))
set_option maxRecDepth 20000 in
theorem gL_isWhole_L_shown : GoodIn wsL_isWhole (va_wsS RL 119 yL_shown wsL_shown) := goodIn_app (goodIn_of _ (by decide +kernel)) ggL_isWhole_L_shown
theorem dL_isWhole_0 : decode cL_isWhole 0 = .ok (.aload_n 0, 1) := by decide +kernel
theorem dL_isWhole_1 : decode cL_isWhole 1 = .ok (.invokevirtual 138, 3) := by decide +kernel
theorem dL_isWhole_4 : decode cL_isWhole 4 = .ok (.aload_n 0, 1) := by decide +kernel
theorem dL_isWhole_5 : decode cL_isWhole 5 = .ok (.invokevirtual 86, 3) := by decide +kernel
theorem dL_isWhole_8 : decode cL_isWhole 8 = .ok (.if_icmp .lt 18, 3) := by decide +kernel
theorem dL_isWhole_11 : decode cL_isWhole 11 = .ok (.aload_n 0, 1) := by decide +kernel
theorem dL_isWhole_12 : decode cL_isWhole 12 = .ok (.invokevirtual 86, 3) := by decide +kernel
theorem dL_isWhole_15 : decode cL_isWhole 15 = .ok (.ifCond .ne 15, 3) := by decide +kernel
theorem dL_isWhole_18 : decode cL_isWhole 18 = .ok (.aload_n 0, 1) := by decide +kernel
theorem dL_isWhole_19 : decode cL_isWhole 19 = .ok (.invokevirtual 138, 3) := by decide +kernel
theorem dL_isWhole_22 : decode cL_isWhole 22 = .ok (.iconst (-1), 1) := by decide +kernel
theorem dL_isWhole_23 : decode cL_isWhole 23 = .ok (.if_icmp .ne 7, 3) := by decide +kernel
theorem dL_isWhole_26 : decode cL_isWhole 26 = .ok (.iconst 1, 1) := by decide +kernel
theorem dL_isWhole_27 : decode cL_isWhole 27 = .ok (.goto 4, 3) := by decide +kernel
theorem dL_isWhole_30 : decode cL_isWhole 30 = .ok (.iconst 0, 1) := by decide +kernel
theorem dL_isWhole_31 : decode cL_isWhole 31 = .ok (.istore 4, 2) := by decide +kernel
theorem dL_isWhole_33 : decode cL_isWhole 33 = .ok (.iconst 0, 1) := by decide +kernel
theorem dL_isWhole_34 : decode cL_isWhole 34 = .ok (.istore 5, 2) := by decide +kernel
theorem dL_isWhole_36 : decode cL_isWhole 36 = .ok (.iconst 0, 1) := by decide +kernel
theorem dL_isWhole_37 : decode cL_isWhole 37 = .ok (.istore 6, 2) := by decide +kernel
theorem dL_isWhole_39 : decode cL_isWhole 39 = .ok (.iload 6, 2) := by decide +kernel
theorem dL_isWhole_41 : decode cL_isWhole 41 = .ok (.bipush 6, 2) := by decide +kernel
theorem dL_isWhole_43 : decode cL_isWhole 43 = .ok (.if_icmp .ge 56, 3) := by decide +kernel
theorem dL_isWhole_46 : decode cL_isWhole 46 = .ok (.iload 4, 2) := by decide +kernel
theorem dL_isWhole_48 : decode cL_isWhole 48 = .ok (.ifCond .eq 51, 3) := by decide +kernel
theorem dL_isWhole_51 : decode cL_isWhole 51 = .ok (.iload 5, 2) := by decide +kernel
theorem dL_isWhole_53 : decode cL_isWhole 53 = .ok (.aload_n 0, 1) := by decide +kernel
theorem dL_isWhole_54 : decode cL_isWhole 54 = .ok (.iload 6, 2) := by decide +kernel
theorem dL_isWhole_56 : decode cL_isWhole 56 = .ok (.invokestatic 129, 3) := by decide +kernel
theorem dL_isWhole_59 : decode cL_isWhole 59 = .ok (.iadd, 1) := by decide +kernel
theorem dL_isWhole_60 : decode cL_isWhole 60 = .ok (.istore 5, 2) := by decide +kernel
theorem dL_isWhole_62 : decode cL_isWhole 62 = .ok (.aload_n 0, 1) := by decide +kernel
theorem dL_isWhole_63 : decode cL_isWhole 63 = .ok (.iload 6, 2) := by decide +kernel
theorem dL_isWhole_65 : decode cL_isWhole 65 = .ok (.invokestatic 131, 3) := by decide +kernel
theorem dL_isWhole_68 : decode cL_isWhole 68 = .ok (.aload_n 0, 1) := by decide +kernel
theorem dL_isWhole_69 : decode cL_isWhole 69 = .ok (.iload 6, 2) := by decide +kernel
theorem dL_isWhole_71 : decode cL_isWhole 71 = .ok (.invokestatic 129, 3) := by decide +kernel
theorem dL_isWhole_74 : decode cL_isWhole 74 = .ok (.if_icmp .ne 16, 3) := by decide +kernel
theorem dL_isWhole_77 : decode cL_isWhole 77 = .ok (.aload_n 0, 1) := by decide +kernel
theorem dL_isWhole_78 : decode cL_isWhole 78 = .ok (.iload 6, 2) := by decide +kernel
theorem dL_isWhole_80 : decode cL_isWhole 80 = .ok (.invokestatic 134, 3) := by decide +kernel
theorem dL_isWhole_83 : decode cL_isWhole 83 = .ok (.ifCond .lt 7, 3) := by decide +kernel
theorem dL_isWhole_86 : decode cL_isWhole 86 = .ok (.iconst 1, 1) := by decide +kernel
theorem dL_isWhole_87 : decode cL_isWhole 87 = .ok (.goto 4, 3) := by decide +kernel
theorem dL_isWhole_90 : decode cL_isWhole 90 = .ok (.iconst 0, 1) := by decide +kernel
theorem dL_isWhole_91 : decode cL_isWhole 91 = .ok (.istore 4, 2) := by decide +kernel
theorem dL_isWhole_93 : decode cL_isWhole 93 = .ok (.iinc 6 1, 3) := by decide +kernel
theorem dL_isWhole_96 : decode cL_isWhole 96 = .ok (.goto (-57), 3) := by decide +kernel
theorem dL_isWhole_99 : decode cL_isWhole 99 = .ok (.iconst 0, 1) := by decide +kernel
theorem dL_isWhole_100 : decode cL_isWhole 100 = .ok (.istore 6, 2) := by decide +kernel
theorem dL_isWhole_102 : decode cL_isWhole 102 = .ok (.iconst 0, 1) := by decide +kernel
theorem dL_isWhole_103 : decode cL_isWhole 103 = .ok (.istore 7, 2) := by decide +kernel
theorem dL_isWhole_105 : decode cL_isWhole 105 = .ok (.iload 7, 2) := by decide +kernel
theorem dL_isWhole_107 : decode cL_isWhole 107 = .ok (.aload_n 1, 1) := by decide +kernel
theorem dL_isWhole_108 : decode cL_isWhole 108 = .ok (.iconst 0, 1) := by decide +kernel
theorem dL_isWhole_109 : decode cL_isWhole 109 = .ok (.iaload, 1) := by decide +kernel
theorem dL_isWhole_110 : decode cL_isWhole 110 = .ok (.if_icmp .ge 216, 3) := by decide +kernel
theorem dL_isWhole_113 : decode cL_isWhole 113 = .ok (.iload 4, 2) := by decide +kernel
theorem dL_isWhole_115 : decode cL_isWhole 115 = .ok (.ifCond .eq 211, 3) := by decide +kernel
theorem dL_isWhole_118 : decode cL_isWhole 118 = .ok (.aload_n 0, 1) := by decide +kernel
theorem dL_isWhole_119 : decode cL_isWhole 119 = .ok (.iload 7, 2) := by decide +kernel
theorem dL_isWhole_121 : decode cL_isWhole 121 = .ok (.iconst 3, 1) := by decide +kernel
theorem dL_isWhole_122 : decode cL_isWhole 122 = .ok (.invokestatic 125, 3) := by decide +kernel
theorem dL_isWhole_125 : decode cL_isWhole 125 = .ok (.istore 8, 2) := by decide +kernel
theorem dL_isWhole_127 : decode cL_isWhole 127 = .ok (.aload_n 0, 1) := by decide +kernel
theorem dL_isWhole_128 : decode cL_isWhole 128 = .ok (.iload 7, 2) := by decide +kernel
theorem dL_isWhole_130 : decode cL_isWhole 130 = .ok (.iconst 0, 1) := by decide +kernel
theorem dL_isWhole_131 : decode cL_isWhole 131 = .ok (.invokestatic 125, 3) := by decide +kernel
theorem dL_isWhole_134 : decode cL_isWhole 134 = .ok (.istore 9, 2) := by decide +kernel
theorem dL_isWhole_136 : decode cL_isWhole 136 = .ok (.iload_n 3, 1) := by decide +kernel
theorem dL_isWhole_137 : decode cL_isWhole 137 = .ok (.bipush 10, 2) := by decide +kernel
theorem dL_isWhole_139 : decode cL_isWhole 139 = .ok (.irem, 1) := by decide +kernel
theorem dL_isWhole_140 : decode cL_isWhole 140 = .ok (.istore 10, 2) := by decide +kernel
theorem dL_isWhole_142 : decode cL_isWhole 142 = .ok (.iload 6, 2) := by decide +kernel
theorem dL_isWhole_144 : decode cL_isWhole 144 = .ok (.aload_n 0, 1) := by decide +kernel
theorem dL_isWhole_145 : decode cL_isWhole 145 = .ok (.iload 7, 2) := by decide +kernel
theorem dL_isWhole_147 : decode cL_isWhole 147 = .ok (.iconst 4, 1) := by decide +kernel
theorem dL_isWhole_148 : decode cL_isWhole 148 = .ok (.invokestatic 125, 3) := by decide +kernel
theorem dL_isWhole_151 : decode cL_isWhole 151 = .ok (.iadd, 1) := by decide +kernel
theorem dL_isWhole_152 : decode cL_isWhole 152 = .ok (.istore 6, 2) := by decide +kernel
theorem dL_isWhole_154 : decode cL_isWhole 154 = .ok (.iload 9, 2) := by decide +kernel
theorem dL_isWhole_156 : decode cL_isWhole 156 = .ok (.iconst 1, 1) := by decide +kernel
theorem dL_isWhole_157 : decode cL_isWhole 157 = .ok (.if_icmp .eq 9, 3) := by decide +kernel
theorem dL_isWhole_160 : decode cL_isWhole 160 = .ok (.iload 8, 2) := by decide +kernel
theorem dL_isWhole_162 : decode cL_isWhole 162 = .ok (.iconst (-1), 1) := by decide +kernel
theorem dL_isWhole_163 : decode cL_isWhole 163 = .ok (.if_icmp .ne 154, 3) := by decide +kernel
theorem dL_isWhole_166 : decode cL_isWhole 166 = .ok (.iload 8, 2) := by decide +kernel
theorem dL_isWhole_168 : decode cL_isWhole 168 = .ok (.iconst (-1), 1) := by decide +kernel
theorem dL_isWhole_169 : decode cL_isWhole 169 = .ok (.if_icmp .eq 27, 3) := by decide +kernel
theorem dL_isWhole_172 : decode cL_isWhole 172 = .ok (.iload 8, 2) := by decide +kernel
theorem dL_isWhole_174 : decode cL_isWhole 174 = .ok (.aload_n 0, 1) := by decide +kernel
theorem dL_isWhole_175 : decode cL_isWhole 175 = .ok (.iload 7, 2) := by decide +kernel
theorem dL_isWhole_177 : decode cL_isWhole 177 = .ok (.iconst 1, 1) := by decide +kernel
theorem dL_isWhole_178 : decode cL_isWhole 178 = .ok (.invokestatic 125, 3) := by decide +kernel
theorem dL_isWhole_181 : decode cL_isWhole 181 = .ok (.if_icmp .eq 15, 3) := by decide +kernel
theorem dL_isWhole_184 : decode cL_isWhole 184 = .ok (.iload 8, 2) := by decide +kernel
theorem dL_isWhole_186 : decode cL_isWhole 186 = .ok (.aload_n 0, 1) := by decide +kernel
theorem dL_isWhole_187 : decode cL_isWhole 187 = .ok (.iload 7, 2) := by decide +kernel
theorem dL_isWhole_189 : decode cL_isWhole 189 = .ok (.iconst 2, 1) := by decide +kernel
theorem dL_isWhole_190 : decode cL_isWhole 190 = .ok (.invokestatic 125, 3) := by decide +kernel
theorem dL_isWhole_193 : decode cL_isWhole 193 = .ok (.if_icmp .ne 124, 3) := by decide +kernel
theorem dL_isWhole_196 : decode cL_isWhole 196 = .ok (.aload_n 0, 1) := by decide +kernel
theorem dL_isWhole_197 : decode cL_isWhole 197 = .ok (.iload 7, 2) := by decide +kernel
theorem dL_isWhole_199 : decode cL_isWhole 199 = .ok (.iload 10, 2) := by decide +kernel
theorem dL_isWhole_201 : decode cL_isWhole 201 = .ok (.invokestatic 123, 3) := by decide +kernel
theorem dL_isWhole_204 : decode cL_isWhole 204 = .ok (.aload_n 0, 1) := by decide +kernel
theorem dL_isWhole_205 : decode cL_isWhole 205 = .ok (.iload 7, 2) := by decide +kernel
theorem dL_isWhole_207 : decode cL_isWhole 207 = .ok (.iload 10, 2) := by decide +kernel
theorem dL_isWhole_209 : decode cL_isWhole 209 = .ok (.invokestatic 121, 3) := by decide +kernel
theorem dL_isWhole_212 : decode cL_isWhole 212 = .ok (.if_icmp .gt 105, 3) := by decide +kernel
theorem dL_isWhole_215 : decode cL_isWhole 215 = .ok (.iload 9, 2) := by decide +kernel
theorem dL_isWhole_217 : decode cL_isWhole 217 = .ok (.iconst 2, 1) := by decide +kernel
theorem dL_isWhole_218 : decode cL_isWhole 218 = .ok (.if_icmp .ne 14, 3) := by decide +kernel
theorem dL_isWhole_221 : decode cL_isWhole 221 = .ok (.aload_n 0, 1) := by decide +kernel
theorem dL_isWhole_222 : decode cL_isWhole 222 = .ok (.iload 7, 2) := by decide +kernel
theorem dL_isWhole_224 : decode cL_isWhole 224 = .ok (.iload 10, 2) := by decide +kernel
theorem dL_isWhole_226 : decode cL_isWhole 226 = .ok (.invokestatic 121, 3) := by decide +kernel
theorem dL_isWhole_229 : decode cL_isWhole 229 = .ok (.ifCond .ne 88, 3) := by decide +kernel
theorem dL_isWhole_232 : decode cL_isWhole 232 = .ok (.iload 10, 2) := by decide +kernel
theorem dL_isWhole_234 : decode cL_isWhole 234 = .ok (.aload_n 0, 1) := by decide +kernel
theorem dL_isWhole_235 : decode cL_isWhole 235 = .ok (.iload 7, 2) := by decide +kernel
theorem dL_isWhole_237 : decode cL_isWhole 237 = .ok (.iconst 1, 1) := by decide +kernel
theorem dL_isWhole_238 : decode cL_isWhole 238 = .ok (.invokestatic 125, 3) := by decide +kernel
theorem dL_isWhole_241 : decode cL_isWhole 241 = .ok (.if_icmp .eq 26, 3) := by decide +kernel
theorem dL_isWhole_244 : decode cL_isWhole 244 = .ok (.iload 10, 2) := by decide +kernel
theorem dL_isWhole_246 : decode cL_isWhole 246 = .ok (.aload_n 0, 1) := by decide +kernel
theorem dL_isWhole_247 : decode cL_isWhole 247 = .ok (.iload 7, 2) := by decide +kernel
theorem dL_isWhole_249 : decode cL_isWhole 249 = .ok (.iconst 2, 1) := by decide +kernel
theorem dL_isWhole_250 : decode cL_isWhole 250 = .ok (.invokestatic 125, 3) := by decide +kernel
theorem dL_isWhole_253 : decode cL_isWhole 253 = .ok (.if_icmp .eq 14, 3) := by decide +kernel
theorem dL_isWhole_256 : decode cL_isWhole 256 = .ok (.aload_n 0, 1) := by decide +kernel
theorem dL_isWhole_257 : decode cL_isWhole 257 = .ok (.iload 7, 2) := by decide +kernel
theorem dL_isWhole_259 : decode cL_isWhole 259 = .ok (.iload 10, 2) := by decide +kernel
theorem dL_isWhole_261 : decode cL_isWhole 261 = .ok (.invokestatic 121, 3) := by decide +kernel
theorem dL_isWhole_264 : decode cL_isWhole 264 = .ok (.ifCond .ne 53, 3) := by decide +kernel
theorem dL_isWhole_267 : decode cL_isWhole 267 = .ok (.iload 8, 2) := by decide +kernel
theorem dL_isWhole_269 : decode cL_isWhole 269 = .ok (.iconst (-1), 1) := by decide +kernel
theorem dL_isWhole_270 : decode cL_isWhole 270 = .ok (.if_icmp .eq 43, 3) := by decide +kernel
theorem dL_isWhole_273 : decode cL_isWhole 273 = .ok (.aload_n 0, 1) := by decide +kernel
theorem dL_isWhole_274 : decode cL_isWhole 274 = .ok (.iload 7, 2) := by decide +kernel
theorem dL_isWhole_276 : decode cL_isWhole 276 = .ok (.iload 8, 2) := by decide +kernel
theorem dL_isWhole_278 : decode cL_isWhole 278 = .ok (.invokestatic 121, 3) := by decide +kernel
theorem dL_isWhole_281 : decode cL_isWhole 281 = .ok (.iconst 2, 1) := by decide +kernel
theorem dL_isWhole_282 : decode cL_isWhole 282 = .ok (.imul, 1) := by decide +kernel
theorem dL_isWhole_283 : decode cL_isWhole 283 = .ok (.aload_n 0, 1) := by decide +kernel
theorem dL_isWhole_284 : decode cL_isWhole 284 = .ok (.iload 7, 2) := by decide +kernel
theorem dL_isWhole_286 : decode cL_isWhole 286 = .ok (.aload_n 0, 1) := by decide +kernel
theorem dL_isWhole_287 : decode cL_isWhole 287 = .ok (.iload 7, 2) := by decide +kernel
theorem dL_isWhole_289 : decode cL_isWhole 289 = .ok (.iconst 1, 1) := by decide +kernel
theorem dL_isWhole_290 : decode cL_isWhole 290 = .ok (.invokestatic 125, 3) := by decide +kernel
theorem dL_isWhole_293 : decode cL_isWhole 293 = .ok (.invokestatic 121, 3) := by decide +kernel
theorem dL_isWhole_296 : decode cL_isWhole 296 = .ok (.aload_n 0, 1) := by decide +kernel
theorem dL_isWhole_297 : decode cL_isWhole 297 = .ok (.iload 7, 2) := by decide +kernel
theorem dL_isWhole_299 : decode cL_isWhole 299 = .ok (.aload_n 0, 1) := by decide +kernel
theorem dL_isWhole_300 : decode cL_isWhole 300 = .ok (.iload 7, 2) := by decide +kernel
theorem dL_isWhole_302 : decode cL_isWhole 302 = .ok (.iconst 2, 1) := by decide +kernel
theorem dL_isWhole_303 : decode cL_isWhole 303 = .ok (.invokestatic 125, 3) := by decide +kernel
theorem dL_isWhole_306 : decode cL_isWhole 306 = .ok (.invokestatic 121, 3) := by decide +kernel
theorem dL_isWhole_309 : decode cL_isWhole 309 = .ok (.iadd, 1) := by decide +kernel
theorem dL_isWhole_310 : decode cL_isWhole 310 = .ok (.if_icmp .le 7, 3) := by decide +kernel
theorem dL_isWhole_313 : decode cL_isWhole 313 = .ok (.iconst 1, 1) := by decide +kernel
theorem dL_isWhole_314 : decode cL_isWhole 314 = .ok (.goto 4, 3) := by decide +kernel
theorem dL_isWhole_317 : decode cL_isWhole 317 = .ok (.iconst 0, 1) := by decide +kernel
theorem dL_isWhole_318 : decode cL_isWhole 318 = .ok (.istore 4, 2) := by decide +kernel
theorem dL_isWhole_320 : decode cL_isWhole 320 = .ok (.iinc 7 1, 3) := by decide +kernel
theorem dL_isWhole_323 : decode cL_isWhole 323 = .ok (.goto (-218), 3) := by decide +kernel
theorem dL_isWhole_326 : decode cL_isWhole 326 = .ok (.iconst 0, 1) := by decide +kernel
theorem dL_isWhole_327 : decode cL_isWhole 327 = .ok (.istore 7, 2) := by decide +kernel
theorem dL_isWhole_329 : decode cL_isWhole 329 = .ok (.iload 7, 2) := by decide +kernel
theorem dL_isWhole_331 : decode cL_isWhole 331 = .ok (.aload_n 1, 1) := by decide +kernel
theorem dL_isWhole_332 : decode cL_isWhole 332 = .ok (.iconst 1, 1) := by decide +kernel
theorem dL_isWhole_333 : decode cL_isWhole 333 = .ok (.iaload, 1) := by decide +kernel
theorem dL_isWhole_334 : decode cL_isWhole 334 = .ok (.if_icmp .ge 92, 3) := by decide +kernel
theorem dL_isWhole_337 : decode cL_isWhole 337 = .ok (.iload 4, 2) := by decide +kernel
theorem dL_isWhole_339 : decode cL_isWhole 339 = .ok (.ifCond .eq 87, 3) := by decide +kernel
theorem dL_isWhole_342 : decode cL_isWhole 342 = .ok (.aload_n 0, 1) := by decide +kernel
theorem dL_isWhole_343 : decode cL_isWhole 343 = .ok (.iload 7, 2) := by decide +kernel
theorem dL_isWhole_345 : decode cL_isWhole 345 = .ok (.iconst 0, 1) := by decide +kernel
theorem dL_isWhole_346 : decode cL_isWhole 346 = .ok (.invokestatic 127, 3) := by decide +kernel
theorem dL_isWhole_349 : decode cL_isWhole 349 = .ok (.aload_n 2, 1) := by decide +kernel
theorem dL_isWhole_350 : decode cL_isWhole 350 = .ok (.iload 7, 2) := by decide +kernel
theorem dL_isWhole_352 : decode cL_isWhole 352 = .ok (.iaload, 1) := by decide +kernel
theorem dL_isWhole_353 : decode cL_isWhole 353 = .ok (.if_icmp .gt 64, 3) := by decide +kernel
theorem dL_isWhole_356 : decode cL_isWhole 356 = .ok (.aload_n 0, 1) := by decide +kernel
theorem dL_isWhole_357 : decode cL_isWhole 357 = .ok (.iload 7, 2) := by decide +kernel
theorem dL_isWhole_359 : decode cL_isWhole 359 = .ok (.iconst 1, 1) := by decide +kernel
theorem dL_isWhole_360 : decode cL_isWhole 360 = .ok (.invokestatic 127, 3) := by decide +kernel
theorem dL_isWhole_363 : decode cL_isWhole 363 = .ok (.ifCond .lt 54, 3) := by decide +kernel
theorem dL_isWhole_366 : decode cL_isWhole 366 = .ok (.aload_n 0, 1) := by decide +kernel
theorem dL_isWhole_367 : decode cL_isWhole 367 = .ok (.iload 7, 2) := by decide +kernel
theorem dL_isWhole_369 : decode cL_isWhole 369 = .ok (.iconst 0, 1) := by decide +kernel
theorem dL_isWhole_370 : decode cL_isWhole 370 = .ok (.invokestatic 127, 3) := by decide +kernel
theorem dL_isWhole_373 : decode cL_isWhole 373 = .ok (.aload_n 2, 1) := by decide +kernel
theorem dL_isWhole_374 : decode cL_isWhole 374 = .ok (.iload 7, 2) := by decide +kernel
theorem dL_isWhole_376 : decode cL_isWhole 376 = .ok (.iaload, 1) := by decide +kernel
theorem dL_isWhole_377 : decode cL_isWhole 377 = .ok (.if_icmp .ne 7, 3) := by decide +kernel
theorem dL_isWhole_380 : decode cL_isWhole 380 = .ok (.iconst 1, 1) := by decide +kernel
theorem dL_isWhole_381 : decode cL_isWhole 381 = .ok (.goto 4, 3) := by decide +kernel
theorem dL_isWhole_384 : decode cL_isWhole 384 = .ok (.iconst 0, 1) := by decide +kernel
theorem dL_isWhole_385 : decode cL_isWhole 385 = .ok (.aload_n 0, 1) := by decide +kernel
theorem dL_isWhole_386 : decode cL_isWhole 386 = .ok (.iload 7, 2) := by decide +kernel
theorem dL_isWhole_388 : decode cL_isWhole 388 = .ok (.iconst 0, 1) := by decide +kernel
theorem dL_isWhole_389 : decode cL_isWhole 389 = .ok (.invokestatic 127, 3) := by decide +kernel
theorem dL_isWhole_392 : decode cL_isWhole 392 = .ok (.ifCond .le 17, 3) := by decide +kernel
theorem dL_isWhole_395 : decode cL_isWhole 395 = .ok (.aload_n 0, 1) := by decide +kernel
theorem dL_isWhole_396 : decode cL_isWhole 396 = .ok (.iload 7, 2) := by decide +kernel
theorem dL_isWhole_398 : decode cL_isWhole 398 = .ok (.iconst 1, 1) := by decide +kernel
theorem dL_isWhole_399 : decode cL_isWhole 399 = .ok (.invokestatic 127, 3) := by decide +kernel
theorem dL_isWhole_402 : decode cL_isWhole 402 = .ok (.ifCond .le 7, 3) := by decide +kernel
theorem dL_isWhole_405 : decode cL_isWhole 405 = .ok (.iconst 1, 1) := by decide +kernel
theorem dL_isWhole_406 : decode cL_isWhole 406 = .ok (.goto 4, 3) := by decide +kernel
theorem dL_isWhole_409 : decode cL_isWhole 409 = .ok (.iconst 0, 1) := by decide +kernel
theorem dL_isWhole_410 : decode cL_isWhole 410 = .ok (.if_icmp .ne 7, 3) := by decide +kernel
theorem dL_isWhole_413 : decode cL_isWhole 413 = .ok (.iconst 1, 1) := by decide +kernel
theorem dL_isWhole_414 : decode cL_isWhole 414 = .ok (.goto 4, 3) := by decide +kernel
theorem dL_isWhole_417 : decode cL_isWhole 417 = .ok (.iconst 0, 1) := by decide +kernel
theorem dL_isWhole_418 : decode cL_isWhole 418 = .ok (.istore 4, 2) := by decide +kernel
theorem dL_isWhole_420 : decode cL_isWhole 420 = .ok (.iinc 7 1, 3) := by decide +kernel
theorem dL_isWhole_423 : decode cL_isWhole 423 = .ok (.goto (-94), 3) := by decide +kernel
theorem dL_isWhole_426 : decode cL_isWhole 426 = .ok (.iconst 0, 1) := by decide +kernel
theorem dL_isWhole_427 : decode cL_isWhole 427 = .ok (.istore 7, 2) := by decide +kernel
theorem dL_isWhole_429 : decode cL_isWhole 429 = .ok (.iconst 0, 1) := by decide +kernel
theorem dL_isWhole_430 : decode cL_isWhole 430 = .ok (.istore 8, 2) := by decide +kernel
theorem dL_isWhole_432 : decode cL_isWhole 432 = .ok (.iload 8, 2) := by decide +kernel
theorem dL_isWhole_434 : decode cL_isWhole 434 = .ok (.aload_n 0, 1) := by decide +kernel
theorem dL_isWhole_435 : decode cL_isWhole 435 = .ok (.invokevirtual 86, 3) := by decide +kernel
theorem dL_isWhole_438 : decode cL_isWhole 438 = .ok (.if_icmp .ge 100, 3) := by decide +kernel
theorem dL_isWhole_441 : decode cL_isWhole 441 = .ok (.iload 4, 2) := by decide +kernel
theorem dL_isWhole_443 : decode cL_isWhole 443 = .ok (.ifCond .eq 95, 3) := by decide +kernel
theorem dL_isWhole_446 : decode cL_isWhole 446 = .ok (.aload_n 0, 1) := by decide +kernel
theorem dL_isWhole_447 : decode cL_isWhole 447 = .ok (.iload 8, 2) := by decide +kernel
theorem dL_isWhole_449 : decode cL_isWhole 449 = .ok (.iconst 0, 1) := by decide +kernel
theorem dL_isWhole_450 : decode cL_isWhole 450 = .ok (.invokestatic 119, 3) := by decide +kernel
theorem dL_isWhole_453 : decode cL_isWhole 453 = .ok (.istore 9, 2) := by decide +kernel
theorem dL_isWhole_455 : decode cL_isWhole 455 = .ok (.iload 7, 2) := by decide +kernel
theorem dL_isWhole_457 : decode cL_isWhole 457 = .ok (.iload 9, 2) := by decide +kernel
theorem dL_isWhole_459 : decode cL_isWhole 459 = .ok (.ifCond .lt 7, 3) := by decide +kernel
theorem dL_isWhole_462 : decode cL_isWhole 462 = .ok (.iconst 1, 1) := by decide +kernel
theorem dL_isWhole_463 : decode cL_isWhole 463 = .ok (.goto 4, 3) := by decide +kernel
theorem dL_isWhole_466 : decode cL_isWhole 466 = .ok (.iconst 0, 1) := by decide +kernel
theorem dL_isWhole_467 : decode cL_isWhole 467 = .ok (.iadd, 1) := by decide +kernel
theorem dL_isWhole_468 : decode cL_isWhole 468 = .ok (.istore 7, 2) := by decide +kernel
theorem dL_isWhole_470 : decode cL_isWhole 470 = .ok (.iload 9, 2) := by decide +kernel
theorem dL_isWhole_472 : decode cL_isWhole 472 = .ok (.ifCond .lt 7, 3) := by decide +kernel
theorem dL_isWhole_475 : decode cL_isWhole 475 = .ok (.iconst 1, 1) := by decide +kernel
theorem dL_isWhole_476 : decode cL_isWhole 476 = .ok (.goto 4, 3) := by decide +kernel
theorem dL_isWhole_479 : decode cL_isWhole 479 = .ok (.iconst 0, 1) := by decide +kernel
theorem dL_isWhole_480 : decode cL_isWhole 480 = .ok (.aload_n 0, 1) := by decide +kernel
theorem dL_isWhole_481 : decode cL_isWhole 481 = .ok (.iload 8, 2) := by decide +kernel
theorem dL_isWhole_483 : decode cL_isWhole 483 = .ok (.iconst 1, 1) := by decide +kernel
theorem dL_isWhole_484 : decode cL_isWhole 484 = .ok (.invokestatic 119, 3) := by decide +kernel
theorem dL_isWhole_487 : decode cL_isWhole 487 = .ok (.ifCond .lt 7, 3) := by decide +kernel
theorem dL_isWhole_490 : decode cL_isWhole 490 = .ok (.iconst 1, 1) := by decide +kernel
theorem dL_isWhole_491 : decode cL_isWhole 491 = .ok (.goto 4, 3) := by decide +kernel
theorem dL_isWhole_494 : decode cL_isWhole 494 = .ok (.iconst 0, 1) := by decide +kernel
theorem dL_isWhole_495 : decode cL_isWhole 495 = .ok (.if_icmp .ne 34, 3) := by decide +kernel
theorem dL_isWhole_498 : decode cL_isWhole 498 = .ok (.aload_n 0, 1) := by decide +kernel
theorem dL_isWhole_499 : decode cL_isWhole 499 = .ok (.iload 8, 2) := by decide +kernel
theorem dL_isWhole_501 : decode cL_isWhole 501 = .ok (.iconst 2, 1) := by decide +kernel
theorem dL_isWhole_502 : decode cL_isWhole 502 = .ok (.invokestatic 119, 3) := by decide +kernel
theorem dL_isWhole_505 : decode cL_isWhole 505 = .ok (.iconst (-1), 1) := by decide +kernel
theorem dL_isWhole_506 : decode cL_isWhole 506 = .ok (.if_icmp .eq 19, 3) := by decide +kernel
theorem dL_isWhole_509 : decode cL_isWhole 509 = .ok (.iload 9, 2) := by decide +kernel
theorem dL_isWhole_511 : decode cL_isWhole 511 = .ok (.ifCond .lt 18, 3) := by decide +kernel
theorem dL_isWhole_514 : decode cL_isWhole 514 = .ok (.aload_n 0, 1) := by decide +kernel
theorem dL_isWhole_515 : decode cL_isWhole 515 = .ok (.iload 9, 2) := by decide +kernel
theorem dL_isWhole_517 : decode cL_isWhole 517 = .ok (.iconst 0, 1) := by decide +kernel
theorem dL_isWhole_518 : decode cL_isWhole 518 = .ok (.invokestatic 125, 3) := by decide +kernel
theorem dL_isWhole_521 : decode cL_isWhole 521 = .ok (.iconst 2, 1) := by decide +kernel
theorem dL_isWhole_522 : decode cL_isWhole 522 = .ok (.if_icmp .eq 7, 3) := by decide +kernel
theorem dL_isWhole_525 : decode cL_isWhole 525 = .ok (.iconst 1, 1) := by decide +kernel
theorem dL_isWhole_526 : decode cL_isWhole 526 = .ok (.goto 4, 3) := by decide +kernel
theorem dL_isWhole_529 : decode cL_isWhole 529 = .ok (.iconst 0, 1) := by decide +kernel
theorem dL_isWhole_530 : decode cL_isWhole 530 = .ok (.istore 4, 2) := by decide +kernel
theorem dL_isWhole_532 : decode cL_isWhole 532 = .ok (.iinc 8 1, 3) := by decide +kernel
theorem dL_isWhole_535 : decode cL_isWhole 535 = .ok (.goto (-103), 3) := by decide +kernel
theorem dL_isWhole_538 : decode cL_isWhole 538 = .ok (.iload 4, 2) := by decide +kernel
theorem dL_isWhole_540 : decode cL_isWhole 540 = .ok (.ifCond .eq 21, 3) := by decide +kernel
theorem dL_isWhole_543 : decode cL_isWhole 543 = .ok (.iload 7, 2) := by decide +kernel
theorem dL_isWhole_545 : decode cL_isWhole 545 = .ok (.iload 6, 2) := by decide +kernel
theorem dL_isWhole_547 : decode cL_isWhole 547 = .ok (.if_icmp .ne 14, 3) := by decide +kernel
theorem dL_isWhole_550 : decode cL_isWhole 550 = .ok (.iload 5, 2) := by decide +kernel
theorem dL_isWhole_552 : decode cL_isWhole 552 = .ok (.iload 7, 2) := by decide +kernel
theorem dL_isWhole_554 : decode cL_isWhole 554 = .ok (.if_icmp .gt 7, 3) := by decide +kernel
theorem dL_isWhole_557 : decode cL_isWhole 557 = .ok (.iconst 1, 1) := by decide +kernel
theorem dL_isWhole_558 : decode cL_isWhole 558 = .ok (.goto 4, 3) := by decide +kernel
theorem dL_isWhole_561 : decode cL_isWhole 561 = .ok (.iconst 0, 1) := by decide +kernel
theorem dL_isWhole_562 : decode cL_isWhole 562 = .ok (.ireturn, 1) := by decide +kernel
