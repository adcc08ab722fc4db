/-! the law's words are the tables' words -/
theorem app_in {a b big : List Cond} (ha : ∀ w ∈ a, w ∈ big) (hb : ∀ w ∈ b, w ∈ big) : ∀ w ∈ a ++ b, w ∈ big := fun w h => (List.mem_append.mp h).elim (ha w) (hb w)
theorem wl_x0 : ∀ w ∈ wsX00, w ∈ lw_tbl := by decide +kernel
theorem wl_x1 : ∀ w ∈ wsX10, w ∈ lw_tbl := by decide +kernel
theorem wl_x2 : ∀ w ∈ wsX20, w ∈ lw_tbl := by decide +kernel
theorem wl_x3 : ∀ w ∈ wsX30, w ∈ lw_tbl := by decide +kernel
theorem wl_x4 : ∀ w ∈ wsX40, w ∈ lw_tbl := by decide +kernel
theorem wl_j : ∀ w ∈ wsJx4a65c0, w ∈ lw_tbl := by decide +kernel
theorem wl_e0 : ∀ w ∈ (vx_atS RX3 184 "java/lang/IndexOutOfBoundsException" ["java/lang/RuntimeException", "java/lang/Exception"]).filter goodWord, w ∈ lw_tbl := by decide +kernel
theorem wl_e1 : ∀ w ∈ (vx_atS RX3 66 "java/lang/IllegalArgumentException" ["java/lang/RuntimeException", "java/lang/Exception"]).filter goodWord, w ∈ lw_tbl := by decide +kernel
theorem wl_e2 : ∀ w ∈ (vx_atS RX3 110 "java/lang/IllegalStateException" ["java/lang/RuntimeException", "java/lang/Exception"]).filter goodWord, w ∈ lw_tbl := by decide +kernel
theorem wsL_law0_in : ∀ w ∈ wsL_law0, w ∈ lw_tbl := app_in (app_in (app_in (app_in (app_in (app_in (app_in (app_in wl_r1 (app_in wl_r2 (app_in wl_r3 (app_in wl_r4 (app_in wl_r5 (app_in wl_r6 (app_in wl_r7 (app_in wl_r8 (app_in wl_r9 (app_in wl_r10 (app_in wl_r11 (app_in wl_r12 (app_in wl_r13 (app_in wl_r14 (app_in wl_r15 (app_in wl_r16 (app_in wl_r17 (app_in wl_r18 (app_in wl_r19 (app_in wl_r20 (app_in wl_r21 (app_in wl_r22 (app_in wl_r23 (app_in wl_r24 (app_in wl_r25 (app_in wl_r26 (app_in wl_r27 wl_r28))))))))))))))))))))))))))) wl_x3) wl_x4) wl_j) wl_x2) wl_x1) wl_x0) (fun w h => absurd h List.not_mem_nil)
theorem wsL_law_in : ∀ w ∈ wsL_law, w ∈ lw_tbl := app_in (app_in (app_in wsL_law0_in wl_e0) wl_e1) wl_e2
