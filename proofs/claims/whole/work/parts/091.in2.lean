/-! the words, all of them, are among the claim's tables: the rest -/
set_option maxRecDepth 100000 in
theorem wsL_in_X4 : ∀ w ∈ wsX40, w ∈ lw_tbl := by decide +kernel
set_option maxRecDepth 100000 in
theorem wsL_in_X5 : ∀ w ∈ wsX50, w ∈ lw_tbl := by decide +kernel
set_option maxRecDepth 100000 in
theorem wsL_in_X0 : ∀ w ∈ wsX00, w ∈ lw_tbl := by decide +kernel
set_option maxRecDepth 100000 in
theorem wsL_in_X2 : ∀ w ∈ wsX20, w ∈ lw_tbl := by decide +kernel
set_option maxRecDepth 100000 in
theorem wsL_in_X3 : ∀ w ∈ wsX30, w ∈ lw_tbl := by decide +kernel
set_option maxRecDepth 100000 in
theorem wsL_in_x0 : ∀ w ∈ (vx_atS RX4 41 "java/lang/IllegalArgumentException" ["java/lang/RuntimeException", "java/lang/Exception"]).filter goodWord, w ∈ lw_tbl := by decide +kernel
set_option maxRecDepth 100000 in
theorem wsL_in_x1 : ∀ w ∈ (vx_atS RX4 76 "java/lang/IllegalStateException" ["java/lang/RuntimeException", "java/lang/Exception"]).filter goodWord, w ∈ lw_tbl := by decide +kernel
set_option maxRecDepth 100000 in
theorem wsL_in_x2 : ∀ w ∈ (vx_atS RX4 194 "java/lang/UnsupportedOperationException" ["java/lang/RuntimeException", "java/lang/Exception"]).filter goodWord, w ∈ lw_tbl := by decide +kernel
theorem mem_ap {a b c : List Cond} (h1 : ∀ w ∈ a, w ∈ c) (h2 : ∀ w ∈ b, w ∈ c) : ∀ w ∈ a ++ b, w ∈ c := fun w h => (List.mem_append.mp h).elim (h1 w) (h2 w)
theorem wsL_in_0 : ∀ w ∈ wsL_law0, w ∈ lw_tbl := by
  unfold wsL_law0
  exact (mem_ap (mem_ap (mem_ap (mem_ap (mem_ap (mem_ap (mem_ap wsL_in_r1 (mem_ap wsL_in_r2 (mem_ap wsL_in_r3 (mem_ap wsL_in_r4 (mem_ap wsL_in_r5 (mem_ap wsL_in_r6 (mem_ap wsL_in_r7 (mem_ap wsL_in_r8 (mem_ap wsL_in_r9 (mem_ap wsL_in_r10 (mem_ap wsL_in_r11 (mem_ap wsL_in_r12 (mem_ap wsL_in_r13 (mem_ap wsL_in_r14 (mem_ap wsL_in_r15 (mem_ap wsL_in_r16 (mem_ap wsL_in_r17 (mem_ap wsL_in_r18 (mem_ap wsL_in_r19 (mem_ap wsL_in_r20 (mem_ap wsL_in_r21 (mem_ap wsL_in_r22 (mem_ap wsL_in_r23 (mem_ap wsL_in_r24 wsL_in_r25)))))))))))))))))))))))) wsL_in_X4) wsL_in_X5) wsL_in_X0) wsL_in_X2) wsL_in_X3) (fun _ h => nomatch h))
theorem wsL_law_in : ∀ w ∈ wsL_law, w ∈ lw_tbl := by
  unfold wsL_law
  exact mem_ap (mem_ap (mem_ap wsL_in_0 wsL_in_x0) wsL_in_x1) wsL_in_x2
