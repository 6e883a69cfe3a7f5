set_option maxRecDepth 20000 in
theorem wsL_law_x3 : ∀ w ∈ (vx_atS RX8 346 "java/util/NoSuchElementException" ["java/lang/RuntimeException", "java/lang/Exception"]).filter goodWord, w ∈ lw_tbl := sorry
