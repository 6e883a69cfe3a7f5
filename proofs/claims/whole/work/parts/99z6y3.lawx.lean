set_option maxRecDepth 20000 in
theorem wsL_law_x3 : ∀ w ∈ (vy_at RX8 346 "java/util/NoSuchElementException" ["java/lang/RuntimeException", "java/lang/Exception"]).filter goodWord, w ∈ lw_tbl := by decide +kernel
