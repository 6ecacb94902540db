/-! the law's words together -/
theorem lwK_wsX100 : ∀ w ∈ wsX100, w ∈ lw_big := by decide +kernel
theorem lwK_wsJ40 : ∀ w ∈ wsJ40, w ∈ lw_big := by decide +kernel
theorem lwK_wsX70 : ∀ w ∈ wsX70, w ∈ lw_big := by decide +kernel
theorem lwK_wsX30 : ∀ w ∈ wsX30, w ∈ lw_big := by decide +kernel
theorem lwK_wsX80 : ∀ w ∈ wsX80, w ∈ lw_big := by decide +kernel
theorem lwK_wsX10 : ∀ w ∈ wsX10, w ∈ lw_big := by decide +kernel
theorem lwK_wsX20 : ∀ w ∈ wsX20, w ∈ lw_big := by decide +kernel
theorem lwK_wsX50 : ∀ w ∈ wsX50, w ∈ lw_big := by decide +kernel
theorem lwK_wsX60 : ∀ w ∈ wsX60, w ∈ lw_big := by decide +kernel
theorem lwK_wsJ00 : ∀ w ∈ wsJ00, w ∈ lw_big := by decide +kernel
theorem lwK_wsJx7c7330 : ∀ w ∈ wsJx7c7330, w ∈ lw_big := by decide +kernel
theorem lwK_wsJx000600 : ∀ w ∈ wsJx000600, w ∈ lw_big := by decide +kernel
set_option maxRecDepth 1000000 in
theorem wsL_law_in0 : ∀ w ∈ wsL_law0, w ∈ lw_big := fun w h => (List.mem_append.mp h).elim (fun h => (List.mem_append.mp h).elim (fun h => (List.mem_append.mp h).elim (fun h => (List.mem_append.mp h).elim (fun h => (List.mem_append.mp h).elim (fun h => (List.mem_append.mp h).elim (fun h => (List.mem_append.mp h).elim (fun h => (List.mem_append.mp h).elim (fun h => (List.mem_append.mp h).elim (fun h => (List.mem_append.mp h).elim (fun h => (List.mem_append.mp h).elim (fun h => (List.mem_append.mp h).elim (fun h => (List.mem_append.mp h).elim (lwA_1 w) (lwK_wsX100 w)) (lwK_wsJ40 w)) (lwK_wsX70 w)) (lwK_wsX30 w)) (lwK_wsX80 w)) (lwK_wsX10 w)) (lwK_wsX20 w)) (lwK_wsX50 w)) (lwK_wsX60 w)) (lwK_wsJ00 w)) (lwK_wsJx7c7330 w)) (lwK_wsJx000600 w)) (fun h => by cases h)
theorem wsL_law_x0 : ∀ w ∈ (vx_atM "java/lang/ArrayIndexOutOfBoundsException" ["java/lang/IndexOutOfBoundsException", "java/lang/RuntimeException", "java/lang/Exception"]).filter goodWord, w ∈ lw_big := by decide +kernel
theorem wsL_law_x1 : ∀ w ∈ (vx_atM "java/lang/ArrayIndexOutOfBoundsException" ["java/lang/IndexOutOfBoundsException", "java/lang/RuntimeException", "java/lang/Exception"]).filter goodWord, w ∈ lw_big := by decide +kernel
theorem wsL_law_x2 : ∀ w ∈ (vx_at0 RX10 313 "java/lang/IndexOutOfBoundsException" ["java/lang/RuntimeException", "java/lang/Exception"]).filter goodWord, w ∈ lw_big := by decide +kernel
theorem wsL_law_x3 : ∀ w ∈ (vx_at0 RX10 233 "java/lang/IllegalArgumentException" ["java/lang/RuntimeException", "java/lang/Exception"]).filter goodWord, w ∈ lw_big := by decide +kernel
theorem wsL_law_x4 : ∀ w ∈ (vx_at0 RX10 322 "java/lang/IllegalStateException" ["java/lang/RuntimeException", "java/lang/Exception"]).filter goodWord, w ∈ lw_big := by decide +kernel
theorem wsL_law_x5 : ∀ w ∈ (vx_at0 RX10 351 "java/lang/UnsupportedOperationException" ["java/lang/RuntimeException", "java/lang/Exception"]).filter goodWord, w ∈ lw_big := by decide +kernel
theorem wsL_law_x6 : ∀ w ∈ (vx_at0 RX10 146 "java/util/NoSuchElementException" ["java/lang/RuntimeException", "java/lang/Exception"]).filter goodWord, w ∈ lw_big := by decide +kernel
theorem wsL_law_x7 : ∀ w ∈ (vx_at0 RX10 277 "java/lang/ArithmeticException" ["java/lang/RuntimeException", "java/lang/Exception"]).filter goodWord, w ∈ lw_big := by decide +kernel
theorem wsL_law_in : ∀ w ∈ wsL_lawQ, w ∈ lw_big := fun w h => (List.mem_append.mp h).elim (fun h => (List.mem_append.mp h).elim (fun h => (List.mem_append.mp h).elim (fun h => (List.mem_append.mp h).elim (fun h => (List.mem_append.mp h).elim (fun h => (List.mem_append.mp h).elim (fun h => (List.mem_append.mp h).elim (fun h => (List.mem_append.mp h).elim (fun h => wsL_law_in0 w h) (fun h => wsL_law_x0 w h)) (fun h => wsL_law_x1 w h)) (fun h => wsL_law_x2 w h)) (fun h => wsL_law_x3 w h)) (fun h => wsL_law_x4 w h)) (fun h => wsL_law_x5 w h)) (fun h => wsL_law_x6 w h)) (fun h => wsL_law_x7 w h)
theorem inX0 : ∀ w ∈ wsX00, w ∈ lw_big := by decide +kernel
theorem inlX1 : ∀ w ∈ wsX10, w ∈ wsL_lawQ := fun _ h => List.mem_append_left _ (List.mem_append_left _ (List.mem_append_left _ (List.mem_append_left _ (List.mem_append_left _ (List.mem_append_left _ (List.mem_append_left _ (List.mem_append_left _ (List.mem_append_left _ (List.mem_append_left _ (List.mem_append_left _ (List.mem_append_left _ (List.mem_append_left _ (List.mem_append_left _ (List.mem_append_left _ (List.mem_append_right _ h)))))))))))))))
theorem inX1 : ∀ w ∈ wsX10, w ∈ lw_big := fun w h => wsL_law_in w (inlX1 w h)
theorem inlX2 : ∀ w ∈ wsX20, w ∈ wsL_lawQ := fun _ h => List.mem_append_left _ (List.mem_append_left _ (List.mem_append_left _ (List.mem_append_left _ (List.mem_append_left _ (List.mem_append_left _ (List.mem_append_left _ (List.mem_append_left _ (List.mem_append_left _ (List.mem_append_left _ (List.mem_append_left _ (List.mem_append_left _ (List.mem_append_left _ (List.mem_append_left _ (List.mem_append_right _ h))))))))))))))
theorem inX2 : ∀ w ∈ wsX20, w ∈ lw_big := fun w h => wsL_law_in w (inlX2 w h)
theorem inlX3 : ∀ w ∈ wsX30, w ∈ wsL_lawQ := fun _ h => List.mem_append_left _ (List.mem_append_left _ (List.mem_append_left _ (List.mem_append_left _ (List.mem_append_left _ (List.mem_append_left _ (List.mem_append_left _ (List.mem_append_left _ (List.mem_append_left _ (List.mem_append_left _ (List.mem_append_left _ (List.mem_append_left _ (List.mem_append_left _ (List.mem_append_left _ (List.mem_append_left _ (List.mem_append_left _ (List.mem_append_left _ (List.mem_append_right _ h)))))))))))))))))
theorem inX3 : ∀ w ∈ wsX30, w ∈ lw_big := fun w h => wsL_law_in w (inlX3 w h)
theorem inX4 : ∀ w ∈ wsX40, w ∈ lw_big := by decide +kernel
theorem inlX5 : ∀ w ∈ wsX50, w ∈ wsL_lawQ := fun _ h => List.mem_append_left _ (List.mem_append_left _ (List.mem_append_left _ (List.mem_append_left _ (List.mem_append_left _ (List.mem_append_left _ (List.mem_append_left _ (List.mem_append_left _ (List.mem_append_left _ (List.mem_append_left _ (List.mem_append_left _ (List.mem_append_left _ (List.mem_append_left _ (List.mem_append_right _ h)))))))))))))
theorem inX5 : ∀ w ∈ wsX50, w ∈ lw_big := fun w h => wsL_law_in w (inlX5 w h)
theorem inlX6 : ∀ w ∈ wsX60, w ∈ wsL_lawQ := fun _ h => List.mem_append_left _ (List.mem_append_left _ (List.mem_append_left _ (List.mem_append_left _ (List.mem_append_left _ (List.mem_append_left _ (List.mem_append_left _ (List.mem_append_left _ (List.mem_append_left _ (List.mem_append_left _ (List.mem_append_left _ (List.mem_append_left _ (List.mem_append_right _ h))))))))))))
theorem inX6 : ∀ w ∈ wsX60, w ∈ lw_big := fun w h => wsL_law_in w (inlX6 w h)
theorem inlX7 : ∀ w ∈ wsX70, w ∈ wsL_lawQ := fun _ h => List.mem_append_left _ (List.mem_append_left _ (List.mem_append_left _ (List.mem_append_left _ (List.mem_append_left _ (List.mem_append_left _ (List.mem_append_left _ (List.mem_append_left _ (List.mem_append_left _ (List.mem_append_left _ (List.mem_append_left _ (List.mem_append_left _ (List.mem_append_left _ (List.mem_append_left _ (List.mem_append_left _ (List.mem_append_left _ (List.mem_append_left _ (List.mem_append_left _ (List.mem_append_right _ h))))))))))))))))))
theorem inX7 : ∀ w ∈ wsX70, w ∈ lw_big := fun w h => wsL_law_in w (inlX7 w h)
theorem inlX8 : ∀ w ∈ wsX80, w ∈ wsL_lawQ := fun _ h => List.mem_append_left _ (List.mem_append_left _ (List.mem_append_left _ (List.mem_append_left _ (List.mem_append_left _ (List.mem_append_left _ (List.mem_append_left _ (List.mem_append_left _ (List.mem_append_left _ (List.mem_append_left _ (List.mem_append_left _ (List.mem_append_left _ (List.mem_append_left _ (List.mem_append_left _ (List.mem_append_left _ (List.mem_append_left _ (List.mem_append_right _ h))))))))))))))))
theorem inX8 : ∀ w ∈ wsX80, w ∈ lw_big := fun w h => wsL_law_in w (inlX8 w h)
theorem inX9 : ∀ w ∈ wsX90, w ∈ lw_big := by decide +kernel
theorem inlX10 : ∀ w ∈ wsX100, w ∈ wsL_lawQ := fun _ h => List.mem_append_left _ (List.mem_append_left _ (List.mem_append_left _ (List.mem_append_left _ (List.mem_append_left _ (List.mem_append_left _ (List.mem_append_left _ (List.mem_append_left _ (List.mem_append_left _ (List.mem_append_left _ (List.mem_append_left _ (List.mem_append_left _ (List.mem_append_left _ (List.mem_append_left _ (List.mem_append_left _ (List.mem_append_left _ (List.mem_append_left _ (List.mem_append_left _ (List.mem_append_left _ (List.mem_append_left _ (List.mem_append_right _ h))))))))))))))))))))
theorem inX10 : ∀ w ∈ wsX100, w ∈ lw_big := fun w h => wsL_law_in w (inlX10 w h)
theorem inX11 : ∀ w ∈ wsX110, w ∈ lw_big := by decide +kernel
theorem inJx145de : ∀ w ∈ wsJx145de0, w ∈ lw_big := by decide +kernel
theorem inJ5 : ∀ w ∈ wsJ50, w ∈ lw_big := by decide +kernel
theorem inJx2cfe8 : ∀ w ∈ wsJx2cfe80, w ∈ lw_big := by decide +kernel
theorem inlJx00060 : ∀ w ∈ wsJx000600, w ∈ wsL_lawQ := fun _ h => List.mem_append_left _ (List.mem_append_left _ (List.mem_append_left _ (List.mem_append_left _ (List.mem_append_left _ (List.mem_append_left _ (List.mem_append_left _ (List.mem_append_left _ (List.mem_append_left _ (List.mem_append_right _ h)))))))))
theorem inJx00060 : ∀ w ∈ wsJx000600, w ∈ lw_big := fun w h => wsL_law_in w (inlJx00060 w h)
theorem inJx9f9b0 : ∀ w ∈ wsJx9f9b00, w ∈ lw_big := by decide +kernel
theorem inJx8e188 : ∀ w ∈ wsJx8e1880, w ∈ lw_big := by decide +kernel
theorem inJxb160c : ∀ w ∈ wsJxb160c0, w ∈ lw_big := by decide +kernel
theorem inJx29ce0 : ∀ w ∈ wsJx29ce00, w ∈ lw_big := by decide +kernel
theorem inJ6 : ∀ w ∈ wsJ60, w ∈ lw_big := by decide +kernel
theorem inJ9 : ∀ w ∈ wsJ90, w ∈ lw_big := by decide +kernel
theorem inJxd2413 : ∀ w ∈ wsJxd24130, w ∈ lw_big := by decide +kernel
theorem inlJ0 : ∀ w ∈ wsJ00, w ∈ wsL_lawQ := fun _ h => List.mem_append_left _ (List.mem_append_left _ (List.mem_append_left _ (List.mem_append_left _ (List.mem_append_left _ (List.mem_append_left _ (List.mem_append_left _ (List.mem_append_left _ (List.mem_append_left _ (List.mem_append_left _ (List.mem_append_left _ (List.mem_append_right _ h)))))))))))
theorem inJ0 : ∀ w ∈ wsJ00, w ∈ lw_big := fun w h => wsL_law_in w (inlJ0 w h)
theorem inlJ4 : ∀ w ∈ wsJ40, w ∈ wsL_lawQ := fun _ h => List.mem_append_left _ (List.mem_append_left _ (List.mem_append_left _ (List.mem_append_left _ (List.mem_append_left _ (List.mem_append_left _ (List.mem_append_left _ (List.mem_append_left _ (List.mem_append_left _ (List.mem_append_left _ (List.mem_append_left _ (List.mem_append_left _ (List.mem_append_left _ (List.mem_append_left _ (List.mem_append_left _ (List.mem_append_left _ (List.mem_append_left _ (List.mem_append_left _ (List.mem_append_left _ (List.mem_append_right _ h)))))))))))))))))))
theorem inJ4 : ∀ w ∈ wsJ40, w ∈ lw_big := fun w h => wsL_law_in w (inlJ4 w h)
theorem inlJx7c733 : ∀ w ∈ wsJx7c7330, w ∈ wsL_lawQ := fun _ h => List.mem_append_left _ (List.mem_append_left _ (List.mem_append_left _ (List.mem_append_left _ (List.mem_append_left _ (List.mem_append_left _ (List.mem_append_left _ (List.mem_append_left _ (List.mem_append_left _ (List.mem_append_left _ (List.mem_append_right _ h))))))))))
theorem inJx7c733 : ∀ w ∈ wsJx7c7330, w ∈ lw_big := fun w h => wsL_law_in w (inlJx7c733 w h)
theorem inJ1 : ∀ w ∈ wsJ10, w ∈ lw_big := by decide +kernel
theorem inJ2 : ∀ w ∈ wsJ20, w ∈ lw_big := by decide +kernel
theorem inJ10 : ∀ w ∈ wsJ100, w ∈ lw_big := by decide +kernel
theorem inJxfd54e : ∀ w ∈ wsJxfd54e0, w ∈ lw_big := by decide +kernel
theorem inJx3cf43 : ∀ w ∈ wsJx3cf430, w ∈ lw_big := by decide +kernel
theorem inJ7 : ∀ w ∈ wsJ70, w ∈ lw_big := by decide +kernel
theorem inJ8 : ∀ w ∈ wsJ80, w ∈ lw_big := by decide +kernel
theorem inJ3 : ∀ w ∈ wsJ30, w ∈ lw_big := by decide +kernel
