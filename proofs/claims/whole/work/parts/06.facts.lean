theorem wl_wsL_law_r1 : ∀ w ∈ wsL_law_r1, w ∈ WS := fun _ h => List.mem_append_left _ (List.mem_append_left _ (List.mem_append_left _ (List.mem_append_left _ (List.mem_append_left _ (List.mem_append_left _ (List.mem_append_left _ (List.mem_append_left _ (List.mem_append_left _ (List.mem_append_left _ (List.mem_append_left _ (List.mem_append_left _ h)))))))))))
theorem wl_wsL_law_r2 : ∀ w ∈ wsL_law_r2, w ∈ WS := fun _ h => List.mem_append_left _ (List.mem_append_left _ (List.mem_append_left _ (List.mem_append_left _ (List.mem_append_left _ (List.mem_append_left _ (List.mem_append_left _ (List.mem_append_left _ (List.mem_append_left _ (List.mem_append_left _ (List.mem_append_left _ (List.mem_append_right _ (List.mem_append_left _ h))))))))))))
theorem wl_wsL_law_r3 : ∀ w ∈ wsL_law_r3, w ∈ WS := fun _ h => List.mem_append_left _ (List.mem_append_left _ (List.mem_append_left _ (List.mem_append_left _ (List.mem_append_left _ (List.mem_append_left _ (List.mem_append_left _ (List.mem_append_left _ (List.mem_append_left _ (List.mem_append_left _ (List.mem_append_left _ (List.mem_append_right _ (List.mem_append_right _ (List.mem_append_left _ h)))))))))))))
theorem wl_wsL_law_r4 : ∀ w ∈ wsL_law_r4, w ∈ WS := fun _ h => List.mem_append_left _ (List.mem_append_left _ (List.mem_append_left _ (List.mem_append_left _ (List.mem_append_left _ (List.mem_append_left _ (List.mem_append_left _ (List.mem_append_left _ (List.mem_append_left _ (List.mem_append_left _ (List.mem_append_left _ (List.mem_append_right _ (List.mem_append_right _ (List.mem_append_right _ (List.mem_append_left _ h))))))))))))))
theorem wl_wsL_law_r5 : ∀ w ∈ wsL_law_r5, w ∈ WS := fun _ h => List.mem_append_left _ (List.mem_append_left _ (List.mem_append_left _ (List.mem_append_left _ (List.mem_append_left _ (List.mem_append_left _ (List.mem_append_left _ (List.mem_append_left _ (List.mem_append_left _ (List.mem_append_left _ (List.mem_append_left _ (List.mem_append_right _ (List.mem_append_right _ (List.mem_append_right _ (List.mem_append_right _ (List.mem_append_left _ h)))))))))))))))
theorem wl_wsL_law_r6 : ∀ w ∈ wsL_law_r6, w ∈ WS := fun _ h => List.mem_append_left _ (List.mem_append_left _ (List.mem_append_left _ (List.mem_append_left _ (List.mem_append_left _ (List.mem_append_left _ (List.mem_append_left _ (List.mem_append_left _ (List.mem_append_left _ (List.mem_append_left _ (List.mem_append_left _ (List.mem_append_right _ (List.mem_append_right _ (List.mem_append_right _ (List.mem_append_right _ (List.mem_append_right _ (List.mem_append_left _ h))))))))))))))))
theorem wl_wsL_law_r7 : ∀ w ∈ wsL_law_r7, w ∈ WS := fun _ h => List.mem_append_left _ (List.mem_append_left _ (List.mem_append_left _ (List.mem_append_left _ (List.mem_append_left _ (List.mem_append_left _ (List.mem_append_left _ (List.mem_append_left _ (List.mem_append_left _ (List.mem_append_left _ (List.mem_append_left _ (List.mem_append_right _ (List.mem_append_right _ (List.mem_append_right _ (List.mem_append_right _ (List.mem_append_right _ (List.mem_append_right _ (List.mem_append_left _ h)))))))))))))))))
theorem wl_wsL_law_r8 : ∀ w ∈ wsL_law_r8, w ∈ WS := fun _ h => List.mem_append_left _ (List.mem_append_left _ (List.mem_append_left _ (List.mem_append_left _ (List.mem_append_left _ (List.mem_append_left _ (List.mem_append_left _ (List.mem_append_left _ (List.mem_append_left _ (List.mem_append_left _ (List.mem_append_left _ (List.mem_append_right _ (List.mem_append_right _ (List.mem_append_right _ (List.mem_append_right _ (List.mem_append_right _ (List.mem_append_right _ (List.mem_append_right _ (List.mem_append_left _ h))))))))))))))))))
theorem wl_wsL_law_r9 : ∀ w ∈ wsL_law_r9, w ∈ WS := fun _ h => List.mem_append_left _ (List.mem_append_left _ (List.mem_append_left _ (List.mem_append_left _ (List.mem_append_left _ (List.mem_append_left _ (List.mem_append_left _ (List.mem_append_left _ (List.mem_append_left _ (List.mem_append_left _ (List.mem_append_left _ (List.mem_append_right _ (List.mem_append_right _ (List.mem_append_right _ (List.mem_append_right _ (List.mem_append_right _ (List.mem_append_right _ (List.mem_append_right _ (List.mem_append_right _ (List.mem_append_left _ h)))))))))))))))))))
theorem wl_wsL_law_r10 : ∀ w ∈ wsL_law_r10, w ∈ WS := fun _ h => List.mem_append_left _ (List.mem_append_left _ (List.mem_append_left _ (List.mem_append_left _ (List.mem_append_left _ (List.mem_append_left _ (List.mem_append_left _ (List.mem_append_left _ (List.mem_append_left _ (List.mem_append_left _ (List.mem_append_left _ (List.mem_append_right _ (List.mem_append_right _ (List.mem_append_right _ (List.mem_append_right _ (List.mem_append_right _ (List.mem_append_right _ (List.mem_append_right _ (List.mem_append_right _ (List.mem_append_right _ (List.mem_append_left _ h))))))))))))))))))))
theorem wl_wsL_law_r11 : ∀ w ∈ wsL_law_r11, w ∈ WS := fun _ h => List.mem_append_left _ (List.mem_append_left _ (List.mem_append_left _ (List.mem_append_left _ (List.mem_append_left _ (List.mem_append_left _ (List.mem_append_left _ (List.mem_append_left _ (List.mem_append_left _ (List.mem_append_left _ (List.mem_append_left _ (List.mem_append_right _ (List.mem_append_right _ (List.mem_append_right _ (List.mem_append_right _ (List.mem_append_right _ (List.mem_append_right _ (List.mem_append_right _ (List.mem_append_right _ (List.mem_append_right _ (List.mem_append_right _ (List.mem_append_left _ h)))))))))))))))))))))
theorem wl_wsL_law_r12 : ∀ w ∈ wsL_law_r12, w ∈ WS := fun _ h => List.mem_append_left _ (List.mem_append_left _ (List.mem_append_left _ (List.mem_append_left _ (List.mem_append_left _ (List.mem_append_left _ (List.mem_append_left _ (List.mem_append_left _ (List.mem_append_left _ (List.mem_append_left _ (List.mem_append_left _ (List.mem_append_right _ (List.mem_append_right _ (List.mem_append_right _ (List.mem_append_right _ (List.mem_append_right _ (List.mem_append_right _ (List.mem_append_right _ (List.mem_append_right _ (List.mem_append_right _ (List.mem_append_right _ (List.mem_append_right _ (List.mem_append_left _ h))))))))))))))))))))))
theorem wl_wsL_law_r13 : ∀ w ∈ wsL_law_r13, w ∈ WS := fun _ h => List.mem_append_left _ (List.mem_append_left _ (List.mem_append_left _ (List.mem_append_left _ (List.mem_append_left _ (List.mem_append_left _ (List.mem_append_left _ (List.mem_append_left _ (List.mem_append_left _ (List.mem_append_left _ (List.mem_append_left _ (List.mem_append_right _ (List.mem_append_right _ (List.mem_append_right _ (List.mem_append_right _ (List.mem_append_right _ (List.mem_append_right _ (List.mem_append_right _ (List.mem_append_right _ (List.mem_append_right _ (List.mem_append_right _ (List.mem_append_right _ (List.mem_append_right _ (List.mem_append_left _ h)))))))))))))))))))))))
theorem wl_wsL_law_r14 : ∀ w ∈ wsL_law_r14, w ∈ WS := fun _ h => List.mem_append_left _ (List.mem_append_left _ (List.mem_append_left _ (List.mem_append_left _ (List.mem_append_left _ (List.mem_append_left _ (List.mem_append_left _ (List.mem_append_left _ (List.mem_append_left _ (List.mem_append_left _ (List.mem_append_left _ (List.mem_append_right _ (List.mem_append_right _ (List.mem_append_right _ (List.mem_append_right _ (List.mem_append_right _ (List.mem_append_right _ (List.mem_append_right _ (List.mem_append_right _ (List.mem_append_right _ (List.mem_append_right _ (List.mem_append_right _ (List.mem_append_right _ (List.mem_append_right _ (List.mem_append_left _ h))))))))))))))))))))))))
theorem wl_wsL_law_r15 : ∀ w ∈ wsL_law_r15, w ∈ WS := fun _ h => List.mem_append_left _ (List.mem_append_left _ (List.mem_append_left _ (List.mem_append_left _ (List.mem_append_left _ (List.mem_append_left _ (List.mem_append_left _ (List.mem_append_left _ (List.mem_append_left _ (List.mem_append_left _ (List.mem_append_left _ (List.mem_append_right _ (List.mem_append_right _ (List.mem_append_right _ (List.mem_append_right _ (List.mem_append_right _ (List.mem_append_right _ (List.mem_append_right _ (List.mem_append_right _ (List.mem_append_right _ (List.mem_append_right _ (List.mem_append_right _ (List.mem_append_right _ (List.mem_append_right _ (List.mem_append_right _ (List.mem_append_left _ h)))))))))))))))))))))))))
theorem wl_wsL_law_r16 : ∀ w ∈ wsL_law_r16, w ∈ WS := fun _ h => List.mem_append_left _ (List.mem_append_left _ (List.mem_append_left _ (List.mem_append_left _ (List.mem_append_left _ (List.mem_append_left _ (List.mem_append_left _ (List.mem_append_left _ (List.mem_append_left _ (List.mem_append_left _ (List.mem_append_left _ (List.mem_append_right _ (List.mem_append_right _ (List.mem_append_right _ (List.mem_append_right _ (List.mem_append_right _ (List.mem_append_right _ (List.mem_append_right _ (List.mem_append_right _ (List.mem_append_right _ (List.mem_append_right _ (List.mem_append_right _ (List.mem_append_right _ (List.mem_append_right _ (List.mem_append_right _ (List.mem_append_right _ (List.mem_append_left _ h))))))))))))))))))))))))))
theorem wl_wsL_law_r17 : ∀ w ∈ wsL_law_r17, w ∈ WS := fun _ h => List.mem_append_left _ (List.mem_append_left _ (List.mem_append_left _ (List.mem_append_left _ (List.mem_append_left _ (List.mem_append_left _ (List.mem_append_left _ (List.mem_append_left _ (List.mem_append_left _ (List.mem_append_left _ (List.mem_append_left _ (List.mem_append_right _ (List.mem_append_right _ (List.mem_append_right _ (List.mem_append_right _ (List.mem_append_right _ (List.mem_append_right _ (List.mem_append_right _ (List.mem_append_right _ (List.mem_append_right _ (List.mem_append_right _ (List.mem_append_right _ (List.mem_append_right _ (List.mem_append_right _ (List.mem_append_right _ (List.mem_append_right _ (List.mem_append_right _ (List.mem_append_left _ h)))))))))))))))))))))))))))
theorem wl_wsL_law_r18 : ∀ w ∈ wsL_law_r18, w ∈ WS := fun _ h => List.mem_append_left _ (List.mem_append_left _ (List.mem_append_left _ (List.mem_append_left _ (List.mem_append_left _ (List.mem_append_left _ (List.mem_append_left _ (List.mem_append_left _ (List.mem_append_left _ (List.mem_append_left _ (List.mem_append_left _ (List.mem_append_right _ (List.mem_append_right _ (List.mem_append_right _ (List.mem_append_right _ (List.mem_append_right _ (List.mem_append_right _ (List.mem_append_right _ (List.mem_append_right _ (List.mem_append_right _ (List.mem_append_right _ (List.mem_append_right _ (List.mem_append_right _ (List.mem_append_right _ (List.mem_append_right _ (List.mem_append_right _ (List.mem_append_right _ (List.mem_append_right _ (List.mem_append_left _ h))))))))))))))))))))))))))))
theorem wl_wsL_law_r19 : ∀ w ∈ wsL_law_r19, w ∈ WS := fun _ h => List.mem_append_left _ (List.mem_append_left _ (List.mem_append_left _ (List.mem_append_left _ (List.mem_append_left _ (List.mem_append_left _ (List.mem_append_left _ (List.mem_append_left _ (List.mem_append_left _ (List.mem_append_left _ (List.mem_append_left _ (List.mem_append_right _ (List.mem_append_right _ (List.mem_append_right _ (List.mem_append_right _ (List.mem_append_right _ (List.mem_append_right _ (List.mem_append_right _ (List.mem_append_right _ (List.mem_append_right _ (List.mem_append_right _ (List.mem_append_right _ (List.mem_append_right _ (List.mem_append_right _ (List.mem_append_right _ (List.mem_append_right _ (List.mem_append_right _ (List.mem_append_right _ (List.mem_append_right _ (List.mem_append_left _ h)))))))))))))))))))))))))))))
theorem wl_wsL_law_r20 : ∀ w ∈ wsL_law_r20, w ∈ WS := fun _ h => List.mem_append_left _ (List.mem_append_left _ (List.mem_append_left _ (List.mem_append_left _ (List.mem_append_left _ (List.mem_append_left _ (List.mem_append_left _ (List.mem_append_left _ (List.mem_append_left _ (List.mem_append_left _ (List.mem_append_left _ (List.mem_append_right _ (List.mem_append_right _ (List.mem_append_right _ (List.mem_append_right _ (List.mem_append_right _ (List.mem_append_right _ (List.mem_append_right _ (List.mem_append_right _ (List.mem_append_right _ (List.mem_append_right _ (List.mem_append_right _ (List.mem_append_right _ (List.mem_append_right _ (List.mem_append_right _ (List.mem_append_right _ (List.mem_append_right _ (List.mem_append_right _ (List.mem_append_right _ (List.mem_append_right _ (List.mem_append_left _ h))))))))))))))))))))))))))))))
theorem wl_wsL_law_r21 : ∀ w ∈ wsL_law_r21, w ∈ WS := fun _ h => List.mem_append_left _ (List.mem_append_left _ (List.mem_append_left _ (List.mem_append_left _ (List.mem_append_left _ (List.mem_append_left _ (List.mem_append_left _ (List.mem_append_left _ (List.mem_append_left _ (List.mem_append_left _ (List.mem_append_left _ (List.mem_append_right _ (List.mem_append_right _ (List.mem_append_right _ (List.mem_append_right _ (List.mem_append_right _ (List.mem_append_right _ (List.mem_append_right _ (List.mem_append_right _ (List.mem_append_right _ (List.mem_append_right _ (List.mem_append_right _ (List.mem_append_right _ (List.mem_append_right _ (List.mem_append_right _ (List.mem_append_right _ (List.mem_append_right _ (List.mem_append_right _ (List.mem_append_right _ (List.mem_append_right _ (List.mem_append_right _ (List.mem_append_left _ h)))))))))))))))))))))))))))))))
theorem wl_wsL_law_r22 : ∀ w ∈ wsL_law_r22, w ∈ WS := fun _ h => List.mem_append_left _ (List.mem_append_left _ (List.mem_append_left _ (List.mem_append_left _ (List.mem_append_left _ (List.mem_append_left _ (List.mem_append_left _ (List.mem_append_left _ (List.mem_append_left _ (List.mem_append_left _ (List.mem_append_left _ (List.mem_append_right _ (List.mem_append_right _ (List.mem_append_right _ (List.mem_append_right _ (List.mem_append_right _ (List.mem_append_right _ (List.mem_append_right _ (List.mem_append_right _ (List.mem_append_right _ (List.mem_append_right _ (List.mem_append_right _ (List.mem_append_right _ (List.mem_append_right _ (List.mem_append_right _ (List.mem_append_right _ (List.mem_append_right _ (List.mem_append_right _ (List.mem_append_right _ (List.mem_append_right _ (List.mem_append_right _ (List.mem_append_right _ (List.mem_append_left _ h))))))))))))))))))))))))))))))))
theorem wl_wsL_law_r23 : ∀ w ∈ wsL_law_r23, w ∈ WS := fun _ h => List.mem_append_left _ (List.mem_append_left _ (List.mem_append_left _ (List.mem_append_left _ (List.mem_append_left _ (List.mem_append_left _ (List.mem_append_left _ (List.mem_append_left _ (List.mem_append_left _ (List.mem_append_left _ (List.mem_append_left _ (List.mem_append_right _ (List.mem_append_right _ (List.mem_append_right _ (List.mem_append_right _ (List.mem_append_right _ (List.mem_append_right _ (List.mem_append_right _ (List.mem_append_right _ (List.mem_append_right _ (List.mem_append_right _ (List.mem_append_right _ (List.mem_append_right _ (List.mem_append_right _ (List.mem_append_right _ (List.mem_append_right _ (List.mem_append_right _ (List.mem_append_right _ (List.mem_append_right _ (List.mem_append_right _ (List.mem_append_right _ (List.mem_append_right _ (List.mem_append_right _ (List.mem_append_left _ h)))))))))))))))))))))))))))))))))
theorem wl_wsL_law_r24 : ∀ w ∈ wsL_law_r24, w ∈ WS := fun _ h => List.mem_append_left _ (List.mem_append_left _ (List.mem_append_left _ (List.mem_append_left _ (List.mem_append_left _ (List.mem_append_left _ (List.mem_append_left _ (List.mem_append_left _ (List.mem_append_left _ (List.mem_append_left _ (List.mem_append_left _ (List.mem_append_right _ (List.mem_append_right _ (List.mem_append_right _ (List.mem_append_right _ (List.mem_append_right _ (List.mem_append_right _ (List.mem_append_right _ (List.mem_append_right _ (List.mem_append_right _ (List.mem_append_right _ (List.mem_append_right _ (List.mem_append_right _ (List.mem_append_right _ (List.mem_append_right _ (List.mem_append_right _ (List.mem_append_right _ (List.mem_append_right _ (List.mem_append_right _ (List.mem_append_right _ (List.mem_append_right _ (List.mem_append_right _ (List.mem_append_right _ (List.mem_append_right _ (List.mem_append_left _ h))))))))))))))))))))))))))))))))))
theorem wl_wsL_law_r25 : ∀ w ∈ wsL_law_r25, w ∈ WS := fun _ h => List.mem_append_left _ (List.mem_append_left _ (List.mem_append_left _ (List.mem_append_left _ (List.mem_append_left _ (List.mem_append_left _ (List.mem_append_left _ (List.mem_append_left _ (List.mem_append_left _ (List.mem_append_left _ (List.mem_append_left _ (List.mem_append_right _ (List.mem_append_right _ (List.mem_append_right _ (List.mem_append_right _ (List.mem_append_right _ (List.mem_append_right _ (List.mem_append_right _ (List.mem_append_right _ (List.mem_append_right _ (List.mem_append_right _ (List.mem_append_right _ (List.mem_append_right _ (List.mem_append_right _ (List.mem_append_right _ (List.mem_append_right _ (List.mem_append_right _ (List.mem_append_right _ (List.mem_append_right _ (List.mem_append_right _ (List.mem_append_right _ (List.mem_append_right _ (List.mem_append_right _ (List.mem_append_right _ (List.mem_append_right _ (List.mem_append_left _ h)))))))))))))))))))))))))))))))))))
theorem wl_wsL_law_r26 : ∀ w ∈ wsL_law_r26, w ∈ WS := fun _ h => List.mem_append_left _ (List.mem_append_left _ (List.mem_append_left _ (List.mem_append_left _ (List.mem_append_left _ (List.mem_append_left _ (List.mem_append_left _ (List.mem_append_left _ (List.mem_append_left _ (List.mem_append_left _ (List.mem_append_left _ (List.mem_append_right _ (List.mem_append_right _ (List.mem_append_right _ (List.mem_append_right _ (List.mem_append_right _ (List.mem_append_right _ (List.mem_append_right _ (List.mem_append_right _ (List.mem_append_right _ (List.mem_append_right _ (List.mem_append_right _ (List.mem_append_right _ (List.mem_append_right _ (List.mem_append_right _ (List.mem_append_right _ (List.mem_append_right _ (List.mem_append_right _ (List.mem_append_right _ (List.mem_append_right _ (List.mem_append_right _ (List.mem_append_right _ (List.mem_append_right _ (List.mem_append_right _ (List.mem_append_right _ (List.mem_append_right _ (List.mem_append_left _ h))))))))))))))))))))))))))))))))))))
theorem wl_wsL_law_r27 : ∀ w ∈ wsL_law_r27, w ∈ WS := fun _ h => List.mem_append_left _ (List.mem_append_left _ (List.mem_append_left _ (List.mem_append_left _ (List.mem_append_left _ (List.mem_append_left _ (List.mem_append_left _ (List.mem_append_left _ (List.mem_append_left _ (List.mem_append_left _ (List.mem_append_left _ (List.mem_append_right _ (List.mem_append_right _ (List.mem_append_right _ (List.mem_append_right _ (List.mem_append_right _ (List.mem_append_right _ (List.mem_append_right _ (List.mem_append_right _ (List.mem_append_right _ (List.mem_append_right _ (List.mem_append_right _ (List.mem_append_right _ (List.mem_append_right _ (List.mem_append_right _ (List.mem_append_right _ (List.mem_append_right _ (List.mem_append_right _ (List.mem_append_right _ (List.mem_append_right _ (List.mem_append_right _ (List.mem_append_right _ (List.mem_append_right _ (List.mem_append_right _ (List.mem_append_right _ (List.mem_append_right _ (List.mem_append_right _ (List.mem_append_left _ h)))))))))))))))))))))))))))))))))))))
theorem wl_wsL_law_r28 : ∀ w ∈ wsL_law_r28, w ∈ WS := fun _ h => List.mem_append_left _ (List.mem_append_left _ (List.mem_append_left _ (List.mem_append_left _ (List.mem_append_left _ (List.mem_append_left _ (List.mem_append_left _ (List.mem_append_left _ (List.mem_append_left _ (List.mem_append_left _ (List.mem_append_left _ (List.mem_append_right _ (List.mem_append_right _ (List.mem_append_right _ (List.mem_append_right _ (List.mem_append_right _ (List.mem_append_right _ (List.mem_append_right _ (List.mem_append_right _ (List.mem_append_right _ (List.mem_append_right _ (List.mem_append_right _ (List.mem_append_right _ (List.mem_append_right _ (List.mem_append_right _ (List.mem_append_right _ (List.mem_append_right _ (List.mem_append_right _ (List.mem_append_right _ (List.mem_append_right _ (List.mem_append_right _ (List.mem_append_right _ (List.mem_append_right _ (List.mem_append_right _ (List.mem_append_right _ (List.mem_append_right _ (List.mem_append_right _ (List.mem_append_right _ (List.mem_append_left _ h))))))))))))))))))))))))))))))))))))))
theorem wl_wsL_law_r29 : ∀ w ∈ wsL_law_r29, w ∈ WS := fun _ h => List.mem_append_left _ (List.mem_append_left _ (List.mem_append_left _ (List.mem_append_left _ (List.mem_append_left _ (List.mem_append_left _ (List.mem_append_left _ (List.mem_append_left _ (List.mem_append_left _ (List.mem_append_left _ (List.mem_append_left _ (List.mem_append_right _ (List.mem_append_right _ (List.mem_append_right _ (List.mem_append_right _ (List.mem_append_right _ (List.mem_append_right _ (List.mem_append_right _ (List.mem_append_right _ (List.mem_append_right _ (List.mem_append_right _ (List.mem_append_right _ (List.mem_append_right _ (List.mem_append_right _ (List.mem_append_right _ (List.mem_append_right _ (List.mem_append_right _ (List.mem_append_right _ (List.mem_append_right _ (List.mem_append_right _ (List.mem_append_right _ (List.mem_append_right _ (List.mem_append_right _ (List.mem_append_right _ (List.mem_append_right _ (List.mem_append_right _ (List.mem_append_right _ (List.mem_append_right _ (List.mem_append_right _ (List.mem_append_left _ h)))))))))))))))))))))))))))))))))))))))
theorem wl_wsL_law_r30 : ∀ w ∈ wsL_law_r30, w ∈ WS := fun _ h => List.mem_append_left _ (List.mem_append_left _ (List.mem_append_left _ (List.mem_append_left _ (List.mem_append_left _ (List.mem_append_left _ (List.mem_append_left _ (List.mem_append_left _ (List.mem_append_left _ (List.mem_append_left _ (List.mem_append_left _ (List.mem_append_right _ (List.mem_append_right _ (List.mem_append_right _ (List.mem_append_right _ (List.mem_append_right _ (List.mem_append_right _ (List.mem_append_right _ (List.mem_append_right _ (List.mem_append_right _ (List.mem_append_right _ (List.mem_append_right _ (List.mem_append_right _ (List.mem_append_right _ (List.mem_append_right _ (List.mem_append_right _ (List.mem_append_right _ (List.mem_append_right _ (List.mem_append_right _ (List.mem_append_right _ (List.mem_append_right _ (List.mem_append_right _ (List.mem_append_right _ (List.mem_append_right _ (List.mem_append_right _ (List.mem_append_right _ (List.mem_append_right _ (List.mem_append_right _ (List.mem_append_right _ (List.mem_append_right _ (List.mem_append_left _ h))))))))))))))))))))))))))))))))))))))))
theorem wl_wsL_law_r31 : ∀ w ∈ wsL_law_r31, w ∈ WS := fun _ h => List.mem_append_left _ (List.mem_append_left _ (List.mem_append_left _ (List.mem_append_left _ (List.mem_append_left _ (List.mem_append_left _ (List.mem_append_left _ (List.mem_append_left _ (List.mem_append_left _ (List.mem_append_left _ (List.mem_append_left _ (List.mem_append_right _ (List.mem_append_right _ (List.mem_append_right _ (List.mem_append_right _ (List.mem_append_right _ (List.mem_append_right _ (List.mem_append_right _ (List.mem_append_right _ (List.mem_append_right _ (List.mem_append_right _ (List.mem_append_right _ (List.mem_append_right _ (List.mem_append_right _ (List.mem_append_right _ (List.mem_append_right _ (List.mem_append_right _ (List.mem_append_right _ (List.mem_append_right _ (List.mem_append_right _ (List.mem_append_right _ (List.mem_append_right _ (List.mem_append_right _ (List.mem_append_right _ (List.mem_append_right _ (List.mem_append_right _ (List.mem_append_right _ (List.mem_append_right _ (List.mem_append_right _ (List.mem_append_right _ (List.mem_append_right _ (h)))))))))))))))))))))))))))))))))))))))))
theorem cls0 : CLS 0 RX0 TX0 7 tyX0 := ⟨inlX0, rfl, tyX0_ok, nmX0⟩
theorem cls1 : CLS 1 RX1 TX1 4 tyX1 := ⟨inlX1, rfl, tyX1_ok, nmX1⟩
theorem cls2 : CLS 2 RX2 TX2 2 tyX2 := ⟨inlX2, rfl, tyX2_ok, nmX2⟩
theorem cls3 : CLS 3 RX3 TX3 2 tyX3 := ⟨inlX3, rfl, tyX3_ok, nmX3⟩
theorem cls4 : CLS 4 RX4 TX4 11 tyX4 := ⟨inlX4, rfl, tyX4_ok, nmX4⟩
theorem cls5 : CLS 5 RX5 TX5 3 tyX5 := ⟨inlX5, rfl, tyX5_ok, nmX5⟩
theorem cls6 : CLS 6 RX6 TX6 9 tyX6 := ⟨inlX6, rfl, tyX6_ok, nmX6⟩
theorem cls7 : CLS 7 RX7 TX7 7 tyX7 := ⟨inlX7, rfl, tyX7_ok, nmX7⟩
theorem cls8 : CLS 8 RX8 TX8 8 tyX8 := ⟨inlX8, rfl, tyX8_ok, nmX8⟩
theorem cls9 : CLS 9 RX9 TX9 38 tyX9 := ⟨inlX9, rfl, tyX9_ok, nmX9⟩
theorem wd_classLink_RL_7_RX8 : Cond.classLink RL 7 RX8 ∈ WS := wl_wsL_law_r1 _ (List.mem_of_getElem? (i := 0) rfl)
theorem wd_instantiable_RX8_8 : Cond.instantiable RX8 8 ∈ WS := wl_wsL_law_r1 _ (List.mem_of_getElem? (i := 1) rfl)
theorem ini_RX8 : Cond.initialized RX8 ∈ WS := wl_wsL_law_r1 _ (List.mem_of_getElem? (i := 2) rfl)
theorem wd_classLink_RL_10_RX9 : Cond.classLink RL 10 RX9 ∈ WS := wl_wsL_law_r1 _ (List.mem_of_getElem? (i := 3) rfl)
theorem wd_instantiable_RX9_38 : Cond.instantiable RX9 38 ∈ WS := wl_wsL_law_r1 _ (List.mem_of_getElem? (i := 4) rfl)
theorem ini_RX9 : Cond.initialized RX9 ∈ WS := wl_wsL_law_r1 _ (List.mem_of_getElem? (i := 5) rfl)
theorem mlL_9 : Cond.methodLink RL 9 yX8_init ∈ WS := wl_wsL_law_r1 _ (List.mem_of_getElem? (i := 6) rfl)
theorem cd_yX8_init : Cond.code yX8_init cX8_init 1 none ∈ WS := wl_wsL_law_r1 _ (List.mem_of_getElem? (i := 8) rfl)
theorem mlX8_1 : Cond.methodLink RX8 1 objectInit ∈ WS := wl_wsL_law_r1 _ (List.mem_of_getElem? (i := 9) rfl)
theorem cd_objectInit : Cond.code objectInit ⟨#[0xb1]⟩ 1 none ∈ WS := wl_wsL_law_r1 _ (List.mem_of_getElem? (i := 11) rfl)
theorem wd_classLink_RX8_7_RX7 : Cond.classLink RX8 7 RX7 ∈ WS := wl_wsL_law_r1 _ (List.mem_of_getElem? (i := 12) rfl)
theorem wd_instantiable_RX7_7 : Cond.instantiable RX7 7 ∈ WS := wl_wsL_law_r1 _ (List.mem_of_getElem? (i := 13) rfl)
theorem ini_RX7 : Cond.initialized RX7 ∈ WS := wl_wsL_law_r1 _ (List.mem_of_getElem? (i := 14) rfl)
theorem flX8_10 : FL RX8 10 8 0 RX8 TX8 8 tyX8 := ⟨cls8, by decide, wl_wsL_law_r1 _ (List.mem_of_getElem? (i := 15) rfl)⟩
theorem wd_classLink_RX8_16_RX5 : Cond.classLink RX8 16 RX5 ∈ WS := wl_wsL_law_r1 _ (List.mem_of_getElem? (i := 16) rfl)
theorem wd_instantiable_RX5_3 : Cond.instantiable RX5 3 ∈ WS := wl_wsL_law_r1 _ (List.mem_of_getElem? (i := 17) rfl)
theorem ini_RX5 : Cond.initialized RX5 ∈ WS := wl_wsL_law_r1 _ (List.mem_of_getElem? (i := 18) rfl)
theorem flX8_21 : FL RX8 21 8 1 RX8 TX8 8 tyX8 := ⟨cls8, by decide, wl_wsL_law_r1 _ (List.mem_of_getElem? (i := 19) rfl)⟩
theorem wd_classLink_RX8_25_RX3 : Cond.classLink RX8 25 RX3 ∈ WS := wl_wsL_law_r1 _ (List.mem_of_getElem? (i := 20) rfl)
theorem wd_instantiable_RX3_2 : Cond.instantiable RX3 2 ∈ WS := wl_wsL_law_r1 _ (List.mem_of_getElem? (i := 21) rfl)
theorem ini_RX3 : Cond.initialized RX3 ∈ WS := wl_wsL_law_r1 _ (List.mem_of_getElem? (i := 22) rfl)
theorem flX8_28 : FL RX8 28 8 2 RX8 TX8 8 tyX8 := ⟨cls8, by decide, wl_wsL_law_r1 _ (List.mem_of_getElem? (i := 23) rfl)⟩
theorem wd_classLink_RX8_32_RX0 : Cond.classLink RX8 32 RX0 ∈ WS := wl_wsL_law_r2 _ (List.mem_of_getElem? (i := 0) rfl)
theorem wd_instantiable_RX0_7 : Cond.instantiable RX0 7 ∈ WS := wl_wsL_law_r2 _ (List.mem_of_getElem? (i := 1) rfl)
theorem ini_RX0 : Cond.initialized RX0 ∈ WS := wl_wsL_law_r2 _ (List.mem_of_getElem? (i := 2) rfl)
theorem flX8_35 : FL RX8 35 8 3 RX8 TX8 8 tyX8 := ⟨cls8, by decide, wl_wsL_law_r2 _ (List.mem_of_getElem? (i := 3) rfl)⟩
theorem wd_classLink_RX8_39_RX1 : Cond.classLink RX8 39 RX1 ∈ WS := wl_wsL_law_r2 _ (List.mem_of_getElem? (i := 4) rfl)
theorem wd_instantiable_RX1_4 : Cond.instantiable RX1 4 ∈ WS := wl_wsL_law_r2 _ (List.mem_of_getElem? (i := 5) rfl)
theorem ini_RX1 : Cond.initialized RX1 ∈ WS := wl_wsL_law_r2 _ (List.mem_of_getElem? (i := 6) rfl)
theorem flX8_42 : FL RX8 42 8 4 RX8 TX8 8 tyX8 := ⟨cls8, by decide, wl_wsL_law_r2 _ (List.mem_of_getElem? (i := 7) rfl)⟩
theorem wd_classLink_RX8_46_RX2 : Cond.classLink RX8 46 RX2 ∈ WS := wl_wsL_law_r2 _ (List.mem_of_getElem? (i := 8) rfl)
theorem wd_instantiable_RX2_2 : Cond.instantiable RX2 2 ∈ WS := wl_wsL_law_r2 _ (List.mem_of_getElem? (i := 9) rfl)
theorem ini_RX2 : Cond.initialized RX2 ∈ WS := wl_wsL_law_r2 _ (List.mem_of_getElem? (i := 10) rfl)
theorem flX8_49 : FL RX8 49 8 5 RX8 TX8 8 tyX8 := ⟨cls8, by decide, wl_wsL_law_r2 _ (List.mem_of_getElem? (i := 11) rfl)⟩
theorem wd_classLink_RX8_53_RX4 : Cond.classLink RX8 53 RX4 ∈ WS := wl_wsL_law_r2 _ (List.mem_of_getElem? (i := 12) rfl)
theorem wd_instantiable_RX4_11 : Cond.instantiable RX4 11 ∈ WS := wl_wsL_law_r2 _ (List.mem_of_getElem? (i := 13) rfl)
theorem ini_RX4 : Cond.initialized RX4 ∈ WS := wl_wsL_law_r2 _ (List.mem_of_getElem? (i := 14) rfl)
theorem flX8_56 : FL RX8 56 8 6 RX8 TX8 8 tyX8 := ⟨cls8, by decide, wl_wsL_law_r2 _ (List.mem_of_getElem? (i := 15) rfl)⟩
theorem cd_yX7_init : Cond.code yX7_init cX7_init 1 none ∈ WS := wl_wsL_law_r2 _ (List.mem_of_getElem? (i := 17) rfl)
theorem mlX7_3 : Cond.methodLink RX7 3 objectInit ∈ WS := wl_wsL_law_r2 _ (List.mem_of_getElem? (i := 18) rfl)
theorem wd_arrayClass_int : Cond.arrayClass .int ∈ WS := wl_wsL_law_r2 _ (List.mem_of_getElem? (i := 19) rfl)
theorem flX7_9 : FL RX7 9 7 0 RX7 TX7 7 tyX7 := ⟨cls7, by decide, wl_wsL_law_r2 _ (List.mem_of_getElem? (i := 20) rfl)⟩
theorem flX7_15 : FL RX7 15 7 1 RX7 TX7 7 tyX7 := ⟨cls7, by decide, wl_wsL_law_r2 _ (List.mem_of_getElem? (i := 21) rfl)⟩
theorem flX7_18 : FL RX7 18 7 2 RX7 TX7 7 tyX7 := ⟨cls7, by decide, wl_wsL_law_r2 _ (List.mem_of_getElem? (i := 22) rfl)⟩
theorem flX7_21 : FL RX7 21 7 3 RX7 TX7 7 tyX7 := ⟨cls7, by decide, wl_wsL_law_r2 _ (List.mem_of_getElem? (i := 23) rfl)⟩
theorem flX7_24 : FL RX7 24 7 5 RX7 TX7 7 tyX7 := ⟨cls7, by decide, wl_wsL_law_r3 _ (List.mem_of_getElem? (i := 0) rfl)⟩
theorem flX7_28 : FL RX7 28 7 6 RX7 TX7 7 tyX7 := ⟨cls7, by decide, wl_wsL_law_r3 _ (List.mem_of_getElem? (i := 1) rfl)⟩
theorem mlX8_18 : Cond.methodLink RX8 18 yX5_init ∈ WS := wl_wsL_law_r3 _ (List.mem_of_getElem? (i := 2) rfl)
theorem cd_yX5_init : Cond.code yX5_init cX5_init 2 none ∈ WS := wl_wsL_law_r3 _ (List.mem_of_getElem? (i := 4) rfl)
theorem mlX5_1 : Cond.methodLink RX5 1 objectInit ∈ WS := wl_wsL_law_r3 _ (List.mem_of_getElem? (i := 5) rfl)
theorem flX5_7 : FL RX5 7 5 0 RX5 TX5 3 tyX5 := ⟨cls5, by decide, wl_wsL_law_r3 _ (List.mem_of_getElem? (i := 6) rfl)⟩
theorem flX5_13 : FL RX5 13 5 1 RX5 TX5 3 tyX5 := ⟨cls5, by decide, wl_wsL_law_r3 _ (List.mem_of_getElem? (i := 7) rfl)⟩
theorem cd_yX3_init : Cond.code yX3_init cX3_init 1 none ∈ WS := wl_wsL_law_r3 _ (List.mem_of_getElem? (i := 9) rfl)
theorem mlX3_3 : Cond.methodLink RX3 3 objectInit ∈ WS := wl_wsL_law_r3 _ (List.mem_of_getElem? (i := 10) rfl)
theorem flX3_9 : FL RX3 9 3 0 RX3 TX3 2 tyX3 := ⟨cls3, by decide, wl_wsL_law_r3 _ (List.mem_of_getElem? (i := 11) rfl)⟩
theorem cd_yX0_init : Cond.code yX0_init cX0_init 1 none ∈ WS := wl_wsL_law_r3 _ (List.mem_of_getElem? (i := 13) rfl)
theorem mlX0_3 : Cond.methodLink RX0 3 objectInit ∈ WS := wl_wsL_law_r3 _ (List.mem_of_getElem? (i := 14) rfl)
theorem flX0_9 : FL RX0 9 0 0 RX0 TX0 7 tyX0 := ⟨cls0, by decide, wl_wsL_law_r3 _ (List.mem_of_getElem? (i := 15) rfl)⟩
theorem flX0_15 : FL RX0 15 0 1 RX0 TX0 7 tyX0 := ⟨cls0, by decide, wl_wsL_law_r3 _ (List.mem_of_getElem? (i := 16) rfl)⟩
theorem flX0_18 : FL RX0 18 0 2 RX0 TX0 7 tyX0 := ⟨cls0, by decide, wl_wsL_law_r3 _ (List.mem_of_getElem? (i := 17) rfl)⟩
theorem flX0_21 : FL RX0 21 0 3 RX0 TX0 7 tyX0 := ⟨cls0, by decide, wl_wsL_law_r3 _ (List.mem_of_getElem? (i := 18) rfl)⟩
theorem cd_yX1_init : Cond.code yX1_init cX1_init 1 none ∈ WS := wl_wsL_law_r3 _ (List.mem_of_getElem? (i := 20) rfl)
theorem mlX1_1 : Cond.methodLink RX1 1 objectInit ∈ WS := wl_wsL_law_r3 _ (List.mem_of_getElem? (i := 21) rfl)
theorem flX1_7 : FL RX1 7 1 2 RX1 TX1 4 tyX1 := ⟨cls1, by decide, wl_wsL_law_r3 _ (List.mem_of_getElem? (i := 22) rfl)⟩
theorem cd_yX2_init : Cond.code yX2_init cX2_init 1 none ∈ WS := wl_wsL_law_r4 _ (List.mem_of_getElem? (i := 0) rfl)
theorem mlX2_3 : Cond.methodLink RX2 3 objectInit ∈ WS := wl_wsL_law_r4 _ (List.mem_of_getElem? (i := 1) rfl)
theorem wd_classLink_RX2_9_RX5 : Cond.classLink RX2 9 RX5 ∈ WS := wl_wsL_law_r4 _ (List.mem_of_getElem? (i := 2) rfl)
theorem flX2_14 : FL RX2 14 2 0 RX2 TX2 2 tyX2 := ⟨cls2, by decide, wl_wsL_law_r4 _ (List.mem_of_getElem? (i := 3) rfl)⟩
theorem flX2_20 : FL RX2 20 2 1 RX2 TX2 2 tyX2 := ⟨cls2, by decide, wl_wsL_law_r4 _ (List.mem_of_getElem? (i := 4) rfl)⟩
theorem mlX2_11 : Cond.methodLink RX2 11 yX5_init ∈ WS := wl_wsL_law_r4 _ (List.mem_of_getElem? (i := 5) rfl)
theorem cd_yX4_init : Cond.code yX4_init cX4_init 1 none ∈ WS := wl_wsL_law_r4 _ (List.mem_of_getElem? (i := 7) rfl)
theorem mlX4_3 : Cond.methodLink RX4 3 objectInit ∈ WS := wl_wsL_law_r4 _ (List.mem_of_getElem? (i := 8) rfl)
theorem flX4_9 : FL RX4 9 4 0 RX4 TX4 11 tyX4 := ⟨cls4, by decide, wl_wsL_law_r4 _ (List.mem_of_getElem? (i := 9) rfl)⟩
theorem flX4_15 : FL RX4 15 4 1 RX4 TX4 11 tyX4 := ⟨cls4, by decide, wl_wsL_law_r4 _ (List.mem_of_getElem? (i := 10) rfl)⟩
theorem flX4_18 : FL RX4 18 4 2 RX4 TX4 11 tyX4 := ⟨cls4, by decide, wl_wsL_law_r4 _ (List.mem_of_getElem? (i := 11) rfl)⟩
theorem flX4_21 : FL RX4 21 4 3 RX4 TX4 11 tyX4 := ⟨cls4, by decide, wl_wsL_law_r4 _ (List.mem_of_getElem? (i := 12) rfl)⟩
theorem wd_arrayClass_boolean : Cond.arrayClass .boolean ∈ WS := wl_wsL_law_r4 _ (List.mem_of_getElem? (i := 13) rfl)
theorem flX4_24 : FL RX4 24 4 4 RX4 TX4 11 tyX4 := ⟨cls4, by decide, wl_wsL_law_r4 _ (List.mem_of_getElem? (i := 14) rfl)⟩
theorem flX4_28 : FL RX4 28 4 6 RX4 TX4 11 tyX4 := ⟨cls4, by decide, wl_wsL_law_r4 _ (List.mem_of_getElem? (i := 15) rfl)⟩
theorem flX4_31 : FL RX4 31 4 7 RX4 TX4 11 tyX4 := ⟨cls4, by decide, wl_wsL_law_r4 _ (List.mem_of_getElem? (i := 16) rfl)⟩
theorem flX4_34 : FL RX4 34 4 8 RX4 TX4 11 tyX4 := ⟨cls4, by decide, wl_wsL_law_r4 _ (List.mem_of_getElem? (i := 17) rfl)⟩
theorem mlL_12 : Cond.methodLink RL 12 yX9_init ∈ WS := wl_wsL_law_r4 _ (List.mem_of_getElem? (i := 18) rfl)
theorem cd_yX9_init : Cond.code yX9_init cX9_init 1 none ∈ WS := wl_wsL_law_r4 _ (List.mem_of_getElem? (i := 20) rfl)
theorem mlX9_1 : Cond.methodLink RX9 1 objectInit ∈ WS := wl_wsL_law_r4 _ (List.mem_of_getElem? (i := 21) rfl)
theorem flX9_7 : FL RX9 7 9 2 RX9 TX9 38 tyX9 := ⟨cls9, by decide, wl_wsL_law_r4 _ (List.mem_of_getElem? (i := 22) rfl)⟩
theorem flX9_13 : FL RX9 13 9 3 RX9 TX9 38 tyX9 := ⟨cls9, by decide, wl_wsL_law_r4 _ (List.mem_of_getElem? (i := 23) rfl)⟩
theorem flX9_16 : FL RX9 16 9 4 RX9 TX9 38 tyX9 := ⟨cls9, by decide, wl_wsL_law_r5 _ (List.mem_of_getElem? (i := 0) rfl)⟩
theorem flX9_19 : FL RX9 19 9 5 RX9 TX9 38 tyX9 := ⟨cls9, by decide, wl_wsL_law_r5 _ (List.mem_of_getElem? (i := 1) rfl)⟩
theorem flX9_22 : FL RX9 22 9 6 RX9 TX9 38 tyX9 := ⟨cls9, by decide, wl_wsL_law_r5 _ (List.mem_of_getElem? (i := 2) rfl)⟩
theorem flX9_26 : FL RX9 26 9 7 RX9 TX9 38 tyX9 := ⟨cls9, by decide, wl_wsL_law_r5 _ (List.mem_of_getElem? (i := 3) rfl)⟩
theorem flX9_29 : FL RX9 29 9 9 RX9 TX9 38 tyX9 := ⟨cls9, by decide, wl_wsL_law_r5 _ (List.mem_of_getElem? (i := 4) rfl)⟩
theorem flX9_32 : FL RX9 32 9 10 RX9 TX9 38 tyX9 := ⟨cls9, by decide, wl_wsL_law_r5 _ (List.mem_of_getElem? (i := 5) rfl)⟩
theorem flX9_35 : FL RX9 35 9 12 RX9 TX9 38 tyX9 := ⟨cls9, by decide, wl_wsL_law_r5 _ (List.mem_of_getElem? (i := 6) rfl)⟩
theorem flX9_38 : FL RX9 38 9 13 RX9 TX9 38 tyX9 := ⟨cls9, by decide, wl_wsL_law_r5 _ (List.mem_of_getElem? (i := 7) rfl)⟩
theorem flX9_41 : FL RX9 41 9 14 RX9 TX9 38 tyX9 := ⟨cls9, by decide, wl_wsL_law_r5 _ (List.mem_of_getElem? (i := 8) rfl)⟩
theorem flX9_44 : FL RX9 44 9 15 RX9 TX9 38 tyX9 := ⟨cls9, by decide, wl_wsL_law_r5 _ (List.mem_of_getElem? (i := 9) rfl)⟩
theorem flX9_47 : FL RX9 47 9 18 RX9 TX9 38 tyX9 := ⟨cls9, by decide, wl_wsL_law_r5 _ (List.mem_of_getElem? (i := 10) rfl)⟩
theorem flX9_50 : FL RX9 50 9 21 RX9 TX9 38 tyX9 := ⟨cls9, by decide, wl_wsL_law_r5 _ (List.mem_of_getElem? (i := 11) rfl)⟩
theorem flX9_53 : FL RX9 53 9 22 RX9 TX9 38 tyX9 := ⟨cls9, by decide, wl_wsL_law_r5 _ (List.mem_of_getElem? (i := 12) rfl)⟩
theorem flX9_56 : FL RX9 56 9 23 RX9 TX9 38 tyX9 := ⟨cls9, by decide, wl_wsL_law_r5 _ (List.mem_of_getElem? (i := 13) rfl)⟩
theorem flX9_59 : FL RX9 59 9 25 RX9 TX9 38 tyX9 := ⟨cls9, by decide, wl_wsL_law_r5 _ (List.mem_of_getElem? (i := 14) rfl)⟩
theorem flX9_62 : FL RX9 62 9 26 RX9 TX9 38 tyX9 := ⟨cls9, by decide, wl_wsL_law_r5 _ (List.mem_of_getElem? (i := 15) rfl)⟩
theorem flX9_65 : FL RX9 65 9 27 RX9 TX9 38 tyX9 := ⟨cls9, by decide, wl_wsL_law_r5 _ (List.mem_of_getElem? (i := 16) rfl)⟩
theorem flX9_68 : FL RX9 68 9 28 RX9 TX9 38 tyX9 := ⟨cls9, by decide, wl_wsL_law_r5 _ (List.mem_of_getElem? (i := 17) rfl)⟩
theorem flX9_71 : FL RX9 71 9 29 RX9 TX9 38 tyX9 := ⟨cls9, by decide, wl_wsL_law_r5 _ (List.mem_of_getElem? (i := 18) rfl)⟩
theorem flX9_75 : FL RX9 75 9 30 RX9 TX9 38 tyX9 := ⟨cls9, by decide, wl_wsL_law_r5 _ (List.mem_of_getElem? (i := 19) rfl)⟩
theorem flX9_78 : FL RX9 78 9 31 RX9 TX9 38 tyX9 := ⟨cls9, by decide, wl_wsL_law_r5 _ (List.mem_of_getElem? (i := 20) rfl)⟩
theorem flX9_81 : FL RX9 81 9 32 RX9 TX9 38 tyX9 := ⟨cls9, by decide, wl_wsL_law_r5 _ (List.mem_of_getElem? (i := 21) rfl)⟩
theorem flX9_84 : FL RX9 84 9 33 RX9 TX9 38 tyX9 := ⟨cls9, by decide, wl_wsL_law_r5 _ (List.mem_of_getElem? (i := 22) rfl)⟩
theorem flX9_87 : FL RX9 87 9 34 RX9 TX9 38 tyX9 := ⟨cls9, by decide, wl_wsL_law_r5 _ (List.mem_of_getElem? (i := 23) rfl)⟩
theorem flX9_90 : FL RX9 90 9 35 RX9 TX9 38 tyX9 := ⟨cls9, by decide, wl_wsL_law_r6 _ (List.mem_of_getElem? (i := 0) rfl)⟩
theorem flX9_93 : FL RX9 93 9 36 RX9 TX9 38 tyX9 := ⟨cls9, by decide, wl_wsL_law_r6 _ (List.mem_of_getElem? (i := 1) rfl)⟩
theorem flX9_96 : FL RX9 96 9 37 RX9 TX9 38 tyX9 := ⟨cls9, by decide, wl_wsL_law_r6 _ (List.mem_of_getElem? (i := 2) rfl)⟩
theorem mlL_13 : Cond.methodLink RL 13 yX8_panel ∈ WS := wl_wsL_law_r6 _ (List.mem_of_getElem? (i := 3) rfl)
theorem cd_yX8_panel : Cond.code yX8_panel cX8_panel 5 (some .int) ∈ WS := wl_wsL_law_r6 _ (List.mem_of_getElem? (i := 6) rfl)
theorem flX8_64 : FL RX8 64 7 4 RX7 TX7 7 tyX7 := ⟨cls7, by decide, wl_wsL_law_r6 _ (List.mem_of_getElem? (i := 7) rfl)⟩
theorem mlX8_60 : Cond.methodLink RX8 60 yX8_isPoint ∈ WS := wl_wsL_law_r6 _ (List.mem_of_getElem? (i := 8) rfl)
theorem is_yX8_isPoint : Cond.static yX8_isPoint ∈ WS := wl_wsL_law_r6 _ (List.mem_of_getElem? (i := 9) rfl)
theorem cd_yX8_isPoint : Cond.code yX8_isPoint cX8_isPoint 2 (some .boolean) ∈ WS := wl_wsL_law_r6 _ (List.mem_of_getElem? (i := 10) rfl)
theorem mlX8_72 : Cond.methodLink RX8 72 yX8_isWithin ∈ WS := wl_wsL_law_r6 _ (List.mem_of_getElem? (i := 11) rfl)
theorem is_yX8_isWithin : Cond.static yX8_isWithin ∈ WS := wl_wsL_law_r6 _ (List.mem_of_getElem? (i := 12) rfl)
theorem cd_yX8_isWithin : Cond.code yX8_isWithin cX8_isWithin 3 (some .boolean) ∈ WS := wl_wsL_law_r6 _ (List.mem_of_getElem? (i := 13) rfl)
theorem mlX8_68 : Cond.methodLink RX8 68 yX7_add ∈ WS := wl_wsL_law_r6 _ (List.mem_of_getElem? (i := 14) rfl)
theorem cd_yX7_add : Cond.code yX7_add cX7_add 5 (some .int) ∈ WS := wl_wsL_law_r6 _ (List.mem_of_getElem? (i := 17) rfl)
theorem flX7_31 : FL RX7 31 7 4 RX7 TX7 7 tyX7 := ⟨cls7, by decide, wl_wsL_law_r6 _ (List.mem_of_getElem? (i := 18) rfl)⟩
theorem mlL_17 : Cond.methodLink RL 17 yX9_panel ∈ WS := wl_wsL_law_r6 _ (List.mem_of_getElem? (i := 19) rfl)
theorem cd_yX9_panel : Cond.code yX9_panel cX9_panel 5 (some .int) ∈ WS := wl_wsL_law_r6 _ (List.mem_of_getElem? (i := 22) rfl)
theorem flX9_99 : FL RX9 99 9 0 RX9 TX9 38 tyX9 := ⟨cls9, by decide, wl_wsL_law_r6 _ (List.mem_of_getElem? (i := 23) rfl)⟩
theorem flX9_108 : FL RX9 108 9 1 RX9 TX9 38 tyX9 := ⟨cls9, by decide, wl_wsL_law_r7 _ (List.mem_of_getElem? (i := 0) rfl)⟩
theorem mlX9_134 : Cond.methodLink RX9 134 yX9_noPoint ∈ WS := wl_wsL_law_r7 _ (List.mem_of_getElem? (i := 1) rfl)
theorem is_yX9_noPoint : Cond.static yX9_noPoint ∈ WS := wl_wsL_law_r7 _ (List.mem_of_getElem? (i := 2) rfl)
theorem cd_yX9_noPoint : Cond.code yX9_noPoint cX9_noPoint 2 (some .boolean) ∈ WS := wl_wsL_law_r7 _ (List.mem_of_getElem? (i := 3) rfl)
theorem ckX9_102 : Cond.constantLong RX9 102 (60) ∈ WS := wl_wsL_law_r7 _ (List.mem_of_getElem? (i := 4) rfl)
theorem mlX9_104 : Cond.methodLink RX9 104 yX9_in ∈ WS := wl_wsL_law_r7 _ (List.mem_of_getElem? (i := 5) rfl)
theorem is_yX9_in : Cond.static yX9_in ∈ WS := wl_wsL_law_r7 _ (List.mem_of_getElem? (i := 6) rfl)
theorem cd_yX9_in : Cond.code yX9_in cX9_in 6 (some .boolean) ∈ WS := wl_wsL_law_r7 _ (List.mem_of_getElem? (i := 7) rfl)
theorem mlL_18 : Cond.methodLink RL 18 yX8_eye ∈ WS := wl_wsL_law_r7 _ (List.mem_of_getElem? (i := 8) rfl)
theorem cd_yX8_eye : Cond.code yX8_eye cX8_eye 4 (some .int) ∈ WS := wl_wsL_law_r7 _ (List.mem_of_getElem? (i := 11) rfl)
theorem flX8_76 : FL RX8 76 7 5 RX7 TX7 7 tyX7 := ⟨cls7, by decide, wl_wsL_law_r7 _ (List.mem_of_getElem? (i := 12) rfl)⟩
theorem flX8_79 : FL RX8 79 7 6 RX7 TX7 7 tyX7 := ⟨cls7, by decide, wl_wsL_law_r7 _ (List.mem_of_getElem? (i := 13) rfl)⟩
theorem mlL_22 : Cond.methodLink RL 22 yX9_eye ∈ WS := wl_wsL_law_r7 _ (List.mem_of_getElem? (i := 14) rfl)
theorem cd_yX9_eye : Cond.code yX9_eye cX9_eye 4 (some .int) ∈ WS := wl_wsL_law_r7 _ (List.mem_of_getElem? (i := 17) rfl)
theorem ckX9_138 : Cond.constantLong RX9 138 (90) ∈ WS := wl_wsL_law_r7 _ (List.mem_of_getElem? (i := 18) rfl)
theorem ckX9_128 : Cond.constantLong RX9 128 (100) ∈ WS := wl_wsL_law_r7 _ (List.mem_of_getElem? (i := 19) rfl)
theorem mlL_23 : Cond.methodLink RL 23 yX8_view ∈ WS := wl_wsL_law_r7 _ (List.mem_of_getElem? (i := 20) rfl)
theorem cd_yX8_view : Cond.code yX8_view cX8_view 3 (some .int) ∈ WS := wl_wsL_law_r7 _ (List.mem_of_getElem? (i := 23) rfl)
theorem flX8_82 : FL RX8 82 5 2 RX5 TX5 3 tyX5 := ⟨cls5, by decide, wl_wsL_law_r8 _ (List.mem_of_getElem? (i := 0) rfl)⟩
theorem mlX8_83 : Cond.methodLink RX8 83 yX5_add ∈ WS := wl_wsL_law_r8 _ (List.mem_of_getElem? (i := 1) rfl)
theorem cd_yX5_add : Cond.code yX5_add cX5_add 3 (some .int) ∈ WS := wl_wsL_law_r8 _ (List.mem_of_getElem? (i := 4) rfl)
theorem flX5_16 : FL RX5 16 5 2 RX5 TX5 3 tyX5 := ⟨cls5, by decide, wl_wsL_law_r8 _ (List.mem_of_getElem? (i := 5) rfl)⟩
theorem mlL_26 : Cond.methodLink RL 26 yX9_view ∈ WS := wl_wsL_law_r8 _ (List.mem_of_getElem? (i := 6) rfl)
theorem cd_yX9_view : Cond.code yX9_view cX9_view 3 (some .int) ∈ WS := wl_wsL_law_r8 _ (List.mem_of_getElem? (i := 9) rfl)
theorem flX9_111 : FL RX9 111 9 8 RX9 TX9 38 tyX9 := ⟨cls9, by decide, wl_wsL_law_r8 _ (List.mem_of_getElem? (i := 10) rfl)⟩
theorem mlL_27 : Cond.methodLink RL 27 yX8_seen ∈ WS := wl_wsL_law_r8 _ (List.mem_of_getElem? (i := 11) rfl)
theorem cd_yX8_seen : Cond.code yX8_seen cX8_seen 4 (some .int) ∈ WS := wl_wsL_law_r8 _ (List.mem_of_getElem? (i := 14) rfl)
theorem mlX8_86 : Cond.methodLink RX8 86 yX8_isPanel ∈ WS := wl_wsL_law_r8 _ (List.mem_of_getElem? (i := 15) rfl)
theorem cd_yX8_isPanel : Cond.code yX8_isPanel cX8_isPanel 2 (some .boolean) ∈ WS := wl_wsL_law_r8 _ (List.mem_of_getElem? (i := 18) rfl)
theorem mlX8_90 : Cond.methodLink RX8 90 yX7_isVisible ∈ WS := wl_wsL_law_r8 _ (List.mem_of_getElem? (i := 19) rfl)
theorem cd_yX7_isVisible : Cond.code yX7_isVisible cX7_isVisible 15 (some .boolean) ∈ WS := wl_wsL_law_r8 _ (List.mem_of_getElem? (i := 22) rfl)
theorem ckX7_38 : Cond.constantLong RX7 38 (100) ∈ WS := wl_wsL_law_r8 _ (List.mem_of_getElem? (i := 23) rfl)
theorem mlX7_40 : Cond.methodLink RX7 40 yX7_isTouched ∈ WS := wl_wsL_law_r9 _ (List.mem_of_getElem? (i := 0) rfl)
theorem cd_yX7_isTouched : Cond.code yX7_isTouched cX7_isTouched 10 (some .boolean) ∈ WS := wl_wsL_law_r9 _ (List.mem_of_getElem? (i := 3) rfl)
theorem mlX7_44 : Cond.methodLink RX7 44 yX7_doOverlap ∈ WS := wl_wsL_law_r9 _ (List.mem_of_getElem? (i := 4) rfl)
theorem is_yX7_doOverlap : Cond.static yX7_doOverlap ∈ WS := wl_wsL_law_r9 _ (List.mem_of_getElem? (i := 5) rfl)
theorem cd_yX7_doOverlap : Cond.code yX7_doOverlap cX7_doOverlap 4 (some .boolean) ∈ WS := wl_wsL_law_r9 _ (List.mem_of_getElem? (i := 6) rfl)
theorem mlX7_56 : Cond.methodLink RX7 56 Lib.Math.max.name ∈ WS := wl_wsL_law_r9 _ (List.mem_of_getElem? (i := 7) rfl)
theorem is_Mmax : Cond.static Lib.Math.max.name ∈ WS := wl_wsL_law_r9 _ (List.mem_of_getElem? (i := 8) rfl)
theorem ini_java_lang_Math : Cond.initialized "java/lang/Math" ∈ WS := wl_wsL_law_r9 _ (List.mem_of_getElem? (i := 9) rfl)
theorem cd_Mmax : Cond.code Lib.Math.max.name Lib.Math.max.code 2 (some .int) ∈ WS := wl_wsL_law_r9 _ (List.mem_of_getElem? (i := 10) rfl)
theorem mlX7_62 : Cond.methodLink RX7 62 Lib.Math.min.name ∈ WS := wl_wsL_law_r9 _ (List.mem_of_getElem? (i := 11) rfl)
theorem is_Mmin : Cond.static Lib.Math.min.name ∈ WS := wl_wsL_law_r9 _ (List.mem_of_getElem? (i := 12) rfl)
theorem cd_Mmin : Cond.code Lib.Math.min.name Lib.Math.min.code 2 (some .int) ∈ WS := wl_wsL_law_r9 _ (List.mem_of_getElem? (i := 13) rfl)
theorem is_yX8_turn : Cond.static yX8_turn ∈ WS := wl_wsL_law_r9 _ (List.mem_of_getElem? (i := 14) rfl)
theorem cd_yX8_turn : Cond.code yX8_turn cX8_turn 6 (some .int) ∈ WS := wl_wsL_law_r9 _ (List.mem_of_getElem? (i := 15) rfl)
theorem mlX7_52 : Cond.methodLink RX7 52 yX7_areApart ∈ WS := wl_wsL_law_r9 _ (List.mem_of_getElem? (i := 16) rfl)
theorem is_yX7_areApart : Cond.static yX7_areApart ∈ WS := wl_wsL_law_r9 _ (List.mem_of_getElem? (i := 17) rfl)
theorem cd_yX7_areApart : Cond.code yX7_areApart cX7_areApart 2 (some .boolean) ∈ WS := wl_wsL_law_r9 _ (List.mem_of_getElem? (i := 18) rfl)
theorem mlX8_93 : Cond.methodLink RX8 93 yX8_asNumber ∈ WS := wl_wsL_law_r9 _ (List.mem_of_getElem? (i := 19) rfl)
theorem is_yX8_asNumber : Cond.static yX8_asNumber ∈ WS := wl_wsL_law_r9 _ (List.mem_of_getElem? (i := 20) rfl)
theorem cd_yX8_asNumber : Cond.code yX8_asNumber cX8_asNumber 1 (some .int) ∈ WS := wl_wsL_law_r9 _ (List.mem_of_getElem? (i := 21) rfl)
theorem mlL_31 : Cond.methodLink RL 31 yX9_seen ∈ WS := wl_wsL_law_r9 _ (List.mem_of_getElem? (i := 22) rfl)
theorem cd_yX9_seen : Cond.code yX9_seen cX9_seen 4 (some .int) ∈ WS := wl_wsL_law_r10 _ (List.mem_of_getElem? (i := 1) rfl)
theorem mlX9_140 : Cond.methodLink RX9 140 yX9_noPanel ∈ WS := wl_wsL_law_r10 _ (List.mem_of_getElem? (i := 2) rfl)
theorem cd_yX9_noPanel : Cond.code yX9_noPanel cX9_noPanel 2 (some .boolean) ∈ WS := wl_wsL_law_r10 _ (List.mem_of_getElem? (i := 5) rfl)
theorem mlX9_144 : Cond.methodLink RX9 144 yX9_isSeen ∈ WS := wl_wsL_law_r10 _ (List.mem_of_getElem? (i := 6) rfl)
theorem cd_yX9_isSeen : Cond.code yX9_isSeen cX9_isSeen 18 (some .boolean) ∈ WS := wl_wsL_law_r10 _ (List.mem_of_getElem? (i := 9) rfl)
theorem ckX9_126 : Cond.constantLong RX9 126 (4) ∈ WS := wl_wsL_law_r10 _ (List.mem_of_getElem? (i := 10) rfl)
theorem mlX9_114 : Cond.methodLink RX9 114 yX9_cross ∈ WS := wl_wsL_law_r10 _ (List.mem_of_getElem? (i := 11) rfl)
theorem is_yX9_cross : Cond.static yX9_cross ∈ WS := wl_wsL_law_r10 _ (List.mem_of_getElem? (i := 12) rfl)
theorem cd_yX9_cross : Cond.code yX9_cross cX9_cross 4 (some .int) ∈ WS := wl_wsL_law_r10 _ (List.mem_of_getElem? (i := 13) rfl)
theorem mlX9_130 : Cond.methodLink RX9 130 yX9_meet ∈ WS := wl_wsL_law_r10 _ (List.mem_of_getElem? (i := 14) rfl)
theorem is_yX9_meet : Cond.static yX9_meet ∈ WS := wl_wsL_law_r10 _ (List.mem_of_getElem? (i := 15) rfl)
theorem cd_yX9_meet : Cond.code yX9_meet cX9_meet 12 (some .boolean) ∈ WS := wl_wsL_law_r10 _ (List.mem_of_getElem? (i := 16) rfl)
theorem mlX9_118 : Cond.methodLink RX9 118 yX9_sign ∈ WS := wl_wsL_law_r10 _ (List.mem_of_getElem? (i := 17) rfl)
theorem is_yX9_sign : Cond.static yX9_sign ∈ WS := wl_wsL_law_r10 _ (List.mem_of_getElem? (i := 18) rfl)
theorem cd_yX9_sign : Cond.code yX9_sign cX9_sign 1 (some .int) ∈ WS := wl_wsL_law_r10 _ (List.mem_of_getElem? (i := 19) rfl)
theorem mlX9_122 : Cond.methodLink RX9 122 yX9_isBetween ∈ WS := wl_wsL_law_r10 _ (List.mem_of_getElem? (i := 20) rfl)
theorem is_yX9_isBetween : Cond.static yX9_isBetween ∈ WS := wl_wsL_law_r10 _ (List.mem_of_getElem? (i := 21) rfl)
theorem cd_yX9_isBetween : Cond.code yX9_isBetween cX9_isBetween 8 (some .boolean) ∈ WS := wl_wsL_law_r10 _ (List.mem_of_getElem? (i := 22) rfl)
theorem mlL_32 : Cond.methodLink RL 32 yX8_sees ∈ WS := wl_wsL_law_r10 _ (List.mem_of_getElem? (i := 23) rfl)
theorem cd_yX8_sees : Cond.code yX8_sees cX8_sees 2 (some .int) ∈ WS := wl_wsL_law_r11 _ (List.mem_of_getElem? (i := 2) rfl)
theorem flX8_97 : FL RX8 97 5 0 RX5 TX5 3 tyX5 := ⟨cls5, by decide, wl_wsL_law_r11 _ (List.mem_of_getElem? (i := 3) rfl)⟩
theorem flX8_101 : FL RX8 101 5 1 RX5 TX5 3 tyX5 := ⟨cls5, by decide, wl_wsL_law_r11 _ (List.mem_of_getElem? (i := 4) rfl)⟩
theorem mlX8_104 : Cond.methodLink RX8 104 yX7_visibleFrom ∈ WS := wl_wsL_law_r11 _ (List.mem_of_getElem? (i := 5) rfl)
theorem cd_yX7_visibleFrom : Cond.code yX7_visibleFrom cX7_visibleFrom 5 (some .int) ∈ WS := wl_wsL_law_r11 _ (List.mem_of_getElem? (i := 8) rfl)
theorem mlX7_34 : Cond.methodLink RX7 34 yX7_isVisible ∈ WS := wl_wsL_law_r11 _ (List.mem_of_getElem? (i := 9) rfl)
theorem mlL_36 : Cond.methodLink RL 36 yX9_sees ∈ WS := wl_wsL_law_r11 _ (List.mem_of_getElem? (i := 10) rfl)
theorem cd_yX9_sees : Cond.code yX9_sees cX9_sees 2 (some .int) ∈ WS := wl_wsL_law_r11 _ (List.mem_of_getElem? (i := 13) rfl)
theorem mlX9_148 : Cond.methodLink RX9 148 yX9_seesOf ∈ WS := wl_wsL_law_r11 _ (List.mem_of_getElem? (i := 14) rfl)
theorem cd_yX9_seesOf : Cond.code yX9_seesOf cX9_seesOf 4 (some .int) ∈ WS := wl_wsL_law_r11 _ (List.mem_of_getElem? (i := 17) rfl)
theorem mlL_37 : Cond.methodLink RL 37 yX8_cover ∈ WS := wl_wsL_law_r11 _ (List.mem_of_getElem? (i := 18) rfl)
theorem cd_yX8_cover : Cond.code yX8_cover cX8_cover 2 (some .int) ∈ WS := wl_wsL_law_r11 _ (List.mem_of_getElem? (i := 21) rfl)
theorem mlX8_107 : Cond.methodLink RX8 107 yX3_watch ∈ WS := wl_wsL_law_r11 _ (List.mem_of_getElem? (i := 22) rfl)
theorem cd_yX3_watch : Cond.code yX3_watch cX3_watch 6 none ∈ WS := wl_wsL_law_r12 _ (List.mem_of_getElem? (i := 1) rfl)
theorem flX3_15 : FL RX3 15 7 4 RX7 TX7 7 tyX7 := ⟨cls7, by decide, wl_wsL_law_r12 _ (List.mem_of_getElem? (i := 2) rfl)⟩
theorem flX3_21 : FL RX3 21 3 1 RX3 TX3 2 tyX3 := ⟨cls3, by decide, wl_wsL_law_r12 _ (List.mem_of_getElem? (i := 3) rfl)⟩
theorem flX3_24 : FL RX3 24 5 2 RX5 TX5 3 tyX5 := ⟨cls5, by decide, wl_wsL_law_r12 _ (List.mem_of_getElem? (i := 4) rfl)⟩
theorem flX3_27 : FL RX3 27 5 0 RX5 TX5 3 tyX5 := ⟨cls5, by decide, wl_wsL_law_r12 _ (List.mem_of_getElem? (i := 5) rfl)⟩
theorem flX3_30 : FL RX3 30 5 1 RX5 TX5 3 tyX5 := ⟨cls5, by decide, wl_wsL_law_r12 _ (List.mem_of_getElem? (i := 6) rfl)⟩
theorem mlX3_33 : Cond.methodLink RX3 33 yX7_isVisible ∈ WS := wl_wsL_law_r12 _ (List.mem_of_getElem? (i := 7) rfl)
theorem mlX8_111 : Cond.methodLink RX8 111 yX3_smallestCover ∈ WS := wl_wsL_law_r12 _ (List.mem_of_getElem? (i := 8) rfl)
theorem cd_yX3_smallestCover : Cond.code yX3_smallestCover cX3_smallestCover 7 (some .int) ∈ WS := wl_wsL_law_r12 _ (List.mem_of_getElem? (i := 11) rfl)
theorem mlX3_37 : Cond.methodLink RX3 37 yJ6_bitCount_0f7a4 ∈ WS := wl_wsL_law_r12 _ (List.mem_of_getElem? (i := 12) rfl)
theorem is_yJ6_bitCount_0f7a4 : Cond.static yJ6_bitCount_0f7a4 ∈ WS := wl_wsL_law_r12 _ (List.mem_of_getElem? (i := 13) rfl)
theorem ini_RJ6 : Cond.initialized RJ6 ∈ WS := wl_wsL_law_r12 _ (List.mem_of_getElem? (i := 14) rfl)
theorem cd_yJ6_bitCount_0f7a4 : Cond.code yJ6_bitCount_0f7a4 cJ6_bitCount_0f7a4 1 (some .int) ∈ WS := wl_wsL_law_r12 _ (List.mem_of_getElem? (i := 15) rfl)
theorem ckJ6_265 : Cond.constant RJ6 265 (1431655765) ∈ WS := wl_wsL_law_r12 _ (List.mem_of_getElem? (i := 16) rfl)
theorem ckJ6_266 : Cond.constant RJ6 266 (858993459) ∈ WS := wl_wsL_law_r12 _ (List.mem_of_getElem? (i := 17) rfl)
theorem ckJ6_267 : Cond.constant RJ6 267 (252645135) ∈ WS := wl_wsL_law_r12 _ (List.mem_of_getElem? (i := 18) rfl)
theorem mlX3_49 : Cond.methodLink RX3 49 yX3_leastTimes ∈ WS := wl_wsL_law_r12 _ (List.mem_of_getElem? (i := 19) rfl)
theorem cd_yX3_leastTimes : Cond.code yX3_leastTimes cX3_leastTimes 4 (some .int) ∈ WS := wl_wsL_law_r12 _ (List.mem_of_getElem? (i := 22) rfl)
theorem mlX3_43 : Cond.methodLink RX3 43 Lib.Math.min.name ∈ WS := wl_wsL_law_r12 _ (List.mem_of_getElem? (i := 23) rfl)
theorem mlL_40 : Cond.methodLink RL 40 yX9_cover ∈ WS := wl_wsL_law_r13 _ (List.mem_of_getElem? (i := 0) rfl)
theorem cd_yX9_cover : Cond.code yX9_cover cX9_cover 4 (some .int) ∈ WS := wl_wsL_law_r13 _ (List.mem_of_getElem? (i := 3) rfl)
theorem ckX9_152 : Cond.constantLong RX9 152 (3) ∈ WS := wl_wsL_law_r13 _ (List.mem_of_getElem? (i := 4) rfl)
theorem mlX9_154 : Cond.methodLink RX9 154 yX9_look ∈ WS := wl_wsL_law_r13 _ (List.mem_of_getElem? (i := 5) rfl)
theorem cd_yX9_look : Cond.code yX9_look cX9_look 2 none ∈ WS := wl_wsL_law_r13 _ (List.mem_of_getElem? (i := 8) rfl)
theorem mlX9_157 : Cond.methodLink RX9 157 yX9_bits ∈ WS := wl_wsL_law_r13 _ (List.mem_of_getElem? (i := 9) rfl)
theorem is_yX9_bits : Cond.static yX9_bits ∈ WS := wl_wsL_law_r13 _ (List.mem_of_getElem? (i := 10) rfl)
theorem cd_yX9_bits : Cond.code yX9_bits cX9_bits 3 (some .int) ∈ WS := wl_wsL_law_r13 _ (List.mem_of_getElem? (i := 11) rfl)
theorem mlX9_160 : Cond.methodLink RX9 160 yX9_timesOf ∈ WS := wl_wsL_law_r13 _ (List.mem_of_getElem? (i := 12) rfl)
theorem cd_yX9_timesOf : Cond.code yX9_timesOf cX9_timesOf 6 (some .int) ∈ WS := wl_wsL_law_r13 _ (List.mem_of_getElem? (i := 15) rfl)
theorem ckX9_151 : Cond.constant RX9 151 (1000000) ∈ WS := wl_wsL_law_r13 _ (List.mem_of_getElem? (i := 16) rfl)
theorem mlL_41 : Cond.methodLink RL 41 yX8_covers ∈ WS := wl_wsL_law_r13 _ (List.mem_of_getElem? (i := 17) rfl)
theorem cd_yX8_covers : Cond.code yX8_covers cX8_covers 3 (some .int) ∈ WS := wl_wsL_law_r13 _ (List.mem_of_getElem? (i := 20) rfl)
theorem mlX8_114 : Cond.methodLink RX8 114 yX8_isViewSet ∈ WS := wl_wsL_law_r13 _ (List.mem_of_getElem? (i := 21) rfl)
theorem cd_yX8_isViewSet : Cond.code yX8_isViewSet cX8_isViewSet 2 (some .boolean) ∈ WS := wl_wsL_law_r14 _ (List.mem_of_getElem? (i := 0) rfl)
theorem mlX8_117 : Cond.methodLink RX8 117 yX3_leastTimes ∈ WS := wl_wsL_law_r14 _ (List.mem_of_getElem? (i := 1) rfl)
theorem mlL_44 : Cond.methodLink RL 44 yX9_covers ∈ WS := wl_wsL_law_r14 _ (List.mem_of_getElem? (i := 2) rfl)
theorem cd_yX9_covers : Cond.code yX9_covers cX9_covers 3 (some .int) ∈ WS := wl_wsL_law_r14 _ (List.mem_of_getElem? (i := 5) rfl)
theorem mlX9_163 : Cond.methodLink RX9 163 yX9_noSet ∈ WS := wl_wsL_law_r14 _ (List.mem_of_getElem? (i := 6) rfl)
theorem cd_yX9_noSet : Cond.code yX9_noSet cX9_noSet 2 (some .boolean) ∈ WS := wl_wsL_law_r14 _ (List.mem_of_getElem? (i := 9) rfl)
theorem mlL_45 : Cond.methodLink RL 45 yX8_times ∈ WS := wl_wsL_law_r14 _ (List.mem_of_getElem? (i := 10) rfl)
theorem cd_yX8_times : Cond.code yX8_times cX8_times 2 (some .int) ∈ WS := wl_wsL_law_r14 _ (List.mem_of_getElem? (i := 13) rfl)
theorem mlL_48 : Cond.methodLink RL 48 yX9_times ∈ WS := wl_wsL_law_r14 _ (List.mem_of_getElem? (i := 14) rfl)
theorem cd_yX9_times : Cond.code yX9_times cX9_times 2 (some .int) ∈ WS := wl_wsL_law_r14 _ (List.mem_of_getElem? (i := 17) rfl)
theorem mlL_49 : Cond.methodLink RL 49 yX8_close ∈ WS := wl_wsL_law_r14 _ (List.mem_of_getElem? (i := 18) rfl)
theorem cd_yX8_close : Cond.code yX8_close cX8_close 5 (some .int) ∈ WS := wl_wsL_law_r14 _ (List.mem_of_getElem? (i := 21) rfl)
theorem flX8_121 : FL RX8 121 0 4 RX0 TX0 7 tyX0 := ⟨cls0, by decide, wl_wsL_law_r14 _ (List.mem_of_getElem? (i := 22) rfl)⟩
theorem mlX8_122 : Cond.methodLink RX8 122 yX0_add ∈ WS := wl_wsL_law_r14 _ (List.mem_of_getElem? (i := 23) rfl)
theorem cd_yX0_add : Cond.code yX0_add cX0_add 5 none ∈ WS := wl_wsL_law_r15 _ (List.mem_of_getElem? (i := 2) rfl)
theorem flX0_24 : FL RX0 24 0 4 RX0 TX0 7 tyX0 := ⟨cls0, by decide, wl_wsL_law_r15 _ (List.mem_of_getElem? (i := 3) rfl)⟩
theorem mlX8_125 : Cond.methodLink RX8 125 yX8_forgetRoutes ∈ WS := wl_wsL_law_r15 _ (List.mem_of_getElem? (i := 4) rfl)
theorem cd_yX8_forgetRoutes : Cond.code yX8_forgetRoutes cX8_forgetRoutes 1 none ∈ WS := wl_wsL_law_r15 _ (List.mem_of_getElem? (i := 7) rfl)
theorem flX8_211 : FL RX8 211 8 7 RX8 TX8 8 tyX8 := ⟨cls8, by decide, wl_wsL_law_r15 _ (List.mem_of_getElem? (i := 8) rfl)⟩
theorem mlX8_221 : Cond.methodLink RX8 221 yX6_forget ∈ WS := wl_wsL_law_r15 _ (List.mem_of_getElem? (i := 9) rfl)
theorem ini_RX6 : Cond.initialized RX6 ∈ WS := wl_wsL_law_r15 _ (List.mem_of_getElem? (i := 12) rfl)
theorem cd_yX6_forget : Cond.code yX6_forget cX6_forget 1 none ∈ WS := wl_wsL_law_r15 _ (List.mem_of_getElem? (i := 13) rfl)
theorem flX6_36 : FL RX6 36 6 7 RX6 TX6 9 tyX6 := ⟨cls6, by decide, wl_wsL_law_r15 _ (List.mem_of_getElem? (i := 14) rfl)⟩
theorem flX6_40 : FL RX6 40 6 8 RX6 TX6 9 tyX6 := ⟨cls6, by decide, wl_wsL_law_r15 _ (List.mem_of_getElem? (i := 15) rfl)⟩
theorem mlL_52 : Cond.methodLink RL 52 yX9_close ∈ WS := wl_wsL_law_r15 _ (List.mem_of_getElem? (i := 16) rfl)
theorem cd_yX9_close : Cond.code yX9_close cX9_close 5 (some .int) ∈ WS := wl_wsL_law_r15 _ (List.mem_of_getElem? (i := 19) rfl)
theorem flX9_166 : FL RX9 166 9 11 RX9 TX9 38 tyX9 := ⟨cls9, by decide, wl_wsL_law_r15 _ (List.mem_of_getElem? (i := 20) rfl)⟩
theorem mlL_53 : Cond.methodLink RL 53 yX8_open ∈ WS := wl_wsL_law_r15 _ (List.mem_of_getElem? (i := 21) rfl)
theorem cd_yX8_open : Cond.code yX8_open cX8_open 1 (some .int) ∈ WS := wl_wsL_law_r16 _ (List.mem_of_getElem? (i := 0) rfl)
theorem mlL_57 : Cond.methodLink RL 57 yX9_open ∈ WS := wl_wsL_law_r16 _ (List.mem_of_getElem? (i := 1) rfl)
theorem cd_yX9_open : Cond.code yX9_open cX9_open 1 (some .int) ∈ WS := wl_wsL_law_r16 _ (List.mem_of_getElem? (i := 4) rfl)
theorem mlL_58 : Cond.methodLink RL 58 yX8_wind ∈ WS := wl_wsL_law_r16 _ (List.mem_of_getElem? (i := 5) rfl)
theorem cd_yX8_wind : Cond.code yX8_wind cX8_wind 4 (some .int) ∈ WS := wl_wsL_law_r16 _ (List.mem_of_getElem? (i := 8) rfl)
theorem flX8_128 : FL RX8 128 0 5 RX0 TX0 7 tyX0 := ⟨cls0, by decide, wl_wsL_law_r16 _ (List.mem_of_getElem? (i := 9) rfl)⟩
theorem flX8_131 : FL RX8 131 0 6 RX0 TX0 7 tyX0 := ⟨cls0, by decide, wl_wsL_law_r16 _ (List.mem_of_getElem? (i := 10) rfl)⟩
theorem mlL_61 : Cond.methodLink RL 61 yX9_wind ∈ WS := wl_wsL_law_r16 _ (List.mem_of_getElem? (i := 11) rfl)
theorem cd_yX9_wind : Cond.code yX9_wind cX9_wind 4 (some .int) ∈ WS := wl_wsL_law_r16 _ (List.mem_of_getElem? (i := 14) rfl)
theorem ckX9_179 : Cond.constantLong RX9 179 (-9) ∈ WS := wl_wsL_law_r16 _ (List.mem_of_getElem? (i := 15) rfl)
theorem ckX9_181 : Cond.constantLong RX9 181 (9) ∈ WS := wl_wsL_law_r16 _ (List.mem_of_getElem? (i := 16) rfl)
theorem flX9_173 : FL RX9 173 9 16 RX9 TX9 38 tyX9 := ⟨cls9, by decide, wl_wsL_law_r16 _ (List.mem_of_getElem? (i := 17) rfl)⟩
theorem flX9_176 : FL RX9 176 9 17 RX9 TX9 38 tyX9 := ⟨cls9, by decide, wl_wsL_law_r16 _ (List.mem_of_getElem? (i := 18) rfl)⟩
theorem mlL_62 : Cond.methodLink RL 62 yX8_base ∈ WS := wl_wsL_law_r16 _ (List.mem_of_getElem? (i := 19) rfl)
theorem cd_yX8_base : Cond.code yX8_base cX8_base 4 (some .int) ∈ WS := wl_wsL_law_r16 _ (List.mem_of_getElem? (i := 22) rfl)
theorem flX8_134 : FL RX8 134 1 0 RX1 TX1 4 tyX1 := ⟨cls1, by decide, wl_wsL_law_r16 _ (List.mem_of_getElem? (i := 23) rfl)⟩
theorem flX8_137 : FL RX8 137 1 1 RX1 TX1 4 tyX1 := ⟨cls1, by decide, wl_wsL_law_r17 _ (List.mem_of_getElem? (i := 0) rfl)⟩
theorem mlL_65 : Cond.methodLink RL 65 yX9_base ∈ WS := wl_wsL_law_r17 _ (List.mem_of_getElem? (i := 1) rfl)
theorem cd_yX9_base : Cond.code yX9_base cX9_base 4 (some .int) ∈ WS := wl_wsL_law_r17 _ (List.mem_of_getElem? (i := 4) rfl)
theorem mlL_66 : Cond.methodLink RL 66 yX8_store ∈ WS := wl_wsL_law_r17 _ (List.mem_of_getElem? (i := 5) rfl)
theorem cd_yX8_store : Cond.code yX8_store cX8_store 4 (some .int) ∈ WS := wl_wsL_law_r17 _ (List.mem_of_getElem? (i := 8) rfl)
theorem flX8_140 : FL RX8 140 1 2 RX1 TX1 4 tyX1 := ⟨cls1, by decide, wl_wsL_law_r17 _ (List.mem_of_getElem? (i := 9) rfl)⟩
theorem flX8_143 : FL RX8 143 1 3 RX1 TX1 4 tyX1 := ⟨cls1, by decide, wl_wsL_law_r17 _ (List.mem_of_getElem? (i := 10) rfl)⟩
theorem mlL_69 : Cond.methodLink RL 69 yX9_store ∈ WS := wl_wsL_law_r17 _ (List.mem_of_getElem? (i := 11) rfl)
theorem cd_yX9_store : Cond.code yX9_store cX9_store 4 (some .int) ∈ WS := wl_wsL_law_r17 _ (List.mem_of_getElem? (i := 14) rfl)
theorem ckX9_183 : Cond.constantLong RX9 183 (30000) ∈ WS := wl_wsL_law_r17 _ (List.mem_of_getElem? (i := 15) rfl)
theorem ckX9_185 : Cond.constantLong RX9 185 (500) ∈ WS := wl_wsL_law_r17 _ (List.mem_of_getElem? (i := 16) rfl)
theorem flX9_187 : FL RX9 187 9 19 RX9 TX9 38 tyX9 := ⟨cls9, by decide, wl_wsL_law_r17 _ (List.mem_of_getElem? (i := 17) rfl)⟩
theorem mlL_70 : Cond.methodLink RL 70 yX8_leg ∈ WS := wl_wsL_law_r17 _ (List.mem_of_getElem? (i := 18) rfl)
theorem cd_yX8_leg : Cond.code yX8_leg cX8_leg 5 (some .int) ∈ WS := wl_wsL_law_r17 _ (List.mem_of_getElem? (i := 21) rfl)
theorem mlX8_146 : Cond.methodLink RX8 146 yX0_isShut ∈ WS := wl_wsL_law_r17 _ (List.mem_of_getElem? (i := 22) rfl)
theorem cd_yX0_isShut : Cond.code yX0_isShut cX0_isShut 6 (some .boolean) ∈ WS := wl_wsL_law_r18 _ (List.mem_of_getElem? (i := 1) rfl)
theorem mlX0_28 : Cond.methodLink RX0 28 yX0_goesInto ∈ WS := wl_wsL_law_r18 _ (List.mem_of_getElem? (i := 2) rfl)
theorem cd_yX0_goesInto : Cond.code yX0_goesInto cX0_goesInto 10 (some .boolean) ∈ WS := wl_wsL_law_r18 _ (List.mem_of_getElem? (i := 5) rfl)
theorem mlX0_32 : Cond.methodLink RX0 32 Lib.Math.max.name ∈ WS := wl_wsL_law_r18 _ (List.mem_of_getElem? (i := 6) rfl)
theorem mlX0_38 : Cond.methodLink RX0 38 Lib.Math.min.name ∈ WS := wl_wsL_law_r18 _ (List.mem_of_getElem? (i := 7) rfl)
theorem mlX8_150 : Cond.methodLink RX8 150 yX0_cost ∈ WS := wl_wsL_law_r18 _ (List.mem_of_getElem? (i := 8) rfl)
theorem cd_yX0_cost : Cond.code yX0_cost cX0_cost 5 (some .int) ∈ WS := wl_wsL_law_r18 _ (List.mem_of_getElem? (i := 11) rfl)
theorem flX0_49 : FL RX0 49 0 5 RX0 TX0 7 tyX0 := ⟨cls0, by decide, wl_wsL_law_r18 _ (List.mem_of_getElem? (i := 12) rfl)⟩
theorem flX0_52 : FL RX0 52 0 6 RX0 TX0 7 tyX0 := ⟨cls0, by decide, wl_wsL_law_r18 _ (List.mem_of_getElem? (i := 13) rfl)⟩
theorem mlX0_45 : Cond.methodLink RX0 45 yX0_rootUp ∈ WS := wl_wsL_law_r18 _ (List.mem_of_getElem? (i := 14) rfl)
theorem is_yX0_rootUp : Cond.static yX0_rootUp ∈ WS := wl_wsL_law_r18 _ (List.mem_of_getElem? (i := 15) rfl)
theorem cd_yX0_rootUp : Cond.code yX0_rootUp cX0_rootUp 4 (some .int) ∈ WS := wl_wsL_law_r18 _ (List.mem_of_getElem? (i := 16) rfl)
theorem mlL_73 : Cond.methodLink RL 73 yX9_leg ∈ WS := wl_wsL_law_r18 _ (List.mem_of_getElem? (i := 17) rfl)
theorem cd_yX9_leg : Cond.code yX9_leg cX9_leg 6 (some .int) ∈ WS := wl_wsL_law_r18 _ (List.mem_of_getElem? (i := 20) rfl)
theorem mlX9_190 : Cond.methodLink RX9 190 yX9_legOf ∈ WS := wl_wsL_law_r18 _ (List.mem_of_getElem? (i := 21) rfl)
theorem cd_yX9_legOf : Cond.code yX9_legOf cX9_legOf 10 (some .int) ∈ WS := wl_wsL_law_r19 _ (List.mem_of_getElem? (i := 0) rfl)
theorem mlX9_169 : Cond.methodLink RX9 169 yX9_isInside ∈ WS := wl_wsL_law_r19 _ (List.mem_of_getElem? (i := 1) rfl)
theorem cd_yX9_isInside : Cond.code yX9_isInside cX9_isInside 25 (some .boolean) ∈ WS := wl_wsL_law_r19 _ (List.mem_of_getElem? (i := 4) rfl)
theorem mlL_74 : Cond.methodLink RL 74 yX8_round ∈ WS := wl_wsL_law_r19 _ (List.mem_of_getElem? (i := 5) rfl)
theorem cd_yX8_round : Cond.code yX8_round cX8_round 2 (some .int) ∈ WS := wl_wsL_law_r19 _ (List.mem_of_getElem? (i := 8) rfl)
theorem mlX8_153 : Cond.methodLink RX8 153 yX8_routesFor ∈ WS := wl_wsL_law_r19 _ (List.mem_of_getElem? (i := 9) rfl)
theorem cd_yX8_routesFor : Cond.code yX8_routesFor cX8_routesFor 2 (some (.object "WingLooks$Routes")) ∈ WS := wl_wsL_law_r19 _ (List.mem_of_getElem? (i := 12) rfl)
theorem wd_classLink_RX8_158_RX6 : Cond.classLink RX8 158 RX6 ∈ WS := wl_wsL_law_r19 _ (List.mem_of_getElem? (i := 13) rfl)
theorem wd_instantiable_RX6_9 : Cond.instantiable RX6 9 ∈ WS := wl_wsL_law_r19 _ (List.mem_of_getElem? (i := 14) rfl)
theorem mlX8_215 : Cond.methodLink RX8 215 yX6_init ∈ WS := wl_wsL_law_r19 _ (List.mem_of_getElem? (i := 15) rfl)
theorem cd_yX6_init : Cond.code yX6_init cX6_init 4 none ∈ WS := wl_wsL_law_r19 _ (List.mem_of_getElem? (i := 17) rfl)
theorem mlX6_5 : Cond.methodLink RX6 5 objectInit ∈ WS := wl_wsL_law_r19 _ (List.mem_of_getElem? (i := 18) rfl)
theorem flX6_11 : FL RX6 11 6 3 RX6 TX6 9 tyX6 := ⟨cls6, by decide, wl_wsL_law_r19 _ (List.mem_of_getElem? (i := 19) rfl)⟩
theorem flX6_15 : FL RX6 15 6 4 RX6 TX6 9 tyX6 := ⟨cls6, by decide, wl_wsL_law_r19 _ (List.mem_of_getElem? (i := 20) rfl)⟩
theorem flX6_18 : FL RX6 18 6 5 RX6 TX6 9 tyX6 := ⟨cls6, by decide, wl_wsL_law_r19 _ (List.mem_of_getElem? (i := 21) rfl)⟩
theorem flX6_21 : FL RX6 21 6 6 RX6 TX6 9 tyX6 := ⟨cls6, by decide, wl_wsL_law_r19 _ (List.mem_of_getElem? (i := 22) rfl)⟩
theorem flX6_24 : FL RX6 24 6 0 RX6 TX6 9 tyX6 := ⟨cls6, by decide, wl_wsL_law_r19 _ (List.mem_of_getElem? (i := 23) rfl)⟩
theorem flX6_28 : FL RX6 28 6 1 RX6 TX6 9 tyX6 := ⟨cls6, by decide, wl_wsL_law_r20 _ (List.mem_of_getElem? (i := 0) rfl)⟩
theorem flX6_32 : FL RX6 32 6 2 RX6 TX6 9 tyX6 := ⟨cls6, by decide, wl_wsL_law_r20 _ (List.mem_of_getElem? (i := 1) rfl)⟩
theorem mlX8_218 : Cond.methodLink RX8 218 yX6_learn ∈ WS := wl_wsL_law_r20 _ (List.mem_of_getElem? (i := 2) rfl)
theorem cd_yX6_learn : Cond.code yX6_learn cX6_learn 3 none ∈ WS := wl_wsL_law_r20 _ (List.mem_of_getElem? (i := 5) rfl)
theorem mlX6_43 : Cond.methodLink RX6 43 yX6_measureLegs ∈ WS := wl_wsL_law_r20 _ (List.mem_of_getElem? (i := 6) rfl)
theorem cd_yX6_measureLegs : Cond.code yX6_measureLegs cX6_measureLegs 7 none ∈ WS := wl_wsL_law_r20 _ (List.mem_of_getElem? (i := 9) rfl)
theorem ckX6_71 : Cond.constant RX6 71 (1000000) ∈ WS := wl_wsL_law_r20 _ (List.mem_of_getElem? (i := 10) rfl)
theorem is_yX8_has : Cond.static yX8_has ∈ WS := wl_wsL_law_r20 _ (List.mem_of_getElem? (i := 11) rfl)
theorem cd_yX8_has : Cond.code yX8_has cX8_has 2 (some .boolean) ∈ WS := wl_wsL_law_r20 _ (List.mem_of_getElem? (i := 12) rfl)
theorem mlX6_58 : Cond.methodLink RX6 58 yX6_xOf ∈ WS := wl_wsL_law_r20 _ (List.mem_of_getElem? (i := 13) rfl)
theorem cd_yX6_xOf : Cond.code yX6_xOf cX6_xOf 2 (some .int) ∈ WS := wl_wsL_law_r20 _ (List.mem_of_getElem? (i := 16) rfl)
theorem flX6_75 : FL RX6 75 1 0 RX1 TX1 4 tyX1 := ⟨cls1, by decide, wl_wsL_law_r20 _ (List.mem_of_getElem? (i := 17) rfl)⟩
theorem flX6_80 : FL RX6 80 5 0 RX5 TX5 3 tyX5 := ⟨cls5, by decide, wl_wsL_law_r20 _ (List.mem_of_getElem? (i := 18) rfl)⟩
theorem mlX6_62 : Cond.methodLink RX6 62 yX6_yOf ∈ WS := wl_wsL_law_r20 _ (List.mem_of_getElem? (i := 19) rfl)
theorem cd_yX6_yOf : Cond.code yX6_yOf cX6_yOf 2 (some .int) ∈ WS := wl_wsL_law_r20 _ (List.mem_of_getElem? (i := 22) rfl)
theorem flX6_85 : FL RX6 85 1 1 RX1 TX1 4 tyX1 := ⟨cls1, by decide, wl_wsL_law_r20 _ (List.mem_of_getElem? (i := 23) rfl)⟩
theorem flX6_88 : FL RX6 88 5 1 RX5 TX5 3 tyX5 := ⟨cls5, by decide, wl_wsL_law_r21 _ (List.mem_of_getElem? (i := 0) rfl)⟩
theorem mlX6_65 : Cond.methodLink RX6 65 yX0_isShut ∈ WS := wl_wsL_law_r21 _ (List.mem_of_getElem? (i := 1) rfl)
theorem mlX6_72 : Cond.methodLink RX6 72 yX0_cost ∈ WS := wl_wsL_law_r21 _ (List.mem_of_getElem? (i := 2) rfl)
theorem mlX6_47 : Cond.methodLink RX6 47 yX6_fillTails ∈ WS := wl_wsL_law_r21 _ (List.mem_of_getElem? (i := 3) rfl)
theorem cd_yX6_fillTails : Cond.code yX6_fillTails cX6_fillTails 3 none ∈ WS := wl_wsL_law_r21 _ (List.mem_of_getElem? (i := 6) rfl)
theorem flX6_91 : FL RX6 91 1 3 RX1 TX1 4 tyX1 := ⟨cls1, by decide, wl_wsL_law_r21 _ (List.mem_of_getElem? (i := 7) rfl)⟩
theorem mlX6_50 : Cond.methodLink RX6 50 yX6_costFrom ∈ WS := wl_wsL_law_r21 _ (List.mem_of_getElem? (i := 8) rfl)
theorem cd_yX6_costFrom : Cond.code yX6_costFrom cX6_costFrom 5 (some .int) ∈ WS := wl_wsL_law_r21 _ (List.mem_of_getElem? (i := 11) rfl)
theorem mlX6_98 : Cond.methodLink RX6 98 Lib.Math.min.name ∈ WS := wl_wsL_law_r21 _ (List.mem_of_getElem? (i := 12) rfl)
theorem mlX6_94 : Cond.methodLink RX6 94 yX6_costBy ∈ WS := wl_wsL_law_r21 _ (List.mem_of_getElem? (i := 13) rfl)
theorem cd_yX6_costBy : Cond.code yX6_costBy cX6_costBy 4 (some .int) ∈ WS := wl_wsL_law_r21 _ (List.mem_of_getElem? (i := 16) rfl)
theorem mlX8_157 : Cond.methodLink RX8 157 yX6_roundCost ∈ WS := wl_wsL_law_r21 _ (List.mem_of_getElem? (i := 17) rfl)
theorem cd_yX6_roundCost : Cond.code yX6_roundCost cX6_roundCost 2 (some .int) ∈ WS := wl_wsL_law_r21 _ (List.mem_of_getElem? (i := 20) rfl)
theorem mlX6_103 : Cond.methodLink RX6 103 yX6_hasRound ∈ WS := wl_wsL_law_r21 _ (List.mem_of_getElem? (i := 21) rfl)
theorem cd_yX6_hasRound : Cond.code yX6_hasRound cX6_hasRound 2 (some .boolean) ∈ WS := wl_wsL_law_r22 _ (List.mem_of_getElem? (i := 0) rfl)
theorem mlL_77 : Cond.methodLink RL 77 yX9_round ∈ WS := wl_wsL_law_r22 _ (List.mem_of_getElem? (i := 1) rfl)
theorem cd_yX9_round : Cond.code yX9_round cX9_round 2 (some .int) ∈ WS := wl_wsL_law_r22 _ (List.mem_of_getElem? (i := 4) rfl)
theorem mlX9_193 : Cond.methodLink RX9 193 yX9_fly ∈ WS := wl_wsL_law_r22 _ (List.mem_of_getElem? (i := 5) rfl)
theorem cd_yX9_fly : Cond.code yX9_fly cX9_fly 6 none ∈ WS := wl_wsL_law_r22 _ (List.mem_of_getElem? (i := 8) rfl)
theorem mlX9_196 : Cond.methodLink RX9 196 yX9_roundOf ∈ WS := wl_wsL_law_r22 _ (List.mem_of_getElem? (i := 9) rfl)
theorem cd_yX9_roundOf : Cond.code yX9_roundOf cX9_roundOf 2 (some .int) ∈ WS := wl_wsL_law_r22 _ (List.mem_of_getElem? (i := 12) rfl)
theorem mlL_78 : Cond.methodLink RL 78 yX8_stop ∈ WS := wl_wsL_law_r22 _ (List.mem_of_getElem? (i := 13) rfl)
theorem cd_yX8_stop : Cond.code yX8_stop cX8_stop 3 (some .int) ∈ WS := wl_wsL_law_r22 _ (List.mem_of_getElem? (i := 16) rfl)
theorem mlX8_162 : Cond.methodLink RX8 162 yX6_viewAt ∈ WS := wl_wsL_law_r22 _ (List.mem_of_getElem? (i := 17) rfl)
theorem cd_yX6_viewAt : Cond.code yX6_viewAt cX6_viewAt 6 (some .int) ∈ WS := wl_wsL_law_r22 _ (List.mem_of_getElem? (i := 20) rfl)
theorem mlX6_107 : Cond.methodLink RX6 107 yJ6_bitCount_0f7a4 ∈ WS := wl_wsL_law_r22 _ (List.mem_of_getElem? (i := 21) rfl)
theorem mlX6_112 : Cond.methodLink RX6 112 yX6_nextView ∈ WS := wl_wsL_law_r22 _ (List.mem_of_getElem? (i := 22) rfl)
theorem cd_yX6_nextView : Cond.code yX6_nextView cX6_nextView 6 (some .int) ∈ WS := wl_wsL_law_r23 _ (List.mem_of_getElem? (i := 1) rfl)
theorem mlL_81 : Cond.methodLink RL 81 yX9_stop ∈ WS := wl_wsL_law_r23 _ (List.mem_of_getElem? (i := 2) rfl)
theorem cd_yX9_stop : Cond.code yX9_stop cX9_stop 9 (some .int) ∈ WS := wl_wsL_law_r23 _ (List.mem_of_getElem? (i := 5) rfl)
theorem mlL_82 : Cond.methodLink RL 82 yX8_flights ∈ WS := wl_wsL_law_r23 _ (List.mem_of_getElem? (i := 6) rfl)
theorem cd_yX8_flights : Cond.code yX8_flights cX8_flights 2 (some .int) ∈ WS := wl_wsL_law_r23 _ (List.mem_of_getElem? (i := 9) rfl)
theorem mlX8_165 : Cond.methodLink RX8 165 yX6_fewestTrips ∈ WS := wl_wsL_law_r23 _ (List.mem_of_getElem? (i := 10) rfl)
theorem cd_yX6_fewestTrips : Cond.code yX6_fewestTrips cX6_fewestTrips 2 (some .int) ∈ WS := wl_wsL_law_r23 _ (List.mem_of_getElem? (i := 13) rfl)
theorem ckX6_118 : Cond.constant RX6 118 (100000000) ∈ WS := wl_wsL_law_r23 _ (List.mem_of_getElem? (i := 14) rfl)
theorem mlX6_115 : Cond.methodLink RX6 115 yX6_splitUp ∈ WS := wl_wsL_law_r23 _ (List.mem_of_getElem? (i := 15) rfl)
theorem cd_yX6_splitUp : Cond.code yX6_splitUp cX6_splitUp 3 none ∈ WS := wl_wsL_law_r23 _ (List.mem_of_getElem? (i := 18) rfl)
theorem mlX6_119 : Cond.methodLink RX6 119 yX6_bestSplit ∈ WS := wl_wsL_law_r23 _ (List.mem_of_getElem? (i := 19) rfl)
theorem cd_yX6_bestSplit : Cond.code yX6_bestSplit cX6_bestSplit 9 (some .int) ∈ WS := wl_wsL_law_r23 _ (List.mem_of_getElem? (i := 22) rfl)
theorem flX6_122 : FL RX6 122 1 2 RX1 TX1 4 tyX1 := ⟨cls1, by decide, wl_wsL_law_r23 _ (List.mem_of_getElem? (i := 23) rfl)⟩
theorem mlL_85 : Cond.methodLink RL 85 yX9_flights ∈ WS := wl_wsL_law_r24 _ (List.mem_of_getElem? (i := 0) rfl)
theorem cd_yX9_flights : Cond.code yX9_flights cX9_flights 2 (some .int) ∈ WS := wl_wsL_law_r24 _ (List.mem_of_getElem? (i := 3) rfl)
theorem mlX9_199 : Cond.methodLink RX9 199 yX9_part ∈ WS := wl_wsL_law_r24 _ (List.mem_of_getElem? (i := 4) rfl)
theorem cd_yX9_part : Cond.code yX9_part cX9_part 7 none ∈ WS := wl_wsL_law_r24 _ (List.mem_of_getElem? (i := 7) rfl)
theorem mlL_86 : Cond.methodLink RL 86 yX8_energy ∈ WS := wl_wsL_law_r24 _ (List.mem_of_getElem? (i := 8) rfl)
theorem cd_yX8_energy : Cond.code yX8_energy cX8_energy 2 (some .int) ∈ WS := wl_wsL_law_r24 _ (List.mem_of_getElem? (i := 11) rfl)
theorem mlX8_168 : Cond.methodLink RX8 168 yX6_cheapestTrips ∈ WS := wl_wsL_law_r24 _ (List.mem_of_getElem? (i := 12) rfl)
theorem cd_yX6_cheapestTrips : Cond.code yX6_cheapestTrips cX6_cheapestTrips 2 (some .int) ∈ WS := wl_wsL_law_r24 _ (List.mem_of_getElem? (i := 15) rfl)
theorem mlL_89 : Cond.methodLink RL 89 yX9_energy ∈ WS := wl_wsL_law_r24 _ (List.mem_of_getElem? (i := 16) rfl)
theorem cd_yX9_energy : Cond.code yX9_energy cX9_energy 2 (some .int) ∈ WS := wl_wsL_law_r24 _ (List.mem_of_getElem? (i := 19) rfl)
theorem mlL_90 : Cond.methodLink RL 90 yX8_log ∈ WS := wl_wsL_law_r24 _ (List.mem_of_getElem? (i := 20) rfl)
theorem cd_yX8_log : Cond.code yX8_log cX8_log 4 (some .int) ∈ WS := wl_wsL_law_r24 _ (List.mem_of_getElem? (i := 23) rfl)
theorem flX8_171 : FL RX8 171 2 0 RX2 TX2 2 tyX2 := ⟨cls2, by decide, wl_wsL_law_r25 _ (List.mem_of_getElem? (i := 0) rfl)⟩
theorem mlX8_174 : Cond.methodLink RX8 174 yX2_add ∈ WS := wl_wsL_law_r25 _ (List.mem_of_getElem? (i := 1) rfl)
theorem cd_yX2_add : Cond.code yX2_add cX2_add 4 (some .int) ∈ WS := wl_wsL_law_r25 _ (List.mem_of_getElem? (i := 4) rfl)
theorem flX2_24 : FL RX2 24 5 2 RX5 TX5 3 tyX5 := ⟨cls5, by decide, wl_wsL_law_r25 _ (List.mem_of_getElem? (i := 5) rfl)⟩
theorem mlX2_28 : Cond.methodLink RX2 28 yX5_add ∈ WS := wl_wsL_law_r25 _ (List.mem_of_getElem? (i := 6) rfl)
theorem mlL_93 : Cond.methodLink RL 93 yX9_log ∈ WS := wl_wsL_law_r25 _ (List.mem_of_getElem? (i := 7) rfl)
theorem cd_yX9_log : Cond.code yX9_log cX9_log 4 (some .int) ∈ WS := wl_wsL_law_r25 _ (List.mem_of_getElem? (i := 10) rfl)
theorem ckX9_202 : Cond.constantLong RX9 202 (5) ∈ WS := wl_wsL_law_r25 _ (List.mem_of_getElem? (i := 11) rfl)
theorem flX9_204 : FL RX9 204 9 20 RX9 TX9 38 tyX9 := ⟨cls9, by decide, wl_wsL_law_r25 _ (List.mem_of_getElem? (i := 12) rfl)⟩
theorem mlL_94 : Cond.methodLink RL 94 yX8_proves ∈ WS := wl_wsL_law_r25 _ (List.mem_of_getElem? (i := 13) rfl)
theorem cd_yX8_proves : Cond.code yX8_proves cX8_proves 3 (some .int) ∈ WS := wl_wsL_law_r25 _ (List.mem_of_getElem? (i := 16) rfl)
theorem mlX8_177 : Cond.methodLink RX8 177 yX2_isProof ∈ WS := wl_wsL_law_r25 _ (List.mem_of_getElem? (i := 17) rfl)
theorem cd_yX2_isProof : Cond.code yX2_isProof cX2_isProof 7 (some .boolean) ∈ WS := wl_wsL_law_r25 _ (List.mem_of_getElem? (i := 20) rfl)
theorem flX2_32 : FL RX2 32 5 0 RX5 TX5 3 tyX5 := ⟨cls5, by decide, wl_wsL_law_r25 _ (List.mem_of_getElem? (i := 21) rfl)⟩
theorem flX2_35 : FL RX2 35 5 1 RX5 TX5 3 tyX5 := ⟨cls5, by decide, wl_wsL_law_r25 _ (List.mem_of_getElem? (i := 22) rfl)⟩
theorem mlX2_38 : Cond.methodLink RX2 38 yX7_isVisible ∈ WS := wl_wsL_law_r25 _ (List.mem_of_getElem? (i := 23) rfl)
theorem mlL_97 : Cond.methodLink RL 97 yX9_proves ∈ WS := wl_wsL_law_r26 _ (List.mem_of_getElem? (i := 0) rfl)
theorem cd_yX9_proves : Cond.code yX9_proves cX9_proves 3 (some .int) ∈ WS := wl_wsL_law_r26 _ (List.mem_of_getElem? (i := 3) rfl)
theorem mlX9_207 : Cond.methodLink RX9 207 yX9_isProved ∈ WS := wl_wsL_law_r26 _ (List.mem_of_getElem? (i := 4) rfl)
theorem cd_yX9_isProved : Cond.code yX9_isProved cX9_isProved 5 (some .boolean) ∈ WS := wl_wsL_law_r26 _ (List.mem_of_getElem? (i := 7) rfl)
theorem mlL_98 : Cond.methodLink RL 98 yX8_proved ∈ WS := wl_wsL_law_r26 _ (List.mem_of_getElem? (i := 8) rfl)
theorem cd_yX8_proved : Cond.code yX8_proved cX8_proved 2 (some .int) ∈ WS := wl_wsL_law_r26 _ (List.mem_of_getElem? (i := 11) rfl)
theorem mlX8_181 : Cond.methodLink RX8 181 yX2_proofs ∈ WS := wl_wsL_law_r26 _ (List.mem_of_getElem? (i := 12) rfl)
theorem cd_yX2_proofs : Cond.code yX2_proofs cX2_proofs 6 (some .int) ∈ WS := wl_wsL_law_r26 _ (List.mem_of_getElem? (i := 15) rfl)
theorem mlX2_44 : Cond.methodLink RX2 44 yX2_isProof ∈ WS := wl_wsL_law_r26 _ (List.mem_of_getElem? (i := 16) rfl)
theorem mlL_101 : Cond.methodLink RL 101 yX9_proved ∈ WS := wl_wsL_law_r26 _ (List.mem_of_getElem? (i := 17) rfl)
theorem cd_yX9_proved : Cond.code yX9_proved cX9_proved 2 (some .int) ∈ WS := wl_wsL_law_r26 _ (List.mem_of_getElem? (i := 20) rfl)
theorem mlX9_210 : Cond.methodLink RX9 210 yX9_provedOf ∈ WS := wl_wsL_law_r26 _ (List.mem_of_getElem? (i := 21) rfl)
theorem cd_yX9_provedOf : Cond.code yX9_provedOf cX9_provedOf 4 (some .int) ∈ WS := wl_wsL_law_r27 _ (List.mem_of_getElem? (i := 0) rfl)
theorem mlL_102 : Cond.methodLink RL 102 yX8_missing ∈ WS := wl_wsL_law_r27 _ (List.mem_of_getElem? (i := 1) rfl)
theorem cd_yX8_missing : Cond.code yX8_missing cX8_missing 5 (some .int) ∈ WS := wl_wsL_law_r27 _ (List.mem_of_getElem? (i := 4) rfl)
theorem mlL_105 : Cond.methodLink RL 105 yX9_missing ∈ WS := wl_wsL_law_r27 _ (List.mem_of_getElem? (i := 5) rfl)
theorem cd_yX9_missing : Cond.code yX9_missing cX9_missing 5 (some .int) ∈ WS := wl_wsL_law_r27 _ (List.mem_of_getElem? (i := 8) rfl)
theorem mlL_106 : Cond.methodLink RL 106 yX8_mark ∈ WS := wl_wsL_law_r27 _ (List.mem_of_getElem? (i := 9) rfl)
theorem cd_yX8_mark : Cond.code yX8_mark cX8_mark 5 (some .int) ∈ WS := wl_wsL_law_r27 _ (List.mem_of_getElem? (i := 12) rfl)
theorem flX8_188 : FL RX8 188 4 5 RX4 TX4 11 tyX4 := ⟨cls4, by decide, wl_wsL_law_r27 _ (List.mem_of_getElem? (i := 13) rfl)⟩
theorem mlX8_185 : Cond.methodLink RX8 185 yX8_isYear ∈ WS := wl_wsL_law_r27 _ (List.mem_of_getElem? (i := 14) rfl)
theorem is_yX8_isYear : Cond.static yX8_isYear ∈ WS := wl_wsL_law_r27 _ (List.mem_of_getElem? (i := 15) rfl)
theorem cd_yX8_isYear : Cond.code yX8_isYear cX8_isYear 1 (some .boolean) ∈ WS := wl_wsL_law_r27 _ (List.mem_of_getElem? (i := 16) rfl)
theorem mlX8_189 : Cond.methodLink RX8 189 yX4_add ∈ WS := wl_wsL_law_r27 _ (List.mem_of_getElem? (i := 17) rfl)
theorem cd_yX4_add : Cond.code yX4_add cX4_add 5 (some .int) ∈ WS := wl_wsL_law_r27 _ (List.mem_of_getElem? (i := 20) rfl)
theorem flX4_37 : FL RX4 37 4 5 RX4 TX4 11 tyX4 := ⟨cls4, by decide, wl_wsL_law_r27 _ (List.mem_of_getElem? (i := 21) rfl)⟩
theorem mlL_109 : Cond.methodLink RL 109 yX9_mark ∈ WS := wl_wsL_law_r27 _ (List.mem_of_getElem? (i := 22) rfl)
theorem cd_yX9_mark : Cond.code yX9_mark cX9_mark 5 (some .int) ∈ WS := wl_wsL_law_r28 _ (List.mem_of_getElem? (i := 1) rfl)
theorem ckX9_213 : Cond.constantLong RX9 213 (1000) ∈ WS := wl_wsL_law_r28 _ (List.mem_of_getElem? (i := 2) rfl)
theorem flX9_215 : FL RX9 215 9 24 RX9 TX9 38 tyX9 := ⟨cls9, by decide, wl_wsL_law_r28 _ (List.mem_of_getElem? (i := 3) rfl)⟩
theorem mlL_110 : Cond.methodLink RL 110 yX8_wipe ∈ WS := wl_wsL_law_r28 _ (List.mem_of_getElem? (i := 4) rfl)
theorem cd_yX8_wipe : Cond.code yX8_wipe cX8_wipe 2 (some .int) ∈ WS := wl_wsL_law_r28 _ (List.mem_of_getElem? (i := 7) rfl)
theorem flX8_190 : FL RX8 190 4 4 RX4 TX4 11 tyX4 := ⟨cls4, by decide, wl_wsL_law_r28 _ (List.mem_of_getElem? (i := 8) rfl)⟩
theorem mlL_113 : Cond.methodLink RL 113 yX9_wipe ∈ WS := wl_wsL_law_r28 _ (List.mem_of_getElem? (i := 9) rfl)
theorem cd_yX9_wipe : Cond.code yX9_wipe cX9_wipe 2 (some .int) ∈ WS := wl_wsL_law_r28 _ (List.mem_of_getElem? (i := 12) rfl)
theorem mlL_114 : Cond.methodLink RL 114 yX8_marks ∈ WS := wl_wsL_law_r28 _ (List.mem_of_getElem? (i := 13) rfl)
theorem cd_yX8_marks : Cond.code yX8_marks cX8_marks 4 (some .int) ∈ WS := wl_wsL_law_r28 _ (List.mem_of_getElem? (i := 16) rfl)
theorem mlX8_194 : Cond.methodLink RX8 194 yX4_sum ∈ WS := wl_wsL_law_r28 _ (List.mem_of_getElem? (i := 17) rfl)
theorem cd_yX4_sum : Cond.code yX4_sum cX4_sum 6 (some .int) ∈ WS := wl_wsL_law_r28 _ (List.mem_of_getElem? (i := 20) rfl)
theorem mlX4_41 : Cond.methodLink RX4 41 yX4_isOf ∈ WS := wl_wsL_law_r28 _ (List.mem_of_getElem? (i := 21) rfl)
theorem cd_yX4_isOf : Cond.code yX4_isOf cX4_isOf 4 (some .boolean) ∈ WS := wl_wsL_law_r29 _ (List.mem_of_getElem? (i := 0) rfl)
theorem mlL_118 : Cond.methodLink RL 118 yX9_marks ∈ WS := wl_wsL_law_r29 _ (List.mem_of_getElem? (i := 1) rfl)
theorem cd_yX9_marks : Cond.code yX9_marks cX9_marks 6 (some .int) ∈ WS := wl_wsL_law_r29 _ (List.mem_of_getElem? (i := 4) rfl)
theorem mlX9_218 : Cond.methodLink RX9 218 yX9_isOn ∈ WS := wl_wsL_law_r29 _ (List.mem_of_getElem? (i := 5) rfl)
theorem cd_yX9_isOn : Cond.code yX9_isOn cX9_isOn 4 (some .boolean) ∈ WS := wl_wsL_law_r29 _ (List.mem_of_getElem? (i := 8) rfl)
theorem mlL_119 : Cond.methodLink RL 119 yX8_match ∈ WS := wl_wsL_law_r29 _ (List.mem_of_getElem? (i := 9) rfl)
theorem cd_yX8_match : Cond.code yX8_match cX8_match 6 (some .int) ∈ WS := wl_wsL_law_r29 _ (List.mem_of_getElem? (i := 12) rfl)
theorem flX8_201 : FL RX8 201 4 10 RX4 TX4 11 tyX4 := ⟨cls4, by decide, wl_wsL_law_r29 _ (List.mem_of_getElem? (i := 13) rfl)⟩
theorem flX8_204 : FL RX8 204 4 9 RX4 TX4 11 tyX4 := ⟨cls4, by decide, wl_wsL_law_r29 _ (List.mem_of_getElem? (i := 14) rfl)⟩
theorem mlX8_198 : Cond.methodLink RX8 198 yX4_pairUp ∈ WS := wl_wsL_law_r29 _ (List.mem_of_getElem? (i := 15) rfl)
theorem cd_yX4_pairUp : Cond.code yX4_pairUp cX4_pairUp 8 none ∈ WS := wl_wsL_law_r29 _ (List.mem_of_getElem? (i := 18) rfl)
theorem ckX4_53 : Cond.constant RX4 53 (100000) ∈ WS := wl_wsL_law_r29 _ (List.mem_of_getElem? (i := 19) rfl)
theorem flX4_54 : FL RX4 54 4 9 RX4 TX4 11 tyX4 := ⟨cls4, by decide, wl_wsL_law_r29 _ (List.mem_of_getElem? (i := 20) rfl)⟩
theorem flX4_57 : FL RX4 57 4 10 RX4 TX4 11 tyX4 := ⟨cls4, by decide, wl_wsL_law_r29 _ (List.mem_of_getElem? (i := 21) rfl)⟩
theorem mlX4_45 : Cond.methodLink RX4 45 yX4_sortPlaces ∈ WS := wl_wsL_law_r29 _ (List.mem_of_getElem? (i := 22) rfl)
theorem cd_yX4_sortPlaces : Cond.code yX4_sortPlaces cX4_sortPlaces 7 (some .int) ∈ WS := wl_wsL_law_r30 _ (List.mem_of_getElem? (i := 1) rfl)
theorem mlX4_49 : Cond.methodLink RX4 49 yX4_addPlace ∈ WS := wl_wsL_law_r30 _ (List.mem_of_getElem? (i := 2) rfl)
theorem cd_yX4_addPlace : Cond.code yX4_addPlace cX4_addPlace 8 none ∈ WS := wl_wsL_law_r30 _ (List.mem_of_getElem? (i := 5) rfl)
theorem mlX4_60 : Cond.methodLink RX4 60 Lib.Math.abs.name ∈ WS := wl_wsL_law_r30 _ (List.mem_of_getElem? (i := 6) rfl)
theorem is_Mabs : Cond.static Lib.Math.abs.name ∈ WS := wl_wsL_law_r30 _ (List.mem_of_getElem? (i := 7) rfl)
theorem cd_Mabs : Cond.code Lib.Math.abs.name Lib.Math.abs.code 1 (some .int) ∈ WS := wl_wsL_law_r30 _ (List.mem_of_getElem? (i := 8) rfl)
theorem mlX4_66 : Cond.methodLink RX4 66 Lib.Math.max.name ∈ WS := wl_wsL_law_r30 _ (List.mem_of_getElem? (i := 9) rfl)
theorem mlL_123 : Cond.methodLink RL 123 yX9_match ∈ WS := wl_wsL_law_r30 _ (List.mem_of_getElem? (i := 10) rfl)
theorem cd_yX9_match : Cond.code yX9_match cX9_match 12 (some .int) ∈ WS := wl_wsL_law_r30 _ (List.mem_of_getElem? (i := 13) rfl)
theorem mlX9_221 : Cond.methodLink RX9 221 yX9_placed ∈ WS := wl_wsL_law_r30 _ (List.mem_of_getElem? (i := 14) rfl)
theorem cd_yX9_placed : Cond.code yX9_placed cX9_placed 7 (some .int) ∈ WS := wl_wsL_law_r30 _ (List.mem_of_getElem? (i := 17) rfl)
theorem mlX9_225 : Cond.methodLink RX9 225 yX9_take ∈ WS := wl_wsL_law_r30 _ (List.mem_of_getElem? (i := 18) rfl)
theorem cd_yX9_take : Cond.code yX9_take cX9_take 7 none ∈ WS := wl_wsL_law_r30 _ (List.mem_of_getElem? (i := 21) rfl)
theorem mlL_124 : Cond.methodLink RL 124 yX8_count ∈ WS := wl_wsL_law_r30 _ (List.mem_of_getElem? (i := 22) rfl)
theorem cd_yX8_count : Cond.code yX8_count cX8_count 2 (some .int) ∈ WS := wl_wsL_law_r31 _ (List.mem_of_getElem? (i := 1) rfl)
theorem mlX8_207 : Cond.methodLink RX8 207 yX4_present ∈ WS := wl_wsL_law_r31 _ (List.mem_of_getElem? (i := 2) rfl)
theorem cd_yX4_present : Cond.code yX4_present cX4_present 3 (some .int) ∈ WS := wl_wsL_law_r31 _ (List.mem_of_getElem? (i := 5) rfl)
theorem mlL_127 : Cond.methodLink RL 127 yX9_count ∈ WS := wl_wsL_law_r31 _ (List.mem_of_getElem? (i := 6) rfl)
theorem cd_yX9_count : Cond.code yX9_count cX9_count 4 (some .int) ∈ WS := wl_wsL_law_r31 _ (List.mem_of_getElem? (i := 9) rfl)
theorem ii_yX8_init : Cond.instanceMethod yX8_init ∈ WS := wl_wsL_law_r1 _ (List.mem_of_getElem? (i := 7) rfl)
theorem ii_objectInit : Cond.instanceMethod objectInit ∈ WS := wl_wsL_law_r1 _ (List.mem_of_getElem? (i := 10) rfl)
theorem ii_yX7_init : Cond.instanceMethod yX7_init ∈ WS := wl_wsL_law_r2 _ (List.mem_of_getElem? (i := 16) rfl)
theorem ii_yX5_init : Cond.instanceMethod yX5_init ∈ WS := wl_wsL_law_r3 _ (List.mem_of_getElem? (i := 3) rfl)
theorem ii_yX3_init : Cond.instanceMethod yX3_init ∈ WS := wl_wsL_law_r3 _ (List.mem_of_getElem? (i := 8) rfl)
theorem ii_yX0_init : Cond.instanceMethod yX0_init ∈ WS := wl_wsL_law_r3 _ (List.mem_of_getElem? (i := 12) rfl)
theorem ii_yX1_init : Cond.instanceMethod yX1_init ∈ WS := wl_wsL_law_r3 _ (List.mem_of_getElem? (i := 19) rfl)
theorem ii_yX2_init : Cond.instanceMethod yX2_init ∈ WS := wl_wsL_law_r3 _ (List.mem_of_getElem? (i := 23) rfl)
theorem ii_yX4_init : Cond.instanceMethod yX4_init ∈ WS := wl_wsL_law_r4 _ (List.mem_of_getElem? (i := 6) rfl)
theorem ii_yX9_init : Cond.instanceMethod yX9_init ∈ WS := wl_wsL_law_r4 _ (List.mem_of_getElem? (i := 19) rfl)
theorem iv_yX8_panel : Cond.instanceMethod yX8_panel ∈ WS ∧ Cond.selects yX8_panel.cls yX8_panel yX8_panel ∈ WS := ⟨wl_wsL_law_r6 _ (List.mem_of_getElem? (i := 4) rfl), wl_wsL_law_r6 _ (List.mem_of_getElem? (i := 5) rfl)⟩
theorem iv_yX7_add : Cond.instanceMethod yX7_add ∈ WS ∧ Cond.selects yX7_add.cls yX7_add yX7_add ∈ WS := ⟨wl_wsL_law_r6 _ (List.mem_of_getElem? (i := 15) rfl), wl_wsL_law_r6 _ (List.mem_of_getElem? (i := 16) rfl)⟩
theorem iv_yX9_panel : Cond.instanceMethod yX9_panel ∈ WS ∧ Cond.selects yX9_panel.cls yX9_panel yX9_panel ∈ WS := ⟨wl_wsL_law_r6 _ (List.mem_of_getElem? (i := 20) rfl), wl_wsL_law_r6 _ (List.mem_of_getElem? (i := 21) rfl)⟩
theorem iv_yX8_eye : Cond.instanceMethod yX8_eye ∈ WS ∧ Cond.selects yX8_eye.cls yX8_eye yX8_eye ∈ WS := ⟨wl_wsL_law_r7 _ (List.mem_of_getElem? (i := 9) rfl), wl_wsL_law_r7 _ (List.mem_of_getElem? (i := 10) rfl)⟩
theorem iv_yX9_eye : Cond.instanceMethod yX9_eye ∈ WS ∧ Cond.selects yX9_eye.cls yX9_eye yX9_eye ∈ WS := ⟨wl_wsL_law_r7 _ (List.mem_of_getElem? (i := 15) rfl), wl_wsL_law_r7 _ (List.mem_of_getElem? (i := 16) rfl)⟩
theorem iv_yX8_view : Cond.instanceMethod yX8_view ∈ WS ∧ Cond.selects yX8_view.cls yX8_view yX8_view ∈ WS := ⟨wl_wsL_law_r7 _ (List.mem_of_getElem? (i := 21) rfl), wl_wsL_law_r7 _ (List.mem_of_getElem? (i := 22) rfl)⟩
theorem iv_yX5_add : Cond.instanceMethod yX5_add ∈ WS ∧ Cond.selects yX5_add.cls yX5_add yX5_add ∈ WS := ⟨wl_wsL_law_r8 _ (List.mem_of_getElem? (i := 2) rfl), wl_wsL_law_r8 _ (List.mem_of_getElem? (i := 3) rfl)⟩
theorem iv_yX9_view : Cond.instanceMethod yX9_view ∈ WS ∧ Cond.selects yX9_view.cls yX9_view yX9_view ∈ WS := ⟨wl_wsL_law_r8 _ (List.mem_of_getElem? (i := 7) rfl), wl_wsL_law_r8 _ (List.mem_of_getElem? (i := 8) rfl)⟩
theorem iv_yX8_seen : Cond.instanceMethod yX8_seen ∈ WS ∧ Cond.selects yX8_seen.cls yX8_seen yX8_seen ∈ WS := ⟨wl_wsL_law_r8 _ (List.mem_of_getElem? (i := 12) rfl), wl_wsL_law_r8 _ (List.mem_of_getElem? (i := 13) rfl)⟩
theorem iv_yX8_isPanel : Cond.instanceMethod yX8_isPanel ∈ WS ∧ Cond.selects yX8_isPanel.cls yX8_isPanel yX8_isPanel ∈ WS := ⟨wl_wsL_law_r8 _ (List.mem_of_getElem? (i := 16) rfl), wl_wsL_law_r8 _ (List.mem_of_getElem? (i := 17) rfl)⟩
theorem iv_yX7_isVisible : Cond.instanceMethod yX7_isVisible ∈ WS ∧ Cond.selects yX7_isVisible.cls yX7_isVisible yX7_isVisible ∈ WS := ⟨wl_wsL_law_r8 _ (List.mem_of_getElem? (i := 20) rfl), wl_wsL_law_r8 _ (List.mem_of_getElem? (i := 21) rfl)⟩
theorem iv_yX7_isTouched : Cond.instanceMethod yX7_isTouched ∈ WS ∧ Cond.selects yX7_isTouched.cls yX7_isTouched yX7_isTouched ∈ WS := ⟨wl_wsL_law_r9 _ (List.mem_of_getElem? (i := 1) rfl), wl_wsL_law_r9 _ (List.mem_of_getElem? (i := 2) rfl)⟩
theorem iv_yX9_seen : Cond.instanceMethod yX9_seen ∈ WS ∧ Cond.selects yX9_seen.cls yX9_seen yX9_seen ∈ WS := ⟨wl_wsL_law_r9 _ (List.mem_of_getElem? (i := 23) rfl), wl_wsL_law_r10 _ (List.mem_of_getElem? (i := 0) rfl)⟩
theorem iv_yX9_noPanel : Cond.instanceMethod yX9_noPanel ∈ WS ∧ Cond.selects yX9_noPanel.cls yX9_noPanel yX9_noPanel ∈ WS := ⟨wl_wsL_law_r10 _ (List.mem_of_getElem? (i := 3) rfl), wl_wsL_law_r10 _ (List.mem_of_getElem? (i := 4) rfl)⟩
theorem iv_yX9_isSeen : Cond.instanceMethod yX9_isSeen ∈ WS ∧ Cond.selects yX9_isSeen.cls yX9_isSeen yX9_isSeen ∈ WS := ⟨wl_wsL_law_r10 _ (List.mem_of_getElem? (i := 7) rfl), wl_wsL_law_r10 _ (List.mem_of_getElem? (i := 8) rfl)⟩
theorem iv_yX8_sees : Cond.instanceMethod yX8_sees ∈ WS ∧ Cond.selects yX8_sees.cls yX8_sees yX8_sees ∈ WS := ⟨wl_wsL_law_r11 _ (List.mem_of_getElem? (i := 0) rfl), wl_wsL_law_r11 _ (List.mem_of_getElem? (i := 1) rfl)⟩
theorem iv_yX7_visibleFrom : Cond.instanceMethod yX7_visibleFrom ∈ WS ∧ Cond.selects yX7_visibleFrom.cls yX7_visibleFrom yX7_visibleFrom ∈ WS := ⟨wl_wsL_law_r11 _ (List.mem_of_getElem? (i := 6) rfl), wl_wsL_law_r11 _ (List.mem_of_getElem? (i := 7) rfl)⟩
theorem iv_yX9_sees : Cond.instanceMethod yX9_sees ∈ WS ∧ Cond.selects yX9_sees.cls yX9_sees yX9_sees ∈ WS := ⟨wl_wsL_law_r11 _ (List.mem_of_getElem? (i := 11) rfl), wl_wsL_law_r11 _ (List.mem_of_getElem? (i := 12) rfl)⟩
theorem iv_yX9_seesOf : Cond.instanceMethod yX9_seesOf ∈ WS ∧ Cond.selects yX9_seesOf.cls yX9_seesOf yX9_seesOf ∈ WS := ⟨wl_wsL_law_r11 _ (List.mem_of_getElem? (i := 15) rfl), wl_wsL_law_r11 _ (List.mem_of_getElem? (i := 16) rfl)⟩
theorem iv_yX8_cover : Cond.instanceMethod yX8_cover ∈ WS ∧ Cond.selects yX8_cover.cls yX8_cover yX8_cover ∈ WS := ⟨wl_wsL_law_r11 _ (List.mem_of_getElem? (i := 19) rfl), wl_wsL_law_r11 _ (List.mem_of_getElem? (i := 20) rfl)⟩
theorem iv_yX3_watch : Cond.instanceMethod yX3_watch ∈ WS ∧ Cond.selects yX3_watch.cls yX3_watch yX3_watch ∈ WS := ⟨wl_wsL_law_r11 _ (List.mem_of_getElem? (i := 23) rfl), wl_wsL_law_r12 _ (List.mem_of_getElem? (i := 0) rfl)⟩
theorem iv_yX3_smallestCover : Cond.instanceMethod yX3_smallestCover ∈ WS ∧ Cond.selects yX3_smallestCover.cls yX3_smallestCover yX3_smallestCover ∈ WS := ⟨wl_wsL_law_r12 _ (List.mem_of_getElem? (i := 9) rfl), wl_wsL_law_r12 _ (List.mem_of_getElem? (i := 10) rfl)⟩
theorem iv_yX3_leastTimes : Cond.instanceMethod yX3_leastTimes ∈ WS ∧ Cond.selects yX3_leastTimes.cls yX3_leastTimes yX3_leastTimes ∈ WS := ⟨wl_wsL_law_r12 _ (List.mem_of_getElem? (i := 20) rfl), wl_wsL_law_r12 _ (List.mem_of_getElem? (i := 21) rfl)⟩
theorem iv_yX9_cover : Cond.instanceMethod yX9_cover ∈ WS ∧ Cond.selects yX9_cover.cls yX9_cover yX9_cover ∈ WS := ⟨wl_wsL_law_r13 _ (List.mem_of_getElem? (i := 1) rfl), wl_wsL_law_r13 _ (List.mem_of_getElem? (i := 2) rfl)⟩
theorem iv_yX9_look : Cond.instanceMethod yX9_look ∈ WS ∧ Cond.selects yX9_look.cls yX9_look yX9_look ∈ WS := ⟨wl_wsL_law_r13 _ (List.mem_of_getElem? (i := 6) rfl), wl_wsL_law_r13 _ (List.mem_of_getElem? (i := 7) rfl)⟩
theorem iv_yX9_timesOf : Cond.instanceMethod yX9_timesOf ∈ WS ∧ Cond.selects yX9_timesOf.cls yX9_timesOf yX9_timesOf ∈ WS := ⟨wl_wsL_law_r13 _ (List.mem_of_getElem? (i := 13) rfl), wl_wsL_law_r13 _ (List.mem_of_getElem? (i := 14) rfl)⟩
theorem iv_yX8_covers : Cond.instanceMethod yX8_covers ∈ WS ∧ Cond.selects yX8_covers.cls yX8_covers yX8_covers ∈ WS := ⟨wl_wsL_law_r13 _ (List.mem_of_getElem? (i := 18) rfl), wl_wsL_law_r13 _ (List.mem_of_getElem? (i := 19) rfl)⟩
theorem iv_yX8_isViewSet : Cond.instanceMethod yX8_isViewSet ∈ WS ∧ Cond.selects yX8_isViewSet.cls yX8_isViewSet yX8_isViewSet ∈ WS := ⟨wl_wsL_law_r13 _ (List.mem_of_getElem? (i := 22) rfl), wl_wsL_law_r13 _ (List.mem_of_getElem? (i := 23) rfl)⟩
theorem iv_yX9_covers : Cond.instanceMethod yX9_covers ∈ WS ∧ Cond.selects yX9_covers.cls yX9_covers yX9_covers ∈ WS := ⟨wl_wsL_law_r14 _ (List.mem_of_getElem? (i := 3) rfl), wl_wsL_law_r14 _ (List.mem_of_getElem? (i := 4) rfl)⟩
theorem iv_yX9_noSet : Cond.instanceMethod yX9_noSet ∈ WS ∧ Cond.selects yX9_noSet.cls yX9_noSet yX9_noSet ∈ WS := ⟨wl_wsL_law_r14 _ (List.mem_of_getElem? (i := 7) rfl), wl_wsL_law_r14 _ (List.mem_of_getElem? (i := 8) rfl)⟩
theorem iv_yX8_times : Cond.instanceMethod yX8_times ∈ WS ∧ Cond.selects yX8_times.cls yX8_times yX8_times ∈ WS := ⟨wl_wsL_law_r14 _ (List.mem_of_getElem? (i := 11) rfl), wl_wsL_law_r14 _ (List.mem_of_getElem? (i := 12) rfl)⟩
theorem iv_yX9_times : Cond.instanceMethod yX9_times ∈ WS ∧ Cond.selects yX9_times.cls yX9_times yX9_times ∈ WS := ⟨wl_wsL_law_r14 _ (List.mem_of_getElem? (i := 15) rfl), wl_wsL_law_r14 _ (List.mem_of_getElem? (i := 16) rfl)⟩
theorem iv_yX8_close : Cond.instanceMethod yX8_close ∈ WS ∧ Cond.selects yX8_close.cls yX8_close yX8_close ∈ WS := ⟨wl_wsL_law_r14 _ (List.mem_of_getElem? (i := 19) rfl), wl_wsL_law_r14 _ (List.mem_of_getElem? (i := 20) rfl)⟩
theorem iv_yX0_add : Cond.instanceMethod yX0_add ∈ WS ∧ Cond.selects yX0_add.cls yX0_add yX0_add ∈ WS := ⟨wl_wsL_law_r15 _ (List.mem_of_getElem? (i := 0) rfl), wl_wsL_law_r15 _ (List.mem_of_getElem? (i := 1) rfl)⟩
theorem iv_yX8_forgetRoutes : Cond.instanceMethod yX8_forgetRoutes ∈ WS ∧ Cond.selects yX8_forgetRoutes.cls yX8_forgetRoutes yX8_forgetRoutes ∈ WS := ⟨wl_wsL_law_r15 _ (List.mem_of_getElem? (i := 5) rfl), wl_wsL_law_r15 _ (List.mem_of_getElem? (i := 6) rfl)⟩
theorem iv_yX6_forget : Cond.instanceMethod yX6_forget ∈ WS ∧ Cond.selects yX6_forget.cls yX6_forget yX6_forget ∈ WS := ⟨wl_wsL_law_r15 _ (List.mem_of_getElem? (i := 10) rfl), wl_wsL_law_r15 _ (List.mem_of_getElem? (i := 11) rfl)⟩
theorem iv_yX9_close : Cond.instanceMethod yX9_close ∈ WS ∧ Cond.selects yX9_close.cls yX9_close yX9_close ∈ WS := ⟨wl_wsL_law_r15 _ (List.mem_of_getElem? (i := 17) rfl), wl_wsL_law_r15 _ (List.mem_of_getElem? (i := 18) rfl)⟩
theorem iv_yX8_open : Cond.instanceMethod yX8_open ∈ WS ∧ Cond.selects yX8_open.cls yX8_open yX8_open ∈ WS := ⟨wl_wsL_law_r15 _ (List.mem_of_getElem? (i := 22) rfl), wl_wsL_law_r15 _ (List.mem_of_getElem? (i := 23) rfl)⟩
theorem iv_yX9_open : Cond.instanceMethod yX9_open ∈ WS ∧ Cond.selects yX9_open.cls yX9_open yX9_open ∈ WS := ⟨wl_wsL_law_r16 _ (List.mem_of_getElem? (i := 2) rfl), wl_wsL_law_r16 _ (List.mem_of_getElem? (i := 3) rfl)⟩
theorem iv_yX8_wind : Cond.instanceMethod yX8_wind ∈ WS ∧ Cond.selects yX8_wind.cls yX8_wind yX8_wind ∈ WS := ⟨wl_wsL_law_r16 _ (List.mem_of_getElem? (i := 6) rfl), wl_wsL_law_r16 _ (List.mem_of_getElem? (i := 7) rfl)⟩
theorem iv_yX9_wind : Cond.instanceMethod yX9_wind ∈ WS ∧ Cond.selects yX9_wind.cls yX9_wind yX9_wind ∈ WS := ⟨wl_wsL_law_r16 _ (List.mem_of_getElem? (i := 12) rfl), wl_wsL_law_r16 _ (List.mem_of_getElem? (i := 13) rfl)⟩
theorem iv_yX8_base : Cond.instanceMethod yX8_base ∈ WS ∧ Cond.selects yX8_base.cls yX8_base yX8_base ∈ WS := ⟨wl_wsL_law_r16 _ (List.mem_of_getElem? (i := 20) rfl), wl_wsL_law_r16 _ (List.mem_of_getElem? (i := 21) rfl)⟩
theorem iv_yX9_base : Cond.instanceMethod yX9_base ∈ WS ∧ Cond.selects yX9_base.cls yX9_base yX9_base ∈ WS := ⟨wl_wsL_law_r17 _ (List.mem_of_getElem? (i := 2) rfl), wl_wsL_law_r17 _ (List.mem_of_getElem? (i := 3) rfl)⟩
theorem iv_yX8_store : Cond.instanceMethod yX8_store ∈ WS ∧ Cond.selects yX8_store.cls yX8_store yX8_store ∈ WS := ⟨wl_wsL_law_r17 _ (List.mem_of_getElem? (i := 6) rfl), wl_wsL_law_r17 _ (List.mem_of_getElem? (i := 7) rfl)⟩
theorem iv_yX9_store : Cond.instanceMethod yX9_store ∈ WS ∧ Cond.selects yX9_store.cls yX9_store yX9_store ∈ WS := ⟨wl_wsL_law_r17 _ (List.mem_of_getElem? (i := 12) rfl), wl_wsL_law_r17 _ (List.mem_of_getElem? (i := 13) rfl)⟩
theorem iv_yX8_leg : Cond.instanceMethod yX8_leg ∈ WS ∧ Cond.selects yX8_leg.cls yX8_leg yX8_leg ∈ WS := ⟨wl_wsL_law_r17 _ (List.mem_of_getElem? (i := 19) rfl), wl_wsL_law_r17 _ (List.mem_of_getElem? (i := 20) rfl)⟩
theorem iv_yX0_isShut : Cond.instanceMethod yX0_isShut ∈ WS ∧ Cond.selects yX0_isShut.cls yX0_isShut yX0_isShut ∈ WS := ⟨wl_wsL_law_r17 _ (List.mem_of_getElem? (i := 23) rfl), wl_wsL_law_r18 _ (List.mem_of_getElem? (i := 0) rfl)⟩
theorem iv_yX0_goesInto : Cond.instanceMethod yX0_goesInto ∈ WS ∧ Cond.selects yX0_goesInto.cls yX0_goesInto yX0_goesInto ∈ WS := ⟨wl_wsL_law_r18 _ (List.mem_of_getElem? (i := 3) rfl), wl_wsL_law_r18 _ (List.mem_of_getElem? (i := 4) rfl)⟩
theorem iv_yX0_cost : Cond.instanceMethod yX0_cost ∈ WS ∧ Cond.selects yX0_cost.cls yX0_cost yX0_cost ∈ WS := ⟨wl_wsL_law_r18 _ (List.mem_of_getElem? (i := 9) rfl), wl_wsL_law_r18 _ (List.mem_of_getElem? (i := 10) rfl)⟩
theorem iv_yX9_leg : Cond.instanceMethod yX9_leg ∈ WS ∧ Cond.selects yX9_leg.cls yX9_leg yX9_leg ∈ WS := ⟨wl_wsL_law_r18 _ (List.mem_of_getElem? (i := 18) rfl), wl_wsL_law_r18 _ (List.mem_of_getElem? (i := 19) rfl)⟩
theorem iv_yX9_legOf : Cond.instanceMethod yX9_legOf ∈ WS ∧ Cond.selects yX9_legOf.cls yX9_legOf yX9_legOf ∈ WS := ⟨wl_wsL_law_r18 _ (List.mem_of_getElem? (i := 22) rfl), wl_wsL_law_r18 _ (List.mem_of_getElem? (i := 23) rfl)⟩
theorem iv_yX9_isInside : Cond.instanceMethod yX9_isInside ∈ WS ∧ Cond.selects yX9_isInside.cls yX9_isInside yX9_isInside ∈ WS := ⟨wl_wsL_law_r19 _ (List.mem_of_getElem? (i := 2) rfl), wl_wsL_law_r19 _ (List.mem_of_getElem? (i := 3) rfl)⟩
theorem iv_yX8_round : Cond.instanceMethod yX8_round ∈ WS ∧ Cond.selects yX8_round.cls yX8_round yX8_round ∈ WS := ⟨wl_wsL_law_r19 _ (List.mem_of_getElem? (i := 6) rfl), wl_wsL_law_r19 _ (List.mem_of_getElem? (i := 7) rfl)⟩
theorem iv_yX8_routesFor : Cond.instanceMethod yX8_routesFor ∈ WS ∧ Cond.selects yX8_routesFor.cls yX8_routesFor yX8_routesFor ∈ WS := ⟨wl_wsL_law_r19 _ (List.mem_of_getElem? (i := 10) rfl), wl_wsL_law_r19 _ (List.mem_of_getElem? (i := 11) rfl)⟩
theorem ii_yX6_init : Cond.instanceMethod yX6_init ∈ WS := wl_wsL_law_r19 _ (List.mem_of_getElem? (i := 16) rfl)
theorem iv_yX6_learn : Cond.instanceMethod yX6_learn ∈ WS ∧ Cond.selects yX6_learn.cls yX6_learn yX6_learn ∈ WS := ⟨wl_wsL_law_r20 _ (List.mem_of_getElem? (i := 3) rfl), wl_wsL_law_r20 _ (List.mem_of_getElem? (i := 4) rfl)⟩
theorem iv_yX6_measureLegs : Cond.instanceMethod yX6_measureLegs ∈ WS ∧ Cond.selects yX6_measureLegs.cls yX6_measureLegs yX6_measureLegs ∈ WS := ⟨wl_wsL_law_r20 _ (List.mem_of_getElem? (i := 7) rfl), wl_wsL_law_r20 _ (List.mem_of_getElem? (i := 8) rfl)⟩
theorem iv_yX6_xOf : Cond.instanceMethod yX6_xOf ∈ WS ∧ Cond.selects yX6_xOf.cls yX6_xOf yX6_xOf ∈ WS := ⟨wl_wsL_law_r20 _ (List.mem_of_getElem? (i := 14) rfl), wl_wsL_law_r20 _ (List.mem_of_getElem? (i := 15) rfl)⟩
theorem iv_yX6_yOf : Cond.instanceMethod yX6_yOf ∈ WS ∧ Cond.selects yX6_yOf.cls yX6_yOf yX6_yOf ∈ WS := ⟨wl_wsL_law_r20 _ (List.mem_of_getElem? (i := 20) rfl), wl_wsL_law_r20 _ (List.mem_of_getElem? (i := 21) rfl)⟩
theorem iv_yX6_fillTails : Cond.instanceMethod yX6_fillTails ∈ WS ∧ Cond.selects yX6_fillTails.cls yX6_fillTails yX6_fillTails ∈ WS := ⟨wl_wsL_law_r21 _ (List.mem_of_getElem? (i := 4) rfl), wl_wsL_law_r21 _ (List.mem_of_getElem? (i := 5) rfl)⟩
theorem iv_yX6_costFrom : Cond.instanceMethod yX6_costFrom ∈ WS ∧ Cond.selects yX6_costFrom.cls yX6_costFrom yX6_costFrom ∈ WS := ⟨wl_wsL_law_r21 _ (List.mem_of_getElem? (i := 9) rfl), wl_wsL_law_r21 _ (List.mem_of_getElem? (i := 10) rfl)⟩
theorem iv_yX6_costBy : Cond.instanceMethod yX6_costBy ∈ WS ∧ Cond.selects yX6_costBy.cls yX6_costBy yX6_costBy ∈ WS := ⟨wl_wsL_law_r21 _ (List.mem_of_getElem? (i := 14) rfl), wl_wsL_law_r21 _ (List.mem_of_getElem? (i := 15) rfl)⟩
theorem iv_yX6_roundCost : Cond.instanceMethod yX6_roundCost ∈ WS ∧ Cond.selects yX6_roundCost.cls yX6_roundCost yX6_roundCost ∈ WS := ⟨wl_wsL_law_r21 _ (List.mem_of_getElem? (i := 18) rfl), wl_wsL_law_r21 _ (List.mem_of_getElem? (i := 19) rfl)⟩
theorem iv_yX6_hasRound : Cond.instanceMethod yX6_hasRound ∈ WS ∧ Cond.selects yX6_hasRound.cls yX6_hasRound yX6_hasRound ∈ WS := ⟨wl_wsL_law_r21 _ (List.mem_of_getElem? (i := 22) rfl), wl_wsL_law_r21 _ (List.mem_of_getElem? (i := 23) rfl)⟩
theorem iv_yX9_round : Cond.instanceMethod yX9_round ∈ WS ∧ Cond.selects yX9_round.cls yX9_round yX9_round ∈ WS := ⟨wl_wsL_law_r22 _ (List.mem_of_getElem? (i := 2) rfl), wl_wsL_law_r22 _ (List.mem_of_getElem? (i := 3) rfl)⟩
theorem iv_yX9_fly : Cond.instanceMethod yX9_fly ∈ WS ∧ Cond.selects yX9_fly.cls yX9_fly yX9_fly ∈ WS := ⟨wl_wsL_law_r22 _ (List.mem_of_getElem? (i := 6) rfl), wl_wsL_law_r22 _ (List.mem_of_getElem? (i := 7) rfl)⟩
theorem iv_yX9_roundOf : Cond.instanceMethod yX9_roundOf ∈ WS ∧ Cond.selects yX9_roundOf.cls yX9_roundOf yX9_roundOf ∈ WS := ⟨wl_wsL_law_r22 _ (List.mem_of_getElem? (i := 10) rfl), wl_wsL_law_r22 _ (List.mem_of_getElem? (i := 11) rfl)⟩
theorem iv_yX8_stop : Cond.instanceMethod yX8_stop ∈ WS ∧ Cond.selects yX8_stop.cls yX8_stop yX8_stop ∈ WS := ⟨wl_wsL_law_r22 _ (List.mem_of_getElem? (i := 14) rfl), wl_wsL_law_r22 _ (List.mem_of_getElem? (i := 15) rfl)⟩
theorem iv_yX6_viewAt : Cond.instanceMethod yX6_viewAt ∈ WS ∧ Cond.selects yX6_viewAt.cls yX6_viewAt yX6_viewAt ∈ WS := ⟨wl_wsL_law_r22 _ (List.mem_of_getElem? (i := 18) rfl), wl_wsL_law_r22 _ (List.mem_of_getElem? (i := 19) rfl)⟩
theorem iv_yX6_nextView : Cond.instanceMethod yX6_nextView ∈ WS ∧ Cond.selects yX6_nextView.cls yX6_nextView yX6_nextView ∈ WS := ⟨wl_wsL_law_r22 _ (List.mem_of_getElem? (i := 23) rfl), wl_wsL_law_r23 _ (List.mem_of_getElem? (i := 0) rfl)⟩
theorem iv_yX9_stop : Cond.instanceMethod yX9_stop ∈ WS ∧ Cond.selects yX9_stop.cls yX9_stop yX9_stop ∈ WS := ⟨wl_wsL_law_r23 _ (List.mem_of_getElem? (i := 3) rfl), wl_wsL_law_r23 _ (List.mem_of_getElem? (i := 4) rfl)⟩
theorem iv_yX8_flights : Cond.instanceMethod yX8_flights ∈ WS ∧ Cond.selects yX8_flights.cls yX8_flights yX8_flights ∈ WS := ⟨wl_wsL_law_r23 _ (List.mem_of_getElem? (i := 7) rfl), wl_wsL_law_r23 _ (List.mem_of_getElem? (i := 8) rfl)⟩
theorem iv_yX6_fewestTrips : Cond.instanceMethod yX6_fewestTrips ∈ WS ∧ Cond.selects yX6_fewestTrips.cls yX6_fewestTrips yX6_fewestTrips ∈ WS := ⟨wl_wsL_law_r23 _ (List.mem_of_getElem? (i := 11) rfl), wl_wsL_law_r23 _ (List.mem_of_getElem? (i := 12) rfl)⟩
theorem iv_yX6_splitUp : Cond.instanceMethod yX6_splitUp ∈ WS ∧ Cond.selects yX6_splitUp.cls yX6_splitUp yX6_splitUp ∈ WS := ⟨wl_wsL_law_r23 _ (List.mem_of_getElem? (i := 16) rfl), wl_wsL_law_r23 _ (List.mem_of_getElem? (i := 17) rfl)⟩
theorem iv_yX6_bestSplit : Cond.instanceMethod yX6_bestSplit ∈ WS ∧ Cond.selects yX6_bestSplit.cls yX6_bestSplit yX6_bestSplit ∈ WS := ⟨wl_wsL_law_r23 _ (List.mem_of_getElem? (i := 20) rfl), wl_wsL_law_r23 _ (List.mem_of_getElem? (i := 21) rfl)⟩
theorem iv_yX9_flights : Cond.instanceMethod yX9_flights ∈ WS ∧ Cond.selects yX9_flights.cls yX9_flights yX9_flights ∈ WS := ⟨wl_wsL_law_r24 _ (List.mem_of_getElem? (i := 1) rfl), wl_wsL_law_r24 _ (List.mem_of_getElem? (i := 2) rfl)⟩
theorem iv_yX9_part : Cond.instanceMethod yX9_part ∈ WS ∧ Cond.selects yX9_part.cls yX9_part yX9_part ∈ WS := ⟨wl_wsL_law_r24 _ (List.mem_of_getElem? (i := 5) rfl), wl_wsL_law_r24 _ (List.mem_of_getElem? (i := 6) rfl)⟩
theorem iv_yX8_energy : Cond.instanceMethod yX8_energy ∈ WS ∧ Cond.selects yX8_energy.cls yX8_energy yX8_energy ∈ WS := ⟨wl_wsL_law_r24 _ (List.mem_of_getElem? (i := 9) rfl), wl_wsL_law_r24 _ (List.mem_of_getElem? (i := 10) rfl)⟩
theorem iv_yX6_cheapestTrips : Cond.instanceMethod yX6_cheapestTrips ∈ WS ∧ Cond.selects yX6_cheapestTrips.cls yX6_cheapestTrips yX6_cheapestTrips ∈ WS := ⟨wl_wsL_law_r24 _ (List.mem_of_getElem? (i := 13) rfl), wl_wsL_law_r24 _ (List.mem_of_getElem? (i := 14) rfl)⟩
theorem iv_yX9_energy : Cond.instanceMethod yX9_energy ∈ WS ∧ Cond.selects yX9_energy.cls yX9_energy yX9_energy ∈ WS := ⟨wl_wsL_law_r24 _ (List.mem_of_getElem? (i := 17) rfl), wl_wsL_law_r24 _ (List.mem_of_getElem? (i := 18) rfl)⟩
theorem iv_yX8_log : Cond.instanceMethod yX8_log ∈ WS ∧ Cond.selects yX8_log.cls yX8_log yX8_log ∈ WS := ⟨wl_wsL_law_r24 _ (List.mem_of_getElem? (i := 21) rfl), wl_wsL_law_r24 _ (List.mem_of_getElem? (i := 22) rfl)⟩
theorem iv_yX2_add : Cond.instanceMethod yX2_add ∈ WS ∧ Cond.selects yX2_add.cls yX2_add yX2_add ∈ WS := ⟨wl_wsL_law_r25 _ (List.mem_of_getElem? (i := 2) rfl), wl_wsL_law_r25 _ (List.mem_of_getElem? (i := 3) rfl)⟩
theorem iv_yX9_log : Cond.instanceMethod yX9_log ∈ WS ∧ Cond.selects yX9_log.cls yX9_log yX9_log ∈ WS := ⟨wl_wsL_law_r25 _ (List.mem_of_getElem? (i := 8) rfl), wl_wsL_law_r25 _ (List.mem_of_getElem? (i := 9) rfl)⟩
theorem iv_yX8_proves : Cond.instanceMethod yX8_proves ∈ WS ∧ Cond.selects yX8_proves.cls yX8_proves yX8_proves ∈ WS := ⟨wl_wsL_law_r25 _ (List.mem_of_getElem? (i := 14) rfl), wl_wsL_law_r25 _ (List.mem_of_getElem? (i := 15) rfl)⟩
theorem iv_yX2_isProof : Cond.instanceMethod yX2_isProof ∈ WS ∧ Cond.selects yX2_isProof.cls yX2_isProof yX2_isProof ∈ WS := ⟨wl_wsL_law_r25 _ (List.mem_of_getElem? (i := 18) rfl), wl_wsL_law_r25 _ (List.mem_of_getElem? (i := 19) rfl)⟩
theorem iv_yX9_proves : Cond.instanceMethod yX9_proves ∈ WS ∧ Cond.selects yX9_proves.cls yX9_proves yX9_proves ∈ WS := ⟨wl_wsL_law_r26 _ (List.mem_of_getElem? (i := 1) rfl), wl_wsL_law_r26 _ (List.mem_of_getElem? (i := 2) rfl)⟩
theorem iv_yX9_isProved : Cond.instanceMethod yX9_isProved ∈ WS ∧ Cond.selects yX9_isProved.cls yX9_isProved yX9_isProved ∈ WS := ⟨wl_wsL_law_r26 _ (List.mem_of_getElem? (i := 5) rfl), wl_wsL_law_r26 _ (List.mem_of_getElem? (i := 6) rfl)⟩
theorem iv_yX8_proved : Cond.instanceMethod yX8_proved ∈ WS ∧ Cond.selects yX8_proved.cls yX8_proved yX8_proved ∈ WS := ⟨wl_wsL_law_r26 _ (List.mem_of_getElem? (i := 9) rfl), wl_wsL_law_r26 _ (List.mem_of_getElem? (i := 10) rfl)⟩
theorem iv_yX2_proofs : Cond.instanceMethod yX2_proofs ∈ WS ∧ Cond.selects yX2_proofs.cls yX2_proofs yX2_proofs ∈ WS := ⟨wl_wsL_law_r26 _ (List.mem_of_getElem? (i := 13) rfl), wl_wsL_law_r26 _ (List.mem_of_getElem? (i := 14) rfl)⟩
theorem iv_yX9_proved : Cond.instanceMethod yX9_proved ∈ WS ∧ Cond.selects yX9_proved.cls yX9_proved yX9_proved ∈ WS := ⟨wl_wsL_law_r26 _ (List.mem_of_getElem? (i := 18) rfl), wl_wsL_law_r26 _ (List.mem_of_getElem? (i := 19) rfl)⟩
theorem iv_yX9_provedOf : Cond.instanceMethod yX9_provedOf ∈ WS ∧ Cond.selects yX9_provedOf.cls yX9_provedOf yX9_provedOf ∈ WS := ⟨wl_wsL_law_r26 _ (List.mem_of_getElem? (i := 22) rfl), wl_wsL_law_r26 _ (List.mem_of_getElem? (i := 23) rfl)⟩
theorem iv_yX8_missing : Cond.instanceMethod yX8_missing ∈ WS ∧ Cond.selects yX8_missing.cls yX8_missing yX8_missing ∈ WS := ⟨wl_wsL_law_r27 _ (List.mem_of_getElem? (i := 2) rfl), wl_wsL_law_r27 _ (List.mem_of_getElem? (i := 3) rfl)⟩
theorem iv_yX9_missing : Cond.instanceMethod yX9_missing ∈ WS ∧ Cond.selects yX9_missing.cls yX9_missing yX9_missing ∈ WS := ⟨wl_wsL_law_r27 _ (List.mem_of_getElem? (i := 6) rfl), wl_wsL_law_r27 _ (List.mem_of_getElem? (i := 7) rfl)⟩
theorem iv_yX8_mark : Cond.instanceMethod yX8_mark ∈ WS ∧ Cond.selects yX8_mark.cls yX8_mark yX8_mark ∈ WS := ⟨wl_wsL_law_r27 _ (List.mem_of_getElem? (i := 10) rfl), wl_wsL_law_r27 _ (List.mem_of_getElem? (i := 11) rfl)⟩
theorem iv_yX4_add : Cond.instanceMethod yX4_add ∈ WS ∧ Cond.selects yX4_add.cls yX4_add yX4_add ∈ WS := ⟨wl_wsL_law_r27 _ (List.mem_of_getElem? (i := 18) rfl), wl_wsL_law_r27 _ (List.mem_of_getElem? (i := 19) rfl)⟩
theorem iv_yX9_mark : Cond.instanceMethod yX9_mark ∈ WS ∧ Cond.selects yX9_mark.cls yX9_mark yX9_mark ∈ WS := ⟨wl_wsL_law_r27 _ (List.mem_of_getElem? (i := 23) rfl), wl_wsL_law_r28 _ (List.mem_of_getElem? (i := 0) rfl)⟩
theorem iv_yX8_wipe : Cond.instanceMethod yX8_wipe ∈ WS ∧ Cond.selects yX8_wipe.cls yX8_wipe yX8_wipe ∈ WS := ⟨wl_wsL_law_r28 _ (List.mem_of_getElem? (i := 5) rfl), wl_wsL_law_r28 _ (List.mem_of_getElem? (i := 6) rfl)⟩
theorem iv_yX9_wipe : Cond.instanceMethod yX9_wipe ∈ WS ∧ Cond.selects yX9_wipe.cls yX9_wipe yX9_wipe ∈ WS := ⟨wl_wsL_law_r28 _ (List.mem_of_getElem? (i := 10) rfl), wl_wsL_law_r28 _ (List.mem_of_getElem? (i := 11) rfl)⟩
theorem iv_yX8_marks : Cond.instanceMethod yX8_marks ∈ WS ∧ Cond.selects yX8_marks.cls yX8_marks yX8_marks ∈ WS := ⟨wl_wsL_law_r28 _ (List.mem_of_getElem? (i := 14) rfl), wl_wsL_law_r28 _ (List.mem_of_getElem? (i := 15) rfl)⟩
theorem iv_yX4_sum : Cond.instanceMethod yX4_sum ∈ WS ∧ Cond.selects yX4_sum.cls yX4_sum yX4_sum ∈ WS := ⟨wl_wsL_law_r28 _ (List.mem_of_getElem? (i := 18) rfl), wl_wsL_law_r28 _ (List.mem_of_getElem? (i := 19) rfl)⟩
theorem iv_yX4_isOf : Cond.instanceMethod yX4_isOf ∈ WS ∧ Cond.selects yX4_isOf.cls yX4_isOf yX4_isOf ∈ WS := ⟨wl_wsL_law_r28 _ (List.mem_of_getElem? (i := 22) rfl), wl_wsL_law_r28 _ (List.mem_of_getElem? (i := 23) rfl)⟩
theorem iv_yX9_marks : Cond.instanceMethod yX9_marks ∈ WS ∧ Cond.selects yX9_marks.cls yX9_marks yX9_marks ∈ WS := ⟨wl_wsL_law_r29 _ (List.mem_of_getElem? (i := 2) rfl), wl_wsL_law_r29 _ (List.mem_of_getElem? (i := 3) rfl)⟩
theorem iv_yX9_isOn : Cond.instanceMethod yX9_isOn ∈ WS ∧ Cond.selects yX9_isOn.cls yX9_isOn yX9_isOn ∈ WS := ⟨wl_wsL_law_r29 _ (List.mem_of_getElem? (i := 6) rfl), wl_wsL_law_r29 _ (List.mem_of_getElem? (i := 7) rfl)⟩
theorem iv_yX8_match : Cond.instanceMethod yX8_match ∈ WS ∧ Cond.selects yX8_match.cls yX8_match yX8_match ∈ WS := ⟨wl_wsL_law_r29 _ (List.mem_of_getElem? (i := 10) rfl), wl_wsL_law_r29 _ (List.mem_of_getElem? (i := 11) rfl)⟩
theorem iv_yX4_pairUp : Cond.instanceMethod yX4_pairUp ∈ WS ∧ Cond.selects yX4_pairUp.cls yX4_pairUp yX4_pairUp ∈ WS := ⟨wl_wsL_law_r29 _ (List.mem_of_getElem? (i := 16) rfl), wl_wsL_law_r29 _ (List.mem_of_getElem? (i := 17) rfl)⟩
theorem iv_yX4_sortPlaces : Cond.instanceMethod yX4_sortPlaces ∈ WS ∧ Cond.selects yX4_sortPlaces.cls yX4_sortPlaces yX4_sortPlaces ∈ WS := ⟨wl_wsL_law_r29 _ (List.mem_of_getElem? (i := 23) rfl), wl_wsL_law_r30 _ (List.mem_of_getElem? (i := 0) rfl)⟩
theorem iv_yX4_addPlace : Cond.instanceMethod yX4_addPlace ∈ WS ∧ Cond.selects yX4_addPlace.cls yX4_addPlace yX4_addPlace ∈ WS := ⟨wl_wsL_law_r30 _ (List.mem_of_getElem? (i := 3) rfl), wl_wsL_law_r30 _ (List.mem_of_getElem? (i := 4) rfl)⟩
theorem iv_yX9_match : Cond.instanceMethod yX9_match ∈ WS ∧ Cond.selects yX9_match.cls yX9_match yX9_match ∈ WS := ⟨wl_wsL_law_r30 _ (List.mem_of_getElem? (i := 11) rfl), wl_wsL_law_r30 _ (List.mem_of_getElem? (i := 12) rfl)⟩
theorem iv_yX9_placed : Cond.instanceMethod yX9_placed ∈ WS ∧ Cond.selects yX9_placed.cls yX9_placed yX9_placed ∈ WS := ⟨wl_wsL_law_r30 _ (List.mem_of_getElem? (i := 15) rfl), wl_wsL_law_r30 _ (List.mem_of_getElem? (i := 16) rfl)⟩
theorem iv_yX9_take : Cond.instanceMethod yX9_take ∈ WS ∧ Cond.selects yX9_take.cls yX9_take yX9_take ∈ WS := ⟨wl_wsL_law_r30 _ (List.mem_of_getElem? (i := 19) rfl), wl_wsL_law_r30 _ (List.mem_of_getElem? (i := 20) rfl)⟩
theorem iv_yX8_count : Cond.instanceMethod yX8_count ∈ WS ∧ Cond.selects yX8_count.cls yX8_count yX8_count ∈ WS := ⟨wl_wsL_law_r30 _ (List.mem_of_getElem? (i := 23) rfl), wl_wsL_law_r31 _ (List.mem_of_getElem? (i := 0) rfl)⟩
theorem iv_yX4_present : Cond.instanceMethod yX4_present ∈ WS ∧ Cond.selects yX4_present.cls yX4_present yX4_present ∈ WS := ⟨wl_wsL_law_r31 _ (List.mem_of_getElem? (i := 3) rfl), wl_wsL_law_r31 _ (List.mem_of_getElem? (i := 4) rfl)⟩
theorem iv_yX9_count : Cond.instanceMethod yX9_count ∈ WS ∧ Cond.selects yX9_count.cls yX9_count yX9_count ∈ WS := ⟨wl_wsL_law_r31 _ (List.mem_of_getElem? (i := 7) rfl), wl_wsL_law_r31 _ (List.mem_of_getElem? (i := 8) rfl)⟩
theorem cal_yX8_init : Cal yX8_init cX8_init 1 (none) 0 := ⟨cd_yX8_init, ini_RX8, by decide, by decide, by decide +kernel⟩
theorem cal_yX7_init : Cal yX7_init cX7_init 1 (none) 0 := ⟨cd_yX7_init, ini_RX7, by decide, by decide, by decide +kernel⟩
theorem cal_yX5_init : Cal yX5_init cX5_init 2 (none) 1 := ⟨cd_yX5_init, ini_RX5, by decide, by decide, by decide +kernel⟩
theorem cal_yX3_init : Cal yX3_init cX3_init 1 (none) 0 := ⟨cd_yX3_init, ini_RX3, by decide, by decide, by decide +kernel⟩
theorem cal_yX0_init : Cal yX0_init cX0_init 1 (none) 0 := ⟨cd_yX0_init, ini_RX0, by decide, by decide, by decide +kernel⟩
theorem cal_yX1_init : Cal yX1_init cX1_init 1 (none) 0 := ⟨cd_yX1_init, ini_RX1, by decide, by decide, by decide +kernel⟩
theorem cal_yX2_init : Cal yX2_init cX2_init 1 (none) 0 := ⟨cd_yX2_init, ini_RX2, by decide, by decide, by decide +kernel⟩
theorem cal_yX4_init : Cal yX4_init cX4_init 1 (none) 0 := ⟨cd_yX4_init, ini_RX4, by decide, by decide, by decide +kernel⟩
theorem cal_yX9_init : Cal yX9_init cX9_init 1 (none) 0 := ⟨cd_yX9_init, ini_RX9, by decide, by decide, by decide +kernel⟩
theorem cal_yX8_panel : Cal yX8_panel cX8_panel 5 ((some .int)) 4 := ⟨cd_yX8_panel, ini_RX8, by decide, by decide, by decide +kernel⟩
theorem cal_yX8_isPoint : Cal yX8_isPoint cX8_isPoint 2 ((some .boolean)) 2 := ⟨cd_yX8_isPoint, ini_RX8, by decide, by decide, by decide +kernel⟩
theorem cal_yX8_isWithin : Cal yX8_isWithin cX8_isWithin 3 ((some .boolean)) 3 := ⟨cd_yX8_isWithin, ini_RX8, by decide, by decide, by decide +kernel⟩
theorem cal_yX7_add : Cal yX7_add cX7_add 5 ((some .int)) 4 := ⟨cd_yX7_add, ini_RX7, by decide, by decide, by decide +kernel⟩
theorem cal_yX9_panel : Cal yX9_panel cX9_panel 5 ((some .int)) 4 := ⟨cd_yX9_panel, ini_RX9, by decide, by decide, by decide +kernel⟩
theorem cal_yX9_noPoint : Cal yX9_noPoint cX9_noPoint 2 ((some .boolean)) 2 := ⟨cd_yX9_noPoint, ini_RX9, by decide, by decide, by decide +kernel⟩
theorem cal_yX9_in : Cal yX9_in cX9_in 6 ((some .boolean)) 3 := ⟨cd_yX9_in, ini_RX9, by decide, by decide, by decide +kernel⟩
theorem cal_yX8_eye : Cal yX8_eye cX8_eye 4 ((some .int)) 2 := ⟨cd_yX8_eye, ini_RX8, by decide, by decide, by decide +kernel⟩
theorem cal_yX9_eye : Cal yX9_eye cX9_eye 4 ((some .int)) 2 := ⟨cd_yX9_eye, ini_RX9, by decide, by decide, by decide +kernel⟩
theorem cal_yX8_view : Cal yX8_view cX8_view 3 ((some .int)) 2 := ⟨cd_yX8_view, ini_RX8, by decide, by decide, by decide +kernel⟩
theorem cal_yX5_add : Cal yX5_add cX5_add 3 ((some .int)) 2 := ⟨cd_yX5_add, ini_RX5, by decide, by decide, by decide +kernel⟩
theorem cal_yX9_view : Cal yX9_view cX9_view 3 ((some .int)) 2 := ⟨cd_yX9_view, ini_RX9, by decide, by decide, by decide +kernel⟩
theorem cal_yX8_seen : Cal yX8_seen cX8_seen 4 ((some .int)) 3 := ⟨cd_yX8_seen, ini_RX8, by decide, by decide, by decide +kernel⟩
theorem cal_yX8_isPanel : Cal yX8_isPanel cX8_isPanel 2 ((some .boolean)) 1 := ⟨cd_yX8_isPanel, ini_RX8, by decide, by decide, by decide +kernel⟩
theorem cal_yX7_isVisible : Cal yX7_isVisible cX7_isVisible 15 ((some .boolean)) 3 := ⟨cd_yX7_isVisible, ini_RX7, by decide, by decide, by decide +kernel⟩
theorem cal_yX7_isTouched : Cal yX7_isTouched cX7_isTouched 10 ((some .boolean)) 5 := ⟨cd_yX7_isTouched, ini_RX7, by decide, by decide, by decide +kernel⟩
theorem cal_yX7_doOverlap : Cal yX7_doOverlap cX7_doOverlap 4 ((some .boolean)) 4 := ⟨cd_yX7_doOverlap, ini_RX7, by decide, by decide, by decide +kernel⟩
theorem cal_yX8_turn : Cal yX8_turn cX8_turn 6 ((some .int)) 6 := ⟨cd_yX8_turn, ini_RX8, by decide, by decide, by decide +kernel⟩
theorem cal_yX7_areApart : Cal yX7_areApart cX7_areApart 2 ((some .boolean)) 2 := ⟨cd_yX7_areApart, ini_RX7, by decide, by decide, by decide +kernel⟩
theorem cal_yX8_asNumber : Cal yX8_asNumber cX8_asNumber 1 ((some .int)) 1 := ⟨cd_yX8_asNumber, ini_RX8, by decide, by decide, by decide +kernel⟩
theorem cal_yX9_seen : Cal yX9_seen cX9_seen 4 ((some .int)) 3 := ⟨cd_yX9_seen, ini_RX9, by decide, by decide, by decide +kernel⟩
theorem cal_yX9_noPanel : Cal yX9_noPanel cX9_noPanel 2 ((some .boolean)) 1 := ⟨cd_yX9_noPanel, ini_RX9, by decide, by decide, by decide +kernel⟩
theorem cal_yX9_isSeen : Cal yX9_isSeen cX9_isSeen 18 ((some .boolean)) 3 := ⟨cd_yX9_isSeen, ini_RX9, by decide, by decide, by decide +kernel⟩
theorem cal_yX9_cross : Cal yX9_cross cX9_cross 4 ((some .int)) 4 := ⟨cd_yX9_cross, ini_RX9, by decide, by decide, by decide +kernel⟩
theorem cal_yX9_meet : Cal yX9_meet cX9_meet 12 ((some .boolean)) 8 := ⟨cd_yX9_meet, ini_RX9, by decide, by decide, by decide +kernel⟩
theorem cal_yX9_sign : Cal yX9_sign cX9_sign 1 ((some .int)) 1 := ⟨cd_yX9_sign, ini_RX9, by decide, by decide, by decide +kernel⟩
theorem cal_yX9_isBetween : Cal yX9_isBetween cX9_isBetween 8 ((some .boolean)) 6 := ⟨cd_yX9_isBetween, ini_RX9, by decide, by decide, by decide +kernel⟩
theorem cal_yX8_sees : Cal yX8_sees cX8_sees 2 ((some .int)) 1 := ⟨cd_yX8_sees, ini_RX8, by decide, by decide, by decide +kernel⟩
theorem cal_yX7_visibleFrom : Cal yX7_visibleFrom cX7_visibleFrom 5 ((some .int)) 2 := ⟨cd_yX7_visibleFrom, ini_RX7, by decide, by decide, by decide +kernel⟩
theorem cal_yX9_sees : Cal yX9_sees cX9_sees 2 ((some .int)) 1 := ⟨cd_yX9_sees, ini_RX9, by decide, by decide, by decide +kernel⟩
theorem cal_yX9_seesOf : Cal yX9_seesOf cX9_seesOf 4 ((some .int)) 1 := ⟨cd_yX9_seesOf, ini_RX9, by decide, by decide, by decide +kernel⟩
theorem cal_yX8_cover : Cal yX8_cover cX8_cover 2 ((some .int)) 1 := ⟨cd_yX8_cover, ini_RX8, by decide, by decide, by decide +kernel⟩
theorem cal_yX3_watch : Cal yX3_watch cX3_watch 6 (none) 2 := ⟨cd_yX3_watch, ini_RX3, by decide, by decide, by decide +kernel⟩
theorem cal_yX3_smallestCover : Cal yX3_smallestCover cX3_smallestCover 7 ((some .int)) 2 := ⟨cd_yX3_smallestCover, ini_RX3, by decide, by decide, by decide +kernel⟩
theorem cal_yJ6_bitCount_0f7a4 : Cal yJ6_bitCount_0f7a4 cJ6_bitCount_0f7a4 1 ((some .int)) 1 := ⟨cd_yJ6_bitCount_0f7a4, ini_RJ6, by decide, by decide, by decide +kernel⟩
theorem cal_yX3_leastTimes : Cal yX3_leastTimes cX3_leastTimes 4 ((some .int)) 1 := ⟨cd_yX3_leastTimes, ini_RX3, by decide, by decide, by decide +kernel⟩
theorem cal_yX9_cover : Cal yX9_cover cX9_cover 4 ((some .int)) 1 := ⟨cd_yX9_cover, ini_RX9, by decide, by decide, by decide +kernel⟩
theorem cal_yX9_look : Cal yX9_look cX9_look 2 (none) 0 := ⟨cd_yX9_look, ini_RX9, by decide, by decide, by decide +kernel⟩
theorem cal_yX9_bits : Cal yX9_bits cX9_bits 3 ((some .int)) 1 := ⟨cd_yX9_bits, ini_RX9, by decide, by decide, by decide +kernel⟩
theorem cal_yX9_timesOf : Cal yX9_timesOf cX9_timesOf 6 ((some .int)) 1 := ⟨cd_yX9_timesOf, ini_RX9, by decide, by decide, by decide +kernel⟩
theorem cal_yX8_covers : Cal yX8_covers cX8_covers 3 ((some .int)) 2 := ⟨cd_yX8_covers, ini_RX8, by decide, by decide, by decide +kernel⟩
theorem cal_yX8_isViewSet : Cal yX8_isViewSet cX8_isViewSet 2 ((some .boolean)) 1 := ⟨cd_yX8_isViewSet, ini_RX8, by decide, by decide, by decide +kernel⟩
theorem cal_yX9_covers : Cal yX9_covers cX9_covers 3 ((some .int)) 2 := ⟨cd_yX9_covers, ini_RX9, by decide, by decide, by decide +kernel⟩
theorem cal_yX9_noSet : Cal yX9_noSet cX9_noSet 2 ((some .boolean)) 1 := ⟨cd_yX9_noSet, ini_RX9, by decide, by decide, by decide +kernel⟩
theorem cal_yX8_times : Cal yX8_times cX8_times 2 ((some .int)) 1 := ⟨cd_yX8_times, ini_RX8, by decide, by decide, by decide +kernel⟩
theorem cal_yX9_times : Cal yX9_times cX9_times 2 ((some .int)) 1 := ⟨cd_yX9_times, ini_RX9, by decide, by decide, by decide +kernel⟩
theorem cal_yX8_close : Cal yX8_close cX8_close 5 ((some .int)) 4 := ⟨cd_yX8_close, ini_RX8, by decide, by decide, by decide +kernel⟩
theorem cal_yX0_add : Cal yX0_add cX0_add 5 (none) 4 := ⟨cd_yX0_add, ini_RX0, by decide, by decide, by decide +kernel⟩
theorem cal_yX8_forgetRoutes : Cal yX8_forgetRoutes cX8_forgetRoutes 1 (none) 0 := ⟨cd_yX8_forgetRoutes, ini_RX8, by decide, by decide, by decide +kernel⟩
theorem cal_yX6_forget : Cal yX6_forget cX6_forget 1 (none) 0 := ⟨cd_yX6_forget, ini_RX6, by decide, by decide, by decide +kernel⟩
theorem cal_yX9_close : Cal yX9_close cX9_close 5 ((some .int)) 4 := ⟨cd_yX9_close, ini_RX9, by decide, by decide, by decide +kernel⟩
theorem cal_yX8_open : Cal yX8_open cX8_open 1 ((some .int)) 0 := ⟨cd_yX8_open, ini_RX8, by decide, by decide, by decide +kernel⟩
theorem cal_yX9_open : Cal yX9_open cX9_open 1 ((some .int)) 0 := ⟨cd_yX9_open, ini_RX9, by decide, by decide, by decide +kernel⟩
theorem cal_yX8_wind : Cal yX8_wind cX8_wind 4 ((some .int)) 2 := ⟨cd_yX8_wind, ini_RX8, by decide, by decide, by decide +kernel⟩
theorem cal_yX9_wind : Cal yX9_wind cX9_wind 4 ((some .int)) 2 := ⟨cd_yX9_wind, ini_RX9, by decide, by decide, by decide +kernel⟩
theorem cal_yX8_base : Cal yX8_base cX8_base 4 ((some .int)) 2 := ⟨cd_yX8_base, ini_RX8, by decide, by decide, by decide +kernel⟩
theorem cal_yX9_base : Cal yX9_base cX9_base 4 ((some .int)) 2 := ⟨cd_yX9_base, ini_RX9, by decide, by decide, by decide +kernel⟩
theorem cal_yX8_store : Cal yX8_store cX8_store 4 ((some .int)) 2 := ⟨cd_yX8_store, ini_RX8, by decide, by decide, by decide +kernel⟩
theorem cal_yX9_store : Cal yX9_store cX9_store 4 ((some .int)) 2 := ⟨cd_yX9_store, ini_RX9, by decide, by decide, by decide +kernel⟩
theorem cal_yX8_leg : Cal yX8_leg cX8_leg 5 ((some .int)) 4 := ⟨cd_yX8_leg, ini_RX8, by decide, by decide, by decide +kernel⟩
theorem cal_yX0_isShut : Cal yX0_isShut cX0_isShut 6 ((some .boolean)) 4 := ⟨cd_yX0_isShut, ini_RX0, by decide, by decide, by decide +kernel⟩
theorem cal_yX0_goesInto : Cal yX0_goesInto cX0_goesInto 10 ((some .boolean)) 5 := ⟨cd_yX0_goesInto, ini_RX0, by decide, by decide, by decide +kernel⟩
theorem cal_yX0_cost : Cal yX0_cost cX0_cost 5 ((some .int)) 2 := ⟨cd_yX0_cost, ini_RX0, by decide, by decide, by decide +kernel⟩
theorem cal_yX0_rootUp : Cal yX0_rootUp cX0_rootUp 4 ((some .int)) 1 := ⟨cd_yX0_rootUp, ini_RX0, by decide, by decide, by decide +kernel⟩
theorem cal_yX9_leg : Cal yX9_leg cX9_leg 6 ((some .int)) 4 := ⟨cd_yX9_leg, ini_RX9, by decide, by decide, by decide +kernel⟩
theorem cal_yX9_legOf : Cal yX9_legOf cX9_legOf 10 ((some .int)) 4 := ⟨cd_yX9_legOf, ini_RX9, by decide, by decide, by decide +kernel⟩
theorem cal_yX9_isInside : Cal yX9_isInside cX9_isInside 25 ((some .boolean)) 5 := ⟨cd_yX9_isInside, ini_RX9, by decide, by decide, by decide +kernel⟩
theorem cal_yX8_round : Cal yX8_round cX8_round 2 ((some .int)) 1 := ⟨cd_yX8_round, ini_RX8, by decide, by decide, by decide +kernel⟩
theorem cal_yX8_routesFor : Cal yX8_routesFor cX8_routesFor 2 ((some (.object "WingLooks$Routes"))) 1 := ⟨cd_yX8_routesFor, ini_RX8, by decide, by decide, by decide +kernel⟩
theorem cal_yX6_init : Cal yX6_init cX6_init 4 (none) 3 := ⟨cd_yX6_init, ini_RX6, by decide, by decide, by decide +kernel⟩
theorem cal_yX6_learn : Cal yX6_learn cX6_learn 3 (none) 1 := ⟨cd_yX6_learn, ini_RX6, by decide, by decide, by decide +kernel⟩
theorem cal_yX6_measureLegs : Cal yX6_measureLegs cX6_measureLegs 7 (none) 1 := ⟨cd_yX6_measureLegs, ini_RX6, by decide, by decide, by decide +kernel⟩
theorem cal_yX8_has : Cal yX8_has cX8_has 2 ((some .boolean)) 2 := ⟨cd_yX8_has, ini_RX8, by decide, by decide, by decide +kernel⟩
theorem cal_yX6_xOf : Cal yX6_xOf cX6_xOf 2 ((some .int)) 1 := ⟨cd_yX6_xOf, ini_RX6, by decide, by decide, by decide +kernel⟩
theorem cal_yX6_yOf : Cal yX6_yOf cX6_yOf 2 ((some .int)) 1 := ⟨cd_yX6_yOf, ini_RX6, by decide, by decide, by decide +kernel⟩
theorem cal_yX6_fillTails : Cal yX6_fillTails cX6_fillTails 3 (none) 1 := ⟨cd_yX6_fillTails, ini_RX6, by decide, by decide, by decide +kernel⟩
theorem cal_yX6_costFrom : Cal yX6_costFrom cX6_costFrom 5 ((some .int)) 2 := ⟨cd_yX6_costFrom, ini_RX6, by decide, by decide, by decide +kernel⟩
theorem cal_yX6_costBy : Cal yX6_costBy cX6_costBy 4 ((some .int)) 3 := ⟨cd_yX6_costBy, ini_RX6, by decide, by decide, by decide +kernel⟩
theorem cal_yX6_roundCost : Cal yX6_roundCost cX6_roundCost 2 ((some .int)) 1 := ⟨cd_yX6_roundCost, ini_RX6, by decide, by decide, by decide +kernel⟩
theorem cal_yX6_hasRound : Cal yX6_hasRound cX6_hasRound 2 ((some .boolean)) 1 := ⟨cd_yX6_hasRound, ini_RX6, by decide, by decide, by decide +kernel⟩
theorem cal_yX9_round : Cal yX9_round cX9_round 2 ((some .int)) 1 := ⟨cd_yX9_round, ini_RX9, by decide, by decide, by decide +kernel⟩
theorem cal_yX9_fly : Cal yX9_fly cX9_fly 6 (none) 0 := ⟨cd_yX9_fly, ini_RX9, by decide, by decide, by decide +kernel⟩
theorem cal_yX9_roundOf : Cal yX9_roundOf cX9_roundOf 2 ((some .int)) 1 := ⟨cd_yX9_roundOf, ini_RX9, by decide, by decide, by decide +kernel⟩
theorem cal_yX8_stop : Cal yX8_stop cX8_stop 3 ((some .int)) 2 := ⟨cd_yX8_stop, ini_RX8, by decide, by decide, by decide +kernel⟩
theorem cal_yX6_viewAt : Cal yX6_viewAt cX6_viewAt 6 ((some .int)) 2 := ⟨cd_yX6_viewAt, ini_RX6, by decide, by decide, by decide +kernel⟩
theorem cal_yX6_nextView : Cal yX6_nextView cX6_nextView 6 ((some .int)) 2 := ⟨cd_yX6_nextView, ini_RX6, by decide, by decide, by decide +kernel⟩
theorem cal_yX9_stop : Cal yX9_stop cX9_stop 9 ((some .int)) 2 := ⟨cd_yX9_stop, ini_RX9, by decide, by decide, by decide +kernel⟩
theorem cal_yX8_flights : Cal yX8_flights cX8_flights 2 ((some .int)) 1 := ⟨cd_yX8_flights, ini_RX8, by decide, by decide, by decide +kernel⟩
theorem cal_yX6_fewestTrips : Cal yX6_fewestTrips cX6_fewestTrips 2 ((some .int)) 1 := ⟨cd_yX6_fewestTrips, ini_RX6, by decide, by decide, by decide +kernel⟩
theorem cal_yX6_splitUp : Cal yX6_splitUp cX6_splitUp 3 (none) 1 := ⟨cd_yX6_splitUp, ini_RX6, by decide, by decide, by decide +kernel⟩
theorem cal_yX6_bestSplit : Cal yX6_bestSplit cX6_bestSplit 9 ((some .int)) 1 := ⟨cd_yX6_bestSplit, ini_RX6, by decide, by decide, by decide +kernel⟩
theorem cal_yX9_flights : Cal yX9_flights cX9_flights 2 ((some .int)) 1 := ⟨cd_yX9_flights, ini_RX9, by decide, by decide, by decide +kernel⟩
theorem cal_yX9_part : Cal yX9_part cX9_part 7 (none) 0 := ⟨cd_yX9_part, ini_RX9, by decide, by decide, by decide +kernel⟩
theorem cal_yX8_energy : Cal yX8_energy cX8_energy 2 ((some .int)) 1 := ⟨cd_yX8_energy, ini_RX8, by decide, by decide, by decide +kernel⟩
theorem cal_yX6_cheapestTrips : Cal yX6_cheapestTrips cX6_cheapestTrips 2 ((some .int)) 1 := ⟨cd_yX6_cheapestTrips, ini_RX6, by decide, by decide, by decide +kernel⟩
theorem cal_yX9_energy : Cal yX9_energy cX9_energy 2 ((some .int)) 1 := ⟨cd_yX9_energy, ini_RX9, by decide, by decide, by decide +kernel⟩
theorem cal_yX8_log : Cal yX8_log cX8_log 4 ((some .int)) 3 := ⟨cd_yX8_log, ini_RX8, by decide, by decide, by decide +kernel⟩
theorem cal_yX2_add : Cal yX2_add cX2_add 4 ((some .int)) 3 := ⟨cd_yX2_add, ini_RX2, by decide, by decide, by decide +kernel⟩
theorem cal_yX9_log : Cal yX9_log cX9_log 4 ((some .int)) 3 := ⟨cd_yX9_log, ini_RX9, by decide, by decide, by decide +kernel⟩
theorem cal_yX8_proves : Cal yX8_proves cX8_proves 3 ((some .int)) 2 := ⟨cd_yX8_proves, ini_RX8, by decide, by decide, by decide +kernel⟩
theorem cal_yX2_isProof : Cal yX2_isProof cX2_isProof 7 ((some .boolean)) 3 := ⟨cd_yX2_isProof, ini_RX2, by decide, by decide, by decide +kernel⟩
theorem cal_yX9_proves : Cal yX9_proves cX9_proves 3 ((some .int)) 2 := ⟨cd_yX9_proves, ini_RX9, by decide, by decide, by decide +kernel⟩
theorem cal_yX9_isProved : Cal yX9_isProved cX9_isProved 5 ((some .boolean)) 2 := ⟨cd_yX9_isProved, ini_RX9, by decide, by decide, by decide +kernel⟩
theorem cal_yX8_proved : Cal yX8_proved cX8_proved 2 ((some .int)) 1 := ⟨cd_yX8_proved, ini_RX8, by decide, by decide, by decide +kernel⟩
theorem cal_yX2_proofs : Cal yX2_proofs cX2_proofs 6 ((some .int)) 3 := ⟨cd_yX2_proofs, ini_RX2, by decide, by decide, by decide +kernel⟩
theorem cal_yX9_proved : Cal yX9_proved cX9_proved 2 ((some .int)) 1 := ⟨cd_yX9_proved, ini_RX9, by decide, by decide, by decide +kernel⟩
theorem cal_yX9_provedOf : Cal yX9_provedOf cX9_provedOf 4 ((some .int)) 1 := ⟨cd_yX9_provedOf, ini_RX9, by decide, by decide, by decide +kernel⟩
theorem cal_yX8_missing : Cal yX8_missing cX8_missing 5 ((some .int)) 2 := ⟨cd_yX8_missing, ini_RX8, by decide, by decide, by decide +kernel⟩
theorem cal_yX9_missing : Cal yX9_missing cX9_missing 5 ((some .int)) 2 := ⟨cd_yX9_missing, ini_RX9, by decide, by decide, by decide +kernel⟩
theorem cal_yX8_mark : Cal yX8_mark cX8_mark 5 ((some .int)) 4 := ⟨cd_yX8_mark, ini_RX8, by decide, by decide, by decide +kernel⟩
theorem cal_yX8_isYear : Cal yX8_isYear cX8_isYear 1 ((some .boolean)) 1 := ⟨cd_yX8_isYear, ini_RX8, by decide, by decide, by decide +kernel⟩
theorem cal_yX4_add : Cal yX4_add cX4_add 5 ((some .int)) 4 := ⟨cd_yX4_add, ini_RX4, by decide, by decide, by decide +kernel⟩
theorem cal_yX9_mark : Cal yX9_mark cX9_mark 5 ((some .int)) 4 := ⟨cd_yX9_mark, ini_RX9, by decide, by decide, by decide +kernel⟩
theorem cal_yX8_wipe : Cal yX8_wipe cX8_wipe 2 ((some .int)) 1 := ⟨cd_yX8_wipe, ini_RX8, by decide, by decide, by decide +kernel⟩
theorem cal_yX9_wipe : Cal yX9_wipe cX9_wipe 2 ((some .int)) 1 := ⟨cd_yX9_wipe, ini_RX9, by decide, by decide, by decide +kernel⟩
theorem cal_yX8_marks : Cal yX8_marks cX8_marks 4 ((some .int)) 3 := ⟨cd_yX8_marks, ini_RX8, by decide, by decide, by decide +kernel⟩
theorem cal_yX4_sum : Cal yX4_sum cX4_sum 6 ((some .int)) 3 := ⟨cd_yX4_sum, ini_RX4, by decide, by decide, by decide +kernel⟩
theorem cal_yX4_isOf : Cal yX4_isOf cX4_isOf 4 ((some .boolean)) 3 := ⟨cd_yX4_isOf, ini_RX4, by decide, by decide, by decide +kernel⟩
theorem cal_yX9_marks : Cal yX9_marks cX9_marks 6 ((some .int)) 3 := ⟨cd_yX9_marks, ini_RX9, by decide, by decide, by decide +kernel⟩
theorem cal_yX9_isOn : Cal yX9_isOn cX9_isOn 4 ((some .boolean)) 3 := ⟨cd_yX9_isOn, ini_RX9, by decide, by decide, by decide +kernel⟩
theorem cal_yX8_match : Cal yX8_match cX8_match 6 ((some .int)) 5 := ⟨cd_yX8_match, ini_RX8, by decide, by decide, by decide +kernel⟩
theorem cal_yX4_pairUp : Cal yX4_pairUp cX4_pairUp 8 (none) 4 := ⟨cd_yX4_pairUp, ini_RX4, by decide, by decide, by decide +kernel⟩
theorem cal_yX4_sortPlaces : Cal yX4_sortPlaces cX4_sortPlaces 7 ((some .int)) 3 := ⟨cd_yX4_sortPlaces, ini_RX4, by decide, by decide, by decide +kernel⟩
theorem cal_yX4_addPlace : Cal yX4_addPlace cX4_addPlace 8 (none) 3 := ⟨cd_yX4_addPlace, ini_RX4, by decide, by decide, by decide +kernel⟩
theorem cal_yX9_match : Cal yX9_match cX9_match 12 ((some .int)) 5 := ⟨cd_yX9_match, ini_RX9, by decide, by decide, by decide +kernel⟩
theorem cal_yX9_placed : Cal yX9_placed cX9_placed 7 ((some .int)) 3 := ⟨cd_yX9_placed, ini_RX9, by decide, by decide, by decide +kernel⟩
theorem cal_yX9_take : Cal yX9_take cX9_take 7 (none) 4 := ⟨cd_yX9_take, ini_RX9, by decide, by decide, by decide +kernel⟩
theorem cal_yX8_count : Cal yX8_count cX8_count 2 ((some .int)) 1 := ⟨cd_yX8_count, ini_RX8, by decide, by decide, by decide +kernel⟩
theorem cal_yX4_present : Cal yX4_present cX4_present 3 ((some .int)) 0 := ⟨cd_yX4_present, ini_RX4, by decide, by decide, by decide +kernel⟩
theorem cal_yX9_count : Cal yX9_count cX9_count 4 ((some .int)) 1 := ⟨cd_yX9_count, ini_RX9, by decide, by decide, by decide +kernel⟩
