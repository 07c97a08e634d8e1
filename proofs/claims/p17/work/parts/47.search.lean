theorem dX4_search_0 : decode cX4_search 0 = .ok (.aload_n 0, 1) := by decide +kernel
theorem dX4_search_1 : decode cX4_search 1 = .ok (.getfield 12, 3) := by decide +kernel
theorem in_X4_search_4 : ∀ w ∈ wsX40, w ∈ wsX4_search := fun w h => List.mem_cons_of_mem _ (List.mem_append_left _ (List.mem_append_left _ (List.mem_append_left _ (List.mem_append_right _ h))))
theorem dX4_search_4 : decode cX4_search 4 = .ok (.aload_n 2, 1) := by decide +kernel
theorem dX4_search_5 : decode cX4_search 5 = .ok (.invokevirtual 29, 3) := by decide +kernel
set_option maxRecDepth 20000 in
theorem ggX4_search_X1_becomeAnew : GoodIn wsX4_search wsX1_becomeAnew := gd_ids wi_X4_search wm_X4_search wi_X1_becomeAnew (by decide +kernel)
theorem dX4_search_8 : decode cX4_search 8 = .ok (.aload_n 0, 1) := by decide +kernel
theorem dX4_search_9 : decode cX4_search 9 = .ok (.iconst 0, 1) := by decide +kernel
theorem dX4_search_10 : decode cX4_search 10 = .ok (.putfield 25, 3) := by decide +kernel
theorem dX4_search_13 : decode cX4_search 13 = .ok (.aload_n 0, 1) := by decide +kernel
theorem dX4_search_14 : decode cX4_search 14 = .ok (.aload_n 1, 1) := by decide +kernel
theorem dX4_search_15 : decode cX4_search 15 = .ok (.aload_n 3, 1) := by decide +kernel
theorem dX4_search_16 : decode cX4_search 16 = .ok (.iconst 0, 1) := by decide +kernel
theorem dX4_search_17 : decode cX4_search 17 = .ok (.invokestatic 33, 3) := by decide +kernel
set_option maxRecDepth 20000 in
theorem ggX4_search_X4_extend : GoodIn wsX4_search wsX4_extend := gd_ids wi_X4_search wm_X4_search wi_X4_extend (by decide +kernel)
theorem dX4_search_20 : decode cX4_search 20 = .ok (.return_, 1) := by decide +kernel
