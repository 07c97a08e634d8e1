theorem dX4_noteRow_0 : decode cX4_noteRow 0 = .ok (.iload_n 1, 1) := by decide +kernel
theorem dX4_noteRow_1 : decode cX4_noteRow 1 = .ok (.aload_n 0, 1) := by decide +kernel
theorem dX4_noteRow_2 : decode cX4_noteRow 2 = .ok (.getfield 25, 3) := by decide +kernel
theorem in_X4_noteRow_4 : ∀ w ∈ wsX40, w ∈ wsX4_noteRow := fun w h => List.mem_cons_of_mem _ (List.mem_append_right _ h)
theorem dX4_noteRow_5 : decode cX4_noteRow 5 = .ok (.if_icmp .gt 4, 3) := by decide +kernel
theorem dX4_noteRow_9 : decode cX4_noteRow 9 = .ok (.aload_n 0, 1) := by decide +kernel
theorem dX4_noteRow_10 : decode cX4_noteRow 10 = .ok (.iload_n 1, 1) := by decide +kernel
theorem dX4_noteRow_11 : decode cX4_noteRow 11 = .ok (.putfield 25, 3) := by decide +kernel
theorem dX4_noteRow_14 : decode cX4_noteRow 14 = .ok (.aload_n 0, 1) := by decide +kernel
theorem dX4_noteRow_15 : decode cX4_noteRow 15 = .ok (.getfield 18, 3) := by decide +kernel
theorem dX4_noteRow_18 : decode cX4_noteRow 18 = .ok (.iconst 0, 1) := by decide +kernel
theorem dX4_noteRow_19 : decode cX4_noteRow 19 = .ok (.aload_n 0, 1) := by decide +kernel
theorem dX4_noteRow_20 : decode cX4_noteRow 20 = .ok (.getfield 22, 3) := by decide +kernel
theorem dX4_noteRow_23 : decode cX4_noteRow 23 = .ok (.iconst 0, 1) := by decide +kernel
theorem dX4_noteRow_24 : decode cX4_noteRow 24 = .ok (.iload_n 1, 1) := by decide +kernel
theorem dX4_noteRow_25 : decode cX4_noteRow 25 = .ok (.invokestatic 85, 3) := by decide +kernel
theorem dX4_noteRow_28 : decode cX4_noteRow 28 = .ok (.return_, 1) := by decide +kernel
theorem dX4_noteRow_8 : decode cX4_noteRow 8 = .ok (.return_, 1) := by decide +kernel
