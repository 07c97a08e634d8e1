theorem dX4_extend_0 : decode cX4_extend 0 = .ok (.aload_n 0, 1) := by decide +kernel
theorem dX4_extend_1 : decode cX4_extend 1 = .ok (.iload_n 3, 1) := by decide +kernel
theorem dX4_extend_2 : decode cX4_extend 2 = .ok (.invokevirtual 37, 3) := by decide +kernel
set_option maxRecDepth 20000 in
theorem ggX4_extend_X4_noteRow : GoodIn wsX4_extend wsX4_noteRow := gd_ids wi_X4_extend wm_X4_extend wi_X4_noteRow (by decide +kernel)
set_option maxRecDepth 20000 in
theorem gX4_extend_X4_noteRow : GoodIn wsX4_extend (wsV RX4 37 RX4 yX4_noteRow wsX4_noteRow) := goodIn_app (gd_ids wi_X4_extend wm_X4_extend (b := [244, 245, 246, 247]) rfl (by decide +kernel)) ggX4_extend_X4_noteRow
theorem dX4_extend_5 : decode cX4_extend 5 = .ok (.iload_n 3, 1) := by decide +kernel
theorem dX4_extend_6 : decode cX4_extend 6 = .ok (.iconst 5, 1) := by decide +kernel
theorem dX4_extend_7 : decode cX4_extend 7 = .ok (.if_icmp .lt 4, 3) := by decide +kernel
theorem dX4_extend_10 : decode cX4_extend 10 = .ok (.return_, 1) := by decide +kernel
