theorem dX4_extend_11 : decode cX4_extend 11 = .ok (.aload_n 0, 1) := by decide +kernel
theorem dX4_extend_12 : decode cX4_extend 12 = .ok (.getfield 12, 3) := by decide +kernel
theorem in_X4_extend_4 : ∀ w ∈ wsX40, w ∈ wsX4_extend := fun w h => List.mem_cons_of_mem _ (List.mem_append_left _ (List.mem_append_left _ (List.mem_append_left _ (List.mem_append_right _ h))))
theorem dX4_extend_15 : decode cX4_extend 15 = .ok (.astore 4, 2) := by decide +kernel
theorem dX4_extend_17 : decode cX4_extend 17 = .ok (.iconst 0, 1) := by decide +kernel
theorem dX4_extend_18 : decode cX4_extend 18 = .ok (.istore 5, 2) := by decide +kernel
theorem dX4_extend_20 : decode cX4_extend 20 = .ok (.iload 5, 2) := by decide +kernel
theorem dX4_extend_22 : decode cX4_extend 22 = .ok (.aload_n 1, 1) := by decide +kernel
theorem dX4_extend_23 : decode cX4_extend 23 = .ok (.getfield 41, 3) := by decide +kernel
theorem in_X4_extend_0 : ∀ w ∈ wsX00, w ∈ wsX4_extend := fun w h => List.mem_cons_of_mem _ (List.mem_append_left _ (List.mem_append_left _ (List.mem_append_right _ h)))
theorem dX4_extend_26 : decode cX4_extend 26 = .ok (.if_icmp .ge 104, 3) := by decide +kernel
theorem dX4_extend_130 : decode cX4_extend 130 = .ok (.return_, 1) := by decide +kernel
theorem dX4_extend_29 : decode cX4_extend 29 = .ok (.iload_n 3, 1) := by decide +kernel
theorem dX4_extend_30 : decode cX4_extend 30 = .ok (.aload 4, 2) := by decide +kernel
theorem dX4_extend_32 : decode cX4_extend 32 = .ok (.invokevirtual 46, 3) := by decide +kernel
set_option maxRecDepth 20000 in
theorem ggX4_extend_X1_openBits : GoodIn wsX4_extend wsX1_openBits := gd_ids wi_X4_extend wm_X4_extend wi_X1_openBits (by decide +kernel)
theorem dX4_extend_35 : decode cX4_extend 35 = .ok (.invokestatic 50, 3) := by decide +kernel
set_option maxRecDepth 20000 in
theorem ggX4_extend_J6_bitCount_0f7a4 : GoodIn wsX4_extend wsJ6_bitCount_0f7a4 := gd_ids wi_X4_extend wm_X4_extend wi_J6_bitCount_0f7a4 (by decide +kernel)
theorem dX4_extend_38 : decode cX4_extend 38 = .ok (.iadd, 1) := by decide +kernel
theorem dX4_extend_39 : decode cX4_extend 39 = .ok (.aload_n 0, 1) := by decide +kernel
theorem dX4_extend_40 : decode cX4_extend 40 = .ok (.getfield 25, 3) := by decide +kernel
theorem dX4_extend_43 : decode cX4_extend 43 = .ok (.if_icmp .gt 4, 3) := by decide +kernel
theorem dX4_extend_47 : decode cX4_extend 47 = .ok (.aload 4, 2) := by decide +kernel
theorem dX4_extend_49 : decode cX4_extend 49 = .ok (.iload 5, 2) := by decide +kernel
theorem dX4_extend_51 : decode cX4_extend 51 = .ok (.invokevirtual 56, 3) := by decide +kernel
set_option maxRecDepth 20000 in
theorem ggX4_extend_X1_isOpen : GoodIn wsX4_extend wsX1_isOpen := gd_ids wi_X4_extend wm_X4_extend wi_X1_isOpen (by decide +kernel)
theorem dX4_extend_54 : decode cX4_extend 54 = .ok (.ifCond .eq 70, 3) := by decide +kernel
theorem dX4_extend_124 : decode cX4_extend 124 = .ok (.iinc 5 1, 3) := by decide +kernel
theorem dX4_extend_127 : decode cX4_extend 127 = .ok (.goto (-107), 3) := by decide +kernel
theorem dX4_extend_57 : decode cX4_extend 57 = .ok (.aload_n 2, 1) := by decide +kernel
theorem dX4_extend_58 : decode cX4_extend 58 = .ok (.aload_n 1, 1) := by decide +kernel
theorem dX4_extend_59 : decode cX4_extend 59 = .ok (.aload 4, 2) := by decide +kernel
theorem dX4_extend_61 : decode cX4_extend 61 = .ok (.iload 5, 2) := by decide +kernel
theorem dX4_extend_63 : decode cX4_extend 63 = .ok (.aload 4, 2) := by decide +kernel
theorem dX4_extend_65 : decode cX4_extend 65 = .ok (.iload 5, 2) := by decide +kernel
theorem dX4_extend_67 : decode cX4_extend 67 = .ok (.invokevirtual 60, 3) := by decide +kernel
set_option maxRecDepth 20000 in
theorem ggX4_extend_X1_creditor : GoodIn wsX4_extend wsX1_creditor := gd_ids wi_X4_extend wm_X4_extend wi_X1_creditor (by decide +kernel)
theorem dX4_extend_70 : decode cX4_extend 70 = .ok (.invokevirtual 63, 3) := by decide +kernel
set_option maxRecDepth 20000 in
theorem ggX4_extend_X2_settles : GoodIn wsX4_extend wsX2_settles := gd_ids wi_X4_extend wm_X4_extend wi_X2_settles (by decide +kernel)
theorem dX4_extend_73 : decode cX4_extend 73 = .ok (.ifCond .ne 6, 3) := by decide +kernel
theorem dX4_extend_79 : decode cX4_extend 79 = .ok (.aload_n 0, 1) := by decide +kernel
theorem dX4_extend_80 : decode cX4_extend 80 = .ok (.getfield 18, 3) := by decide +kernel
theorem dX4_extend_83 : decode cX4_extend 83 = .ok (.iload_n 3, 1) := by decide +kernel
theorem dX4_extend_84 : decode cX4_extend 84 = .ok (.iload 5, 2) := by decide +kernel
theorem dX4_extend_86 : decode cX4_extend 86 = .ok (.iastore, 1) := by decide +kernel
theorem dX4_extend_87 : decode cX4_extend 87 = .ok (.aload 4, 2) := by decide +kernel
theorem dX4_extend_89 : decode cX4_extend 89 = .ok (.invokevirtual 69, 3) := by decide +kernel
set_option maxRecDepth 20000 in
theorem ggX4_extend_X1_remember : GoodIn wsX4_extend wsX1_remember := gd_ids wi_X4_extend wm_X4_extend wi_X1_remember (by decide +kernel)
theorem dX4_extend_92 : decode cX4_extend 92 = .ok (.aload 4, 2) := by decide +kernel
theorem dX4_extend_94 : decode cX4_extend 94 = .ok (.iload 5, 2) := by decide +kernel
theorem dX4_extend_96 : decode cX4_extend 96 = .ok (.aload_n 1, 1) := by decide +kernel
theorem dX4_extend_97 : decode cX4_extend 97 = .ok (.getfield 72, 3) := by decide +kernel
theorem dX4_extend_100 : decode cX4_extend 100 = .ok (.iload 5, 2) := by decide +kernel
theorem dX4_extend_102 : decode cX4_extend 102 = .ok (.iaload, 1) := by decide +kernel
theorem dX4_extend_103 : decode cX4_extend 103 = .ok (.aload_n 2, 1) := by decide +kernel
theorem dX4_extend_104 : decode cX4_extend 104 = .ok (.getfield 75, 3) := by decide +kernel
theorem in_X4_extend_2 : ∀ w ∈ wsX20, w ∈ wsX4_extend := fun w h => List.mem_cons_of_mem _ (List.mem_append_left _ (List.mem_append_right _ h))
theorem dX4_extend_107 : decode cX4_extend 107 = .ok (.invokevirtual 78, 3) := by decide +kernel
set_option maxRecDepth 20000 in
theorem ggX4_extend_X1_settle : GoodIn wsX4_extend wsX1_settle := gd_ids wi_X4_extend wm_X4_extend wi_X1_settle (by decide +kernel)
theorem dX4_extend_110 : decode cX4_extend 110 = .ok (.aload_n 0, 1) := by decide +kernel
theorem dX4_extend_111 : decode cX4_extend 111 = .ok (.aload_n 1, 1) := by decide +kernel
theorem dX4_extend_112 : decode cX4_extend 112 = .ok (.aload_n 2, 1) := by decide +kernel
theorem dX4_extend_113 : decode cX4_extend 113 = .ok (.iload_n 3, 1) := by decide +kernel
theorem dX4_extend_114 : decode cX4_extend 114 = .ok (.iconst 1, 1) := by decide +kernel
theorem dX4_extend_115 : decode cX4_extend 115 = .ok (.iadd, 1) := by decide +kernel
theorem dX4_extend_116 : decode cX4_extend 116 = .ok (.invokestatic 33, 3) := by decide +kernel
set_option maxRecDepth 20000 in
theorem ggX4_extend_X4_extend : GoodIn wsX4_extend wsX4_extend := gd_ids wi_X4_extend wm_X4_extend wi_X4_extend (by decide +kernel)
theorem dX4_extend_119 : decode cX4_extend 119 = .ok (.aload 4, 2) := by decide +kernel
theorem dX4_extend_121 : decode cX4_extend 121 = .ok (.invokevirtual 82, 3) := by decide +kernel
set_option maxRecDepth 20000 in
theorem ggX4_extend_X1_stepBack : GoodIn wsX4_extend wsX1_stepBack := gd_ids wi_X4_extend wm_X4_extend wi_X1_stepBack (by decide +kernel)
theorem dX4_extend_76 : decode cX4_extend 76 = .ok (.goto 48, 3) := by decide +kernel
theorem dX4_extend_46 : decode cX4_extend 46 = .ok (.return_, 1) := by decide +kernel
