theorem dX6_pays_0 : decode cX6_pays 0 = .ok (.aload_n 0, 1) := by decide +kernel
theorem dX6_pays_1 : decode cX6_pays 1 = .ok (.getfield 27, 3) := by decide +kernel
theorem in_X6_pays_6 : ∀ w ∈ wsX60, w ∈ wsX6_pays := fun w h => List.mem_cons_of_mem _ (List.mem_append_left _ (List.mem_append_left _ (List.mem_append_left _ (List.mem_append_right _ h))))
theorem dX6_pays_4 : decode cX6_pays 4 = .ok (.iload_n 1, 1) := by decide +kernel
theorem dX6_pays_5 : decode cX6_pays 5 = .ok (.invokevirtual 123, 3) := by decide +kernel
set_option maxRecDepth 20000 in
theorem ggX6_pays_X0_hasDebt : GoodIn wsX6_pays wsX0_hasDebt := gd_ids wi_X6_pays wm_X6_pays wi_X0_hasDebt (by decide +kernel)
theorem dX6_pays_8 : decode cX6_pays 8 = .ok (.ifCond .ne 5, 3) := by decide +kernel
theorem dX6_pays_13 : decode cX6_pays 13 = .ok (.aload_n 0, 1) := by decide +kernel
theorem dX6_pays_14 : decode cX6_pays 14 = .ok (.getfield 37, 3) := by decide +kernel
theorem dX6_pays_17 : decode cX6_pays 17 = .ok (.iload_n 1, 1) := by decide +kernel
theorem dX6_pays_18 : decode cX6_pays 18 = .ok (.invokevirtual 135, 3) := by decide +kernel
set_option maxRecDepth 20000 in
theorem ggX6_pays_X1_isOpen : GoodIn wsX6_pays wsX1_isOpen := gd_ids wi_X6_pays wm_X6_pays wi_X1_isOpen (by decide +kernel)
theorem dX6_pays_21 : decode cX6_pays 21 = .ok (.ifCond .eq 30, 3) := by decide +kernel
theorem dX6_pays_51 : decode cX6_pays 51 = .ok (.bipush (-2), 2) := by decide +kernel
theorem dX6_pays_53 : decode cX6_pays 53 = .ok (.ireturn, 1) := by decide +kernel
theorem dX6_pays_24 : decode cX6_pays 24 = .ok (.aload_n 0, 1) := by decide +kernel
theorem dX6_pays_25 : decode cX6_pays 25 = .ok (.getfield 51, 3) := by decide +kernel
theorem dX6_pays_28 : decode cX6_pays 28 = .ok (.aload_n 0, 1) := by decide +kernel
theorem dX6_pays_29 : decode cX6_pays 29 = .ok (.getfield 27, 3) := by decide +kernel
theorem dX6_pays_32 : decode cX6_pays 32 = .ok (.aload_n 0, 1) := by decide +kernel
theorem dX6_pays_33 : decode cX6_pays 33 = .ok (.getfield 37, 3) := by decide +kernel
theorem dX6_pays_36 : decode cX6_pays 36 = .ok (.iload_n 1, 1) := by decide +kernel
theorem dX6_pays_37 : decode cX6_pays 37 = .ok (.aload_n 0, 1) := by decide +kernel
theorem dX6_pays_38 : decode cX6_pays 38 = .ok (.getfield 37, 3) := by decide +kernel
theorem dX6_pays_41 : decode cX6_pays 41 = .ok (.iload_n 1, 1) := by decide +kernel
theorem dX6_pays_42 : decode cX6_pays 42 = .ok (.invokevirtual 129, 3) := by decide +kernel
set_option maxRecDepth 20000 in
theorem ggX6_pays_X1_creditor : GoodIn wsX6_pays wsX1_creditor := gd_ids wi_X6_pays wm_X6_pays wi_X1_creditor (by decide +kernel)
theorem dX6_pays_45 : decode cX6_pays 45 = .ok (.invokevirtual 150, 3) := by decide +kernel
set_option maxRecDepth 20000 in
theorem ggX6_pays_X2_settles : GoodIn wsX6_pays wsX2_settles := gd_ids wi_X6_pays wm_X6_pays wi_X2_settles (by decide +kernel)
theorem dX6_pays_48 : decode cX6_pays 48 = .ok (.ifCond .ne 6, 3) := by decide +kernel
theorem dX6_pays_54 : decode cX6_pays 54 = .ok (.aload_n 0, 1) := by decide +kernel
theorem dX6_pays_55 : decode cX6_pays 55 = .ok (.getfield 37, 3) := by decide +kernel
theorem dX6_pays_58 : decode cX6_pays 58 = .ok (.invokevirtual 154, 3) := by decide +kernel
set_option maxRecDepth 20000 in
theorem ggX6_pays_X1_remember : GoodIn wsX6_pays wsX1_remember := gd_ids wi_X6_pays wm_X6_pays wi_X1_remember (by decide +kernel)
theorem dX6_pays_61 : decode cX6_pays 61 = .ok (.aload_n 0, 1) := by decide +kernel
theorem dX6_pays_62 : decode cX6_pays 62 = .ok (.getfield 37, 3) := by decide +kernel
theorem dX6_pays_65 : decode cX6_pays 65 = .ok (.iload_n 1, 1) := by decide +kernel
theorem dX6_pays_66 : decode cX6_pays 66 = .ok (.aload_n 0, 1) := by decide +kernel
theorem dX6_pays_67 : decode cX6_pays 67 = .ok (.getfield 27, 3) := by decide +kernel
theorem dX6_pays_70 : decode cX6_pays 70 = .ok (.getfield 126, 3) := by decide +kernel
theorem in_X6_pays_0 : ∀ w ∈ wsX00, w ∈ wsX6_pays := fun w h => List.mem_cons_of_mem _ (List.mem_append_left _ (List.mem_append_left _ (List.mem_append_right _ h)))
theorem dX6_pays_73 : decode cX6_pays 73 = .ok (.iload_n 1, 1) := by decide +kernel
theorem dX6_pays_74 : decode cX6_pays 74 = .ok (.iaload, 1) := by decide +kernel
theorem dX6_pays_75 : decode cX6_pays 75 = .ok (.aload_n 0, 1) := by decide +kernel
theorem dX6_pays_76 : decode cX6_pays 76 = .ok (.getfield 51, 3) := by decide +kernel
theorem dX6_pays_79 : decode cX6_pays 79 = .ok (.getfield 157, 3) := by decide +kernel
theorem in_X6_pays_2 : ∀ w ∈ wsX20, w ∈ wsX6_pays := fun w h => List.mem_cons_of_mem _ (List.mem_append_left _ (List.mem_append_right _ h))
theorem dX6_pays_82 : decode cX6_pays 82 = .ok (.invokevirtual 160, 3) := by decide +kernel
set_option maxRecDepth 20000 in
theorem ggX6_pays_X1_settle : GoodIn wsX6_pays wsX1_settle := gd_ids wi_X6_pays wm_X6_pays wi_X1_settle (by decide +kernel)
theorem dX6_pays_85 : decode cX6_pays 85 = .ok (.aload_n 0, 1) := by decide +kernel
theorem dX6_pays_86 : decode cX6_pays 86 = .ok (.getfield 51, 3) := by decide +kernel
theorem dX6_pays_89 : decode cX6_pays 89 = .ok (.getfield 141, 3) := by decide +kernel
theorem dX6_pays_92 : decode cX6_pays 92 = .ok (.ireturn, 1) := by decide +kernel
theorem dX6_pays_11 : decode cX6_pays 11 = .ok (.iconst (-1), 1) := by decide +kernel
theorem dX6_pays_12 : decode cX6_pays 12 = .ok (.ireturn, 1) := by decide +kernel
theorem dX6_trades_0 : decode cX6_trades 0 = .ok (.aload_n 0, 1) := by decide +kernel
theorem dX6_trades_1 : decode cX6_trades 1 = .ok (.getfield 27, 3) := by decide +kernel
theorem in_X6_trades_6 : ∀ w ∈ wsX60, w ∈ wsX6_trades := fun w h => List.mem_cons_of_mem _ (List.mem_append_left _ (List.mem_append_left _ (List.mem_append_right _ h)))
theorem dX6_trades_4 : decode cX6_trades 4 = .ok (.iload_n 1, 1) := by decide +kernel
theorem dX6_trades_5 : decode cX6_trades 5 = .ok (.invokevirtual 104, 3) := by decide +kernel
set_option maxRecDepth 20000 in
theorem ggX6_trades_X0_hasPerson : GoodIn wsX6_trades wsX0_hasPerson := gd_ids wi_X6_trades wm_X6_trades wi_X0_hasPerson (by decide +kernel)
theorem dX6_trades_8 : decode cX6_trades 8 = .ok (.ifCond .eq 37, 3) := by decide +kernel
theorem dX6_trades_11 : decode cX6_trades 11 = .ok (.aload_n 0, 1) := by decide +kernel
theorem dX6_trades_12 : decode cX6_trades 12 = .ok (.getfield 27, 3) := by decide +kernel
theorem dX6_trades_15 : decode cX6_trades 15 = .ok (.iload_n 2, 1) := by decide +kernel
theorem dX6_trades_16 : decode cX6_trades 16 = .ok (.invokevirtual 87, 3) := by decide +kernel
set_option maxRecDepth 20000 in
theorem ggX6_trades_X0_hasCoin : GoodIn wsX6_trades wsX0_hasCoin := gd_ids wi_X6_trades wm_X6_trades wi_X0_hasCoin (by decide +kernel)
theorem dX6_trades_19 : decode cX6_trades 19 = .ok (.ifCond .eq 26, 3) := by decide +kernel
theorem dX6_trades_22 : decode cX6_trades 22 = .ok (.aload_n 0, 1) := by decide +kernel
theorem dX6_trades_23 : decode cX6_trades 23 = .ok (.getfield 27, 3) := by decide +kernel
theorem dX6_trades_26 : decode cX6_trades 26 = .ok (.iload_n 3, 1) := by decide +kernel
theorem dX6_trades_27 : decode cX6_trades 27 = .ok (.invokevirtual 104, 3) := by decide +kernel
theorem dX6_trades_30 : decode cX6_trades 30 = .ok (.ifCond .eq 15, 3) := by decide +kernel
theorem dX6_trades_33 : decode cX6_trades 33 = .ok (.aload_n 0, 1) := by decide +kernel
theorem dX6_trades_34 : decode cX6_trades 34 = .ok (.getfield 27, 3) := by decide +kernel
theorem dX6_trades_37 : decode cX6_trades 37 = .ok (.iload 4, 2) := by decide +kernel
theorem dX6_trades_39 : decode cX6_trades 39 = .ok (.invokevirtual 87, 3) := by decide +kernel
theorem dX6_trades_42 : decode cX6_trades 42 = .ok (.ifCond .ne 5, 3) := by decide +kernel
theorem dX6_trades_47 : decode cX6_trades 47 = .ok (.iload_n 1, 1) := by decide +kernel
theorem dX6_trades_48 : decode cX6_trades 48 = .ok (.iload_n 3, 1) := by decide +kernel
theorem dX6_trades_49 : decode cX6_trades 49 = .ok (.if_icmp .eq 9, 3) := by decide +kernel
theorem dX6_trades_58 : decode cX6_trades 58 = .ok (.iconst (-1), 1) := by decide +kernel
theorem dX6_trades_59 : decode cX6_trades 59 = .ok (.ireturn, 1) := by decide +kernel
theorem dX6_trades_52 : decode cX6_trades 52 = .ok (.iload_n 2, 1) := by decide +kernel
theorem dX6_trades_53 : decode cX6_trades 53 = .ok (.iload 4, 2) := by decide +kernel
theorem dX6_trades_55 : decode cX6_trades 55 = .ok (.if_icmp .ne 5, 3) := by decide +kernel
theorem dX6_trades_60 : decode cX6_trades 60 = .ok (.aload_n 0, 1) := by decide +kernel
theorem dX6_trades_61 : decode cX6_trades 61 = .ok (.getfield 37, 3) := by decide +kernel
theorem dX6_trades_64 : decode cX6_trades 64 = .ok (.iload_n 1, 1) := by decide +kernel
theorem dX6_trades_65 : decode cX6_trades 65 = .ok (.iload_n 2, 1) := by decide +kernel
theorem dX6_trades_66 : decode cX6_trades 66 = .ok (.invokevirtual 119, 3) := by decide +kernel
set_option maxRecDepth 20000 in
theorem ggX6_trades_X1_held : GoodIn wsX6_trades wsX1_held := gd_ids wi_X6_trades wm_X6_trades wi_X1_held (by decide +kernel)
theorem dX6_trades_69 : decode cX6_trades 69 = .ok (.iconst 1, 1) := by decide +kernel
theorem dX6_trades_70 : decode cX6_trades 70 = .ok (.if_icmp .lt 17, 3) := by decide +kernel
theorem dX6_trades_87 : decode cX6_trades 87 = .ok (.bipush (-2), 2) := by decide +kernel
theorem dX6_trades_89 : decode cX6_trades 89 = .ok (.ireturn, 1) := by decide +kernel
theorem dX6_trades_73 : decode cX6_trades 73 = .ok (.aload_n 0, 1) := by decide +kernel
theorem dX6_trades_74 : decode cX6_trades 74 = .ok (.getfield 37, 3) := by decide +kernel
theorem dX6_trades_77 : decode cX6_trades 77 = .ok (.iload_n 3, 1) := by decide +kernel
theorem dX6_trades_78 : decode cX6_trades 78 = .ok (.iload 4, 2) := by decide +kernel
theorem dX6_trades_80 : decode cX6_trades 80 = .ok (.invokevirtual 119, 3) := by decide +kernel
theorem dX6_trades_83 : decode cX6_trades 83 = .ok (.iconst 1, 1) := by decide +kernel
theorem dX6_trades_84 : decode cX6_trades 84 = .ok (.if_icmp .ge 6, 3) := by decide +kernel
theorem dX6_trades_90 : decode cX6_trades 90 = .ok (.aload_n 0, 1) := by decide +kernel
theorem dX6_trades_91 : decode cX6_trades 91 = .ok (.getfield 27, 3) := by decide +kernel
theorem dX6_trades_94 : decode cX6_trades 94 = .ok (.getfield 94, 3) := by decide +kernel
theorem in_X6_trades_0 : ∀ w ∈ wsX00, w ∈ wsX6_trades := fun w h => List.mem_cons_of_mem _ (List.mem_append_left _ (List.mem_append_right _ h))
theorem dX6_trades_97 : decode cX6_trades 97 = .ok (.iload_n 2, 1) := by decide +kernel
theorem dX6_trades_98 : decode cX6_trades 98 = .ok (.iaload, 1) := by decide +kernel
theorem dX6_trades_99 : decode cX6_trades 99 = .ok (.aload_n 0, 1) := by decide +kernel
theorem dX6_trades_100 : decode cX6_trades 100 = .ok (.getfield 27, 3) := by decide +kernel
theorem dX6_trades_103 : decode cX6_trades 103 = .ok (.getfield 94, 3) := by decide +kernel
theorem dX6_trades_106 : decode cX6_trades 106 = .ok (.iload 4, 2) := by decide +kernel
theorem dX6_trades_108 : decode cX6_trades 108 = .ok (.iaload, 1) := by decide +kernel
theorem dX6_trades_109 : decode cX6_trades 109 = .ok (.if_icmp .eq 6, 3) := by decide +kernel
theorem dX6_trades_115 : decode cX6_trades 115 = .ok (.aload_n 0, 1) := by decide +kernel
theorem dX6_trades_116 : decode cX6_trades 116 = .ok (.getfield 37, 3) := by decide +kernel
theorem dX6_trades_119 : decode cX6_trades 119 = .ok (.iload_n 1, 1) := by decide +kernel
theorem dX6_trades_120 : decode cX6_trades 120 = .ok (.iload 4, 2) := by decide +kernel
theorem dX6_trades_122 : decode cX6_trades 122 = .ok (.invokevirtual 119, 3) := by decide +kernel
theorem dX6_trades_125 : decode cX6_trades 125 = .ok (.bipush 99, 2) := by decide +kernel
theorem dX6_trades_127 : decode cX6_trades 127 = .ok (.if_icmp .ge 17, 3) := by decide +kernel
theorem dX6_trades_144 : decode cX6_trades 144 = .ok (.bipush (-2), 2) := by decide +kernel
theorem dX6_trades_146 : decode cX6_trades 146 = .ok (.ireturn, 1) := by decide +kernel
theorem dX6_trades_130 : decode cX6_trades 130 = .ok (.aload_n 0, 1) := by decide +kernel
theorem dX6_trades_131 : decode cX6_trades 131 = .ok (.getfield 37, 3) := by decide +kernel
theorem dX6_trades_134 : decode cX6_trades 134 = .ok (.iload_n 3, 1) := by decide +kernel
theorem dX6_trades_135 : decode cX6_trades 135 = .ok (.iload_n 2, 1) := by decide +kernel
theorem dX6_trades_136 : decode cX6_trades 136 = .ok (.invokevirtual 119, 3) := by decide +kernel
theorem dX6_trades_139 : decode cX6_trades 139 = .ok (.bipush 99, 2) := by decide +kernel
theorem dX6_trades_141 : decode cX6_trades 141 = .ok (.if_icmp .lt 6, 3) := by decide +kernel
theorem dX6_trades_147 : decode cX6_trades 147 = .ok (.aload_n 0, 1) := by decide +kernel
theorem dX6_trades_148 : decode cX6_trades 148 = .ok (.getfield 37, 3) := by decide +kernel
theorem dX6_trades_151 : decode cX6_trades 151 = .ok (.invokevirtual 154, 3) := by decide +kernel
set_option maxRecDepth 20000 in
theorem ggX6_trades_X1_remember : GoodIn wsX6_trades wsX1_remember := gd_ids wi_X6_trades wm_X6_trades wi_X1_remember (by decide +kernel)
theorem dX6_trades_154 : decode cX6_trades 154 = .ok (.aload_n 0, 1) := by decide +kernel
theorem dX6_trades_155 : decode cX6_trades 155 = .ok (.getfield 37, 3) := by decide +kernel
theorem dX6_trades_158 : decode cX6_trades 158 = .ok (.iload_n 1, 1) := by decide +kernel
theorem dX6_trades_159 : decode cX6_trades 159 = .ok (.iload_n 2, 1) := by decide +kernel
theorem dX6_trades_160 : decode cX6_trades 160 = .ok (.iconst (-1), 1) := by decide +kernel
theorem dX6_trades_161 : decode cX6_trades 161 = .ok (.invokevirtual 164, 3) := by decide +kernel
set_option maxRecDepth 20000 in
theorem ggX6_trades_X1_add : GoodIn wsX6_trades wsX1_add := gd_ids wi_X6_trades wm_X6_trades wi_X1_add (by decide +kernel)
theorem dX6_trades_164 : decode cX6_trades 164 = .ok (.aload_n 0, 1) := by decide +kernel
theorem dX6_trades_165 : decode cX6_trades 165 = .ok (.getfield 37, 3) := by decide +kernel
theorem dX6_trades_168 : decode cX6_trades 168 = .ok (.iload_n 3, 1) := by decide +kernel
theorem dX6_trades_169 : decode cX6_trades 169 = .ok (.iload_n 2, 1) := by decide +kernel
theorem dX6_trades_170 : decode cX6_trades 170 = .ok (.iconst 1, 1) := by decide +kernel
theorem dX6_trades_171 : decode cX6_trades 171 = .ok (.invokevirtual 164, 3) := by decide +kernel
theorem dX6_trades_174 : decode cX6_trades 174 = .ok (.aload_n 0, 1) := by decide +kernel
theorem dX6_trades_175 : decode cX6_trades 175 = .ok (.getfield 37, 3) := by decide +kernel
theorem dX6_trades_178 : decode cX6_trades 178 = .ok (.iload_n 3, 1) := by decide +kernel
theorem dX6_trades_179 : decode cX6_trades 179 = .ok (.iload 4, 2) := by decide +kernel
theorem dX6_trades_181 : decode cX6_trades 181 = .ok (.iconst (-1), 1) := by decide +kernel
theorem dX6_trades_182 : decode cX6_trades 182 = .ok (.invokevirtual 164, 3) := by decide +kernel
theorem dX6_trades_185 : decode cX6_trades 185 = .ok (.aload_n 0, 1) := by decide +kernel
theorem dX6_trades_186 : decode cX6_trades 186 = .ok (.getfield 37, 3) := by decide +kernel
theorem dX6_trades_189 : decode cX6_trades 189 = .ok (.iload_n 1, 1) := by decide +kernel
theorem dX6_trades_190 : decode cX6_trades 190 = .ok (.iload 4, 2) := by decide +kernel
theorem dX6_trades_192 : decode cX6_trades 192 = .ok (.iconst 1, 1) := by decide +kernel
theorem dX6_trades_193 : decode cX6_trades 193 = .ok (.invokevirtual 164, 3) := by decide +kernel
theorem dX6_trades_196 : decode cX6_trades 196 = .ok (.aload_n 0, 1) := by decide +kernel
theorem dX6_trades_197 : decode cX6_trades 197 = .ok (.getfield 37, 3) := by decide +kernel
theorem dX6_trades_200 : decode cX6_trades 200 = .ok (.iload_n 1, 1) := by decide +kernel
theorem dX6_trades_201 : decode cX6_trades 201 = .ok (.iload 4, 2) := by decide +kernel
theorem dX6_trades_203 : decode cX6_trades 203 = .ok (.invokevirtual 119, 3) := by decide +kernel
theorem dX6_trades_206 : decode cX6_trades 206 = .ok (.ireturn, 1) := by decide +kernel
theorem dX6_trades_112 : decode cX6_trades 112 = .ok (.bipush (-2), 2) := by decide +kernel
theorem dX6_trades_114 : decode cX6_trades 114 = .ok (.ireturn, 1) := by decide +kernel
theorem dX6_trades_45 : decode cX6_trades 45 = .ok (.iconst (-1), 1) := by decide +kernel
theorem dX6_trades_46 : decode cX6_trades 46 = .ok (.ireturn, 1) := by decide +kernel
theorem dX6_loses_0 : decode cX6_loses 0 = .ok (.aload_n 0, 1) := by decide +kernel
theorem dX6_loses_1 : decode cX6_loses 1 = .ok (.getfield 27, 3) := by decide +kernel
theorem in_X6_loses_6 : ∀ w ∈ wsX60, w ∈ wsX6_loses := fun w h => List.mem_cons_of_mem _ (List.mem_append_left _ (List.mem_append_left _ (List.mem_append_right _ h)))
theorem dX6_loses_4 : decode cX6_loses 4 = .ok (.iload_n 1, 1) := by decide +kernel
theorem dX6_loses_5 : decode cX6_loses 5 = .ok (.invokevirtual 104, 3) := by decide +kernel
set_option maxRecDepth 20000 in
theorem ggX6_loses_X0_hasPerson : GoodIn wsX6_loses wsX0_hasPerson := gd_ids wi_X6_loses wm_X6_loses wi_X0_hasPerson (by decide +kernel)
theorem dX6_loses_8 : decode cX6_loses 8 = .ok (.ifCond .eq 14, 3) := by decide +kernel
theorem dX6_loses_11 : decode cX6_loses 11 = .ok (.aload_n 0, 1) := by decide +kernel
theorem dX6_loses_12 : decode cX6_loses 12 = .ok (.getfield 27, 3) := by decide +kernel
theorem dX6_loses_15 : decode cX6_loses 15 = .ok (.iload_n 2, 1) := by decide +kernel
theorem dX6_loses_16 : decode cX6_loses 16 = .ok (.invokevirtual 87, 3) := by decide +kernel
set_option maxRecDepth 20000 in
theorem ggX6_loses_X0_hasCoin : GoodIn wsX6_loses wsX0_hasCoin := gd_ids wi_X6_loses wm_X6_loses wi_X0_hasCoin (by decide +kernel)
theorem dX6_loses_19 : decode cX6_loses 19 = .ok (.ifCond .ne 5, 3) := by decide +kernel
theorem dX6_loses_24 : decode cX6_loses 24 = .ok (.aload_n 0, 1) := by decide +kernel
theorem dX6_loses_25 : decode cX6_loses 25 = .ok (.getfield 37, 3) := by decide +kernel
theorem dX6_loses_28 : decode cX6_loses 28 = .ok (.iload_n 1, 1) := by decide +kernel
theorem dX6_loses_29 : decode cX6_loses 29 = .ok (.iload_n 2, 1) := by decide +kernel
theorem dX6_loses_30 : decode cX6_loses 30 = .ok (.invokevirtual 119, 3) := by decide +kernel
set_option maxRecDepth 20000 in
theorem ggX6_loses_X1_held : GoodIn wsX6_loses wsX1_held := gd_ids wi_X6_loses wm_X6_loses wi_X1_held (by decide +kernel)
theorem dX6_loses_33 : decode cX6_loses 33 = .ok (.iconst 1, 1) := by decide +kernel
theorem dX6_loses_34 : decode cX6_loses 34 = .ok (.if_icmp .ge 6, 3) := by decide +kernel
theorem dX6_loses_40 : decode cX6_loses 40 = .ok (.aload_n 0, 1) := by decide +kernel
theorem dX6_loses_41 : decode cX6_loses 41 = .ok (.getfield 37, 3) := by decide +kernel
theorem dX6_loses_44 : decode cX6_loses 44 = .ok (.invokevirtual 154, 3) := by decide +kernel
set_option maxRecDepth 20000 in
theorem ggX6_loses_X1_remember : GoodIn wsX6_loses wsX1_remember := gd_ids wi_X6_loses wm_X6_loses wi_X1_remember (by decide +kernel)
theorem dX6_loses_47 : decode cX6_loses 47 = .ok (.aload_n 0, 1) := by decide +kernel
theorem dX6_loses_48 : decode cX6_loses 48 = .ok (.getfield 37, 3) := by decide +kernel
theorem dX6_loses_51 : decode cX6_loses 51 = .ok (.iload_n 1, 1) := by decide +kernel
theorem dX6_loses_52 : decode cX6_loses 52 = .ok (.iload_n 2, 1) := by decide +kernel
theorem dX6_loses_53 : decode cX6_loses 53 = .ok (.iconst (-1), 1) := by decide +kernel
theorem dX6_loses_54 : decode cX6_loses 54 = .ok (.invokevirtual 164, 3) := by decide +kernel
set_option maxRecDepth 20000 in
theorem ggX6_loses_X1_add : GoodIn wsX6_loses wsX1_add := gd_ids wi_X6_loses wm_X6_loses wi_X1_add (by decide +kernel)
theorem dX6_loses_57 : decode cX6_loses 57 = .ok (.aload_n 0, 1) := by decide +kernel
theorem dX6_loses_58 : decode cX6_loses 58 = .ok (.getfield 37, 3) := by decide +kernel
theorem dX6_loses_61 : decode cX6_loses 61 = .ok (.iload_n 1, 1) := by decide +kernel
theorem dX6_loses_62 : decode cX6_loses 62 = .ok (.iload_n 2, 1) := by decide +kernel
theorem dX6_loses_63 : decode cX6_loses 63 = .ok (.invokevirtual 119, 3) := by decide +kernel
theorem dX6_loses_66 : decode cX6_loses 66 = .ok (.ireturn, 1) := by decide +kernel
theorem dX6_loses_37 : decode cX6_loses 37 = .ok (.bipush (-2), 2) := by decide +kernel
theorem dX6_loses_39 : decode cX6_loses 39 = .ok (.ireturn, 1) := by decide +kernel
theorem dX6_loses_22 : decode cX6_loses 22 = .ok (.iconst (-1), 1) := by decide +kernel
theorem dX6_loses_23 : decode cX6_loses 23 = .ok (.ireturn, 1) := by decide +kernel
theorem dX6_finds_0 : decode cX6_finds 0 = .ok (.aload_n 0, 1) := by decide +kernel
theorem dX6_finds_1 : decode cX6_finds 1 = .ok (.getfield 27, 3) := by decide +kernel
theorem in_X6_finds_6 : ∀ w ∈ wsX60, w ∈ wsX6_finds := fun w h => List.mem_cons_of_mem _ (List.mem_append_left _ (List.mem_append_left _ (List.mem_append_right _ h)))
theorem dX6_finds_4 : decode cX6_finds 4 = .ok (.iload_n 1, 1) := by decide +kernel
theorem dX6_finds_5 : decode cX6_finds 5 = .ok (.invokevirtual 104, 3) := by decide +kernel
set_option maxRecDepth 20000 in
theorem ggX6_finds_X0_hasPerson : GoodIn wsX6_finds wsX0_hasPerson := gd_ids wi_X6_finds wm_X6_finds wi_X0_hasPerson (by decide +kernel)
theorem dX6_finds_8 : decode cX6_finds 8 = .ok (.ifCond .eq 14, 3) := by decide +kernel
theorem dX6_finds_11 : decode cX6_finds 11 = .ok (.aload_n 0, 1) := by decide +kernel
theorem dX6_finds_12 : decode cX6_finds 12 = .ok (.getfield 27, 3) := by decide +kernel
theorem dX6_finds_15 : decode cX6_finds 15 = .ok (.iload_n 2, 1) := by decide +kernel
theorem dX6_finds_16 : decode cX6_finds 16 = .ok (.invokevirtual 87, 3) := by decide +kernel
set_option maxRecDepth 20000 in
theorem ggX6_finds_X0_hasCoin : GoodIn wsX6_finds wsX0_hasCoin := gd_ids wi_X6_finds wm_X6_finds wi_X0_hasCoin (by decide +kernel)
theorem dX6_finds_19 : decode cX6_finds 19 = .ok (.ifCond .ne 5, 3) := by decide +kernel
theorem dX6_finds_24 : decode cX6_finds 24 = .ok (.aload_n 0, 1) := by decide +kernel
theorem dX6_finds_25 : decode cX6_finds 25 = .ok (.getfield 37, 3) := by decide +kernel
theorem dX6_finds_28 : decode cX6_finds 28 = .ok (.iload_n 1, 1) := by decide +kernel
theorem dX6_finds_29 : decode cX6_finds 29 = .ok (.iload_n 2, 1) := by decide +kernel
theorem dX6_finds_30 : decode cX6_finds 30 = .ok (.invokevirtual 119, 3) := by decide +kernel
set_option maxRecDepth 20000 in
theorem ggX6_finds_X1_held : GoodIn wsX6_finds wsX1_held := gd_ids wi_X6_finds wm_X6_finds wi_X1_held (by decide +kernel)
theorem dX6_finds_33 : decode cX6_finds 33 = .ok (.bipush 99, 2) := by decide +kernel
theorem dX6_finds_35 : decode cX6_finds 35 = .ok (.if_icmp .lt 6, 3) := by decide +kernel
theorem dX6_finds_41 : decode cX6_finds 41 = .ok (.aload_n 0, 1) := by decide +kernel
theorem dX6_finds_42 : decode cX6_finds 42 = .ok (.getfield 37, 3) := by decide +kernel
theorem dX6_finds_45 : decode cX6_finds 45 = .ok (.invokevirtual 154, 3) := by decide +kernel
set_option maxRecDepth 20000 in
theorem ggX6_finds_X1_remember : GoodIn wsX6_finds wsX1_remember := gd_ids wi_X6_finds wm_X6_finds wi_X1_remember (by decide +kernel)
theorem dX6_finds_48 : decode cX6_finds 48 = .ok (.aload_n 0, 1) := by decide +kernel
theorem dX6_finds_49 : decode cX6_finds 49 = .ok (.getfield 37, 3) := by decide +kernel
theorem dX6_finds_52 : decode cX6_finds 52 = .ok (.iload_n 1, 1) := by decide +kernel
theorem dX6_finds_53 : decode cX6_finds 53 = .ok (.iload_n 2, 1) := by decide +kernel
theorem dX6_finds_54 : decode cX6_finds 54 = .ok (.iconst 1, 1) := by decide +kernel
theorem dX6_finds_55 : decode cX6_finds 55 = .ok (.invokevirtual 164, 3) := by decide +kernel
set_option maxRecDepth 20000 in
theorem ggX6_finds_X1_add : GoodIn wsX6_finds wsX1_add := gd_ids wi_X6_finds wm_X6_finds wi_X1_add (by decide +kernel)
theorem dX6_finds_58 : decode cX6_finds 58 = .ok (.aload_n 0, 1) := by decide +kernel
theorem dX6_finds_59 : decode cX6_finds 59 = .ok (.getfield 37, 3) := by decide +kernel
theorem dX6_finds_62 : decode cX6_finds 62 = .ok (.iload_n 1, 1) := by decide +kernel
theorem dX6_finds_63 : decode cX6_finds 63 = .ok (.iload_n 2, 1) := by decide +kernel
theorem dX6_finds_64 : decode cX6_finds 64 = .ok (.invokevirtual 119, 3) := by decide +kernel
theorem dX6_finds_67 : decode cX6_finds 67 = .ok (.ireturn, 1) := by decide +kernel
theorem dX6_finds_38 : decode cX6_finds 38 = .ok (.bipush (-2), 2) := by decide +kernel
theorem dX6_finds_40 : decode cX6_finds 40 = .ok (.ireturn, 1) := by decide +kernel
theorem dX6_finds_22 : decode cX6_finds 22 = .ok (.iconst (-1), 1) := by decide +kernel
theorem dX6_finds_23 : decode cX6_finds 23 = .ok (.ireturn, 1) := by decide +kernel
theorem dX6_passes_0 : decode cX6_passes 0 = .ok (.aload_n 0, 1) := by decide +kernel
theorem dX6_passes_1 : decode cX6_passes 1 = .ok (.getfield 27, 3) := by decide +kernel
theorem in_X6_passes_6 : ∀ w ∈ wsX60, w ∈ wsX6_passes := fun w h => List.mem_cons_of_mem _ (List.mem_append_left _ (List.mem_append_left _ (List.mem_append_right _ h)))
theorem dX6_passes_4 : decode cX6_passes 4 = .ok (.iload_n 1, 1) := by decide +kernel
theorem dX6_passes_5 : decode cX6_passes 5 = .ok (.invokevirtual 123, 3) := by decide +kernel
set_option maxRecDepth 20000 in
theorem ggX6_passes_X0_hasDebt : GoodIn wsX6_passes wsX0_hasDebt := gd_ids wi_X6_passes wm_X6_passes wi_X0_hasDebt (by decide +kernel)
theorem dX6_passes_8 : decode cX6_passes 8 = .ok (.ifCond .eq 14, 3) := by decide +kernel
theorem dX6_passes_11 : decode cX6_passes 11 = .ok (.aload_n 0, 1) := by decide +kernel
theorem dX6_passes_12 : decode cX6_passes 12 = .ok (.getfield 27, 3) := by decide +kernel
theorem dX6_passes_15 : decode cX6_passes 15 = .ok (.iload_n 2, 1) := by decide +kernel
theorem dX6_passes_16 : decode cX6_passes 16 = .ok (.invokevirtual 104, 3) := by decide +kernel
set_option maxRecDepth 20000 in
theorem ggX6_passes_X0_hasPerson : GoodIn wsX6_passes wsX0_hasPerson := gd_ids wi_X6_passes wm_X6_passes wi_X0_hasPerson (by decide +kernel)
theorem dX6_passes_19 : decode cX6_passes 19 = .ok (.ifCond .ne 5, 3) := by decide +kernel
theorem dX6_passes_24 : decode cX6_passes 24 = .ok (.aload_n 0, 1) := by decide +kernel
theorem dX6_passes_25 : decode cX6_passes 25 = .ok (.getfield 37, 3) := by decide +kernel
theorem dX6_passes_28 : decode cX6_passes 28 = .ok (.iload_n 1, 1) := by decide +kernel
theorem dX6_passes_29 : decode cX6_passes 29 = .ok (.invokevirtual 129, 3) := by decide +kernel
set_option maxRecDepth 20000 in
theorem ggX6_passes_X1_creditor : GoodIn wsX6_passes wsX1_creditor := gd_ids wi_X6_passes wm_X6_passes wi_X1_creditor (by decide +kernel)
theorem dX6_passes_32 : decode cX6_passes 32 = .ok (.istore_n 3, 1) := by decide +kernel
theorem dX6_passes_33 : decode cX6_passes 33 = .ok (.aload_n 0, 1) := by decide +kernel
theorem dX6_passes_34 : decode cX6_passes 34 = .ok (.getfield 37, 3) := by decide +kernel
theorem dX6_passes_37 : decode cX6_passes 37 = .ok (.iload_n 1, 1) := by decide +kernel
theorem dX6_passes_38 : decode cX6_passes 38 = .ok (.invokevirtual 135, 3) := by decide +kernel
set_option maxRecDepth 20000 in
theorem ggX6_passes_X1_isOpen : GoodIn wsX6_passes wsX1_isOpen := gd_ids wi_X6_passes wm_X6_passes wi_X1_isOpen (by decide +kernel)
theorem dX6_passes_41 : decode cX6_passes 41 = .ok (.ifCond .eq 21, 3) := by decide +kernel
theorem dX6_passes_62 : decode cX6_passes 62 = .ok (.bipush (-2), 2) := by decide +kernel
theorem dX6_passes_64 : decode cX6_passes 64 = .ok (.ireturn, 1) := by decide +kernel
theorem dX6_passes_44 : decode cX6_passes 44 = .ok (.iload_n 2, 1) := by decide +kernel
theorem dX6_passes_45 : decode cX6_passes 45 = .ok (.aload_n 0, 1) := by decide +kernel
theorem dX6_passes_46 : decode cX6_passes 46 = .ok (.getfield 27, 3) := by decide +kernel
theorem dX6_passes_49 : decode cX6_passes 49 = .ok (.getfield 126, 3) := by decide +kernel
theorem in_X6_passes_0 : ∀ w ∈ wsX00, w ∈ wsX6_passes := fun w h => List.mem_cons_of_mem _ (List.mem_append_left _ (List.mem_append_right _ h))
theorem dX6_passes_52 : decode cX6_passes 52 = .ok (.iload_n 1, 1) := by decide +kernel
theorem dX6_passes_53 : decode cX6_passes 53 = .ok (.iaload, 1) := by decide +kernel
theorem dX6_passes_54 : decode cX6_passes 54 = .ok (.if_icmp .eq 8, 3) := by decide +kernel
theorem dX6_passes_57 : decode cX6_passes 57 = .ok (.iload_n 2, 1) := by decide +kernel
theorem dX6_passes_58 : decode cX6_passes 58 = .ok (.iload_n 3, 1) := by decide +kernel
theorem dX6_passes_59 : decode cX6_passes 59 = .ok (.if_icmp .ne 6, 3) := by decide +kernel
theorem dX6_passes_65 : decode cX6_passes 65 = .ok (.aload_n 0, 1) := by decide +kernel
theorem dX6_passes_66 : decode cX6_passes 66 = .ok (.getfield 37, 3) := by decide +kernel
theorem dX6_passes_69 : decode cX6_passes 69 = .ok (.invokevirtual 154, 3) := by decide +kernel
set_option maxRecDepth 20000 in
theorem ggX6_passes_X1_remember : GoodIn wsX6_passes wsX1_remember := gd_ids wi_X6_passes wm_X6_passes wi_X1_remember (by decide +kernel)
theorem dX6_passes_72 : decode cX6_passes 72 = .ok (.aload_n 0, 1) := by decide +kernel
theorem dX6_passes_73 : decode cX6_passes 73 = .ok (.getfield 37, 3) := by decide +kernel
theorem dX6_passes_76 : decode cX6_passes 76 = .ok (.iload_n 1, 1) := by decide +kernel
theorem dX6_passes_77 : decode cX6_passes 77 = .ok (.iload_n 2, 1) := by decide +kernel
theorem dX6_passes_78 : decode cX6_passes 78 = .ok (.invokevirtual 168, 3) := by decide +kernel
set_option maxRecDepth 20000 in
theorem ggX6_passes_X1_setCreditor : GoodIn wsX6_passes wsX1_setCreditor := gd_ids wi_X6_passes wm_X6_passes wi_X1_setCreditor (by decide +kernel)
theorem dX6_passes_81 : decode cX6_passes 81 = .ok (.iload_n 3, 1) := by decide +kernel
theorem dX6_passes_82 : decode cX6_passes 82 = .ok (.ireturn, 1) := by decide +kernel
theorem dX6_passes_22 : decode cX6_passes 22 = .ok (.iconst (-1), 1) := by decide +kernel
theorem dX6_passes_23 : decode cX6_passes 23 = .ok (.ireturn, 1) := by decide +kernel
theorem dX6_undo_0 : decode cX6_undo 0 = .ok (.aload_n 0, 1) := by decide +kernel
theorem dX6_undo_1 : decode cX6_undo 1 = .ok (.getfield 37, 3) := by decide +kernel
theorem in_X6_undo_6 : ∀ w ∈ wsX60, w ∈ wsX6_undo := fun w h => List.mem_cons_of_mem _ (List.mem_append_left _ (List.mem_append_right _ h))
theorem dX6_undo_4 : decode cX6_undo 4 = .ok (.getfield 172, 3) := by decide +kernel
theorem in_X6_undo_1 : ∀ w ∈ wsX10, w ∈ wsX6_undo := fun w h => List.mem_cons_of_mem _ (List.mem_append_right _ h)
theorem dX6_undo_7 : decode cX6_undo 7 = .ok (.iconst 1, 1) := by decide +kernel
theorem dX6_undo_8 : decode cX6_undo 8 = .ok (.if_icmp .ge 6, 3) := by decide +kernel
theorem dX6_undo_14 : decode cX6_undo 14 = .ok (.aload_n 0, 1) := by decide +kernel
theorem dX6_undo_15 : decode cX6_undo 15 = .ok (.getfield 37, 3) := by decide +kernel
theorem dX6_undo_18 : decode cX6_undo 18 = .ok (.invokevirtual 175, 3) := by decide +kernel
set_option maxRecDepth 20000 in
theorem ggX6_undo_X1_stepBack : GoodIn wsX6_undo wsX1_stepBack := gd_ids wi_X6_undo wm_X6_undo wi_X1_stepBack (by decide +kernel)
theorem dX6_undo_21 : decode cX6_undo 21 = .ok (.aload_n 0, 1) := by decide +kernel
theorem dX6_undo_22 : decode cX6_undo 22 = .ok (.getfield 37, 3) := by decide +kernel
theorem dX6_undo_25 : decode cX6_undo 25 = .ok (.getfield 172, 3) := by decide +kernel
theorem dX6_undo_28 : decode cX6_undo 28 = .ok (.ireturn, 1) := by decide +kernel
theorem dX6_undo_11 : decode cX6_undo 11 = .ok (.bipush (-2), 2) := by decide +kernel
theorem dX6_undo_13 : decode cX6_undo 13 = .ok (.ireturn, 1) := by decide +kernel
