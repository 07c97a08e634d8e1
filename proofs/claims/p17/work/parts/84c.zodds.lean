theorem dX7_corner_0 : decode cX7_corner 0 = .ok (.aload_n 0, 1) := by decide +kernel
theorem dX7_corner_1 : decode cX7_corner 1 = .ok (.iload_n 1, 1) := by decide +kernel
theorem dX7_corner_2 : decode cX7_corner 2 = .ok (.invokevirtual 165, 3) := by decide +kernel
set_option maxRecDepth 20000 in
theorem ggX7_corner_X7_isDebt : GoodIn wsX7_corner wsX7_isDebt := gd_ids wi_X7_corner wm_X7_corner wi_X7_isDebt (by decide +kernel)
set_option maxRecDepth 20000 in
theorem gX7_corner_X7_isDebt : GoodIn wsX7_corner (wsV RX7 165 RX7 yX7_isDebt wsX7_isDebt) := goodIn_app (gd_ids wi_X7_corner wm_X7_corner (b := [572, 573, 574, 481]) rfl (by decide +kernel)) ggX7_corner_X7_isDebt
theorem dX7_corner_5 : decode cX7_corner 5 = .ok (.ifCond .ne 5, 3) := by decide +kernel
theorem dX7_corner_10 : decode cX7_corner 10 = .ok (.iconst 0, 1) := by decide +kernel
theorem dX7_corner_11 : decode cX7_corner 11 = .ok (.istore_n 2, 1) := by decide +kernel
theorem dX7_corner_12 : decode cX7_corner 12 = .ok (.aload_n 0, 1) := by decide +kernel
theorem dX7_corner_13 : decode cX7_corner 13 = .ok (.iload_n 1, 1) := by decide +kernel
theorem dX7_corner_14 : decode cX7_corner 14 = .ok (.iconst 0, 1) := by decide +kernel
theorem dX7_corner_15 : decode cX7_corner 15 = .ok (.invokevirtual 176, 3) := by decide +kernel
set_option maxRecDepth 20000 in
theorem ggX7_corner_X7_canWorld : GoodIn wsX7_corner wsX7_canWorld := gd_ids wi_X7_corner wm_X7_corner wi_X7_canWorld (by decide +kernel)
set_option maxRecDepth 20000 in
theorem gX7_corner_X7_canWorld : GoodIn wsX7_corner (wsV RX7 176 RX7 yX7_canWorld wsX7_canWorld) := goodIn_app (gd_ids wi_X7_corner wm_X7_corner (b := [581, 582, 583, 481]) rfl (by decide +kernel)) ggX7_corner_X7_canWorld
theorem dX7_corner_18 : decode cX7_corner 18 = .ok (.ifCond .ne 7, 3) := by decide +kernel
theorem dX7_corner_25 : decode cX7_corner 25 = .ok (.iconst 0, 1) := by decide +kernel
theorem dX7_corner_26 : decode cX7_corner 26 = .ok (.istore_n 3, 1) := by decide +kernel
theorem dX7_corner_27 : decode cX7_corner 27 = .ok (.iconst 1, 1) := by decide +kernel
theorem dX7_corner_28 : decode cX7_corner 28 = .ok (.istore 4, 2) := by decide +kernel
theorem dX7_corner_30 : decode cX7_corner 30 = .ok (.iload 4, 2) := by decide +kernel
theorem dX7_corner_32 : decode cX7_corner 32 = .ok (.iconst 1, 1) := by decide +kernel
theorem dX7_corner_33 : decode cX7_corner 33 = .ok (.aload_n 0, 1) := by decide +kernel
theorem dX7_corner_34 : decode cX7_corner 34 = .ok (.getfield 13, 3) := by decide +kernel
theorem in_X7_corner_7 : ∀ w ∈ wsX70, w ∈ wsX7_corner := fun w h => List.mem_cons_of_mem _ (List.mem_append_right _ h)
theorem dX7_corner_37 : decode cX7_corner 37 = .ok (.iconst 0, 1) := by decide +kernel
theorem dX7_corner_38 : decode cX7_corner 38 = .ok (.iaload, 1) := by decide +kernel
theorem dX7_corner_39 : decode cX7_corner 39 = .ok (.ishl, 1) := by decide +kernel
theorem dX7_corner_40 : decode cX7_corner 40 = .ok (.if_icmp .ge 48, 3) := by decide +kernel
theorem dX7_corner_88 : decode cX7_corner 88 = .ok (.iload_n 2, 1) := by decide +kernel
theorem dX7_corner_89 : decode cX7_corner 89 = .ok (.ireturn, 1) := by decide +kernel
theorem dX7_corner_43 : decode cX7_corner 43 = .ok (.iload_n 3, 1) := by decide +kernel
theorem dX7_corner_44 : decode cX7_corner 44 = .ok (.ifCond .eq 7, 3) := by decide +kernel
theorem dX7_corner_51 : decode cX7_corner 51 = .ok (.iload_n 3, 1) := by decide +kernel
theorem dX7_corner_52 : decode cX7_corner 52 = .ok (.ifCond .eq 15, 3) := by decide +kernel
theorem dX7_corner_67 : decode cX7_corner 67 = .ok (.aload_n 0, 1) := by decide +kernel
theorem dX7_corner_68 : decode cX7_corner 68 = .ok (.iload_n 1, 1) := by decide +kernel
theorem dX7_corner_69 : decode cX7_corner 69 = .ok (.iload 4, 2) := by decide +kernel
theorem dX7_corner_71 : decode cX7_corner 71 = .ok (.invokevirtual 176, 3) := by decide +kernel
theorem dX7_corner_74 : decode cX7_corner 74 = .ok (.ifCond .ne 8, 3) := by decide +kernel
theorem dX7_corner_82 : decode cX7_corner 82 = .ok (.iinc 4 1, 3) := by decide +kernel
theorem dX7_corner_85 : decode cX7_corner 85 = .ok (.goto (-55), 3) := by decide +kernel
theorem dX7_corner_77 : decode cX7_corner 77 = .ok (.iload 4, 2) := by decide +kernel
theorem dX7_corner_79 : decode cX7_corner 79 = .ok (.istore_n 2, 1) := by decide +kernel
theorem dX7_corner_80 : decode cX7_corner 80 = .ok (.iconst 1, 1) := by decide +kernel
theorem dX7_corner_81 : decode cX7_corner 81 = .ok (.istore_n 3, 1) := by decide +kernel
theorem dX7_corner_55 : decode cX7_corner 55 = .ok (.iload 4, 2) := by decide +kernel
theorem dX7_corner_57 : decode cX7_corner 57 = .ok (.invokestatic 195, 3) := by decide +kernel
set_option maxRecDepth 20000 in
theorem ggX7_corner_X7_manyOf : GoodIn wsX7_corner wsX7_manyOf := gd_ids wi_X7_corner wm_X7_corner wi_X7_manyOf (by decide +kernel)
theorem dX7_corner_60 : decode cX7_corner 60 = .ok (.iload_n 2, 1) := by decide +kernel
theorem dX7_corner_61 : decode cX7_corner 61 = .ok (.invokestatic 195, 3) := by decide +kernel
theorem dX7_corner_64 : decode cX7_corner 64 = .ok (.if_icmp .ge 18, 3) := by decide +kernel
theorem dX7_corner_47 : decode cX7_corner 47 = .ok (.iload_n 2, 1) := by decide +kernel
theorem dX7_corner_48 : decode cX7_corner 48 = .ok (.ifCond .eq 40, 3) := by decide +kernel
theorem dX7_corner_21 : decode cX7_corner 21 = .ok (.iconst 1, 1) := by decide +kernel
theorem dX7_corner_22 : decode cX7_corner 22 = .ok (.goto 4, 3) := by decide +kernel
theorem dX7_corner_8 : decode cX7_corner 8 = .ok (.iconst (-1), 1) := by decide +kernel
theorem dX7_corner_9 : decode cX7_corner 9 = .ok (.ireturn, 1) := by decide +kernel
theorem dX7_odds_0 : decode cX7_odds 0 = .ok (.aload_n 0, 1) := by decide +kernel
theorem dX7_odds_1 : decode cX7_odds 1 = .ok (.iload_n 1, 1) := by decide +kernel
theorem dX7_odds_2 : decode cX7_odds 2 = .ok (.invokevirtual 165, 3) := by decide +kernel
set_option maxRecDepth 20000 in
theorem ggX7_odds_X7_isDebt : GoodIn wsX7_odds wsX7_isDebt := gd_ids wi_X7_odds wm_X7_odds wi_X7_isDebt (by decide +kernel)
set_option maxRecDepth 20000 in
theorem gX7_odds_X7_isDebt : GoodIn wsX7_odds (wsV RX7 165 RX7 yX7_isDebt wsX7_isDebt) := goodIn_app (gd_ids wi_X7_odds wm_X7_odds (b := [572, 573, 574, 481]) rfl (by decide +kernel)) ggX7_odds_X7_isDebt
theorem dX7_odds_5 : decode cX7_odds 5 = .ok (.ifCond .eq 22, 3) := by decide +kernel
theorem dX7_odds_8 : decode cX7_odds 8 = .ok (.iload_n 2, 1) := by decide +kernel
theorem dX7_odds_9 : decode cX7_odds 9 = .ok (.iconst 0, 1) := by decide +kernel
theorem dX7_odds_10 : decode cX7_odds 10 = .ok (.bipush 10, 2) := by decide +kernel
theorem dX7_odds_12 : decode cX7_odds 12 = .ok (.invokestatic 78, 3) := by decide +kernel
set_option maxRecDepth 20000 in
theorem ggX7_odds_X7_in : GoodIn wsX7_odds wsX7_in := gd_ids wi_X7_odds wm_X7_odds wi_X7_in (by decide +kernel)
theorem dX7_odds_15 : decode cX7_odds 15 = .ok (.ifCond .eq 12, 3) := by decide +kernel
theorem dX7_odds_18 : decode cX7_odds 18 = .ok (.iload_n 3, 1) := by decide +kernel
theorem dX7_odds_19 : decode cX7_odds 19 = .ok (.iconst 0, 1) := by decide +kernel
theorem dX7_odds_20 : decode cX7_odds 20 = .ok (.iconst 1, 1) := by decide +kernel
theorem dX7_odds_21 : decode cX7_odds 21 = .ok (.invokestatic 78, 3) := by decide +kernel
theorem dX7_odds_24 : decode cX7_odds 24 = .ok (.ifCond .ne 5, 3) := by decide +kernel
theorem dX7_odds_29 : decode cX7_odds 29 = .ok (.iconst 0, 1) := by decide +kernel
theorem dX7_odds_30 : decode cX7_odds 30 = .ok (.istore 4, 2) := by decide +kernel
theorem dX7_odds_32 : decode cX7_odds 32 = .ok (.iconst 1, 1) := by decide +kernel
theorem dX7_odds_33 : decode cX7_odds 33 = .ok (.istore 5, 2) := by decide +kernel
theorem dX7_odds_35 : decode cX7_odds 35 = .ok (.iconst 0, 1) := by decide +kernel
theorem dX7_odds_36 : decode cX7_odds 36 = .ok (.istore 6, 2) := by decide +kernel
theorem dX7_odds_38 : decode cX7_odds 38 = .ok (.iload 6, 2) := by decide +kernel
theorem dX7_odds_40 : decode cX7_odds 40 = .ok (.aload_n 0, 1) := by decide +kernel
theorem dX7_odds_41 : decode cX7_odds 41 = .ok (.getfield 13, 3) := by decide +kernel
theorem in_X7_odds_7 : ∀ w ∈ wsX70, w ∈ wsX7_odds := fun w h => List.mem_cons_of_mem _ (List.mem_append_right _ h)
theorem dX7_odds_44 : decode cX7_odds 44 = .ok (.iconst 0, 1) := by decide +kernel
theorem dX7_odds_45 : decode cX7_odds 45 = .ok (.iaload, 1) := by decide +kernel
theorem dX7_odds_46 : decode cX7_odds 46 = .ok (.if_icmp .ge 16, 3) := by decide +kernel
theorem dX7_odds_62 : decode cX7_odds 62 = .ok (.iconst 0, 1) := by decide +kernel
theorem dX7_odds_63 : decode cX7_odds 63 = .ok (.istore 6, 2) := by decide +kernel
theorem dX7_odds_65 : decode cX7_odds 65 = .ok (.iload 6, 2) := by decide +kernel
theorem dX7_odds_67 : decode cX7_odds 67 = .ok (.iconst 1, 1) := by decide +kernel
theorem dX7_odds_68 : decode cX7_odds 68 = .ok (.aload_n 0, 1) := by decide +kernel
theorem dX7_odds_69 : decode cX7_odds 69 = .ok (.getfield 13, 3) := by decide +kernel
theorem dX7_odds_72 : decode cX7_odds 72 = .ok (.iconst 0, 1) := by decide +kernel
theorem dX7_odds_73 : decode cX7_odds 73 = .ok (.iaload, 1) := by decide +kernel
theorem dX7_odds_74 : decode cX7_odds 74 = .ok (.ishl, 1) := by decide +kernel
theorem dX7_odds_75 : decode cX7_odds 75 = .ok (.if_icmp .ge 82, 3) := by decide +kernel
theorem dX7_odds_157 : decode cX7_odds 157 = .ok (.iload 4, 2) := by decide +kernel
theorem dX7_odds_159 : decode cX7_odds 159 = .ok (.istore 6, 2) := by decide +kernel
theorem dX7_odds_161 : decode cX7_odds 161 = .ok (.iload 5, 2) := by decide +kernel
theorem dX7_odds_163 : decode cX7_odds 163 = .ok (.istore 7, 2) := by decide +kernel
theorem dX7_odds_165 : decode cX7_odds 165 = .ok (.iload 7, 2) := by decide +kernel
theorem dX7_odds_167 : decode cX7_odds 167 = .ok (.ifCond .eq 21, 3) := by decide +kernel
theorem dX7_odds_188 : decode cX7_odds 188 = .ok (.iload_n 3, 1) := by decide +kernel
theorem dX7_odds_189 : decode cX7_odds 189 = .ok (.ifCond .ne 11, 3) := by decide +kernel
theorem dX7_odds_200 : decode cX7_odds 200 = .ok (.iload 5, 2) := by decide +kernel
theorem dX7_odds_202 : decode cX7_odds 202 = .ok (.iload 6, 2) := by decide +kernel
theorem dX7_odds_204 : decode cX7_odds 204 = .ok (.idiv, 1) := by decide +kernel
theorem dX7_odds_205 : decode cX7_odds 205 = .ok (.ireturn, 1) := by decide +kernel
theorem dX7_odds_192 : decode cX7_odds 192 = .ok (.iload 4, 2) := by decide +kernel
theorem dX7_odds_194 : decode cX7_odds 194 = .ok (.iload 6, 2) := by decide +kernel
theorem dX7_odds_196 : decode cX7_odds 196 = .ok (.idiv, 1) := by decide +kernel
theorem dX7_odds_197 : decode cX7_odds 197 = .ok (.goto 8, 3) := by decide +kernel
theorem dX7_odds_170 : decode cX7_odds 170 = .ok (.iload 6, 2) := by decide +kernel
theorem dX7_odds_172 : decode cX7_odds 172 = .ok (.iload 7, 2) := by decide +kernel
theorem dX7_odds_174 : decode cX7_odds 174 = .ok (.irem, 1) := by decide +kernel
theorem dX7_odds_175 : decode cX7_odds 175 = .ok (.istore 8, 2) := by decide +kernel
theorem dX7_odds_177 : decode cX7_odds 177 = .ok (.iload 7, 2) := by decide +kernel
theorem dX7_odds_179 : decode cX7_odds 179 = .ok (.istore 6, 2) := by decide +kernel
theorem dX7_odds_181 : decode cX7_odds 181 = .ok (.iload 8, 2) := by decide +kernel
theorem dX7_odds_183 : decode cX7_odds 183 = .ok (.istore 7, 2) := by decide +kernel
theorem dX7_odds_185 : decode cX7_odds 185 = .ok (.goto (-20), 3) := by decide +kernel
theorem dX7_odds_78 : decode cX7_odds 78 = .ok (.iconst 1, 1) := by decide +kernel
theorem dX7_odds_79 : decode cX7_odds 79 = .ok (.istore 7, 2) := by decide +kernel
theorem dX7_odds_81 : decode cX7_odds 81 = .ok (.iconst 0, 1) := by decide +kernel
theorem dX7_odds_82 : decode cX7_odds 82 = .ok (.istore 8, 2) := by decide +kernel
theorem dX7_odds_84 : decode cX7_odds 84 = .ok (.iload 8, 2) := by decide +kernel
theorem dX7_odds_86 : decode cX7_odds 86 = .ok (.aload_n 0, 1) := by decide +kernel
theorem dX7_odds_87 : decode cX7_odds 87 = .ok (.getfield 13, 3) := by decide +kernel
theorem dX7_odds_90 : decode cX7_odds 90 = .ok (.iconst 0, 1) := by decide +kernel
theorem dX7_odds_91 : decode cX7_odds 91 = .ok (.iaload, 1) := by decide +kernel
theorem dX7_odds_92 : decode cX7_odds 92 = .ok (.if_icmp .ge 33, 3) := by decide +kernel
theorem dX7_odds_125 : decode cX7_odds 125 = .ok (.iload 4, 2) := by decide +kernel
theorem dX7_odds_127 : decode cX7_odds 127 = .ok (.iload 7, 2) := by decide +kernel
theorem dX7_odds_129 : decode cX7_odds 129 = .ok (.ifCond .le 18, 3) := by decide +kernel
theorem dX7_odds_147 : decode cX7_odds 147 = .ok (.iconst 0, 1) := by decide +kernel
theorem dX7_odds_148 : decode cX7_odds 148 = .ok (.iadd, 1) := by decide +kernel
theorem dX7_odds_149 : decode cX7_odds 149 = .ok (.istore 4, 2) := by decide +kernel
theorem dX7_odds_151 : decode cX7_odds 151 = .ok (.iinc 6 1, 3) := by decide +kernel
theorem dX7_odds_154 : decode cX7_odds 154 = .ok (.goto (-89), 3) := by decide +kernel
theorem dX7_odds_132 : decode cX7_odds 132 = .ok (.aload_n 0, 1) := by decide +kernel
theorem dX7_odds_133 : decode cX7_odds 133 = .ok (.iload_n 1, 1) := by decide +kernel
theorem dX7_odds_134 : decode cX7_odds 134 = .ok (.iload 6, 2) := by decide +kernel
theorem dX7_odds_136 : decode cX7_odds 136 = .ok (.invokevirtual 176, 3) := by decide +kernel
set_option maxRecDepth 20000 in
theorem ggX7_odds_X7_canWorld : GoodIn wsX7_odds wsX7_canWorld := gd_ids wi_X7_odds wm_X7_odds wi_X7_canWorld (by decide +kernel)
set_option maxRecDepth 20000 in
theorem gX7_odds_X7_canWorld : GoodIn wsX7_odds (wsV RX7 176 RX7 yX7_canWorld wsX7_canWorld) := goodIn_app (gd_ids wi_X7_odds wm_X7_odds (b := [581, 582, 583, 481]) rfl (by decide +kernel)) ggX7_odds_X7_canWorld
theorem dX7_odds_139 : decode cX7_odds 139 = .ok (.ifCond .eq 8, 3) := by decide +kernel
theorem dX7_odds_142 : decode cX7_odds 142 = .ok (.iload 7, 2) := by decide +kernel
theorem dX7_odds_144 : decode cX7_odds 144 = .ok (.goto 4, 3) := by decide +kernel
theorem dX7_odds_95 : decode cX7_odds 95 = .ok (.iload 7, 2) := by decide +kernel
theorem dX7_odds_97 : decode cX7_odds 97 = .ok (.iload 6, 2) := by decide +kernel
theorem dX7_odds_99 : decode cX7_odds 99 = .ok (.iload 8, 2) := by decide +kernel
theorem dX7_odds_101 : decode cX7_odds 101 = .ok (.ishr, 1) := by decide +kernel
theorem dX7_odds_102 : decode cX7_odds 102 = .ok (.iconst 1, 1) := by decide +kernel
theorem dX7_odds_103 : decode cX7_odds 103 = .ok (.iand, 1) := by decide +kernel
theorem dX7_odds_104 : decode cX7_odds 104 = .ok (.iconst 1, 1) := by decide +kernel
theorem dX7_odds_105 : decode cX7_odds 105 = .ok (.if_icmp .ne 7, 3) := by decide +kernel
theorem dX7_odds_112 : decode cX7_odds 112 = .ok (.bipush 10, 2) := by decide +kernel
theorem dX7_odds_114 : decode cX7_odds 114 = .ok (.iload_n 2, 1) := by decide +kernel
theorem dX7_odds_115 : decode cX7_odds 115 = .ok (.isub, 1) := by decide +kernel
theorem dX7_odds_116 : decode cX7_odds 116 = .ok (.imul, 1) := by decide +kernel
theorem dX7_odds_117 : decode cX7_odds 117 = .ok (.istore 7, 2) := by decide +kernel
theorem dX7_odds_119 : decode cX7_odds 119 = .ok (.iinc 8 1, 3) := by decide +kernel
theorem dX7_odds_122 : decode cX7_odds 122 = .ok (.goto (-38), 3) := by decide +kernel
theorem dX7_odds_108 : decode cX7_odds 108 = .ok (.iload_n 2, 1) := by decide +kernel
theorem dX7_odds_109 : decode cX7_odds 109 = .ok (.goto 7, 3) := by decide +kernel
theorem dX7_odds_49 : decode cX7_odds 49 = .ok (.iload 5, 2) := by decide +kernel
theorem dX7_odds_51 : decode cX7_odds 51 = .ok (.bipush 10, 2) := by decide +kernel
theorem dX7_odds_53 : decode cX7_odds 53 = .ok (.imul, 1) := by decide +kernel
theorem dX7_odds_54 : decode cX7_odds 54 = .ok (.istore 5, 2) := by decide +kernel
theorem dX7_odds_56 : decode cX7_odds 56 = .ok (.iinc 6 1, 3) := by decide +kernel
theorem dX7_odds_59 : decode cX7_odds 59 = .ok (.goto (-21), 3) := by decide +kernel
theorem dX7_odds_27 : decode cX7_odds 27 = .ok (.iconst (-1), 1) := by decide +kernel
theorem dX7_odds_28 : decode cX7_odds 28 = .ok (.ireturn, 1) := by decide +kernel
