set_option maxRecDepth 20000 in
theorem dAX7_mark : decA cX7_mark [(0, .iload_n 1, 1), (1, .iconst 0, 1), (2, .iconst 5, 1), (3, .invokestatic 78, 3), (6, .ifCond .eq 11, 3), (9, .aload_n 0, 1), (10, .iload_n 2, 1), (11, .invokevirtual 142, 3), (14, .ifCond .ne 6, 3), (17, .ldc 207, 2), (19, .ireturn, 1), (20, .aload_n 0, 1), (21, .getfield 20, 3), (24, .iload_n 2, 1), (25, .iaload, 1), (26, .aload_n 0, 1), (27, .iload_n 2, 1), (28, .invokevirtual 138, 3), (31, .iadd, 1), (32, .istore_n 3, 1), (33, .aload_n 0, 1), (34, .getfield 20, 3), (37, .iload_n 2, 1), (38, .iaload, 1), (39, .aload_n 0, 1), (40, .getfield 17, 3), (43, .iload_n 2, 1), (44, .iaload, 1), (45, .isub, 1), (46, .istore 4, 2), (48, .iload_n 1, 1), (49, .tableswitch 122 0 4 #[35, 52, 66, 81, 97], 35), (84, .aload_n 0, 1), (85, .dup, 1), (86, .getfield 208, 3), (89, .lconst 1, 1), (90, .ladd, 1), (91, .putfield 208, 3), (94, .aload_n 0, 1), (95, .getfield 20, 3), (98, .iload_n 2, 1), (99, .iaload, 1), (100, .ireturn, 1), (101, .aload_n 0, 1), (102, .dup, 1), (103, .getfield 208, 3), (106, .ldc2_w 212, 3), (109, .ladd, 1), (110, .putfield 208, 3), (113, .iload_n 3, 1), (114, .ireturn, 1), (115, .aload_n 0, 1), (116, .dup, 1), (117, .getfield 208, 3), (120, .ldc2_w 214, 3), (123, .ladd, 1), (124, .putfield 208, 3), (127, .iload 4, 2), (129, .ireturn, 1), (130, .aload_n 0, 1), (131, .dup, 1), (132, .getfield 208, 3), (135, .ldc2_w 216, 3), (138, .ladd, 1), (139, .putfield 208, 3), (142, .iconst 2, 1), (143, .iload_n 3, 1), (144, .imul, 1), (145, .ireturn, 1), (146, .aload_n 0, 1), (147, .dup, 1), (148, .getfield 208, 3), (151, .ldc2_w 218, 3), (154, .ladd, 1), (155, .putfield 208, 3), (158, .iload 4, 2), (160, .aload_n 0, 1), (161, .iload_n 2, 1), (162, .iconst 2, 1), (163, .invokevirtual 220, 3), (166, .invokestatic 195, 3), (169, .iadd, 1), (170, .ireturn, 1), (171, .aload_n 0, 1), (172, .dup, 1), (173, .getfield 208, 3), (176, .ldc2_w 223, 3), (179, .ladd, 1), (180, .putfield 208, 3), (183, .aload_n 0, 1), (184, .getfield 20, 3), (187, .iload_n 2, 1), (188, .iaload, 1), (189, .aload_n 0, 1), (190, .getfield 47, 3), (193, .bipush 35, 2), (195, .iaload, 1), (196, .invokestatic 195, 3), (199, .iadd, 1), (200, .ireturn, 1)] = true := by decide +kernel
theorem dX7_mark_0 : decode cX7_mark 0 = .ok (.iload_n 1, 1) := decA_get dAX7_mark 0 rfl
theorem dX7_mark_1 : decode cX7_mark 1 = .ok (.iconst 0, 1) := decA_get dAX7_mark 1 rfl
theorem dX7_mark_2 : decode cX7_mark 2 = .ok (.iconst 5, 1) := decA_get dAX7_mark 2 rfl
theorem dX7_mark_3 : decode cX7_mark 3 = .ok (.invokestatic 78, 3) := decA_get dAX7_mark 3 rfl
set_option maxRecDepth 20000 in
theorem ggX7_mark_X7_in : GoodIn wsX7_mark wsX7_in := gd_ids wi_X7_mark wm_X7_mark wi_X7_in (by decide +kernel)
theorem dX7_mark_6 : decode cX7_mark 6 = .ok (.ifCond .eq 11, 3) := decA_get dAX7_mark 4 rfl
theorem dX7_mark_9 : decode cX7_mark 9 = .ok (.aload_n 0, 1) := decA_get dAX7_mark 5 rfl
theorem dX7_mark_10 : decode cX7_mark 10 = .ok (.iload_n 2, 1) := decA_get dAX7_mark 6 rfl
theorem dX7_mark_11 : decode cX7_mark 11 = .ok (.invokevirtual 142, 3) := decA_get dAX7_mark 7 rfl
set_option maxRecDepth 20000 in
theorem ggX7_mark_X7_isCoin : GoodIn wsX7_mark wsX7_isCoin := gd_ids wi_X7_mark wm_X7_mark wi_X7_isCoin (by decide +kernel)
set_option maxRecDepth 20000 in
theorem gX7_mark_X7_isCoin : GoodIn wsX7_mark (wsV RX7 142 RX7 yX7_isCoin wsX7_isCoin) := goodIn_app (gd_ids wi_X7_mark wm_X7_mark (b := [542, 543, 544, 481]) rfl (by decide +kernel)) ggX7_mark_X7_isCoin
theorem dX7_mark_14 : decode cX7_mark 14 = .ok (.ifCond .ne 6, 3) := decA_get dAX7_mark 8 rfl
theorem dX7_mark_20 : decode cX7_mark 20 = .ok (.aload_n 0, 1) := decA_get dAX7_mark 11 rfl
theorem dX7_mark_21 : decode cX7_mark 21 = .ok (.getfield 20, 3) := decA_get dAX7_mark 12 rfl
theorem in_X7_mark_7 : ∀ w ∈ wsX70, w ∈ wsX7_mark := fun w h => (gd_ids wi_X7_mark wm_X7_mark wi_X70 (by decide +kernel) w h).1
theorem dX7_mark_24 : decode cX7_mark 24 = .ok (.iload_n 2, 1) := decA_get dAX7_mark 13 rfl
theorem dX7_mark_25 : decode cX7_mark 25 = .ok (.iaload, 1) := decA_get dAX7_mark 14 rfl
theorem dX7_mark_26 : decode cX7_mark 26 = .ok (.aload_n 0, 1) := decA_get dAX7_mark 15 rfl
theorem dX7_mark_27 : decode cX7_mark 27 = .ok (.iload_n 2, 1) := decA_get dAX7_mark 16 rfl
theorem dX7_mark_28 : decode cX7_mark 28 = .ok (.invokevirtual 138, 3) := decA_get dAX7_mark 17 rfl
set_option maxRecDepth 20000 in
theorem ggX7_mark_X7_allOf : GoodIn wsX7_mark wsX7_allOf := gd_ids wi_X7_mark wm_X7_mark wi_X7_allOf (by decide +kernel)
set_option maxRecDepth 20000 in
theorem gX7_mark_X7_allOf : GoodIn wsX7_mark (wsV RX7 138 RX7 yX7_allOf wsX7_allOf) := goodIn_app (gd_ids wi_X7_mark wm_X7_mark (b := [538, 539, 540, 481]) rfl (by decide +kernel)) ggX7_mark_X7_allOf
theorem dX7_mark_31 : decode cX7_mark 31 = .ok (.iadd, 1) := decA_get dAX7_mark 18 rfl
theorem dX7_mark_32 : decode cX7_mark 32 = .ok (.istore_n 3, 1) := decA_get dAX7_mark 19 rfl
theorem dX7_mark_33 : decode cX7_mark 33 = .ok (.aload_n 0, 1) := decA_get dAX7_mark 20 rfl
theorem dX7_mark_34 : decode cX7_mark 34 = .ok (.getfield 20, 3) := decA_get dAX7_mark 21 rfl
theorem dX7_mark_37 : decode cX7_mark 37 = .ok (.iload_n 2, 1) := decA_get dAX7_mark 22 rfl
theorem dX7_mark_38 : decode cX7_mark 38 = .ok (.iaload, 1) := decA_get dAX7_mark 23 rfl
theorem dX7_mark_39 : decode cX7_mark 39 = .ok (.aload_n 0, 1) := decA_get dAX7_mark 24 rfl
theorem dX7_mark_40 : decode cX7_mark 40 = .ok (.getfield 17, 3) := decA_get dAX7_mark 25 rfl
theorem dX7_mark_43 : decode cX7_mark 43 = .ok (.iload_n 2, 1) := decA_get dAX7_mark 26 rfl
theorem dX7_mark_44 : decode cX7_mark 44 = .ok (.iaload, 1) := decA_get dAX7_mark 27 rfl
theorem dX7_mark_45 : decode cX7_mark 45 = .ok (.isub, 1) := decA_get dAX7_mark 28 rfl
theorem dX7_mark_46 : decode cX7_mark 46 = .ok (.istore 4, 2) := decA_get dAX7_mark 29 rfl
theorem dX7_mark_48 : decode cX7_mark 48 = .ok (.iload_n 1, 1) := decA_get dAX7_mark 30 rfl
theorem dX7_mark_49 : decode cX7_mark 49 = .ok (.tableswitch 122 0 4 #[35, 52, 66, 81, 97], 35) := decA_get dAX7_mark 31 rfl
theorem dX7_mark_84 : decode cX7_mark 84 = .ok (.aload_n 0, 1) := decA_get dAX7_mark 32 rfl
theorem dX7_mark_85 : decode cX7_mark 85 = .ok (.dup, 1) := decA_get dAX7_mark 33 rfl
theorem dX7_mark_86 : decode cX7_mark 86 = .ok (.getfield 208, 3) := decA_get dAX7_mark 34 rfl
theorem dX7_mark_89 : decode cX7_mark 89 = .ok (.lconst 1, 1) := decA_get dAX7_mark 35 rfl
theorem dX7_mark_90 : decode cX7_mark 90 = .ok (.ladd, 1) := decA_get dAX7_mark 36 rfl
theorem dX7_mark_91 : decode cX7_mark 91 = .ok (.putfield 208, 3) := decA_get dAX7_mark 37 rfl
theorem dX7_mark_94 : decode cX7_mark 94 = .ok (.aload_n 0, 1) := decA_get dAX7_mark 38 rfl
theorem dX7_mark_95 : decode cX7_mark 95 = .ok (.getfield 20, 3) := decA_get dAX7_mark 39 rfl
theorem dX7_mark_98 : decode cX7_mark 98 = .ok (.iload_n 2, 1) := decA_get dAX7_mark 40 rfl
theorem dX7_mark_99 : decode cX7_mark 99 = .ok (.iaload, 1) := decA_get dAX7_mark 41 rfl
theorem dX7_mark_100 : decode cX7_mark 100 = .ok (.ireturn, 1) := decA_get dAX7_mark 42 rfl
theorem dX7_mark_101 : decode cX7_mark 101 = .ok (.aload_n 0, 1) := decA_get dAX7_mark 43 rfl
theorem dX7_mark_102 : decode cX7_mark 102 = .ok (.dup, 1) := decA_get dAX7_mark 44 rfl
theorem dX7_mark_103 : decode cX7_mark 103 = .ok (.getfield 208, 3) := decA_get dAX7_mark 45 rfl
theorem dX7_mark_106 : decode cX7_mark 106 = .ok (.ldc2_w 212, 3) := decA_get dAX7_mark 46 rfl
theorem dX7_mark_109 : decode cX7_mark 109 = .ok (.ladd, 1) := decA_get dAX7_mark 47 rfl
theorem dX7_mark_110 : decode cX7_mark 110 = .ok (.putfield 208, 3) := decA_get dAX7_mark 48 rfl
theorem dX7_mark_113 : decode cX7_mark 113 = .ok (.iload_n 3, 1) := decA_get dAX7_mark 49 rfl
theorem dX7_mark_114 : decode cX7_mark 114 = .ok (.ireturn, 1) := decA_get dAX7_mark 50 rfl
theorem dX7_mark_115 : decode cX7_mark 115 = .ok (.aload_n 0, 1) := decA_get dAX7_mark 51 rfl
theorem dX7_mark_116 : decode cX7_mark 116 = .ok (.dup, 1) := decA_get dAX7_mark 52 rfl
theorem dX7_mark_117 : decode cX7_mark 117 = .ok (.getfield 208, 3) := decA_get dAX7_mark 53 rfl
theorem dX7_mark_120 : decode cX7_mark 120 = .ok (.ldc2_w 214, 3) := decA_get dAX7_mark 54 rfl
theorem dX7_mark_123 : decode cX7_mark 123 = .ok (.ladd, 1) := decA_get dAX7_mark 55 rfl
theorem dX7_mark_124 : decode cX7_mark 124 = .ok (.putfield 208, 3) := decA_get dAX7_mark 56 rfl
theorem dX7_mark_127 : decode cX7_mark 127 = .ok (.iload 4, 2) := decA_get dAX7_mark 57 rfl
theorem dX7_mark_129 : decode cX7_mark 129 = .ok (.ireturn, 1) := decA_get dAX7_mark 58 rfl
theorem dX7_mark_130 : decode cX7_mark 130 = .ok (.aload_n 0, 1) := decA_get dAX7_mark 59 rfl
theorem dX7_mark_131 : decode cX7_mark 131 = .ok (.dup, 1) := decA_get dAX7_mark 60 rfl
theorem dX7_mark_132 : decode cX7_mark 132 = .ok (.getfield 208, 3) := decA_get dAX7_mark 61 rfl
theorem dX7_mark_135 : decode cX7_mark 135 = .ok (.ldc2_w 216, 3) := decA_get dAX7_mark 62 rfl
theorem dX7_mark_138 : decode cX7_mark 138 = .ok (.ladd, 1) := decA_get dAX7_mark 63 rfl
theorem dX7_mark_139 : decode cX7_mark 139 = .ok (.putfield 208, 3) := decA_get dAX7_mark 64 rfl
theorem dX7_mark_142 : decode cX7_mark 142 = .ok (.iconst 2, 1) := decA_get dAX7_mark 65 rfl
theorem dX7_mark_143 : decode cX7_mark 143 = .ok (.iload_n 3, 1) := decA_get dAX7_mark 66 rfl
theorem dX7_mark_144 : decode cX7_mark 144 = .ok (.imul, 1) := decA_get dAX7_mark 67 rfl
theorem dX7_mark_145 : decode cX7_mark 145 = .ok (.ireturn, 1) := decA_get dAX7_mark 68 rfl
theorem dX7_mark_146 : decode cX7_mark 146 = .ok (.aload_n 0, 1) := decA_get dAX7_mark 69 rfl
theorem dX7_mark_147 : decode cX7_mark 147 = .ok (.dup, 1) := decA_get dAX7_mark 70 rfl
theorem dX7_mark_148 : decode cX7_mark 148 = .ok (.getfield 208, 3) := decA_get dAX7_mark 71 rfl
theorem dX7_mark_151 : decode cX7_mark 151 = .ok (.ldc2_w 218, 3) := decA_get dAX7_mark 72 rfl
theorem dX7_mark_154 : decode cX7_mark 154 = .ok (.ladd, 1) := decA_get dAX7_mark 73 rfl
theorem dX7_mark_155 : decode cX7_mark 155 = .ok (.putfield 208, 3) := decA_get dAX7_mark 74 rfl
theorem dX7_mark_158 : decode cX7_mark 158 = .ok (.iload 4, 2) := decA_get dAX7_mark 75 rfl
theorem dX7_mark_160 : decode cX7_mark 160 = .ok (.aload_n 0, 1) := decA_get dAX7_mark 76 rfl
theorem dX7_mark_161 : decode cX7_mark 161 = .ok (.iload_n 2, 1) := decA_get dAX7_mark 77 rfl
theorem dX7_mark_162 : decode cX7_mark 162 = .ok (.iconst 2, 1) := decA_get dAX7_mark 78 rfl
theorem dX7_mark_163 : decode cX7_mark 163 = .ok (.invokevirtual 220, 3) := decA_get dAX7_mark 79 rfl
set_option maxRecDepth 20000 in
theorem ggX7_mark_X7_coin : GoodIn wsX7_mark wsX7_coin := gd_ids wi_X7_mark wm_X7_mark wi_X7_coin (by decide +kernel)
set_option maxRecDepth 20000 in
theorem gX7_mark_X7_coin : GoodIn wsX7_mark (wsV RX7 220 RX7 yX7_coin wsX7_coin) := goodIn_app (gd_ids wi_X7_mark wm_X7_mark (b := [639, 640, 641, 481]) rfl (by decide +kernel)) ggX7_mark_X7_coin
theorem dX7_mark_166 : decode cX7_mark 166 = .ok (.invokestatic 195, 3) := decA_get dAX7_mark 80 rfl
set_option maxRecDepth 20000 in
theorem ggX7_mark_X7_manyOf : GoodIn wsX7_mark wsX7_manyOf := gd_ids wi_X7_mark wm_X7_mark wi_X7_manyOf (by decide +kernel)
theorem dX7_mark_169 : decode cX7_mark 169 = .ok (.iadd, 1) := decA_get dAX7_mark 81 rfl
theorem dX7_mark_170 : decode cX7_mark 170 = .ok (.ireturn, 1) := decA_get dAX7_mark 82 rfl
theorem dX7_mark_171 : decode cX7_mark 171 = .ok (.aload_n 0, 1) := decA_get dAX7_mark 83 rfl
theorem dX7_mark_172 : decode cX7_mark 172 = .ok (.dup, 1) := decA_get dAX7_mark 84 rfl
theorem dX7_mark_173 : decode cX7_mark 173 = .ok (.getfield 208, 3) := decA_get dAX7_mark 85 rfl
theorem dX7_mark_176 : decode cX7_mark 176 = .ok (.ldc2_w 223, 3) := decA_get dAX7_mark 86 rfl
theorem dX7_mark_179 : decode cX7_mark 179 = .ok (.ladd, 1) := decA_get dAX7_mark 87 rfl
theorem dX7_mark_180 : decode cX7_mark 180 = .ok (.putfield 208, 3) := decA_get dAX7_mark 88 rfl
theorem dX7_mark_183 : decode cX7_mark 183 = .ok (.aload_n 0, 1) := decA_get dAX7_mark 89 rfl
theorem dX7_mark_184 : decode cX7_mark 184 = .ok (.getfield 20, 3) := decA_get dAX7_mark 90 rfl
theorem dX7_mark_187 : decode cX7_mark 187 = .ok (.iload_n 2, 1) := decA_get dAX7_mark 91 rfl
theorem dX7_mark_188 : decode cX7_mark 188 = .ok (.iaload, 1) := decA_get dAX7_mark 92 rfl
theorem dX7_mark_189 : decode cX7_mark 189 = .ok (.aload_n 0, 1) := decA_get dAX7_mark 93 rfl
theorem dX7_mark_190 : decode cX7_mark 190 = .ok (.getfield 47, 3) := decA_get dAX7_mark 94 rfl
theorem dX7_mark_193 : decode cX7_mark 193 = .ok (.bipush 35, 2) := decA_get dAX7_mark 95 rfl
theorem dX7_mark_195 : decode cX7_mark 195 = .ok (.iaload, 1) := decA_get dAX7_mark 96 rfl
theorem dX7_mark_196 : decode cX7_mark 196 = .ok (.invokestatic 195, 3) := decA_get dAX7_mark 97 rfl
theorem dX7_mark_199 : decode cX7_mark 199 = .ok (.iadd, 1) := decA_get dAX7_mark 98 rfl
theorem dX7_mark_200 : decode cX7_mark 200 = .ok (.ireturn, 1) := decA_get dAX7_mark 99 rfl
theorem dX7_mark_17 : decode cX7_mark 17 = .ok (.ldc 207, 2) := decA_get dAX7_mark 9 rfl
theorem dX7_mark_19 : decode cX7_mark 19 = .ok (.ireturn, 1) := decA_get dAX7_mark 10 rfl
set_option maxRecDepth 20000 in
theorem dAX7_keep : decA cX7_keep [(0, .iload_n 1, 1), (1, .iconst 0, 1), (2, .iconst 1, 1), (3, .invokestatic 78, 3), (6, .ifCond .ne 5, 3), (9, .iconst (-1), 1), (10, .ireturn, 1), (11, .iconst 0, 1), (12, .istore_n 2, 1), (13, .iload_n 2, 1), (14, .sipush 397, 3), (17, .if_icmp .ge 29, 3), (20, .aload_n 0, 1), (21, .getfield 47, 3), (24, .sipush 397, 3), (27, .iconst 1, 1), (28, .iload_n 1, 1), (29, .iadd, 1), (30, .imul, 1), (31, .iload_n 2, 1), (32, .iadd, 1), (33, .aload_n 0, 1), (34, .getfield 47, 3), (37, .iload_n 2, 1), (38, .iaload, 1), (39, .iastore, 1), (40, .iinc 2 1, 3), (43, .goto (-30), 3), (46, .aload_n 0, 1), (47, .getfield 50, 3), (50, .iload_n 1, 1), (51, .iconst 1, 1), (52, .bastore, 1), (53, .aload_n 0, 1), (54, .getfield 47, 3), (57, .bipush 35, 2), (59, .iaload, 1), (60, .invokestatic 195, 3), (63, .ireturn, 1)] = true := by decide +kernel
theorem dX7_keep_0 : decode cX7_keep 0 = .ok (.iload_n 1, 1) := decA_get dAX7_keep 0 rfl
theorem dX7_keep_1 : decode cX7_keep 1 = .ok (.iconst 0, 1) := decA_get dAX7_keep 1 rfl
theorem dX7_keep_2 : decode cX7_keep 2 = .ok (.iconst 1, 1) := decA_get dAX7_keep 2 rfl
theorem dX7_keep_3 : decode cX7_keep 3 = .ok (.invokestatic 78, 3) := decA_get dAX7_keep 3 rfl
set_option maxRecDepth 20000 in
theorem ggX7_keep_X7_in : GoodIn wsX7_keep wsX7_in := gd_ids wi_X7_keep wm_X7_keep wi_X7_in (by decide +kernel)
theorem dX7_keep_6 : decode cX7_keep 6 = .ok (.ifCond .ne 5, 3) := decA_get dAX7_keep 4 rfl
theorem dX7_keep_11 : decode cX7_keep 11 = .ok (.iconst 0, 1) := decA_get dAX7_keep 7 rfl
theorem dX7_keep_12 : decode cX7_keep 12 = .ok (.istore_n 2, 1) := decA_get dAX7_keep 8 rfl
theorem dX7_keep_13 : decode cX7_keep 13 = .ok (.iload_n 2, 1) := decA_get dAX7_keep 9 rfl
theorem dX7_keep_14 : decode cX7_keep 14 = .ok (.sipush 397, 3) := decA_get dAX7_keep 10 rfl
theorem dX7_keep_17 : decode cX7_keep 17 = .ok (.if_icmp .ge 29, 3) := decA_get dAX7_keep 11 rfl
theorem dX7_keep_46 : decode cX7_keep 46 = .ok (.aload_n 0, 1) := decA_get dAX7_keep 28 rfl
theorem dX7_keep_47 : decode cX7_keep 47 = .ok (.getfield 50, 3) := decA_get dAX7_keep 29 rfl
theorem in_X7_keep_7 : ∀ w ∈ wsX70, w ∈ wsX7_keep := fun w h => (gd_ids wi_X7_keep wm_X7_keep wi_X70 (by decide +kernel) w h).1
theorem dX7_keep_50 : decode cX7_keep 50 = .ok (.iload_n 1, 1) := decA_get dAX7_keep 30 rfl
theorem dX7_keep_51 : decode cX7_keep 51 = .ok (.iconst 1, 1) := decA_get dAX7_keep 31 rfl
theorem dX7_keep_52 : decode cX7_keep 52 = .ok (.bastore, 1) := decA_get dAX7_keep 32 rfl
theorem dX7_keep_53 : decode cX7_keep 53 = .ok (.aload_n 0, 1) := decA_get dAX7_keep 33 rfl
theorem dX7_keep_54 : decode cX7_keep 54 = .ok (.getfield 47, 3) := decA_get dAX7_keep 34 rfl
theorem dX7_keep_57 : decode cX7_keep 57 = .ok (.bipush 35, 2) := decA_get dAX7_keep 35 rfl
theorem dX7_keep_59 : decode cX7_keep 59 = .ok (.iaload, 1) := decA_get dAX7_keep 36 rfl
theorem dX7_keep_60 : decode cX7_keep 60 = .ok (.invokestatic 195, 3) := decA_get dAX7_keep 37 rfl
set_option maxRecDepth 20000 in
theorem ggX7_keep_X7_manyOf : GoodIn wsX7_keep wsX7_manyOf := gd_ids wi_X7_keep wm_X7_keep wi_X7_manyOf (by decide +kernel)
theorem dX7_keep_63 : decode cX7_keep 63 = .ok (.ireturn, 1) := decA_get dAX7_keep 38 rfl
theorem dX7_keep_20 : decode cX7_keep 20 = .ok (.aload_n 0, 1) := decA_get dAX7_keep 12 rfl
theorem dX7_keep_21 : decode cX7_keep 21 = .ok (.getfield 47, 3) := decA_get dAX7_keep 13 rfl
theorem dX7_keep_24 : decode cX7_keep 24 = .ok (.sipush 397, 3) := decA_get dAX7_keep 14 rfl
theorem dX7_keep_27 : decode cX7_keep 27 = .ok (.iconst 1, 1) := decA_get dAX7_keep 15 rfl
theorem dX7_keep_28 : decode cX7_keep 28 = .ok (.iload_n 1, 1) := decA_get dAX7_keep 16 rfl
theorem dX7_keep_29 : decode cX7_keep 29 = .ok (.iadd, 1) := decA_get dAX7_keep 17 rfl
theorem dX7_keep_30 : decode cX7_keep 30 = .ok (.imul, 1) := decA_get dAX7_keep 18 rfl
theorem dX7_keep_31 : decode cX7_keep 31 = .ok (.iload_n 2, 1) := decA_get dAX7_keep 19 rfl
theorem dX7_keep_32 : decode cX7_keep 32 = .ok (.iadd, 1) := decA_get dAX7_keep 20 rfl
theorem dX7_keep_33 : decode cX7_keep 33 = .ok (.aload_n 0, 1) := decA_get dAX7_keep 21 rfl
theorem dX7_keep_34 : decode cX7_keep 34 = .ok (.getfield 47, 3) := decA_get dAX7_keep 22 rfl
theorem dX7_keep_37 : decode cX7_keep 37 = .ok (.iload_n 2, 1) := decA_get dAX7_keep 23 rfl
theorem dX7_keep_38 : decode cX7_keep 38 = .ok (.iaload, 1) := decA_get dAX7_keep 24 rfl
theorem dX7_keep_39 : decode cX7_keep 39 = .ok (.iastore, 1) := decA_get dAX7_keep 25 rfl
theorem dX7_keep_40 : decode cX7_keep 40 = .ok (.iinc 2 1, 3) := decA_get dAX7_keep 26 rfl
theorem dX7_keep_43 : decode cX7_keep 43 = .ok (.goto (-30), 3) := decA_get dAX7_keep 27 rfl
theorem dX7_keep_9 : decode cX7_keep 9 = .ok (.iconst (-1), 1) := decA_get dAX7_keep 5 rfl
theorem dX7_keep_10 : decode cX7_keep 10 = .ok (.ireturn, 1) := decA_get dAX7_keep 6 rfl
set_option maxHeartbeats 4000000 in
set_option maxRecDepth 100000 in
theorem z_keep (l : Launch) (D : va_G) (cI cB cZ cN : ClassId) (Zh : Nat) (Za1 : Nat) (Za3 : Nat) (Za4 : Nat) (Za5 : Nat) (Za6 : Nat) (Za7 : Nat) (Za8 : Nat) (Za9 : Nat) (Za10 : Nat) (Za11 : Nat) (Za12 : Nat) (Za13 : Nat) (Za20 : Nat) (Za21 : Nat) (Za22 : Nat) (Za23 : Nat) (Za24 : Nat) (Za25 : Nat) (Za26 : Nat) (Za27 : Nat) (Zt : Int64) (ZS : Nat → Nat → Nat) (v_i : Int32) (hZ : ZOk ZS) : Ci (S := (Nat → Nat → Nat)) l D cI cB cZ cN yX7_keep wsX7_keep ({ frames := 1, cells := 0, slots := 0, locals := 22 } : Room) [.ref Zh, .int v_i] [(Zh, .inr (7, [.long Zt, .ref Za1, .int (nI (ZS 2 0)), .ref Za3, .ref Za4, .ref Za5, .ref Za6, .ref Za7, .ref Za8, .ref Za9, .ref Za10, .ref Za11, .ref Za12, .ref Za13, .int (nI (ZS 14 0)), .int (nI (ZS 15 0)), .int (nI (ZS 16 0)), .int (nI (ZS 17 0)), .int (nI (ZS 18 0)), .int (nI (ZS 19 0) - nI 9), .ref Za20, .ref Za21, .ref Za22, .ref Za23, .ref Za24, .ref Za25, .ref Za26, .ref Za27, .int (nI (ZS 28 0))])), (Za1, .inl (cB, 180, .inl (bF (ZS 1)))), (Za3, .inl (cI, 2, .inl (nF (ZS 3)))), (Za4, .inl (cI, 12, .inl (nF (ZS 4)))), (Za5, .inl (cI, 12, .inl (nF (ZS 5)))), (Za6, .inl (cI, 2, .inl (nF (ZS 6)))), (Za7, .inl (cI, 10, .inl (nF (ZS 7)))), (Za8, .inl (cI, 30, .inl (nF (ZS 8)))), (Za9, .inl (cI, 2, .inl (nF (ZS 9)))), (Za10, .inl (cI, 10, .inl (nF (ZS 10)))), (Za11, .inl (cI, 5, .inl (nF (ZS 11)))), (Za12, .inl (cI, 10, .inl (nF (ZS 12)))), (Za13, .inl (cI, 2, .inl (nF (ZS 13)))), (Za20, .inl (cI, 1191, .inl (nF (ZS 20)))), (Za21, .inl (cZ, 2, .inl (nF (ZS 21)))), (Za22, .inl (cI, 36, .inl (nF (ZS 22)))), (Za23, .inl (cI, 6, .inl (nF (ZS 23)))), (Za24, .inl (cI, 427, .inl (nF (ZS 24)))), (Za25, .inl (cI, 6, .inl (nF (ZS 25)))), (Za26, .inl (cI, 5, .inl (nF (ZS 26)))), (Za27, .inl (cI, 6, .inl (nF (ZS 27))))] (fun (r : Int32) (u : (Nat → Nat → Nat)) => ZP [20, 21, 22, 23, 24, 25, 26] u ZS ∧ ((¬ inN v_i 2 ∧ r = -1 ∧ u = ZS) ∨ (∃ k, k < 2 ∧ v_i = nI k ∧ r = nI (sumN (fun k => ZS 20 35 / 2 ^ k % 2) 6) ∧ u = ua (ua ZS 20 (cpN (ZS 20) (397 * (1 + k)) 397)) 21 (un (ZS 21) k 1)))) (fun u => [(Zh, .inr (7, [.long Zt, .ref Za1, .int (nI (u 2 0)), .ref Za3, .ref Za4, .ref Za5, .ref Za6, .ref Za7, .ref Za8, .ref Za9, .ref Za10, .ref Za11, .ref Za12, .ref Za13, .int (nI (u 14 0)), .int (nI (u 15 0)), .int (nI (u 16 0)), .int (nI (u 17 0)), .int (nI (u 18 0)), .int (nI (u 19 0) - nI 9), .ref Za20, .ref Za21, .ref Za22, .ref Za23, .ref Za24, .ref Za25, .ref Za26, .ref Za27, .int (nI (u 28 0))])), (Za1, .inl (cB, 180, .inl (bF (u 1)))), (Za3, .inl (cI, 2, .inl (nF (u 3)))), (Za4, .inl (cI, 12, .inl (nF (u 4)))), (Za5, .inl (cI, 12, .inl (nF (u 5)))), (Za6, .inl (cI, 2, .inl (nF (u 6)))), (Za7, .inl (cI, 10, .inl (nF (u 7)))), (Za8, .inl (cI, 30, .inl (nF (u 8)))), (Za9, .inl (cI, 2, .inl (nF (u 9)))), (Za10, .inl (cI, 10, .inl (nF (u 10)))), (Za11, .inl (cI, 5, .inl (nF (u 11)))), (Za12, .inl (cI, 10, .inl (nF (u 12)))), (Za13, .inl (cI, 2, .inl (nF (u 13)))), (Za20, .inl (cI, 1191, .inl (nF (u 20)))), (Za21, .inl (cZ, 2, .inl (nF (u 21)))), (Za22, .inl (cI, 36, .inl (nF (u 22)))), (Za23, .inl (cI, 6, .inl (nF (u 23)))), (Za24, .inl (cI, 427, .inl (nF (u 24)))), (Za25, .inl (cI, 6, .inl (nF (u 25)))), (Za26, .inl (cI, 5, .inl (nF (u 26)))), (Za27, .inl (cI, 6, .inl (nF (u 27))))]) := by
  refine bx_of (D := D) (cI := cI) (cB := cB) (cZ := cZ) (cN := cN) (y := yX7_keep) (wd := wsX7_keep) (rm := ({ frames := 1, cells := 0, slots := 0, locals := 22 } : Room)) (av := [.ref Zh, .int v_i]) (wc := [(Zh, .inr (7, [.long Zt, .ref Za1, .int (nI (ZS 2 0)), .ref Za3, .ref Za4, .ref Za5, .ref Za6, .ref Za7, .ref Za8, .ref Za9, .ref Za10, .ref Za11, .ref Za12, .ref Za13, .int (nI (ZS 14 0)), .int (nI (ZS 15 0)), .int (nI (ZS 16 0)), .int (nI (ZS 17 0)), .int (nI (ZS 18 0)), .int (nI (ZS 19 0) - nI 9), .ref Za20, .ref Za21, .ref Za22, .ref Za23, .ref Za24, .ref Za25, .ref Za26, .ref Za27, .int (nI (ZS 28 0))])), (Za1, .inl (cB, 180, .inl (bF (ZS 1)))), (Za3, .inl (cI, 2, .inl (nF (ZS 3)))), (Za4, .inl (cI, 12, .inl (nF (ZS 4)))), (Za5, .inl (cI, 12, .inl (nF (ZS 5)))), (Za6, .inl (cI, 2, .inl (nF (ZS 6)))), (Za7, .inl (cI, 10, .inl (nF (ZS 7)))), (Za8, .inl (cI, 30, .inl (nF (ZS 8)))), (Za9, .inl (cI, 2, .inl (nF (ZS 9)))), (Za10, .inl (cI, 10, .inl (nF (ZS 10)))), (Za11, .inl (cI, 5, .inl (nF (ZS 11)))), (Za12, .inl (cI, 10, .inl (nF (ZS 12)))), (Za13, .inl (cI, 2, .inl (nF (ZS 13)))), (Za20, .inl (cI, 1191, .inl (nF (ZS 20)))), (Za21, .inl (cZ, 2, .inl (nF (ZS 21)))), (Za22, .inl (cI, 36, .inl (nF (ZS 22)))), (Za23, .inl (cI, 6, .inl (nF (ZS 23)))), (Za24, .inl (cI, 427, .inl (nF (ZS 24)))), (Za25, .inl (cI, 6, .inl (nF (ZS 25)))), (Za26, .inl (cI, 5, .inl (nF (ZS 26)))), (Za27, .inl (cI, 6, .inl (nF (ZS 27))))]) (cc := cX7_keep) (maxL := 3) (ret := (some .int)) (Qc := fun _ A => va_Qi (S := (Nat → Nat → Nat)) (fun (r : Int32) (u : (Nat → Nat → Nat)) => ZP [20, 21, 22, 23, 24, 25, 26] u ZS ∧ ((¬ inN v_i 2 ∧ r = -1 ∧ u = ZS) ∨ (∃ k, k < 2 ∧ v_i = nI k ∧ r = nI (sumN (fun k => ZS 20 35 / 2 ^ k % 2) 6) ∧ u = ua (ua ZS 20 (cpN (ZS 20) (397 * (1 + k)) 397)) 21 (un (ZS 21) k 1)))) (Aft D (fun (u : (Nat → Nat → Nat)) => [(Zh, .inr (7, [.long Zt, .ref Za1, .int (nI (u 2 0)), .ref Za3, .ref Za4, .ref Za5, .ref Za6, .ref Za7, .ref Za8, .ref Za9, .ref Za10, .ref Za11, .ref Za12, .ref Za13, .int (nI (u 14 0)), .int (nI (u 15 0)), .int (nI (u 16 0)), .int (nI (u 17 0)), .int (nI (u 18 0)), .int (nI (u 19 0) - nI 9), .ref Za20, .ref Za21, .ref Za22, .ref Za23, .ref Za24, .ref Za25, .ref Za26, .ref Za27, .int (nI (u 28 0))])), (Za1, .inl (cB, 180, .inl (bF (u 1)))), (Za3, .inl (cI, 2, .inl (nF (u 3)))), (Za4, .inl (cI, 12, .inl (nF (u 4)))), (Za5, .inl (cI, 12, .inl (nF (u 5)))), (Za6, .inl (cI, 2, .inl (nF (u 6)))), (Za7, .inl (cI, 10, .inl (nF (u 7)))), (Za8, .inl (cI, 30, .inl (nF (u 8)))), (Za9, .inl (cI, 2, .inl (nF (u 9)))), (Za10, .inl (cI, 10, .inl (nF (u 10)))), (Za11, .inl (cI, 5, .inl (nF (u 11)))), (Za12, .inl (cI, 10, .inl (nF (u 12)))), (Za13, .inl (cI, 2, .inl (nF (u 13)))), (Za20, .inl (cI, 1191, .inl (nF (u 20)))), (Za21, .inl (cZ, 2, .inl (nF (u 21)))), (Za22, .inl (cI, 36, .inl (nF (u 22)))), (Za23, .inl (cI, 6, .inl (nF (u 23)))), (Za24, .inl (cI, 427, .inl (nF (u 24)))), (Za25, .inl (cI, 6, .inl (nF (u 25)))), (Za26, .inl (cI, 5, .inl (nF (u 26)))), (Za27, .inl (cI, 6, .inl (nF (u 27))))]) A) A) (by decide) rfl (Nat.le_of_ble_eq_true rfl) ?_
  intro p e s m below meth c A H locs ⟨hx, hb, hr, hml, hown, hts, hlk, hnm⟩ hK hP hD hS hA ls hl
  have hl : lv_has ls 3 [(0, .ref Zh), (1, .int v_i)] := hl
  have hown : s.vm.findClass RX7 = some m.cls := hown
  have bz6 : ZS 6 0 ≤ 5 := hZ 6 0
  have bz3 : ZS 3 0 ≤ 6 := hZ 3 0
  have bz9 : ZS 9 0 ≤ 5 := hZ 9 0
  have bz28 : ZS 28 0 ≤ 6 := hZ 28 0
  refine lv_iload_n hx hb dX7_keep_0 rfl (lv_at hl 1 rfl) ?_
  refine lv_iconst (v := nI 0) hx hb dX7_keep_1 (by decide) ?_
  refine lv_iconst (v := nI 1) hx hb dX7_keep_2 (by decide) ?_
  refine be_i0 (ru_S (As := [.int v_i, .int (nI 0), .int (nI 1)]) (rest := []) ⟨hx, hb, hml, hown, hts⟩ (g_inA l D cI cB cZ cN v_i 1 (by omega) H.size) ggX7_keep_X7_in rfl (hts (.initialized RX7) (List.mem_of_getElem? (i := 5) rfl)) (hts (.methodLink RX7 78 yX7_in) (List.mem_of_getElem? (i := 3) rfl)) (hts (.static yX7_in) (List.mem_of_getElem? (i := 4) rfl)) ⟨by decide, by decide, (show Option.map (fun d => d.parameters.length) (parseMethodDescriptor yX7_in.desc) = some 3 by decide +kernel)⟩ ⟨Nat.le_of_ble_eq_true rfl, Nat.le_of_ble_eq_true rfl⟩ hK hP hD [] (by decide) rfl hl.1 rfl (Nat.le_of_ble_eq_true rfl) dX7_keep_3 ⟨Nat.le_of_ble_eq_true rfl, Nat.le_of_ble_eq_true rfl⟩) hP hD hS hA [] rfl (fun r2 u1 H locs w3 hP hS => ?_)
  rcases w3 with ⟨rfl, hq4⟩ | ⟨rfl, hq4⟩
  · obtain ⟨k5, hq6, rfl⟩ := hq4
    refine nb_if_ne (tgt := 11) hx hb dX7_keep_6 (by decide) (by omega) (fun hq7 => ?_) (fun hq7 => absurd hq7 (by omega))
    obtain ⟨ki, hki⟩ : ∃ k, k = k5 := ⟨_, rfl⟩
    rw [← hki] at hl hq6
    refine lv_iconst (v := nI 0) hx hb dX7_keep_11 (by decide) ?_
    refine lv_istore_n (lv' := [(2, .int (nI 0)), (0, .ref Zh), (1, .int (nI ki))]) hx hb dX7_keep_12 rfl hl (by decide) rfl (fun ls hl => ?_)
    refine loopS (σ := Nat → Nat) (D := D) (A := A) (fun i1 z1 => z1 = cpN (ZS 20) (397 * (1 + ki)) i1) (fun i1 z1 => [(Zh, .inr (7, [.long Zt, .ref Za1, .int (nI (ZS 2 0)), .ref Za3, .ref Za4, .ref Za5, .ref Za6, .ref Za7, .ref Za8, .ref Za9, .ref Za10, .ref Za11, .ref Za12, .ref Za13, .int (nI (ZS 14 0)), .int (nI (ZS 15 0)), .int (nI (ZS 16 0)), .int (nI (ZS 17 0)), .int (nI (ZS 18 0)), .int (nI (ZS 19 0) - nI 9), .ref Za20, .ref Za21, .ref Za22, .ref Za23, .ref Za24, .ref Za25, .ref Za26, .ref Za27, .int (nI (ZS 28 0))])), (Za1, .inl (cB, 180, .inl (bF (ZS 1)))), (Za3, .inl (cI, 2, .inl (nF (ZS 3)))), (Za4, .inl (cI, 12, .inl (nF (ZS 4)))), (Za5, .inl (cI, 12, .inl (nF (ZS 5)))), (Za6, .inl (cI, 2, .inl (nF (ZS 6)))), (Za7, .inl (cI, 10, .inl (nF (ZS 7)))), (Za8, .inl (cI, 30, .inl (nF (ZS 8)))), (Za9, .inl (cI, 2, .inl (nF (ZS 9)))), (Za10, .inl (cI, 10, .inl (nF (ZS 10)))), (Za11, .inl (cI, 5, .inl (nF (ZS 11)))), (Za12, .inl (cI, 10, .inl (nF (ZS 12)))), (Za13, .inl (cI, 2, .inl (nF (ZS 13)))), (Za20, .inl (cI, 1191, .inl (nF (z1)))), (Za21, .inl (cZ, 2, .inl (nF (ZS 21)))), (Za22, .inl (cI, 36, .inl (nF (ZS 22)))), (Za23, .inl (cI, 6, .inl (nF (ZS 23)))), (Za24, .inl (cI, 427, .inl (nF (ZS 24)))), (Za25, .inl (cI, 6, .inl (nF (ZS 25)))), (Za26, .inl (cI, 5, .inl (nF (ZS 26)))), (Za27, .inl (cI, 6, .inl (nF (ZS 27))))]) (fun i1 z1 => [(0, .ref Zh), (1, .int (nI ki)), (2, .int (nI i1))]) 13 3 397 0 (Nat.zero_le _) ?_ ?_ (ZS 20) (cp_0 _ _).symm _ _ ls (by first | exact hP) (by first | exact hD) hS (lv_sub hl [1, 2, 0] rfl)
    · intro z1 hI1 H locs ls hP hD hS hl
      have hl : lv_has ls 3 [(0, .ref Zh), (1, .int (nI ki)), (2, .int (nI 397))] := hl
      obtain ⟨hP, hD⟩ : wPD D A [(Zh, .inr (7, [.long Zt, .ref Za1, .int (nI (ZS 2 0)), .ref Za3, .ref Za4, .ref Za5, .ref Za6, .ref Za7, .ref Za8, .ref Za9, .ref Za10, .ref Za11, .ref Za12, .ref Za13, .int (nI (ZS 14 0)), .int (nI (ZS 15 0)), .int (nI (ZS 16 0)), .int (nI (ZS 17 0)), .int (nI (ZS 18 0)), .int (nI (ZS 19 0) - nI 9), .ref Za20, .ref Za21, .ref Za22, .ref Za23, .ref Za24, .ref Za25, .ref Za26, .ref Za27, .int (nI (ZS 28 0))])), (Za1, .inl (cB, 180, .inl (bF (ZS 1)))), (Za3, .inl (cI, 2, .inl (nF (ZS 3)))), (Za4, .inl (cI, 12, .inl (nF (ZS 4)))), (Za5, .inl (cI, 12, .inl (nF (ZS 5)))), (Za6, .inl (cI, 2, .inl (nF (ZS 6)))), (Za7, .inl (cI, 10, .inl (nF (ZS 7)))), (Za8, .inl (cI, 30, .inl (nF (ZS 8)))), (Za9, .inl (cI, 2, .inl (nF (ZS 9)))), (Za10, .inl (cI, 10, .inl (nF (ZS 10)))), (Za11, .inl (cI, 5, .inl (nF (ZS 11)))), (Za12, .inl (cI, 10, .inl (nF (ZS 12)))), (Za13, .inl (cI, 2, .inl (nF (ZS 13)))), (Za20, .inl (cI, 1191, .inl (nF (z1)))), (Za21, .inl (cZ, 2, .inl (nF (ZS 21)))), (Za22, .inl (cI, 36, .inl (nF (ZS 22)))), (Za23, .inl (cI, 6, .inl (nF (ZS 23)))), (Za24, .inl (cI, 427, .inl (nF (ZS 24)))), (Za25, .inl (cI, 6, .inl (nF (ZS 25)))), (Za26, .inl (cI, 5, .inl (nF (ZS 26)))), (Za27, .inl (cI, 6, .inl (nF (ZS 27))))] H := ⟨hP, hD⟩
      refine lv_iload_n hx hb dX7_keep_13 rfl (lv_at hl 2 rfl) ?_
      refine lv_sipush (v := nI 397) hx hb dX7_keep_14 (by decide) ?_
      refine nb_icmp_ge (tgt := 46) hx hb dX7_keep_17 (by decide) (by omega) (by omega) (fun hq8 => ?_) (fun hq8 => absurd hq8 (by omega))
      refine lv_aload_n hx hb dX7_keep_46 rfl (lv_at hl 0 rfl) ?_
      refine va_get (D := D) (ci := 7) (v := .ref Za21) (C := RX7) (T := TX7) (N := 29) hx hb hts in_X7_keep_7 hown hK.1 hP 0 rfl rfl 21 (by decide) (hts (.fieldLink RX7 50 "ChildCoinsModel" "isKept" "[Z") (List.mem_of_getElem? (i := 2) rfl)) (fun _ h9 => h9) rfl dX7_keep_47 ?_
      refine lv_iload_n hx hb dX7_keep_50 rfl (lv_at hl 1 rfl) ?_
      refine lv_iconst (v := nI 1) hx hb dX7_keep_51 (by decide) ?_
      refine va_zast hx hb hK.1 hP hD hS 14 2 rfl rfl (vp_in_nI (n := ki) (N := 2) (by omega) (by decide)) dX7_keep_52 (fun H locs hP hD hS => ?_)
      obtain ⟨hP, hD⟩ : wPD D A [(Zh, .inr (7, [.long Zt, .ref Za1, .int (nI (ZS 2 0)), .ref Za3, .ref Za4, .ref Za5, .ref Za6, .ref Za7, .ref Za8, .ref Za9, .ref Za10, .ref Za11, .ref Za12, .ref Za13, .int (nI (ZS 14 0)), .int (nI (ZS 15 0)), .int (nI (ZS 16 0)), .int (nI (ZS 17 0)), .int (nI (ZS 18 0)), .int (nI (ZS 19 0) - nI 9), .ref Za20, .ref Za21, .ref Za22, .ref Za23, .ref Za24, .ref Za25, .ref Za26, .ref Za27, .int (nI (ZS 28 0))])), (Za1, .inl (cB, 180, .inl (bF (ZS 1)))), (Za3, .inl (cI, 2, .inl (nF (ZS 3)))), (Za4, .inl (cI, 12, .inl (nF (ZS 4)))), (Za5, .inl (cI, 12, .inl (nF (ZS 5)))), (Za6, .inl (cI, 2, .inl (nF (ZS 6)))), (Za7, .inl (cI, 10, .inl (nF (ZS 7)))), (Za8, .inl (cI, 30, .inl (nF (ZS 8)))), (Za9, .inl (cI, 2, .inl (nF (ZS 9)))), (Za10, .inl (cI, 10, .inl (nF (ZS 10)))), (Za11, .inl (cI, 5, .inl (nF (ZS 11)))), (Za12, .inl (cI, 10, .inl (nF (ZS 12)))), (Za13, .inl (cI, 2, .inl (nF (ZS 13)))), (Za20, .inl (cI, 1191, .inl (nF (z1)))), (Za21, .inl (cZ, 2, .inl (upd (nF (ZS 21)) (nI ki).toNatClampNeg (vp_nar .boolean (nI 1))))), (Za22, .inl (cI, 36, .inl (nF (ZS 22)))), (Za23, .inl (cI, 6, .inl (nF (ZS 23)))), (Za24, .inl (cI, 427, .inl (nF (ZS 24)))), (Za25, .inl (cI, 6, .inl (nF (ZS 25)))), (Za26, .inl (cI, 5, .inl (nF (ZS 26)))), (Za27, .inl (cI, 6, .inl (nF (ZS 27))))] H := ⟨hP, hD⟩
      rw [zF_st (by omega) (by omega)] at hP hD
      refine lv_aload_n hx hb dX7_keep_53 rfl (lv_at hl 0 rfl) ?_
      refine va_get (D := D) (ci := 7) (v := .ref Za20) (C := RX7) (T := TX7) (N := 29) hx hb hts in_X7_keep_7 hown hK.1 hP 0 rfl rfl 20 (by decide) (hts (.fieldLink RX7 47 "ChildCoinsModel" "now" "[I") (List.mem_of_getElem? (i := 1) rfl)) (fun _ h9 => h9) rfl dX7_keep_54 ?_
      refine lv_bipush (v := nI 35) hx hb dX7_keep_57 (by decide) ?_
      refine va_iald hx hb hK.1 hP 13 0 rfl rfl (vp_in_nI (n := 35) (N := 1191) (by omega) (by decide)) dX7_keep_59 ?_
      refine set_i (y := nI (z1 35)) (nF_ld (by omega)) ?_
      refine set_i (y := nI (ZS 20 35)) (congrArg nI (by rw [hI1]; exact cp_lo (by omega))) ?_
      have b9 : ZS 20 35 ≤ 31 := Nat.le_trans (hZ 20 35) (Nat.le_of_eq nbd_35)
      refine be_i0 (ru_S (As := [.int (nI (ZS 20 35))]) (rest := []) ⟨hx, hb, hml, hown, hts⟩ (z_manyOf l D cI cB cZ cN (ZS 20 35) (by omega) H.size) ggX7_keep_X7_manyOf rfl (hts (.initialized RX7) (List.mem_of_getElem? (i := 5) rfl)) (hts (.methodLink RX7 195 yX7_manyOf) (List.mem_of_getElem? (i := 7) rfl)) (hts (.static yX7_manyOf) (List.mem_of_getElem? (i := 8) rfl)) ⟨by decide, by decide, (show Option.map (fun d => d.parameters.length) (parseMethodDescriptor yX7_manyOf.desc) = some 1 by decide +kernel)⟩ ⟨Nat.le_of_ble_eq_true rfl, Nat.le_of_ble_eq_true rfl⟩ hK hP hD [] (by decide) rfl hl.1 rfl (Nat.le_of_ble_eq_true rfl) dX7_keep_60 ⟨Nat.le_of_ble_eq_true rfl, Nat.le_of_ble_eq_true rfl⟩) hP hD hS hA [] rfl (fun r11 u10 H locs w12 hP hS => ?_)
      obtain rfl : r11 = nI (sumN (fun k => ZS 20 35 / 2 ^ k % 2) 6) := w12
      have b13 := many6 (ZS 20 35)
      exact en_i hx hb hr hlk hP hD hS (ua (ua ZS 20 (z1)) 21 (un (ZS 21) ki 1)) [0, 1, 2, 3, 4, 5, 6, 7, 8, 9, 10, 11, 12, 13, 14, 15, 16, 17, 18, 19, 20] (by decide) rfl (Nat.le_of_ble_eq_true rfl) (Nat.le_of_ble_eq_true rfl) dX7_keep_63 ⟨(ZP.set (k := 21) (ZP.set (k := 20) (ZP.rf hZ) (by decide) (show ∀ j, z1 j ≤ zb 20 j by rw [hI1]; exact cq_b (hZ 20))) (by decide) (un_zb (f := zb 21) (hZ 21) (show 1 ≤ 1 by omega))), (Or.inr ⟨ki, hq6, congrArg nI hki.symm, rfl, by rw [hI1]⟩)⟩
    · intro i1 hi01 hi1 z1 hI1 ih1 H locs ls hP hD hS hl
      have hl : lv_has ls 3 [(0, .ref Zh), (1, .int (nI ki)), (2, .int (nI i1))] := hl
      obtain ⟨hP, hD⟩ : wPD D A [(Zh, .inr (7, [.long Zt, .ref Za1, .int (nI (ZS 2 0)), .ref Za3, .ref Za4, .ref Za5, .ref Za6, .ref Za7, .ref Za8, .ref Za9, .ref Za10, .ref Za11, .ref Za12, .ref Za13, .int (nI (ZS 14 0)), .int (nI (ZS 15 0)), .int (nI (ZS 16 0)), .int (nI (ZS 17 0)), .int (nI (ZS 18 0)), .int (nI (ZS 19 0) - nI 9), .ref Za20, .ref Za21, .ref Za22, .ref Za23, .ref Za24, .ref Za25, .ref Za26, .ref Za27, .int (nI (ZS 28 0))])), (Za1, .inl (cB, 180, .inl (bF (ZS 1)))), (Za3, .inl (cI, 2, .inl (nF (ZS 3)))), (Za4, .inl (cI, 12, .inl (nF (ZS 4)))), (Za5, .inl (cI, 12, .inl (nF (ZS 5)))), (Za6, .inl (cI, 2, .inl (nF (ZS 6)))), (Za7, .inl (cI, 10, .inl (nF (ZS 7)))), (Za8, .inl (cI, 30, .inl (nF (ZS 8)))), (Za9, .inl (cI, 2, .inl (nF (ZS 9)))), (Za10, .inl (cI, 10, .inl (nF (ZS 10)))), (Za11, .inl (cI, 5, .inl (nF (ZS 11)))), (Za12, .inl (cI, 10, .inl (nF (ZS 12)))), (Za13, .inl (cI, 2, .inl (nF (ZS 13)))), (Za20, .inl (cI, 1191, .inl (nF (z1)))), (Za21, .inl (cZ, 2, .inl (nF (ZS 21)))), (Za22, .inl (cI, 36, .inl (nF (ZS 22)))), (Za23, .inl (cI, 6, .inl (nF (ZS 23)))), (Za24, .inl (cI, 427, .inl (nF (ZS 24)))), (Za25, .inl (cI, 6, .inl (nF (ZS 25)))), (Za26, .inl (cI, 5, .inl (nF (ZS 26)))), (Za27, .inl (cI, 6, .inl (nF (ZS 27))))] H := ⟨hP, hD⟩
      refine lv_iload_n hx hb dX7_keep_13 rfl (lv_at hl 2 rfl) ?_
      refine lv_sipush (v := nI 397) hx hb dX7_keep_14 (by decide) ?_
      refine nb_icmp_ge (tgt := 46) hx hb dX7_keep_17 (by decide) (by omega) (by omega) (fun hq14 => absurd hq14 (by omega)) (fun hq14 => ?_)
      refine lv_aload_n hx hb dX7_keep_20 rfl (lv_at hl 0 rfl) ?_
      refine va_get (D := D) (ci := 7) (v := .ref Za20) (C := RX7) (T := TX7) (N := 29) hx hb hts in_X7_keep_7 hown hK.1 hP 0 rfl rfl 20 (by decide) (hts (.fieldLink RX7 47 "ChildCoinsModel" "now" "[I") (List.mem_of_getElem? (i := 1) rfl)) (fun _ h9 => h9) rfl dX7_keep_21 ?_
      refine lv_sipush (v := nI 397) hx hb dX7_keep_24 (by decide) ?_
      refine lv_iconst (v := nI 1) hx hb dX7_keep_27 (by decide) ?_
      refine lv_iload_n hx hb dX7_keep_28 rfl (lv_at hl 1 rfl) ?_
      refine lv_iadd hx hb dX7_keep_29 ?_
      refine set_i (y := nI (1 + ki)) (nI_add 1 ki) ?_
      refine lv_imul hx hb dX7_keep_30 ?_
      refine set_i (y := nI (397 * (1 + ki))) (pk_mul 397 (1 + ki)) ?_
      refine lv_iload_n hx hb dX7_keep_31 rfl (lv_at hl 2 rfl) ?_
      refine lv_iadd hx hb dX7_keep_32 ?_
      refine set_i (y := nI ((397 * (1 + ki)) + i1)) (nI_add (397 * (1 + ki)) i1) ?_
      refine lv_aload_n hx hb dX7_keep_33 rfl (lv_at hl 0 rfl) ?_
      refine va_get (D := D) (ci := 7) (v := .ref Za20) (C := RX7) (T := TX7) (N := 29) hx hb hts in_X7_keep_7 hown hK.1 hP 0 rfl rfl 20 (by decide) (hts (.fieldLink RX7 47 "ChildCoinsModel" "now" "[I") (List.mem_of_getElem? (i := 1) rfl)) (fun _ h9 => h9) rfl dX7_keep_34 ?_
      refine lv_iload_n hx hb dX7_keep_37 rfl (lv_at hl 2 rfl) ?_
      refine va_iald hx hb hK.1 hP 13 0 rfl rfl (vp_in_nI (n := i1) (N := 1191) (by omega) (by decide)) dX7_keep_38 ?_
      refine set_i (y := nI (z1 i1)) (nF_ld (by omega)) ?_
      have b15 : z1 i1 ≤ 99 := Nat.le_trans ((zok_set (k := 20) hZ (show ∀ j, z1 j ≤ zb 20 j by rw [hI1]; exact cq_b (hZ 20))) 20 i1) (nbd_99 i1)
      refine va_iast hx hb hK.1 hP hD hS 13 0 rfl rfl (vp_in_nI (n := (397 * (1 + ki)) + i1) (N := 1191) (by omega) (by decide)) dX7_keep_39 (fun H locs hP hD hS => ?_)
      obtain ⟨hP, hD⟩ : wPD D A [(Zh, .inr (7, [.long Zt, .ref Za1, .int (nI (ZS 2 0)), .ref Za3, .ref Za4, .ref Za5, .ref Za6, .ref Za7, .ref Za8, .ref Za9, .ref Za10, .ref Za11, .ref Za12, .ref Za13, .int (nI (ZS 14 0)), .int (nI (ZS 15 0)), .int (nI (ZS 16 0)), .int (nI (ZS 17 0)), .int (nI (ZS 18 0)), .int (nI (ZS 19 0) - nI 9), .ref Za20, .ref Za21, .ref Za22, .ref Za23, .ref Za24, .ref Za25, .ref Za26, .ref Za27, .int (nI (ZS 28 0))])), (Za1, .inl (cB, 180, .inl (bF (ZS 1)))), (Za3, .inl (cI, 2, .inl (nF (ZS 3)))), (Za4, .inl (cI, 12, .inl (nF (ZS 4)))), (Za5, .inl (cI, 12, .inl (nF (ZS 5)))), (Za6, .inl (cI, 2, .inl (nF (ZS 6)))), (Za7, .inl (cI, 10, .inl (nF (ZS 7)))), (Za8, .inl (cI, 30, .inl (nF (ZS 8)))), (Za9, .inl (cI, 2, .inl (nF (ZS 9)))), (Za10, .inl (cI, 10, .inl (nF (ZS 10)))), (Za11, .inl (cI, 5, .inl (nF (ZS 11)))), (Za12, .inl (cI, 10, .inl (nF (ZS 12)))), (Za13, .inl (cI, 2, .inl (nF (ZS 13)))), (Za20, .inl (cI, 1191, .inl (upd (nF (z1)) (nI ((397 * (1 + ki)) + i1)).toNatClampNeg (nI (z1 i1))))), (Za21, .inl (cZ, 2, .inl (nF (ZS 21)))), (Za22, .inl (cI, 36, .inl (nF (ZS 22)))), (Za23, .inl (cI, 6, .inl (nF (ZS 23)))), (Za24, .inl (cI, 427, .inl (nF (ZS 24)))), (Za25, .inl (cI, 6, .inl (nF (ZS 25)))), (Za26, .inl (cI, 5, .inl (nF (ZS 26)))), (Za27, .inl (cI, 6, .inl (nF (ZS 27))))] H := ⟨hP, hD⟩
      rw [nF_st (by omega)] at hP hD
      refine lv_iinc (v := nI (i1 + 1)) (lv' := [(2, .int (nI (i1 + 1))), (0, .ref Zh), (1, .int (nI ki))]) hx hb dX7_keep_40 hl (k := 2) rfl (nI_add i1 1) (by decide) rfl (fun ls hl => ?_)
      refine lv_goto (tgt := 13) hx hb dX7_keep_43 (by decide) ?_
      have hl : lv_has ls 3 [(0, .ref Zh), (1, .int (nI ki)), (2, .int (nI (i1 + 1)))] := lv_sub hl [1, 2, 0] rfl
      exact ih1 (un (z1) ((397 * (1 + ki)) + i1) (z1 i1)) (cq_s hI1 (by omega)) _ _ _ hP hD hS hl
  · skip
    refine nb_if_ne (tgt := 11) hx hb dX7_keep_6 (by decide) (by omega) (fun hq16 => absurd hq16 (by omega)) (fun hq16 => ?_)
    refine lv_iconst (v := -1) hx hb dX7_keep_9 (by decide) ?_
    exact en_i hx hb hr hlk hP hD hS ZS [0, 1, 2, 3, 4, 5, 6, 7, 8, 9, 10, 11, 12, 13, 14, 15, 16, 17, 18, 19, 20] (by decide) rfl (Nat.le_of_ble_eq_true rfl) (Nat.le_of_ble_eq_true rfl) dX7_keep_10 ⟨(ZP.rf hZ), (Or.inl ⟨hq4, rfl, rfl⟩)⟩
set_option maxRecDepth 20000 in
theorem dAX7_back : decA cX7_back [(0, .iload_n 1, 1), (1, .iconst 0, 1), (2, .iconst 1, 1), (3, .invokestatic 78, 3), (6, .ifCond .ne 5, 3), (9, .iconst (-1), 1), (10, .ireturn, 1), (11, .aload_n 0, 1), (12, .getfield 50, 3), (15, .iload_n 1, 1), (16, .baload, 1), (17, .ifCond .ne 6, 3), (20, .bipush (-2), 2), (22, .ireturn, 1), (23, .iconst 0, 1), (24, .istore_n 2, 1), (25, .iload_n 2, 1), (26, .sipush 397, 3), (29, .if_icmp .ge 29, 3), (32, .aload_n 0, 1), (33, .getfield 47, 3), (36, .iload_n 2, 1), (37, .aload_n 0, 1), (38, .getfield 47, 3), (41, .sipush 397, 3), (44, .iconst 1, 1), (45, .iload_n 1, 1), (46, .iadd, 1), (47, .imul, 1), (48, .iload_n 2, 1), (49, .iadd, 1), (50, .iaload, 1), (51, .iastore, 1), (52, .iinc 2 1, 3), (55, .goto (-30), 3), (58, .aload_n 0, 1), (59, .getfield 47, 3), (62, .bipush 35, 2), (64, .iaload, 1), (65, .invokestatic 195, 3), (68, .ireturn, 1)] = true := by decide +kernel
theorem dX7_back_0 : decode cX7_back 0 = .ok (.iload_n 1, 1) := decA_get dAX7_back 0 rfl
theorem dX7_back_1 : decode cX7_back 1 = .ok (.iconst 0, 1) := decA_get dAX7_back 1 rfl
theorem dX7_back_2 : decode cX7_back 2 = .ok (.iconst 1, 1) := decA_get dAX7_back 2 rfl
theorem dX7_back_3 : decode cX7_back 3 = .ok (.invokestatic 78, 3) := decA_get dAX7_back 3 rfl
set_option maxRecDepth 20000 in
theorem ggX7_back_X7_in : GoodIn wsX7_back wsX7_in := gd_ids wi_X7_back wm_X7_back wi_X7_in (by decide +kernel)
theorem dX7_back_6 : decode cX7_back 6 = .ok (.ifCond .ne 5, 3) := decA_get dAX7_back 4 rfl
theorem dX7_back_11 : decode cX7_back 11 = .ok (.aload_n 0, 1) := decA_get dAX7_back 7 rfl
theorem dX7_back_12 : decode cX7_back 12 = .ok (.getfield 50, 3) := decA_get dAX7_back 8 rfl
theorem in_X7_back_7 : ∀ w ∈ wsX70, w ∈ wsX7_back := fun w h => (gd_ids wi_X7_back wm_X7_back wi_X70 (by decide +kernel) w h).1
theorem dX7_back_15 : decode cX7_back 15 = .ok (.iload_n 1, 1) := decA_get dAX7_back 9 rfl
theorem dX7_back_16 : decode cX7_back 16 = .ok (.baload, 1) := decA_get dAX7_back 10 rfl
theorem dX7_back_17 : decode cX7_back 17 = .ok (.ifCond .ne 6, 3) := decA_get dAX7_back 11 rfl
theorem dX7_back_23 : decode cX7_back 23 = .ok (.iconst 0, 1) := decA_get dAX7_back 14 rfl
theorem dX7_back_24 : decode cX7_back 24 = .ok (.istore_n 2, 1) := decA_get dAX7_back 15 rfl
theorem dX7_back_25 : decode cX7_back 25 = .ok (.iload_n 2, 1) := decA_get dAX7_back 16 rfl
theorem dX7_back_26 : decode cX7_back 26 = .ok (.sipush 397, 3) := decA_get dAX7_back 17 rfl
theorem dX7_back_29 : decode cX7_back 29 = .ok (.if_icmp .ge 29, 3) := decA_get dAX7_back 18 rfl
theorem dX7_back_58 : decode cX7_back 58 = .ok (.aload_n 0, 1) := decA_get dAX7_back 35 rfl
theorem dX7_back_59 : decode cX7_back 59 = .ok (.getfield 47, 3) := decA_get dAX7_back 36 rfl
theorem dX7_back_62 : decode cX7_back 62 = .ok (.bipush 35, 2) := decA_get dAX7_back 37 rfl
theorem dX7_back_64 : decode cX7_back 64 = .ok (.iaload, 1) := decA_get dAX7_back 38 rfl
theorem dX7_back_65 : decode cX7_back 65 = .ok (.invokestatic 195, 3) := decA_get dAX7_back 39 rfl
set_option maxRecDepth 20000 in
theorem ggX7_back_X7_manyOf : GoodIn wsX7_back wsX7_manyOf := gd_ids wi_X7_back wm_X7_back wi_X7_manyOf (by decide +kernel)
theorem dX7_back_68 : decode cX7_back 68 = .ok (.ireturn, 1) := decA_get dAX7_back 40 rfl
theorem dX7_back_32 : decode cX7_back 32 = .ok (.aload_n 0, 1) := decA_get dAX7_back 19 rfl
theorem dX7_back_33 : decode cX7_back 33 = .ok (.getfield 47, 3) := decA_get dAX7_back 20 rfl
theorem dX7_back_36 : decode cX7_back 36 = .ok (.iload_n 2, 1) := decA_get dAX7_back 21 rfl
theorem dX7_back_37 : decode cX7_back 37 = .ok (.aload_n 0, 1) := decA_get dAX7_back 22 rfl
theorem dX7_back_38 : decode cX7_back 38 = .ok (.getfield 47, 3) := decA_get dAX7_back 23 rfl
theorem dX7_back_41 : decode cX7_back 41 = .ok (.sipush 397, 3) := decA_get dAX7_back 24 rfl
theorem dX7_back_44 : decode cX7_back 44 = .ok (.iconst 1, 1) := decA_get dAX7_back 25 rfl
theorem dX7_back_45 : decode cX7_back 45 = .ok (.iload_n 1, 1) := decA_get dAX7_back 26 rfl
theorem dX7_back_46 : decode cX7_back 46 = .ok (.iadd, 1) := decA_get dAX7_back 27 rfl
theorem dX7_back_47 : decode cX7_back 47 = .ok (.imul, 1) := decA_get dAX7_back 28 rfl
theorem dX7_back_48 : decode cX7_back 48 = .ok (.iload_n 2, 1) := decA_get dAX7_back 29 rfl
theorem dX7_back_49 : decode cX7_back 49 = .ok (.iadd, 1) := decA_get dAX7_back 30 rfl
theorem dX7_back_50 : decode cX7_back 50 = .ok (.iaload, 1) := decA_get dAX7_back 31 rfl
theorem dX7_back_51 : decode cX7_back 51 = .ok (.iastore, 1) := decA_get dAX7_back 32 rfl
theorem dX7_back_52 : decode cX7_back 52 = .ok (.iinc 2 1, 3) := decA_get dAX7_back 33 rfl
theorem dX7_back_55 : decode cX7_back 55 = .ok (.goto (-30), 3) := decA_get dAX7_back 34 rfl
theorem dX7_back_20 : decode cX7_back 20 = .ok (.bipush (-2), 2) := decA_get dAX7_back 12 rfl
theorem dX7_back_22 : decode cX7_back 22 = .ok (.ireturn, 1) := decA_get dAX7_back 13 rfl
theorem dX7_back_9 : decode cX7_back 9 = .ok (.iconst (-1), 1) := decA_get dAX7_back 5 rfl
theorem dX7_back_10 : decode cX7_back 10 = .ok (.ireturn, 1) := decA_get dAX7_back 6 rfl
set_option maxHeartbeats 4000000 in
set_option maxRecDepth 100000 in
theorem z_back (l : Launch) (D : va_G) (cI cB cZ cN : ClassId) (Zh : Nat) (Za1 : Nat) (Za3 : Nat) (Za4 : Nat) (Za5 : Nat) (Za6 : Nat) (Za7 : Nat) (Za8 : Nat) (Za9 : Nat) (Za10 : Nat) (Za11 : Nat) (Za12 : Nat) (Za13 : Nat) (Za20 : Nat) (Za21 : Nat) (Za22 : Nat) (Za23 : Nat) (Za24 : Nat) (Za25 : Nat) (Za26 : Nat) (Za27 : Nat) (Zt : Int64) (ZS : Nat → Nat → Nat) (v_i : Int32) (hZ : ZOk ZS) : Ci (S := (Nat → Nat → Nat)) l D cI cB cZ cN yX7_back wsX7_back ({ frames := 1, cells := 0, slots := 0, locals := 22 } : Room) [.ref Zh, .int v_i] [(Zh, .inr (7, [.long Zt, .ref Za1, .int (nI (ZS 2 0)), .ref Za3, .ref Za4, .ref Za5, .ref Za6, .ref Za7, .ref Za8, .ref Za9, .ref Za10, .ref Za11, .ref Za12, .ref Za13, .int (nI (ZS 14 0)), .int (nI (ZS 15 0)), .int (nI (ZS 16 0)), .int (nI (ZS 17 0)), .int (nI (ZS 18 0)), .int (nI (ZS 19 0) - nI 9), .ref Za20, .ref Za21, .ref Za22, .ref Za23, .ref Za24, .ref Za25, .ref Za26, .ref Za27, .int (nI (ZS 28 0))])), (Za1, .inl (cB, 180, .inl (bF (ZS 1)))), (Za3, .inl (cI, 2, .inl (nF (ZS 3)))), (Za4, .inl (cI, 12, .inl (nF (ZS 4)))), (Za5, .inl (cI, 12, .inl (nF (ZS 5)))), (Za6, .inl (cI, 2, .inl (nF (ZS 6)))), (Za7, .inl (cI, 10, .inl (nF (ZS 7)))), (Za8, .inl (cI, 30, .inl (nF (ZS 8)))), (Za9, .inl (cI, 2, .inl (nF (ZS 9)))), (Za10, .inl (cI, 10, .inl (nF (ZS 10)))), (Za11, .inl (cI, 5, .inl (nF (ZS 11)))), (Za12, .inl (cI, 10, .inl (nF (ZS 12)))), (Za13, .inl (cI, 2, .inl (nF (ZS 13)))), (Za20, .inl (cI, 1191, .inl (nF (ZS 20)))), (Za21, .inl (cZ, 2, .inl (nF (ZS 21)))), (Za22, .inl (cI, 36, .inl (nF (ZS 22)))), (Za23, .inl (cI, 6, .inl (nF (ZS 23)))), (Za24, .inl (cI, 427, .inl (nF (ZS 24)))), (Za25, .inl (cI, 6, .inl (nF (ZS 25)))), (Za26, .inl (cI, 5, .inl (nF (ZS 26)))), (Za27, .inl (cI, 6, .inl (nF (ZS 27))))] (fun (r : Int32) (u : (Nat → Nat → Nat)) => ZP [20, 21, 22, 23, 24, 25, 26] u ZS ∧ ((¬ inN v_i 2 ∧ r = -1 ∧ u = ZS) ∨ (∃ k, k < 2 ∧ v_i = nI k ∧ ((ZS 21 k = 0 ∧ r = -2 ∧ u = ZS) ∨ (ZS 21 k ≠ 0 ∧ r = nI (sumN (fun b => ZS 20 (397 * (1 + k) + 35) / 2 ^ b % 2) 6) ∧ u = ua ZS 20 (bkN (ZS 20) (397 * (1 + k)) 397)))))) (fun u => [(Zh, .inr (7, [.long Zt, .ref Za1, .int (nI (u 2 0)), .ref Za3, .ref Za4, .ref Za5, .ref Za6, .ref Za7, .ref Za8, .ref Za9, .ref Za10, .ref Za11, .ref Za12, .ref Za13, .int (nI (u 14 0)), .int (nI (u 15 0)), .int (nI (u 16 0)), .int (nI (u 17 0)), .int (nI (u 18 0)), .int (nI (u 19 0) - nI 9), .ref Za20, .ref Za21, .ref Za22, .ref Za23, .ref Za24, .ref Za25, .ref Za26, .ref Za27, .int (nI (u 28 0))])), (Za1, .inl (cB, 180, .inl (bF (u 1)))), (Za3, .inl (cI, 2, .inl (nF (u 3)))), (Za4, .inl (cI, 12, .inl (nF (u 4)))), (Za5, .inl (cI, 12, .inl (nF (u 5)))), (Za6, .inl (cI, 2, .inl (nF (u 6)))), (Za7, .inl (cI, 10, .inl (nF (u 7)))), (Za8, .inl (cI, 30, .inl (nF (u 8)))), (Za9, .inl (cI, 2, .inl (nF (u 9)))), (Za10, .inl (cI, 10, .inl (nF (u 10)))), (Za11, .inl (cI, 5, .inl (nF (u 11)))), (Za12, .inl (cI, 10, .inl (nF (u 12)))), (Za13, .inl (cI, 2, .inl (nF (u 13)))), (Za20, .inl (cI, 1191, .inl (nF (u 20)))), (Za21, .inl (cZ, 2, .inl (nF (u 21)))), (Za22, .inl (cI, 36, .inl (nF (u 22)))), (Za23, .inl (cI, 6, .inl (nF (u 23)))), (Za24, .inl (cI, 427, .inl (nF (u 24)))), (Za25, .inl (cI, 6, .inl (nF (u 25)))), (Za26, .inl (cI, 5, .inl (nF (u 26)))), (Za27, .inl (cI, 6, .inl (nF (u 27))))]) := by
  refine bx_of (D := D) (cI := cI) (cB := cB) (cZ := cZ) (cN := cN) (y := yX7_back) (wd := wsX7_back) (rm := ({ frames := 1, cells := 0, slots := 0, locals := 22 } : Room)) (av := [.ref Zh, .int v_i]) (wc := [(Zh, .inr (7, [.long Zt, .ref Za1, .int (nI (ZS 2 0)), .ref Za3, .ref Za4, .ref Za5, .ref Za6, .ref Za7, .ref Za8, .ref Za9, .ref Za10, .ref Za11, .ref Za12, .ref Za13, .int (nI (ZS 14 0)), .int (nI (ZS 15 0)), .int (nI (ZS 16 0)), .int (nI (ZS 17 0)), .int (nI (ZS 18 0)), .int (nI (ZS 19 0) - nI 9), .ref Za20, .ref Za21, .ref Za22, .ref Za23, .ref Za24, .ref Za25, .ref Za26, .ref Za27, .int (nI (ZS 28 0))])), (Za1, .inl (cB, 180, .inl (bF (ZS 1)))), (Za3, .inl (cI, 2, .inl (nF (ZS 3)))), (Za4, .inl (cI, 12, .inl (nF (ZS 4)))), (Za5, .inl (cI, 12, .inl (nF (ZS 5)))), (Za6, .inl (cI, 2, .inl (nF (ZS 6)))), (Za7, .inl (cI, 10, .inl (nF (ZS 7)))), (Za8, .inl (cI, 30, .inl (nF (ZS 8)))), (Za9, .inl (cI, 2, .inl (nF (ZS 9)))), (Za10, .inl (cI, 10, .inl (nF (ZS 10)))), (Za11, .inl (cI, 5, .inl (nF (ZS 11)))), (Za12, .inl (cI, 10, .inl (nF (ZS 12)))), (Za13, .inl (cI, 2, .inl (nF (ZS 13)))), (Za20, .inl (cI, 1191, .inl (nF (ZS 20)))), (Za21, .inl (cZ, 2, .inl (nF (ZS 21)))), (Za22, .inl (cI, 36, .inl (nF (ZS 22)))), (Za23, .inl (cI, 6, .inl (nF (ZS 23)))), (Za24, .inl (cI, 427, .inl (nF (ZS 24)))), (Za25, .inl (cI, 6, .inl (nF (ZS 25)))), (Za26, .inl (cI, 5, .inl (nF (ZS 26)))), (Za27, .inl (cI, 6, .inl (nF (ZS 27))))]) (cc := cX7_back) (maxL := 3) (ret := (some .int)) (Qc := fun _ A => va_Qi (S := (Nat → Nat → Nat)) (fun (r : Int32) (u : (Nat → Nat → Nat)) => ZP [20, 21, 22, 23, 24, 25, 26] u ZS ∧ ((¬ inN v_i 2 ∧ r = -1 ∧ u = ZS) ∨ (∃ k, k < 2 ∧ v_i = nI k ∧ ((ZS 21 k = 0 ∧ r = -2 ∧ u = ZS) ∨ (ZS 21 k ≠ 0 ∧ r = nI (sumN (fun b => ZS 20 (397 * (1 + k) + 35) / 2 ^ b % 2) 6) ∧ u = ua ZS 20 (bkN (ZS 20) (397 * (1 + k)) 397)))))) (Aft D (fun (u : (Nat → Nat → Nat)) => [(Zh, .inr (7, [.long Zt, .ref Za1, .int (nI (u 2 0)), .ref Za3, .ref Za4, .ref Za5, .ref Za6, .ref Za7, .ref Za8, .ref Za9, .ref Za10, .ref Za11, .ref Za12, .ref Za13, .int (nI (u 14 0)), .int (nI (u 15 0)), .int (nI (u 16 0)), .int (nI (u 17 0)), .int (nI (u 18 0)), .int (nI (u 19 0) - nI 9), .ref Za20, .ref Za21, .ref Za22, .ref Za23, .ref Za24, .ref Za25, .ref Za26, .ref Za27, .int (nI (u 28 0))])), (Za1, .inl (cB, 180, .inl (bF (u 1)))), (Za3, .inl (cI, 2, .inl (nF (u 3)))), (Za4, .inl (cI, 12, .inl (nF (u 4)))), (Za5, .inl (cI, 12, .inl (nF (u 5)))), (Za6, .inl (cI, 2, .inl (nF (u 6)))), (Za7, .inl (cI, 10, .inl (nF (u 7)))), (Za8, .inl (cI, 30, .inl (nF (u 8)))), (Za9, .inl (cI, 2, .inl (nF (u 9)))), (Za10, .inl (cI, 10, .inl (nF (u 10)))), (Za11, .inl (cI, 5, .inl (nF (u 11)))), (Za12, .inl (cI, 10, .inl (nF (u 12)))), (Za13, .inl (cI, 2, .inl (nF (u 13)))), (Za20, .inl (cI, 1191, .inl (nF (u 20)))), (Za21, .inl (cZ, 2, .inl (nF (u 21)))), (Za22, .inl (cI, 36, .inl (nF (u 22)))), (Za23, .inl (cI, 6, .inl (nF (u 23)))), (Za24, .inl (cI, 427, .inl (nF (u 24)))), (Za25, .inl (cI, 6, .inl (nF (u 25)))), (Za26, .inl (cI, 5, .inl (nF (u 26)))), (Za27, .inl (cI, 6, .inl (nF (u 27))))]) A) A) (by decide) rfl (Nat.le_of_ble_eq_true rfl) ?_
  intro p e s m below meth c A H locs ⟨hx, hb, hr, hml, hown, hts, hlk, hnm⟩ hK hP hD hS hA ls hl
  have hl : lv_has ls 3 [(0, .ref Zh), (1, .int v_i)] := hl
  have hown : s.vm.findClass RX7 = some m.cls := hown
  have bz6 : ZS 6 0 ≤ 5 := hZ 6 0
  have bz3 : ZS 3 0 ≤ 6 := hZ 3 0
  have bz9 : ZS 9 0 ≤ 5 := hZ 9 0
  have bz28 : ZS 28 0 ≤ 6 := hZ 28 0
  refine lv_iload_n hx hb dX7_back_0 rfl (lv_at hl 1 rfl) ?_
  refine lv_iconst (v := nI 0) hx hb dX7_back_1 (by decide) ?_
  refine lv_iconst (v := nI 1) hx hb dX7_back_2 (by decide) ?_
  refine be_i0 (ru_S (As := [.int v_i, .int (nI 0), .int (nI 1)]) (rest := []) ⟨hx, hb, hml, hown, hts⟩ (g_inA l D cI cB cZ cN v_i 1 (by omega) H.size) ggX7_back_X7_in rfl (hts (.initialized RX7) (List.mem_of_getElem? (i := 5) rfl)) (hts (.methodLink RX7 78 yX7_in) (List.mem_of_getElem? (i := 3) rfl)) (hts (.static yX7_in) (List.mem_of_getElem? (i := 4) rfl)) ⟨by decide, by decide, (show Option.map (fun d => d.parameters.length) (parseMethodDescriptor yX7_in.desc) = some 3 by decide +kernel)⟩ ⟨Nat.le_of_ble_eq_true rfl, Nat.le_of_ble_eq_true rfl⟩ hK hP hD [] (by decide) rfl hl.1 rfl (Nat.le_of_ble_eq_true rfl) dX7_back_3 ⟨Nat.le_of_ble_eq_true rfl, Nat.le_of_ble_eq_true rfl⟩) hP hD hS hA [] rfl (fun r2 u1 H locs w3 hP hS => ?_)
  rcases w3 with ⟨rfl, hq4⟩ | ⟨rfl, hq4⟩
  · obtain ⟨k5, hq6, rfl⟩ := hq4
    refine nb_if_ne (tgt := 11) hx hb dX7_back_6 (by decide) (by omega) (fun hq7 => ?_) (fun hq7 => absurd hq7 (by omega))
    obtain ⟨ki, hki⟩ : ∃ k, k = k5 := ⟨_, rfl⟩
    rw [← hki] at hl hq6
    refine lv_aload_n hx hb dX7_back_11 rfl (lv_at hl 0 rfl) ?_
    refine va_get (D := D) (ci := 7) (v := .ref Za21) (C := RX7) (T := TX7) (N := 29) hx hb hts in_X7_back_7 hown hK.1 hP 0 rfl rfl 21 (by decide) (hts (.fieldLink RX7 50 "ChildCoinsModel" "isKept" "[Z") (List.mem_of_getElem? (i := 1) rfl)) (fun _ h9 => h9) rfl dX7_back_12 ?_
    refine lv_iload_n hx hb dX7_back_15 rfl (lv_at hl 1 rfl) ?_
    refine va_zald hx hb hK.1 hP 14 2 rfl rfl (vp_in_nI (n := ki) (N := 2) (by omega) (by decide)) dX7_back_16 ?_
    refine set_i (y := nI (ZS 21 ki)) (nF_ld (by omega)) ?_
    have b8 : ZS 21 ki ≤ 1 := hZ 21 ki
    refine nb_if_ne (tgt := 23) hx hb dX7_back_17 (by decide) (by omega) (fun hq9 => ?_) (fun hq9 => ?_)
    · skip
      refine lv_iconst (v := nI 0) hx hb dX7_back_23 (by decide) ?_
      refine lv_istore_n (lv' := [(2, .int (nI 0)), (0, .ref Zh), (1, .int (nI ki))]) hx hb dX7_back_24 rfl hl (by decide) rfl (fun ls hl => ?_)
      refine loopS (σ := Nat → Nat) (D := D) (A := A) (fun i1 z1 => z1 = bkN (ZS 20) (397 * (1 + ki)) i1) (fun i1 z1 => [(Zh, .inr (7, [.long Zt, .ref Za1, .int (nI (ZS 2 0)), .ref Za3, .ref Za4, .ref Za5, .ref Za6, .ref Za7, .ref Za8, .ref Za9, .ref Za10, .ref Za11, .ref Za12, .ref Za13, .int (nI (ZS 14 0)), .int (nI (ZS 15 0)), .int (nI (ZS 16 0)), .int (nI (ZS 17 0)), .int (nI (ZS 18 0)), .int (nI (ZS 19 0) - nI 9), .ref Za20, .ref Za21, .ref Za22, .ref Za23, .ref Za24, .ref Za25, .ref Za26, .ref Za27, .int (nI (ZS 28 0))])), (Za1, .inl (cB, 180, .inl (bF (ZS 1)))), (Za3, .inl (cI, 2, .inl (nF (ZS 3)))), (Za4, .inl (cI, 12, .inl (nF (ZS 4)))), (Za5, .inl (cI, 12, .inl (nF (ZS 5)))), (Za6, .inl (cI, 2, .inl (nF (ZS 6)))), (Za7, .inl (cI, 10, .inl (nF (ZS 7)))), (Za8, .inl (cI, 30, .inl (nF (ZS 8)))), (Za9, .inl (cI, 2, .inl (nF (ZS 9)))), (Za10, .inl (cI, 10, .inl (nF (ZS 10)))), (Za11, .inl (cI, 5, .inl (nF (ZS 11)))), (Za12, .inl (cI, 10, .inl (nF (ZS 12)))), (Za13, .inl (cI, 2, .inl (nF (ZS 13)))), (Za20, .inl (cI, 1191, .inl (nF (z1)))), (Za21, .inl (cZ, 2, .inl (nF (ZS 21)))), (Za22, .inl (cI, 36, .inl (nF (ZS 22)))), (Za23, .inl (cI, 6, .inl (nF (ZS 23)))), (Za24, .inl (cI, 427, .inl (nF (ZS 24)))), (Za25, .inl (cI, 6, .inl (nF (ZS 25)))), (Za26, .inl (cI, 5, .inl (nF (ZS 26)))), (Za27, .inl (cI, 6, .inl (nF (ZS 27))))]) (fun i1 z1 => [(0, .ref Zh), (1, .int (nI ki)), (2, .int (nI i1))]) 25 3 397 0 (Nat.zero_le _) ?_ ?_ (ZS 20) (bk_0 _ _).symm _ _ ls (by first | exact hP) (by first | exact hD) hS (lv_sub hl [1, 2, 0] rfl)
      · intro z1 hI1 H locs ls hP hD hS hl
        have hl : lv_has ls 3 [(0, .ref Zh), (1, .int (nI ki)), (2, .int (nI 397))] := hl
        obtain ⟨hP, hD⟩ : wPD D A [(Zh, .inr (7, [.long Zt, .ref Za1, .int (nI (ZS 2 0)), .ref Za3, .ref Za4, .ref Za5, .ref Za6, .ref Za7, .ref Za8, .ref Za9, .ref Za10, .ref Za11, .ref Za12, .ref Za13, .int (nI (ZS 14 0)), .int (nI (ZS 15 0)), .int (nI (ZS 16 0)), .int (nI (ZS 17 0)), .int (nI (ZS 18 0)), .int (nI (ZS 19 0) - nI 9), .ref Za20, .ref Za21, .ref Za22, .ref Za23, .ref Za24, .ref Za25, .ref Za26, .ref Za27, .int (nI (ZS 28 0))])), (Za1, .inl (cB, 180, .inl (bF (ZS 1)))), (Za3, .inl (cI, 2, .inl (nF (ZS 3)))), (Za4, .inl (cI, 12, .inl (nF (ZS 4)))), (Za5, .inl (cI, 12, .inl (nF (ZS 5)))), (Za6, .inl (cI, 2, .inl (nF (ZS 6)))), (Za7, .inl (cI, 10, .inl (nF (ZS 7)))), (Za8, .inl (cI, 30, .inl (nF (ZS 8)))), (Za9, .inl (cI, 2, .inl (nF (ZS 9)))), (Za10, .inl (cI, 10, .inl (nF (ZS 10)))), (Za11, .inl (cI, 5, .inl (nF (ZS 11)))), (Za12, .inl (cI, 10, .inl (nF (ZS 12)))), (Za13, .inl (cI, 2, .inl (nF (ZS 13)))), (Za20, .inl (cI, 1191, .inl (nF (z1)))), (Za21, .inl (cZ, 2, .inl (nF (ZS 21)))), (Za22, .inl (cI, 36, .inl (nF (ZS 22)))), (Za23, .inl (cI, 6, .inl (nF (ZS 23)))), (Za24, .inl (cI, 427, .inl (nF (ZS 24)))), (Za25, .inl (cI, 6, .inl (nF (ZS 25)))), (Za26, .inl (cI, 5, .inl (nF (ZS 26)))), (Za27, .inl (cI, 6, .inl (nF (ZS 27))))] H := ⟨hP, hD⟩
        refine lv_iload_n hx hb dX7_back_25 rfl (lv_at hl 2 rfl) ?_
        refine lv_sipush (v := nI 397) hx hb dX7_back_26 (by decide) ?_
        refine nb_icmp_ge (tgt := 58) hx hb dX7_back_29 (by decide) (by omega) (by omega) (fun hq10 => ?_) (fun hq10 => absurd hq10 (by omega))
        refine lv_aload_n hx hb dX7_back_58 rfl (lv_at hl 0 rfl) ?_
        refine va_get (D := D) (ci := 7) (v := .ref Za20) (C := RX7) (T := TX7) (N := 29) hx hb hts in_X7_back_7 hown hK.1 hP 0 rfl rfl 20 (by decide) (hts (.fieldLink RX7 47 "ChildCoinsModel" "now" "[I") (List.mem_of_getElem? (i := 2) rfl)) (fun _ h9 => h9) rfl dX7_back_59 ?_
        refine lv_bipush (v := nI 35) hx hb dX7_back_62 (by decide) ?_
        refine va_iald hx hb hK.1 hP 13 0 rfl rfl (vp_in_nI (n := 35) (N := 1191) (by omega) (by decide)) dX7_back_64 ?_
        refine set_i (y := nI (z1 35)) (nF_ld (by omega)) ?_
        refine set_i (y := nI (ZS 20 (397 * (1 + ki) + 35))) (congrArg nI (by rw [hI1]; exact if_pos (by omega))) ?_
        have b11 : ZS 20 (397 * (1 + ki) + 35) ≤ 31 := Nat.le_trans (hZ 20 _) (by show nbd _ ≤ 31; rw [nbd_per, nbd_35]; exact Nat.le_refl _)
        refine be_i0 (ru_S (As := [.int (nI (ZS 20 (397 * (1 + ki) + 35)))]) (rest := []) ⟨hx, hb, hml, hown, hts⟩ (z_manyOf l D cI cB cZ cN (ZS 20 (397 * (1 + ki) + 35)) (by omega) H.size) ggX7_back_X7_manyOf rfl (hts (.initialized RX7) (List.mem_of_getElem? (i := 5) rfl)) (hts (.methodLink RX7 195 yX7_manyOf) (List.mem_of_getElem? (i := 7) rfl)) (hts (.static yX7_manyOf) (List.mem_of_getElem? (i := 8) rfl)) ⟨by decide, by decide, (show Option.map (fun d => d.parameters.length) (parseMethodDescriptor yX7_manyOf.desc) = some 1 by decide +kernel)⟩ ⟨Nat.le_of_ble_eq_true rfl, Nat.le_of_ble_eq_true rfl⟩ hK hP hD [] (by decide) rfl hl.1 rfl (Nat.le_of_ble_eq_true rfl) dX7_back_65 ⟨Nat.le_of_ble_eq_true rfl, Nat.le_of_ble_eq_true rfl⟩) hP hD hS hA [] rfl (fun r13 u12 H locs w14 hP hS => ?_)
        obtain rfl : r13 = nI (sumN (fun k => ZS 20 (397 * (1 + ki) + 35) / 2 ^ k % 2) 6) := w14
        have b15 := many6 (ZS 20 (397 * (1 + ki) + 35))
        exact en_i hx hb hr hlk hP hD hS (ua ZS 20 (z1)) [0, 1, 2, 3, 4, 5, 6, 7, 8, 9, 10, 11, 12, 13, 14, 15, 16, 17, 18, 19, 20] (by decide) rfl (Nat.le_of_ble_eq_true rfl) (Nat.le_of_ble_eq_true rfl) dX7_back_68 ⟨(ZP.set (k := 20) (ZP.rf hZ) (by decide) (show ∀ j, z1 j ≤ zb 20 j by rw [hI1]; exact bk_b (hZ 20))), (Or.inr ⟨ki, hq6, congrArg nI hki.symm, Or.inr ⟨by omega, rfl, by rw [hI1]⟩⟩)⟩
      · intro i1 hi01 hi1 z1 hI1 ih1 H locs ls hP hD hS hl
        have hl : lv_has ls 3 [(0, .ref Zh), (1, .int (nI ki)), (2, .int (nI i1))] := hl
        obtain ⟨hP, hD⟩ : wPD D A [(Zh, .inr (7, [.long Zt, .ref Za1, .int (nI (ZS 2 0)), .ref Za3, .ref Za4, .ref Za5, .ref Za6, .ref Za7, .ref Za8, .ref Za9, .ref Za10, .ref Za11, .ref Za12, .ref Za13, .int (nI (ZS 14 0)), .int (nI (ZS 15 0)), .int (nI (ZS 16 0)), .int (nI (ZS 17 0)), .int (nI (ZS 18 0)), .int (nI (ZS 19 0) - nI 9), .ref Za20, .ref Za21, .ref Za22, .ref Za23, .ref Za24, .ref Za25, .ref Za26, .ref Za27, .int (nI (ZS 28 0))])), (Za1, .inl (cB, 180, .inl (bF (ZS 1)))), (Za3, .inl (cI, 2, .inl (nF (ZS 3)))), (Za4, .inl (cI, 12, .inl (nF (ZS 4)))), (Za5, .inl (cI, 12, .inl (nF (ZS 5)))), (Za6, .inl (cI, 2, .inl (nF (ZS 6)))), (Za7, .inl (cI, 10, .inl (nF (ZS 7)))), (Za8, .inl (cI, 30, .inl (nF (ZS 8)))), (Za9, .inl (cI, 2, .inl (nF (ZS 9)))), (Za10, .inl (cI, 10, .inl (nF (ZS 10)))), (Za11, .inl (cI, 5, .inl (nF (ZS 11)))), (Za12, .inl (cI, 10, .inl (nF (ZS 12)))), (Za13, .inl (cI, 2, .inl (nF (ZS 13)))), (Za20, .inl (cI, 1191, .inl (nF (z1)))), (Za21, .inl (cZ, 2, .inl (nF (ZS 21)))), (Za22, .inl (cI, 36, .inl (nF (ZS 22)))), (Za23, .inl (cI, 6, .inl (nF (ZS 23)))), (Za24, .inl (cI, 427, .inl (nF (ZS 24)))), (Za25, .inl (cI, 6, .inl (nF (ZS 25)))), (Za26, .inl (cI, 5, .inl (nF (ZS 26)))), (Za27, .inl (cI, 6, .inl (nF (ZS 27))))] H := ⟨hP, hD⟩
        refine lv_iload_n hx hb dX7_back_25 rfl (lv_at hl 2 rfl) ?_
        refine lv_sipush (v := nI 397) hx hb dX7_back_26 (by decide) ?_
        refine nb_icmp_ge (tgt := 58) hx hb dX7_back_29 (by decide) (by omega) (by omega) (fun hq16 => absurd hq16 (by omega)) (fun hq16 => ?_)
        refine lv_aload_n hx hb dX7_back_32 rfl (lv_at hl 0 rfl) ?_
        refine va_get (D := D) (ci := 7) (v := .ref Za20) (C := RX7) (T := TX7) (N := 29) hx hb hts in_X7_back_7 hown hK.1 hP 0 rfl rfl 20 (by decide) (hts (.fieldLink RX7 47 "ChildCoinsModel" "now" "[I") (List.mem_of_getElem? (i := 2) rfl)) (fun _ h9 => h9) rfl dX7_back_33 ?_
        refine lv_iload_n hx hb dX7_back_36 rfl (lv_at hl 2 rfl) ?_
        refine lv_aload_n hx hb dX7_back_37 rfl (lv_at hl 0 rfl) ?_
        refine va_get (D := D) (ci := 7) (v := .ref Za20) (C := RX7) (T := TX7) (N := 29) hx hb hts in_X7_back_7 hown hK.1 hP 0 rfl rfl 20 (by decide) (hts (.fieldLink RX7 47 "ChildCoinsModel" "now" "[I") (List.mem_of_getElem? (i := 2) rfl)) (fun _ h9 => h9) rfl dX7_back_38 ?_
        refine lv_sipush (v := nI 397) hx hb dX7_back_41 (by decide) ?_
        refine lv_iconst (v := nI 1) hx hb dX7_back_44 (by decide) ?_
        refine lv_iload_n hx hb dX7_back_45 rfl (lv_at hl 1 rfl) ?_
        refine lv_iadd hx hb dX7_back_46 ?_
        refine set_i (y := nI (1 + ki)) (nI_add 1 ki) ?_
        refine lv_imul hx hb dX7_back_47 ?_
        refine set_i (y := nI (397 * (1 + ki))) (pk_mul 397 (1 + ki)) ?_
        refine lv_iload_n hx hb dX7_back_48 rfl (lv_at hl 2 rfl) ?_
        refine lv_iadd hx hb dX7_back_49 ?_
        refine set_i (y := nI ((397 * (1 + ki)) + i1)) (nI_add (397 * (1 + ki)) i1) ?_
        refine va_iald hx hb hK.1 hP 13 0 rfl rfl (vp_in_nI (n := (397 * (1 + ki)) + i1) (N := 1191) (by omega) (by decide)) dX7_back_50 ?_
        refine set_i (y := nI (z1 ((397 * (1 + ki)) + i1))) (nF_ld (by omega)) ?_
        have b17 : z1 ((397 * (1 + ki)) + i1) ≤ 99 := Nat.le_trans ((zok_set (k := 20) hZ (show ∀ j, z1 j ≤ zb 20 j by rw [hI1]; exact bk_b (hZ 20))) 20 ((397 * (1 + ki)) + i1)) (nbd_99 ((397 * (1 + ki)) + i1))
        refine va_iast hx hb hK.1 hP hD hS 13 0 rfl rfl (vp_in_nI (n := i1) (N := 1191) (by omega) (by decide)) dX7_back_51 (fun H locs hP hD hS => ?_)
        obtain ⟨hP, hD⟩ : wPD D A [(Zh, .inr (7, [.long Zt, .ref Za1, .int (nI (ZS 2 0)), .ref Za3, .ref Za4, .ref Za5, .ref Za6, .ref Za7, .ref Za8, .ref Za9, .ref Za10, .ref Za11, .ref Za12, .ref Za13, .int (nI (ZS 14 0)), .int (nI (ZS 15 0)), .int (nI (ZS 16 0)), .int (nI (ZS 17 0)), .int (nI (ZS 18 0)), .int (nI (ZS 19 0) - nI 9), .ref Za20, .ref Za21, .ref Za22, .ref Za23, .ref Za24, .ref Za25, .ref Za26, .ref Za27, .int (nI (ZS 28 0))])), (Za1, .inl (cB, 180, .inl (bF (ZS 1)))), (Za3, .inl (cI, 2, .inl (nF (ZS 3)))), (Za4, .inl (cI, 12, .inl (nF (ZS 4)))), (Za5, .inl (cI, 12, .inl (nF (ZS 5)))), (Za6, .inl (cI, 2, .inl (nF (ZS 6)))), (Za7, .inl (cI, 10, .inl (nF (ZS 7)))), (Za8, .inl (cI, 30, .inl (nF (ZS 8)))), (Za9, .inl (cI, 2, .inl (nF (ZS 9)))), (Za10, .inl (cI, 10, .inl (nF (ZS 10)))), (Za11, .inl (cI, 5, .inl (nF (ZS 11)))), (Za12, .inl (cI, 10, .inl (nF (ZS 12)))), (Za13, .inl (cI, 2, .inl (nF (ZS 13)))), (Za20, .inl (cI, 1191, .inl (upd (nF (z1)) (nI i1).toNatClampNeg (nI (z1 ((397 * (1 + ki)) + i1)))))), (Za21, .inl (cZ, 2, .inl (nF (ZS 21)))), (Za22, .inl (cI, 36, .inl (nF (ZS 22)))), (Za23, .inl (cI, 6, .inl (nF (ZS 23)))), (Za24, .inl (cI, 427, .inl (nF (ZS 24)))), (Za25, .inl (cI, 6, .inl (nF (ZS 25)))), (Za26, .inl (cI, 5, .inl (nF (ZS 26)))), (Za27, .inl (cI, 6, .inl (nF (ZS 27))))] H := ⟨hP, hD⟩
        rw [nF_st (by omega)] at hP hD
        refine lv_iinc (v := nI (i1 + 1)) (lv' := [(2, .int (nI (i1 + 1))), (0, .ref Zh), (1, .int (nI ki))]) hx hb dX7_back_52 hl (k := 2) rfl (nI_add i1 1) (by decide) rfl (fun ls hl => ?_)
        refine lv_goto (tgt := 25) hx hb dX7_back_55 (by decide) ?_
        have hl : lv_has ls 3 [(0, .ref Zh), (1, .int (nI ki)), (2, .int (nI (i1 + 1)))] := lv_sub hl [1, 2, 0] rfl
        exact ih1 (un (z1) i1 (z1 ((397 * (1 + ki)) + i1))) (bk_s hI1 (by omega)) _ _ _ hP hD hS hl
    · skip
      refine lv_bipush (v := -2) hx hb dX7_back_20 (by decide) ?_
      exact en_i hx hb hr hlk hP hD hS ZS [0, 1, 2, 3, 4, 5, 6, 7, 8, 9, 10, 11, 12, 13, 14, 15, 16, 17, 18, 19, 20] (by decide) rfl (Nat.le_of_ble_eq_true rfl) (Nat.le_of_ble_eq_true rfl) dX7_back_22 ⟨(ZP.rf hZ), (Or.inr ⟨ki, hq6, congrArg nI hki.symm, Or.inl ⟨by omega, rfl, rfl⟩⟩)⟩
  · skip
    refine nb_if_ne (tgt := 11) hx hb dX7_back_6 (by decide) (by omega) (fun hq18 => absurd hq18 (by omega)) (fun hq18 => ?_)
    refine lv_iconst (v := -1) hx hb dX7_back_9 (by decide) ?_
    exact en_i hx hb hr hlk hP hD hS ZS [0, 1, 2, 3, 4, 5, 6, 7, 8, 9, 10, 11, 12, 13, 14, 15, 16, 17, 18, 19, 20] (by decide) rfl (Nat.le_of_ble_eq_true rfl) (Nat.le_of_ble_eq_true rfl) dX7_back_10 ⟨(ZP.rf hZ), (Or.inl ⟨hq4, rfl, rfl⟩)⟩
