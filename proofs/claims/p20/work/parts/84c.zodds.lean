set_option maxRecDepth 20000 in
theorem dAX7_corner : decA cX7_corner [(0, .aload_n 0, 1), (1, .iload_n 1, 1), (2, .invokevirtual 165, 3), (5, .ifCond .ne 5, 3), (8, .iconst (-1), 1), (9, .ireturn, 1), (10, .iconst 0, 1), (11, .istore_n 2, 1), (12, .aload_n 0, 1), (13, .iload_n 1, 1), (14, .iconst 0, 1), (15, .invokevirtual 176, 3), (18, .ifCond .ne 7, 3), (21, .iconst 1, 1), (22, .goto 4, 3), (25, .iconst 0, 1), (26, .istore_n 3, 1), (27, .iconst 1, 1), (28, .istore 4, 2), (30, .iload 4, 2), (32, .iconst 1, 1), (33, .aload_n 0, 1), (34, .getfield 13, 3), (37, .iconst 0, 1), (38, .iaload, 1), (39, .ishl, 1), (40, .if_icmp .ge 48, 3), (43, .iload_n 3, 1), (44, .ifCond .eq 7, 3), (47, .iload_n 2, 1), (48, .ifCond .eq 40, 3), (51, .iload_n 3, 1), (52, .ifCond .eq 15, 3), (55, .iload 4, 2), (57, .invokestatic 195, 3), (60, .iload_n 2, 1), (61, .invokestatic 195, 3), (64, .if_icmp .ge 18, 3), (67, .aload_n 0, 1), (68, .iload_n 1, 1), (69, .iload 4, 2), (71, .invokevirtual 176, 3), (74, .ifCond .ne 8, 3), (77, .iload 4, 2), (79, .istore_n 2, 1), (80, .iconst 1, 1), (81, .istore_n 3, 1), (82, .iinc 4 1, 3), (85, .goto (-55), 3), (88, .iload_n 2, 1), (89, .ireturn, 1)] = true := by decide +kernel
theorem dX7_corner_0 : decode cX7_corner 0 = .ok (.aload_n 0, 1) := decA_get dAX7_corner 0 rfl
theorem dX7_corner_1 : decode cX7_corner 1 = .ok (.iload_n 1, 1) := decA_get dAX7_corner 1 rfl
theorem dX7_corner_2 : decode cX7_corner 2 = .ok (.invokevirtual 165, 3) := decA_get dAX7_corner 2 rfl
set_option maxRecDepth 20000 in
theorem ggX7_corner_X7_isDebt : GoodIn wsX7_corner wsX7_isDebt := gd_ids wi_X7_corner wm_X7_corner wi_X7_isDebt (by decide +kernel)
set_option maxRecDepth 20000 in
theorem gX7_corner_X7_isDebt : GoodIn wsX7_corner (wsV RX7 165 RX7 yX7_isDebt wsX7_isDebt) := goodIn_app (gd_ids wi_X7_corner wm_X7_corner (b := [572, 573, 574, 481]) rfl (by decide +kernel)) ggX7_corner_X7_isDebt
theorem dX7_corner_5 : decode cX7_corner 5 = .ok (.ifCond .ne 5, 3) := decA_get dAX7_corner 3 rfl
theorem dX7_corner_10 : decode cX7_corner 10 = .ok (.iconst 0, 1) := decA_get dAX7_corner 6 rfl
theorem dX7_corner_11 : decode cX7_corner 11 = .ok (.istore_n 2, 1) := decA_get dAX7_corner 7 rfl
theorem dX7_corner_12 : decode cX7_corner 12 = .ok (.aload_n 0, 1) := decA_get dAX7_corner 8 rfl
theorem dX7_corner_13 : decode cX7_corner 13 = .ok (.iload_n 1, 1) := decA_get dAX7_corner 9 rfl
theorem dX7_corner_14 : decode cX7_corner 14 = .ok (.iconst 0, 1) := decA_get dAX7_corner 10 rfl
theorem dX7_corner_15 : decode cX7_corner 15 = .ok (.invokevirtual 176, 3) := decA_get dAX7_corner 11 rfl
set_option maxRecDepth 20000 in
theorem ggX7_corner_X7_canWorld : GoodIn wsX7_corner wsX7_canWorld := gd_ids wi_X7_corner wm_X7_corner wi_X7_canWorld (by decide +kernel)
set_option maxRecDepth 20000 in
theorem gX7_corner_X7_canWorld : GoodIn wsX7_corner (wsV RX7 176 RX7 yX7_canWorld wsX7_canWorld) := goodIn_app (gd_ids wi_X7_corner wm_X7_corner (b := [581, 582, 583, 481]) rfl (by decide +kernel)) ggX7_corner_X7_canWorld
theorem dX7_corner_18 : decode cX7_corner 18 = .ok (.ifCond .ne 7, 3) := decA_get dAX7_corner 12 rfl
theorem dX7_corner_25 : decode cX7_corner 25 = .ok (.iconst 0, 1) := decA_get dAX7_corner 15 rfl
theorem dX7_corner_26 : decode cX7_corner 26 = .ok (.istore_n 3, 1) := decA_get dAX7_corner 16 rfl
theorem dX7_corner_27 : decode cX7_corner 27 = .ok (.iconst 1, 1) := decA_get dAX7_corner 17 rfl
theorem dX7_corner_28 : decode cX7_corner 28 = .ok (.istore 4, 2) := decA_get dAX7_corner 18 rfl
theorem dX7_corner_30 : decode cX7_corner 30 = .ok (.iload 4, 2) := decA_get dAX7_corner 19 rfl
theorem dX7_corner_32 : decode cX7_corner 32 = .ok (.iconst 1, 1) := decA_get dAX7_corner 20 rfl
theorem dX7_corner_33 : decode cX7_corner 33 = .ok (.aload_n 0, 1) := decA_get dAX7_corner 21 rfl
theorem dX7_corner_34 : decode cX7_corner 34 = .ok (.getfield 13, 3) := decA_get dAX7_corner 22 rfl
theorem in_X7_corner_7 : ∀ w ∈ wsX70, w ∈ wsX7_corner := fun w h => (gd_ids wi_X7_corner wm_X7_corner wi_X70 (by decide +kernel) w h).1
theorem dX7_corner_37 : decode cX7_corner 37 = .ok (.iconst 0, 1) := decA_get dAX7_corner 23 rfl
theorem dX7_corner_38 : decode cX7_corner 38 = .ok (.iaload, 1) := decA_get dAX7_corner 24 rfl
theorem dX7_corner_39 : decode cX7_corner 39 = .ok (.ishl, 1) := decA_get dAX7_corner 25 rfl
theorem dX7_corner_40 : decode cX7_corner 40 = .ok (.if_icmp .ge 48, 3) := decA_get dAX7_corner 26 rfl
theorem dX7_corner_88 : decode cX7_corner 88 = .ok (.iload_n 2, 1) := decA_get dAX7_corner 49 rfl
theorem dX7_corner_89 : decode cX7_corner 89 = .ok (.ireturn, 1) := decA_get dAX7_corner 50 rfl
theorem dX7_corner_43 : decode cX7_corner 43 = .ok (.iload_n 3, 1) := decA_get dAX7_corner 27 rfl
theorem dX7_corner_44 : decode cX7_corner 44 = .ok (.ifCond .eq 7, 3) := decA_get dAX7_corner 28 rfl
theorem dX7_corner_51 : decode cX7_corner 51 = .ok (.iload_n 3, 1) := decA_get dAX7_corner 31 rfl
theorem dX7_corner_52 : decode cX7_corner 52 = .ok (.ifCond .eq 15, 3) := decA_get dAX7_corner 32 rfl
theorem dX7_corner_67 : decode cX7_corner 67 = .ok (.aload_n 0, 1) := decA_get dAX7_corner 38 rfl
theorem dX7_corner_68 : decode cX7_corner 68 = .ok (.iload_n 1, 1) := decA_get dAX7_corner 39 rfl
theorem dX7_corner_69 : decode cX7_corner 69 = .ok (.iload 4, 2) := decA_get dAX7_corner 40 rfl
theorem dX7_corner_71 : decode cX7_corner 71 = .ok (.invokevirtual 176, 3) := decA_get dAX7_corner 41 rfl
theorem dX7_corner_74 : decode cX7_corner 74 = .ok (.ifCond .ne 8, 3) := decA_get dAX7_corner 42 rfl
theorem dX7_corner_82 : decode cX7_corner 82 = .ok (.iinc 4 1, 3) := decA_get dAX7_corner 47 rfl
theorem dX7_corner_85 : decode cX7_corner 85 = .ok (.goto (-55), 3) := decA_get dAX7_corner 48 rfl
theorem dX7_corner_77 : decode cX7_corner 77 = .ok (.iload 4, 2) := decA_get dAX7_corner 43 rfl
theorem dX7_corner_79 : decode cX7_corner 79 = .ok (.istore_n 2, 1) := decA_get dAX7_corner 44 rfl
theorem dX7_corner_80 : decode cX7_corner 80 = .ok (.iconst 1, 1) := decA_get dAX7_corner 45 rfl
theorem dX7_corner_81 : decode cX7_corner 81 = .ok (.istore_n 3, 1) := decA_get dAX7_corner 46 rfl
theorem dX7_corner_55 : decode cX7_corner 55 = .ok (.iload 4, 2) := decA_get dAX7_corner 33 rfl
theorem dX7_corner_57 : decode cX7_corner 57 = .ok (.invokestatic 195, 3) := decA_get dAX7_corner 34 rfl
set_option maxRecDepth 20000 in
theorem ggX7_corner_X7_manyOf : GoodIn wsX7_corner wsX7_manyOf := gd_ids wi_X7_corner wm_X7_corner wi_X7_manyOf (by decide +kernel)
theorem dX7_corner_60 : decode cX7_corner 60 = .ok (.iload_n 2, 1) := decA_get dAX7_corner 35 rfl
theorem dX7_corner_61 : decode cX7_corner 61 = .ok (.invokestatic 195, 3) := decA_get dAX7_corner 36 rfl
theorem dX7_corner_64 : decode cX7_corner 64 = .ok (.if_icmp .ge 18, 3) := decA_get dAX7_corner 37 rfl
theorem dX7_corner_47 : decode cX7_corner 47 = .ok (.iload_n 2, 1) := decA_get dAX7_corner 29 rfl
theorem dX7_corner_48 : decode cX7_corner 48 = .ok (.ifCond .eq 40, 3) := decA_get dAX7_corner 30 rfl
theorem dX7_corner_21 : decode cX7_corner 21 = .ok (.iconst 1, 1) := decA_get dAX7_corner 13 rfl
theorem dX7_corner_22 : decode cX7_corner 22 = .ok (.goto 4, 3) := decA_get dAX7_corner 14 rfl
theorem dX7_corner_8 : decode cX7_corner 8 = .ok (.iconst (-1), 1) := decA_get dAX7_corner 4 rfl
theorem dX7_corner_9 : decode cX7_corner 9 = .ok (.ireturn, 1) := decA_get dAX7_corner 5 rfl
set_option maxRecDepth 20000 in
theorem dAX7_odds : decA cX7_odds [(0, .aload_n 0, 1), (1, .iload_n 1, 1), (2, .invokevirtual 165, 3), (5, .ifCond .eq 22, 3), (8, .iload_n 2, 1), (9, .iconst 0, 1), (10, .bipush 10, 2), (12, .invokestatic 78, 3), (15, .ifCond .eq 12, 3), (18, .iload_n 3, 1), (19, .iconst 0, 1), (20, .iconst 1, 1), (21, .invokestatic 78, 3), (24, .ifCond .ne 5, 3), (27, .iconst (-1), 1), (28, .ireturn, 1), (29, .iconst 0, 1), (30, .istore 4, 2), (32, .iconst 1, 1), (33, .istore 5, 2), (35, .iconst 0, 1), (36, .istore 6, 2), (38, .iload 6, 2), (40, .aload_n 0, 1), (41, .getfield 13, 3), (44, .iconst 0, 1), (45, .iaload, 1), (46, .if_icmp .ge 16, 3), (49, .iload 5, 2), (51, .bipush 10, 2), (53, .imul, 1), (54, .istore 5, 2), (56, .iinc 6 1, 3), (59, .goto (-21), 3), (62, .iconst 0, 1), (63, .istore 6, 2), (65, .iload 6, 2), (67, .iconst 1, 1), (68, .aload_n 0, 1), (69, .getfield 13, 3), (72, .iconst 0, 1), (73, .iaload, 1), (74, .ishl, 1), (75, .if_icmp .ge 82, 3), (78, .iconst 1, 1), (79, .istore 7, 2), (81, .iconst 0, 1), (82, .istore 8, 2), (84, .iload 8, 2), (86, .aload_n 0, 1), (87, .getfield 13, 3), (90, .iconst 0, 1), (91, .iaload, 1), (92, .if_icmp .ge 33, 3), (95, .iload 7, 2), (97, .iload 6, 2), (99, .iload 8, 2), (101, .ishr, 1), (102, .iconst 1, 1), (103, .iand, 1), (104, .iconst 1, 1), (105, .if_icmp .ne 7, 3), (108, .iload_n 2, 1), (109, .goto 7, 3), (112, .bipush 10, 2), (114, .iload_n 2, 1), (115, .isub, 1), (116, .imul, 1), (117, .istore 7, 2), (119, .iinc 8 1, 3), (122, .goto (-38), 3), (125, .iload 4, 2), (127, .iload 7, 2), (129, .ifCond .le 18, 3), (132, .aload_n 0, 1), (133, .iload_n 1, 1), (134, .iload 6, 2), (136, .invokevirtual 176, 3), (139, .ifCond .eq 8, 3), (142, .iload 7, 2), (144, .goto 4, 3), (147, .iconst 0, 1), (148, .iadd, 1), (149, .istore 4, 2), (151, .iinc 6 1, 3), (154, .goto (-89), 3), (157, .iload 4, 2), (159, .istore 6, 2), (161, .iload 5, 2), (163, .istore 7, 2), (165, .iload 7, 2), (167, .ifCond .eq 21, 3), (170, .iload 6, 2), (172, .iload 7, 2), (174, .irem, 1), (175, .istore 8, 2), (177, .iload 7, 2), (179, .istore 6, 2), (181, .iload 8, 2), (183, .istore 7, 2), (185, .goto (-20), 3), (188, .iload_n 3, 1), (189, .ifCond .ne 11, 3), (192, .iload 4, 2), (194, .iload 6, 2), (196, .idiv, 1), (197, .goto 8, 3), (200, .iload 5, 2), (202, .iload 6, 2), (204, .idiv, 1), (205, .ireturn, 1)] = true := by decide +kernel
theorem dX7_odds_0 : decode cX7_odds 0 = .ok (.aload_n 0, 1) := decA_get dAX7_odds 0 rfl
theorem dX7_odds_1 : decode cX7_odds 1 = .ok (.iload_n 1, 1) := decA_get dAX7_odds 1 rfl
theorem dX7_odds_2 : decode cX7_odds 2 = .ok (.invokevirtual 165, 3) := decA_get dAX7_odds 2 rfl
set_option maxRecDepth 20000 in
theorem ggX7_odds_X7_isDebt : GoodIn wsX7_odds wsX7_isDebt := gd_ids wi_X7_odds wm_X7_odds wi_X7_isDebt (by decide +kernel)
set_option maxRecDepth 20000 in
theorem gX7_odds_X7_isDebt : GoodIn wsX7_odds (wsV RX7 165 RX7 yX7_isDebt wsX7_isDebt) := goodIn_app (gd_ids wi_X7_odds wm_X7_odds (b := [572, 573, 574, 481]) rfl (by decide +kernel)) ggX7_odds_X7_isDebt
theorem dX7_odds_5 : decode cX7_odds 5 = .ok (.ifCond .eq 22, 3) := decA_get dAX7_odds 3 rfl
theorem dX7_odds_8 : decode cX7_odds 8 = .ok (.iload_n 2, 1) := decA_get dAX7_odds 4 rfl
theorem dX7_odds_9 : decode cX7_odds 9 = .ok (.iconst 0, 1) := decA_get dAX7_odds 5 rfl
theorem dX7_odds_10 : decode cX7_odds 10 = .ok (.bipush 10, 2) := decA_get dAX7_odds 6 rfl
theorem dX7_odds_12 : decode cX7_odds 12 = .ok (.invokestatic 78, 3) := decA_get dAX7_odds 7 rfl
set_option maxRecDepth 20000 in
theorem ggX7_odds_X7_in : GoodIn wsX7_odds wsX7_in := gd_ids wi_X7_odds wm_X7_odds wi_X7_in (by decide +kernel)
theorem dX7_odds_15 : decode cX7_odds 15 = .ok (.ifCond .eq 12, 3) := decA_get dAX7_odds 8 rfl
theorem dX7_odds_18 : decode cX7_odds 18 = .ok (.iload_n 3, 1) := decA_get dAX7_odds 9 rfl
theorem dX7_odds_19 : decode cX7_odds 19 = .ok (.iconst 0, 1) := decA_get dAX7_odds 10 rfl
theorem dX7_odds_20 : decode cX7_odds 20 = .ok (.iconst 1, 1) := decA_get dAX7_odds 11 rfl
theorem dX7_odds_21 : decode cX7_odds 21 = .ok (.invokestatic 78, 3) := decA_get dAX7_odds 12 rfl
theorem dX7_odds_24 : decode cX7_odds 24 = .ok (.ifCond .ne 5, 3) := decA_get dAX7_odds 13 rfl
theorem dX7_odds_29 : decode cX7_odds 29 = .ok (.iconst 0, 1) := decA_get dAX7_odds 16 rfl
theorem dX7_odds_30 : decode cX7_odds 30 = .ok (.istore 4, 2) := decA_get dAX7_odds 17 rfl
theorem dX7_odds_32 : decode cX7_odds 32 = .ok (.iconst 1, 1) := decA_get dAX7_odds 18 rfl
theorem dX7_odds_33 : decode cX7_odds 33 = .ok (.istore 5, 2) := decA_get dAX7_odds 19 rfl
theorem dX7_odds_35 : decode cX7_odds 35 = .ok (.iconst 0, 1) := decA_get dAX7_odds 20 rfl
theorem dX7_odds_36 : decode cX7_odds 36 = .ok (.istore 6, 2) := decA_get dAX7_odds 21 rfl
theorem dX7_odds_38 : decode cX7_odds 38 = .ok (.iload 6, 2) := decA_get dAX7_odds 22 rfl
theorem dX7_odds_40 : decode cX7_odds 40 = .ok (.aload_n 0, 1) := decA_get dAX7_odds 23 rfl
theorem dX7_odds_41 : decode cX7_odds 41 = .ok (.getfield 13, 3) := decA_get dAX7_odds 24 rfl
theorem in_X7_odds_7 : ∀ w ∈ wsX70, w ∈ wsX7_odds := fun w h => (gd_ids wi_X7_odds wm_X7_odds wi_X70 (by decide +kernel) w h).1
theorem dX7_odds_44 : decode cX7_odds 44 = .ok (.iconst 0, 1) := decA_get dAX7_odds 25 rfl
theorem dX7_odds_45 : decode cX7_odds 45 = .ok (.iaload, 1) := decA_get dAX7_odds 26 rfl
theorem dX7_odds_46 : decode cX7_odds 46 = .ok (.if_icmp .ge 16, 3) := decA_get dAX7_odds 27 rfl
theorem dX7_odds_62 : decode cX7_odds 62 = .ok (.iconst 0, 1) := decA_get dAX7_odds 34 rfl
theorem dX7_odds_63 : decode cX7_odds 63 = .ok (.istore 6, 2) := decA_get dAX7_odds 35 rfl
theorem dX7_odds_65 : decode cX7_odds 65 = .ok (.iload 6, 2) := decA_get dAX7_odds 36 rfl
theorem dX7_odds_67 : decode cX7_odds 67 = .ok (.iconst 1, 1) := decA_get dAX7_odds 37 rfl
theorem dX7_odds_68 : decode cX7_odds 68 = .ok (.aload_n 0, 1) := decA_get dAX7_odds 38 rfl
theorem dX7_odds_69 : decode cX7_odds 69 = .ok (.getfield 13, 3) := decA_get dAX7_odds 39 rfl
theorem dX7_odds_72 : decode cX7_odds 72 = .ok (.iconst 0, 1) := decA_get dAX7_odds 40 rfl
theorem dX7_odds_73 : decode cX7_odds 73 = .ok (.iaload, 1) := decA_get dAX7_odds 41 rfl
theorem dX7_odds_74 : decode cX7_odds 74 = .ok (.ishl, 1) := decA_get dAX7_odds 42 rfl
theorem dX7_odds_75 : decode cX7_odds 75 = .ok (.if_icmp .ge 82, 3) := decA_get dAX7_odds 43 rfl
theorem dX7_odds_157 : decode cX7_odds 157 = .ok (.iload 4, 2) := decA_get dAX7_odds 86 rfl
theorem dX7_odds_159 : decode cX7_odds 159 = .ok (.istore 6, 2) := decA_get dAX7_odds 87 rfl
theorem dX7_odds_161 : decode cX7_odds 161 = .ok (.iload 5, 2) := decA_get dAX7_odds 88 rfl
theorem dX7_odds_163 : decode cX7_odds 163 = .ok (.istore 7, 2) := decA_get dAX7_odds 89 rfl
theorem dX7_odds_165 : decode cX7_odds 165 = .ok (.iload 7, 2) := decA_get dAX7_odds 90 rfl
theorem dX7_odds_167 : decode cX7_odds 167 = .ok (.ifCond .eq 21, 3) := decA_get dAX7_odds 91 rfl
theorem dX7_odds_188 : decode cX7_odds 188 = .ok (.iload_n 3, 1) := decA_get dAX7_odds 101 rfl
theorem dX7_odds_189 : decode cX7_odds 189 = .ok (.ifCond .ne 11, 3) := decA_get dAX7_odds 102 rfl
theorem dX7_odds_200 : decode cX7_odds 200 = .ok (.iload 5, 2) := decA_get dAX7_odds 107 rfl
theorem dX7_odds_202 : decode cX7_odds 202 = .ok (.iload 6, 2) := decA_get dAX7_odds 108 rfl
theorem dX7_odds_204 : decode cX7_odds 204 = .ok (.idiv, 1) := decA_get dAX7_odds 109 rfl
theorem dX7_odds_205 : decode cX7_odds 205 = .ok (.ireturn, 1) := decA_get dAX7_odds 110 rfl
theorem dX7_odds_192 : decode cX7_odds 192 = .ok (.iload 4, 2) := decA_get dAX7_odds 103 rfl
theorem dX7_odds_194 : decode cX7_odds 194 = .ok (.iload 6, 2) := decA_get dAX7_odds 104 rfl
theorem dX7_odds_196 : decode cX7_odds 196 = .ok (.idiv, 1) := decA_get dAX7_odds 105 rfl
theorem dX7_odds_197 : decode cX7_odds 197 = .ok (.goto 8, 3) := decA_get dAX7_odds 106 rfl
theorem dX7_odds_170 : decode cX7_odds 170 = .ok (.iload 6, 2) := decA_get dAX7_odds 92 rfl
theorem dX7_odds_172 : decode cX7_odds 172 = .ok (.iload 7, 2) := decA_get dAX7_odds 93 rfl
theorem dX7_odds_174 : decode cX7_odds 174 = .ok (.irem, 1) := decA_get dAX7_odds 94 rfl
theorem dX7_odds_175 : decode cX7_odds 175 = .ok (.istore 8, 2) := decA_get dAX7_odds 95 rfl
theorem dX7_odds_177 : decode cX7_odds 177 = .ok (.iload 7, 2) := decA_get dAX7_odds 96 rfl
theorem dX7_odds_179 : decode cX7_odds 179 = .ok (.istore 6, 2) := decA_get dAX7_odds 97 rfl
theorem dX7_odds_181 : decode cX7_odds 181 = .ok (.iload 8, 2) := decA_get dAX7_odds 98 rfl
theorem dX7_odds_183 : decode cX7_odds 183 = .ok (.istore 7, 2) := decA_get dAX7_odds 99 rfl
theorem dX7_odds_185 : decode cX7_odds 185 = .ok (.goto (-20), 3) := decA_get dAX7_odds 100 rfl
theorem dX7_odds_78 : decode cX7_odds 78 = .ok (.iconst 1, 1) := decA_get dAX7_odds 44 rfl
theorem dX7_odds_79 : decode cX7_odds 79 = .ok (.istore 7, 2) := decA_get dAX7_odds 45 rfl
theorem dX7_odds_81 : decode cX7_odds 81 = .ok (.iconst 0, 1) := decA_get dAX7_odds 46 rfl
theorem dX7_odds_82 : decode cX7_odds 82 = .ok (.istore 8, 2) := decA_get dAX7_odds 47 rfl
theorem dX7_odds_84 : decode cX7_odds 84 = .ok (.iload 8, 2) := decA_get dAX7_odds 48 rfl
theorem dX7_odds_86 : decode cX7_odds 86 = .ok (.aload_n 0, 1) := decA_get dAX7_odds 49 rfl
theorem dX7_odds_87 : decode cX7_odds 87 = .ok (.getfield 13, 3) := decA_get dAX7_odds 50 rfl
theorem dX7_odds_90 : decode cX7_odds 90 = .ok (.iconst 0, 1) := decA_get dAX7_odds 51 rfl
theorem dX7_odds_91 : decode cX7_odds 91 = .ok (.iaload, 1) := decA_get dAX7_odds 52 rfl
theorem dX7_odds_92 : decode cX7_odds 92 = .ok (.if_icmp .ge 33, 3) := decA_get dAX7_odds 53 rfl
theorem dX7_odds_125 : decode cX7_odds 125 = .ok (.iload 4, 2) := decA_get dAX7_odds 71 rfl
theorem dX7_odds_127 : decode cX7_odds 127 = .ok (.iload 7, 2) := decA_get dAX7_odds 72 rfl
theorem dX7_odds_129 : decode cX7_odds 129 = .ok (.ifCond .le 18, 3) := decA_get dAX7_odds 73 rfl
theorem dX7_odds_147 : decode cX7_odds 147 = .ok (.iconst 0, 1) := decA_get dAX7_odds 81 rfl
theorem dX7_odds_148 : decode cX7_odds 148 = .ok (.iadd, 1) := decA_get dAX7_odds 82 rfl
theorem dX7_odds_149 : decode cX7_odds 149 = .ok (.istore 4, 2) := decA_get dAX7_odds 83 rfl
theorem dX7_odds_151 : decode cX7_odds 151 = .ok (.iinc 6 1, 3) := decA_get dAX7_odds 84 rfl
theorem dX7_odds_154 : decode cX7_odds 154 = .ok (.goto (-89), 3) := decA_get dAX7_odds 85 rfl
theorem dX7_odds_132 : decode cX7_odds 132 = .ok (.aload_n 0, 1) := decA_get dAX7_odds 74 rfl
theorem dX7_odds_133 : decode cX7_odds 133 = .ok (.iload_n 1, 1) := decA_get dAX7_odds 75 rfl
theorem dX7_odds_134 : decode cX7_odds 134 = .ok (.iload 6, 2) := decA_get dAX7_odds 76 rfl
theorem dX7_odds_136 : decode cX7_odds 136 = .ok (.invokevirtual 176, 3) := decA_get dAX7_odds 77 rfl
set_option maxRecDepth 20000 in
theorem ggX7_odds_X7_canWorld : GoodIn wsX7_odds wsX7_canWorld := gd_ids wi_X7_odds wm_X7_odds wi_X7_canWorld (by decide +kernel)
set_option maxRecDepth 20000 in
theorem gX7_odds_X7_canWorld : GoodIn wsX7_odds (wsV RX7 176 RX7 yX7_canWorld wsX7_canWorld) := goodIn_app (gd_ids wi_X7_odds wm_X7_odds (b := [581, 582, 583, 481]) rfl (by decide +kernel)) ggX7_odds_X7_canWorld
theorem dX7_odds_139 : decode cX7_odds 139 = .ok (.ifCond .eq 8, 3) := decA_get dAX7_odds 78 rfl
theorem dX7_odds_142 : decode cX7_odds 142 = .ok (.iload 7, 2) := decA_get dAX7_odds 79 rfl
theorem dX7_odds_144 : decode cX7_odds 144 = .ok (.goto 4, 3) := decA_get dAX7_odds 80 rfl
theorem dX7_odds_95 : decode cX7_odds 95 = .ok (.iload 7, 2) := decA_get dAX7_odds 54 rfl
theorem dX7_odds_97 : decode cX7_odds 97 = .ok (.iload 6, 2) := decA_get dAX7_odds 55 rfl
theorem dX7_odds_99 : decode cX7_odds 99 = .ok (.iload 8, 2) := decA_get dAX7_odds 56 rfl
theorem dX7_odds_101 : decode cX7_odds 101 = .ok (.ishr, 1) := decA_get dAX7_odds 57 rfl
theorem dX7_odds_102 : decode cX7_odds 102 = .ok (.iconst 1, 1) := decA_get dAX7_odds 58 rfl
theorem dX7_odds_103 : decode cX7_odds 103 = .ok (.iand, 1) := decA_get dAX7_odds 59 rfl
theorem dX7_odds_104 : decode cX7_odds 104 = .ok (.iconst 1, 1) := decA_get dAX7_odds 60 rfl
theorem dX7_odds_105 : decode cX7_odds 105 = .ok (.if_icmp .ne 7, 3) := decA_get dAX7_odds 61 rfl
theorem dX7_odds_112 : decode cX7_odds 112 = .ok (.bipush 10, 2) := decA_get dAX7_odds 64 rfl
theorem dX7_odds_114 : decode cX7_odds 114 = .ok (.iload_n 2, 1) := decA_get dAX7_odds 65 rfl
theorem dX7_odds_115 : decode cX7_odds 115 = .ok (.isub, 1) := decA_get dAX7_odds 66 rfl
theorem dX7_odds_116 : decode cX7_odds 116 = .ok (.imul, 1) := decA_get dAX7_odds 67 rfl
theorem dX7_odds_117 : decode cX7_odds 117 = .ok (.istore 7, 2) := decA_get dAX7_odds 68 rfl
theorem dX7_odds_119 : decode cX7_odds 119 = .ok (.iinc 8 1, 3) := decA_get dAX7_odds 69 rfl
theorem dX7_odds_122 : decode cX7_odds 122 = .ok (.goto (-38), 3) := decA_get dAX7_odds 70 rfl
theorem dX7_odds_108 : decode cX7_odds 108 = .ok (.iload_n 2, 1) := decA_get dAX7_odds 62 rfl
theorem dX7_odds_109 : decode cX7_odds 109 = .ok (.goto 7, 3) := decA_get dAX7_odds 63 rfl
theorem dX7_odds_49 : decode cX7_odds 49 = .ok (.iload 5, 2) := decA_get dAX7_odds 28 rfl
theorem dX7_odds_51 : decode cX7_odds 51 = .ok (.bipush 10, 2) := decA_get dAX7_odds 29 rfl
theorem dX7_odds_53 : decode cX7_odds 53 = .ok (.imul, 1) := decA_get dAX7_odds 30 rfl
theorem dX7_odds_54 : decode cX7_odds 54 = .ok (.istore 5, 2) := decA_get dAX7_odds 31 rfl
theorem dX7_odds_56 : decode cX7_odds 56 = .ok (.iinc 6 1, 3) := decA_get dAX7_odds 32 rfl
theorem dX7_odds_59 : decode cX7_odds 59 = .ok (.goto (-21), 3) := decA_get dAX7_odds 33 rfl
theorem dX7_odds_27 : decode cX7_odds 27 = .ok (.iconst (-1), 1) := decA_get dAX7_odds 14 rfl
theorem dX7_odds_28 : decode cX7_odds 28 = .ok (.ireturn, 1) := decA_get dAX7_odds 15 rfl
