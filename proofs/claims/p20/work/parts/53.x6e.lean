set_option maxRecDepth 20000 in
theorem dAX6_pays : decA cX6_pays [(0, .aload_n 0, 1), (1, .getfield 27, 3), (4, .iload_n 1, 1), (5, .invokevirtual 123, 3), (8, .ifCond .ne 5, 3), (11, .iconst (-1), 1), (12, .ireturn, 1), (13, .aload_n 0, 1), (14, .getfield 37, 3), (17, .iload_n 1, 1), (18, .invokevirtual 135, 3), (21, .ifCond .eq 30, 3), (24, .aload_n 0, 1), (25, .getfield 51, 3), (28, .aload_n 0, 1), (29, .getfield 27, 3), (32, .aload_n 0, 1), (33, .getfield 37, 3), (36, .iload_n 1, 1), (37, .aload_n 0, 1), (38, .getfield 37, 3), (41, .iload_n 1, 1), (42, .invokevirtual 129, 3), (45, .invokevirtual 150, 3), (48, .ifCond .ne 6, 3), (51, .bipush (-2), 2), (53, .ireturn, 1), (54, .aload_n 0, 1), (55, .getfield 37, 3), (58, .invokevirtual 154, 3), (61, .aload_n 0, 1), (62, .getfield 37, 3), (65, .iload_n 1, 1), (66, .aload_n 0, 1), (67, .getfield 27, 3), (70, .getfield 126, 3), (73, .iload_n 1, 1), (74, .iaload, 1), (75, .aload_n 0, 1), (76, .getfield 51, 3), (79, .getfield 157, 3), (82, .invokevirtual 160, 3), (85, .aload_n 0, 1), (86, .getfield 51, 3), (89, .getfield 141, 3), (92, .ireturn, 1)] = true := by decide +kernel
theorem dX6_pays_0 : decode cX6_pays 0 = .ok (.aload_n 0, 1) := decA_get dAX6_pays 0 rfl
theorem dX6_pays_1 : decode cX6_pays 1 = .ok (.getfield 27, 3) := decA_get dAX6_pays 1 rfl
theorem in_X6_pays_6 : ∀ w ∈ wsX60, w ∈ wsX6_pays := fun w h => (gd_ids wi_X6_pays wm_X6_pays wi_X60 (by decide +kernel) w h).1
theorem dX6_pays_4 : decode cX6_pays 4 = .ok (.iload_n 1, 1) := decA_get dAX6_pays 2 rfl
theorem dX6_pays_5 : decode cX6_pays 5 = .ok (.invokevirtual 123, 3) := decA_get dAX6_pays 3 rfl
set_option maxRecDepth 20000 in
theorem ggX6_pays_X0_hasDebt : GoodIn wsX6_pays wsX0_hasDebt := gd_ids wi_X6_pays wm_X6_pays wi_X0_hasDebt (by decide +kernel)
theorem dX6_pays_8 : decode cX6_pays 8 = .ok (.ifCond .ne 5, 3) := decA_get dAX6_pays 4 rfl
theorem dX6_pays_13 : decode cX6_pays 13 = .ok (.aload_n 0, 1) := decA_get dAX6_pays 7 rfl
theorem dX6_pays_14 : decode cX6_pays 14 = .ok (.getfield 37, 3) := decA_get dAX6_pays 8 rfl
theorem dX6_pays_17 : decode cX6_pays 17 = .ok (.iload_n 1, 1) := decA_get dAX6_pays 9 rfl
theorem dX6_pays_18 : decode cX6_pays 18 = .ok (.invokevirtual 135, 3) := decA_get dAX6_pays 10 rfl
set_option maxRecDepth 20000 in
theorem ggX6_pays_X1_isOpen : GoodIn wsX6_pays wsX1_isOpen := gd_ids wi_X6_pays wm_X6_pays wi_X1_isOpen (by decide +kernel)
theorem dX6_pays_21 : decode cX6_pays 21 = .ok (.ifCond .eq 30, 3) := decA_get dAX6_pays 11 rfl
theorem dX6_pays_51 : decode cX6_pays 51 = .ok (.bipush (-2), 2) := decA_get dAX6_pays 25 rfl
theorem dX6_pays_53 : decode cX6_pays 53 = .ok (.ireturn, 1) := decA_get dAX6_pays 26 rfl
theorem dX6_pays_24 : decode cX6_pays 24 = .ok (.aload_n 0, 1) := decA_get dAX6_pays 12 rfl
theorem dX6_pays_25 : decode cX6_pays 25 = .ok (.getfield 51, 3) := decA_get dAX6_pays 13 rfl
theorem dX6_pays_28 : decode cX6_pays 28 = .ok (.aload_n 0, 1) := decA_get dAX6_pays 14 rfl
theorem dX6_pays_29 : decode cX6_pays 29 = .ok (.getfield 27, 3) := decA_get dAX6_pays 15 rfl
theorem dX6_pays_32 : decode cX6_pays 32 = .ok (.aload_n 0, 1) := decA_get dAX6_pays 16 rfl
theorem dX6_pays_33 : decode cX6_pays 33 = .ok (.getfield 37, 3) := decA_get dAX6_pays 17 rfl
theorem dX6_pays_36 : decode cX6_pays 36 = .ok (.iload_n 1, 1) := decA_get dAX6_pays 18 rfl
theorem dX6_pays_37 : decode cX6_pays 37 = .ok (.aload_n 0, 1) := decA_get dAX6_pays 19 rfl
theorem dX6_pays_38 : decode cX6_pays 38 = .ok (.getfield 37, 3) := decA_get dAX6_pays 20 rfl
theorem dX6_pays_41 : decode cX6_pays 41 = .ok (.iload_n 1, 1) := decA_get dAX6_pays 21 rfl
theorem dX6_pays_42 : decode cX6_pays 42 = .ok (.invokevirtual 129, 3) := decA_get dAX6_pays 22 rfl
set_option maxRecDepth 20000 in
theorem ggX6_pays_X1_creditor : GoodIn wsX6_pays wsX1_creditor := gd_ids wi_X6_pays wm_X6_pays wi_X1_creditor (by decide +kernel)
theorem dX6_pays_45 : decode cX6_pays 45 = .ok (.invokevirtual 150, 3) := decA_get dAX6_pays 23 rfl
set_option maxRecDepth 20000 in
theorem ggX6_pays_X2_settles : GoodIn wsX6_pays wsX2_settles := gd_ids wi_X6_pays wm_X6_pays wi_X2_settles (by decide +kernel)
theorem dX6_pays_48 : decode cX6_pays 48 = .ok (.ifCond .ne 6, 3) := decA_get dAX6_pays 24 rfl
theorem dX6_pays_54 : decode cX6_pays 54 = .ok (.aload_n 0, 1) := decA_get dAX6_pays 27 rfl
theorem dX6_pays_55 : decode cX6_pays 55 = .ok (.getfield 37, 3) := decA_get dAX6_pays 28 rfl
theorem dX6_pays_58 : decode cX6_pays 58 = .ok (.invokevirtual 154, 3) := decA_get dAX6_pays 29 rfl
set_option maxRecDepth 20000 in
theorem ggX6_pays_X1_remember : GoodIn wsX6_pays wsX1_remember := gd_ids wi_X6_pays wm_X6_pays wi_X1_remember (by decide +kernel)
theorem dX6_pays_61 : decode cX6_pays 61 = .ok (.aload_n 0, 1) := decA_get dAX6_pays 30 rfl
theorem dX6_pays_62 : decode cX6_pays 62 = .ok (.getfield 37, 3) := decA_get dAX6_pays 31 rfl
theorem dX6_pays_65 : decode cX6_pays 65 = .ok (.iload_n 1, 1) := decA_get dAX6_pays 32 rfl
theorem dX6_pays_66 : decode cX6_pays 66 = .ok (.aload_n 0, 1) := decA_get dAX6_pays 33 rfl
theorem dX6_pays_67 : decode cX6_pays 67 = .ok (.getfield 27, 3) := decA_get dAX6_pays 34 rfl
theorem dX6_pays_70 : decode cX6_pays 70 = .ok (.getfield 126, 3) := decA_get dAX6_pays 35 rfl
theorem in_X6_pays_0 : ∀ w ∈ wsX00, w ∈ wsX6_pays := fun w h => (gd_ids wi_X6_pays wm_X6_pays wi_X00 (by decide +kernel) w h).1
theorem dX6_pays_73 : decode cX6_pays 73 = .ok (.iload_n 1, 1) := decA_get dAX6_pays 36 rfl
theorem dX6_pays_74 : decode cX6_pays 74 = .ok (.iaload, 1) := decA_get dAX6_pays 37 rfl
theorem dX6_pays_75 : decode cX6_pays 75 = .ok (.aload_n 0, 1) := decA_get dAX6_pays 38 rfl
theorem dX6_pays_76 : decode cX6_pays 76 = .ok (.getfield 51, 3) := decA_get dAX6_pays 39 rfl
theorem dX6_pays_79 : decode cX6_pays 79 = .ok (.getfield 157, 3) := decA_get dAX6_pays 40 rfl
theorem in_X6_pays_2 : ∀ w ∈ wsX20, w ∈ wsX6_pays := fun w h => (gd_ids wi_X6_pays wm_X6_pays wi_X20 (by decide +kernel) w h).1
theorem dX6_pays_82 : decode cX6_pays 82 = .ok (.invokevirtual 160, 3) := decA_get dAX6_pays 41 rfl
set_option maxRecDepth 20000 in
theorem ggX6_pays_X1_settle : GoodIn wsX6_pays wsX1_settle := gd_ids wi_X6_pays wm_X6_pays wi_X1_settle (by decide +kernel)
theorem dX6_pays_85 : decode cX6_pays 85 = .ok (.aload_n 0, 1) := decA_get dAX6_pays 42 rfl
theorem dX6_pays_86 : decode cX6_pays 86 = .ok (.getfield 51, 3) := decA_get dAX6_pays 43 rfl
theorem dX6_pays_89 : decode cX6_pays 89 = .ok (.getfield 141, 3) := decA_get dAX6_pays 44 rfl
theorem dX6_pays_92 : decode cX6_pays 92 = .ok (.ireturn, 1) := decA_get dAX6_pays 45 rfl
theorem dX6_pays_11 : decode cX6_pays 11 = .ok (.iconst (-1), 1) := decA_get dAX6_pays 5 rfl
theorem dX6_pays_12 : decode cX6_pays 12 = .ok (.ireturn, 1) := decA_get dAX6_pays 6 rfl
set_option maxRecDepth 20000 in
theorem dAX6_trades : decA cX6_trades [(0, .aload_n 0, 1), (1, .getfield 27, 3), (4, .iload_n 1, 1), (5, .invokevirtual 104, 3), (8, .ifCond .eq 37, 3), (11, .aload_n 0, 1), (12, .getfield 27, 3), (15, .iload_n 2, 1), (16, .invokevirtual 87, 3), (19, .ifCond .eq 26, 3), (22, .aload_n 0, 1), (23, .getfield 27, 3), (26, .iload_n 3, 1), (27, .invokevirtual 104, 3), (30, .ifCond .eq 15, 3), (33, .aload_n 0, 1), (34, .getfield 27, 3), (37, .iload 4, 2), (39, .invokevirtual 87, 3), (42, .ifCond .ne 5, 3), (45, .iconst (-1), 1), (46, .ireturn, 1), (47, .iload_n 1, 1), (48, .iload_n 3, 1), (49, .if_icmp .eq 9, 3), (52, .iload_n 2, 1), (53, .iload 4, 2), (55, .if_icmp .ne 5, 3), (58, .iconst (-1), 1), (59, .ireturn, 1), (60, .aload_n 0, 1), (61, .getfield 37, 3), (64, .iload_n 1, 1), (65, .iload_n 2, 1), (66, .invokevirtual 119, 3), (69, .iconst 1, 1), (70, .if_icmp .lt 17, 3), (73, .aload_n 0, 1), (74, .getfield 37, 3), (77, .iload_n 3, 1), (78, .iload 4, 2), (80, .invokevirtual 119, 3), (83, .iconst 1, 1), (84, .if_icmp .ge 6, 3), (87, .bipush (-2), 2), (89, .ireturn, 1), (90, .aload_n 0, 1), (91, .getfield 27, 3), (94, .getfield 94, 3), (97, .iload_n 2, 1), (98, .iaload, 1), (99, .aload_n 0, 1), (100, .getfield 27, 3), (103, .getfield 94, 3), (106, .iload 4, 2), (108, .iaload, 1), (109, .if_icmp .eq 6, 3), (112, .bipush (-2), 2), (114, .ireturn, 1), (115, .aload_n 0, 1), (116, .getfield 37, 3), (119, .iload_n 1, 1), (120, .iload 4, 2), (122, .invokevirtual 119, 3), (125, .bipush 99, 2), (127, .if_icmp .ge 17, 3), (130, .aload_n 0, 1), (131, .getfield 37, 3), (134, .iload_n 3, 1), (135, .iload_n 2, 1), (136, .invokevirtual 119, 3), (139, .bipush 99, 2), (141, .if_icmp .lt 6, 3), (144, .bipush (-2), 2), (146, .ireturn, 1), (147, .aload_n 0, 1), (148, .getfield 37, 3), (151, .invokevirtual 154, 3), (154, .aload_n 0, 1), (155, .getfield 37, 3), (158, .iload_n 1, 1), (159, .iload_n 2, 1), (160, .iconst (-1), 1), (161, .invokevirtual 164, 3), (164, .aload_n 0, 1), (165, .getfield 37, 3), (168, .iload_n 3, 1), (169, .iload_n 2, 1), (170, .iconst 1, 1), (171, .invokevirtual 164, 3), (174, .aload_n 0, 1), (175, .getfield 37, 3), (178, .iload_n 3, 1), (179, .iload 4, 2), (181, .iconst (-1), 1), (182, .invokevirtual 164, 3), (185, .aload_n 0, 1), (186, .getfield 37, 3), (189, .iload_n 1, 1), (190, .iload 4, 2), (192, .iconst 1, 1), (193, .invokevirtual 164, 3), (196, .aload_n 0, 1), (197, .getfield 37, 3), (200, .iload_n 1, 1), (201, .iload 4, 2), (203, .invokevirtual 119, 3), (206, .ireturn, 1)] = true := by decide +kernel
theorem dX6_trades_0 : decode cX6_trades 0 = .ok (.aload_n 0, 1) := decA_get dAX6_trades 0 rfl
theorem dX6_trades_1 : decode cX6_trades 1 = .ok (.getfield 27, 3) := decA_get dAX6_trades 1 rfl
theorem in_X6_trades_6 : ∀ w ∈ wsX60, w ∈ wsX6_trades := fun w h => (gd_ids wi_X6_trades wm_X6_trades wi_X60 (by decide +kernel) w h).1
theorem dX6_trades_4 : decode cX6_trades 4 = .ok (.iload_n 1, 1) := decA_get dAX6_trades 2 rfl
theorem dX6_trades_5 : decode cX6_trades 5 = .ok (.invokevirtual 104, 3) := decA_get dAX6_trades 3 rfl
set_option maxRecDepth 20000 in
theorem ggX6_trades_X0_hasPerson : GoodIn wsX6_trades wsX0_hasPerson := gd_ids wi_X6_trades wm_X6_trades wi_X0_hasPerson (by decide +kernel)
theorem dX6_trades_8 : decode cX6_trades 8 = .ok (.ifCond .eq 37, 3) := decA_get dAX6_trades 4 rfl
theorem dX6_trades_11 : decode cX6_trades 11 = .ok (.aload_n 0, 1) := decA_get dAX6_trades 5 rfl
theorem dX6_trades_12 : decode cX6_trades 12 = .ok (.getfield 27, 3) := decA_get dAX6_trades 6 rfl
theorem dX6_trades_15 : decode cX6_trades 15 = .ok (.iload_n 2, 1) := decA_get dAX6_trades 7 rfl
theorem dX6_trades_16 : decode cX6_trades 16 = .ok (.invokevirtual 87, 3) := decA_get dAX6_trades 8 rfl
set_option maxRecDepth 20000 in
theorem ggX6_trades_X0_hasCoin : GoodIn wsX6_trades wsX0_hasCoin := gd_ids wi_X6_trades wm_X6_trades wi_X0_hasCoin (by decide +kernel)
theorem dX6_trades_19 : decode cX6_trades 19 = .ok (.ifCond .eq 26, 3) := decA_get dAX6_trades 9 rfl
theorem dX6_trades_22 : decode cX6_trades 22 = .ok (.aload_n 0, 1) := decA_get dAX6_trades 10 rfl
theorem dX6_trades_23 : decode cX6_trades 23 = .ok (.getfield 27, 3) := decA_get dAX6_trades 11 rfl
theorem dX6_trades_26 : decode cX6_trades 26 = .ok (.iload_n 3, 1) := decA_get dAX6_trades 12 rfl
theorem dX6_trades_27 : decode cX6_trades 27 = .ok (.invokevirtual 104, 3) := decA_get dAX6_trades 13 rfl
theorem dX6_trades_30 : decode cX6_trades 30 = .ok (.ifCond .eq 15, 3) := decA_get dAX6_trades 14 rfl
theorem dX6_trades_33 : decode cX6_trades 33 = .ok (.aload_n 0, 1) := decA_get dAX6_trades 15 rfl
theorem dX6_trades_34 : decode cX6_trades 34 = .ok (.getfield 27, 3) := decA_get dAX6_trades 16 rfl
theorem dX6_trades_37 : decode cX6_trades 37 = .ok (.iload 4, 2) := decA_get dAX6_trades 17 rfl
theorem dX6_trades_39 : decode cX6_trades 39 = .ok (.invokevirtual 87, 3) := decA_get dAX6_trades 18 rfl
theorem dX6_trades_42 : decode cX6_trades 42 = .ok (.ifCond .ne 5, 3) := decA_get dAX6_trades 19 rfl
theorem dX6_trades_47 : decode cX6_trades 47 = .ok (.iload_n 1, 1) := decA_get dAX6_trades 22 rfl
theorem dX6_trades_48 : decode cX6_trades 48 = .ok (.iload_n 3, 1) := decA_get dAX6_trades 23 rfl
theorem dX6_trades_49 : decode cX6_trades 49 = .ok (.if_icmp .eq 9, 3) := decA_get dAX6_trades 24 rfl
theorem dX6_trades_58 : decode cX6_trades 58 = .ok (.iconst (-1), 1) := decA_get dAX6_trades 28 rfl
theorem dX6_trades_59 : decode cX6_trades 59 = .ok (.ireturn, 1) := decA_get dAX6_trades 29 rfl
theorem dX6_trades_52 : decode cX6_trades 52 = .ok (.iload_n 2, 1) := decA_get dAX6_trades 25 rfl
theorem dX6_trades_53 : decode cX6_trades 53 = .ok (.iload 4, 2) := decA_get dAX6_trades 26 rfl
theorem dX6_trades_55 : decode cX6_trades 55 = .ok (.if_icmp .ne 5, 3) := decA_get dAX6_trades 27 rfl
theorem dX6_trades_60 : decode cX6_trades 60 = .ok (.aload_n 0, 1) := decA_get dAX6_trades 30 rfl
theorem dX6_trades_61 : decode cX6_trades 61 = .ok (.getfield 37, 3) := decA_get dAX6_trades 31 rfl
theorem dX6_trades_64 : decode cX6_trades 64 = .ok (.iload_n 1, 1) := decA_get dAX6_trades 32 rfl
theorem dX6_trades_65 : decode cX6_trades 65 = .ok (.iload_n 2, 1) := decA_get dAX6_trades 33 rfl
theorem dX6_trades_66 : decode cX6_trades 66 = .ok (.invokevirtual 119, 3) := decA_get dAX6_trades 34 rfl
set_option maxRecDepth 20000 in
theorem ggX6_trades_X1_held : GoodIn wsX6_trades wsX1_held := gd_ids wi_X6_trades wm_X6_trades wi_X1_held (by decide +kernel)
theorem dX6_trades_69 : decode cX6_trades 69 = .ok (.iconst 1, 1) := decA_get dAX6_trades 35 rfl
theorem dX6_trades_70 : decode cX6_trades 70 = .ok (.if_icmp .lt 17, 3) := decA_get dAX6_trades 36 rfl
theorem dX6_trades_87 : decode cX6_trades 87 = .ok (.bipush (-2), 2) := decA_get dAX6_trades 44 rfl
theorem dX6_trades_89 : decode cX6_trades 89 = .ok (.ireturn, 1) := decA_get dAX6_trades 45 rfl
theorem dX6_trades_73 : decode cX6_trades 73 = .ok (.aload_n 0, 1) := decA_get dAX6_trades 37 rfl
theorem dX6_trades_74 : decode cX6_trades 74 = .ok (.getfield 37, 3) := decA_get dAX6_trades 38 rfl
theorem dX6_trades_77 : decode cX6_trades 77 = .ok (.iload_n 3, 1) := decA_get dAX6_trades 39 rfl
theorem dX6_trades_78 : decode cX6_trades 78 = .ok (.iload 4, 2) := decA_get dAX6_trades 40 rfl
theorem dX6_trades_80 : decode cX6_trades 80 = .ok (.invokevirtual 119, 3) := decA_get dAX6_trades 41 rfl
theorem dX6_trades_83 : decode cX6_trades 83 = .ok (.iconst 1, 1) := decA_get dAX6_trades 42 rfl
theorem dX6_trades_84 : decode cX6_trades 84 = .ok (.if_icmp .ge 6, 3) := decA_get dAX6_trades 43 rfl
theorem dX6_trades_90 : decode cX6_trades 90 = .ok (.aload_n 0, 1) := decA_get dAX6_trades 46 rfl
theorem dX6_trades_91 : decode cX6_trades 91 = .ok (.getfield 27, 3) := decA_get dAX6_trades 47 rfl
theorem dX6_trades_94 : decode cX6_trades 94 = .ok (.getfield 94, 3) := decA_get dAX6_trades 48 rfl
theorem in_X6_trades_0 : ∀ w ∈ wsX00, w ∈ wsX6_trades := fun w h => (gd_ids wi_X6_trades wm_X6_trades wi_X00 (by decide +kernel) w h).1
theorem dX6_trades_97 : decode cX6_trades 97 = .ok (.iload_n 2, 1) := decA_get dAX6_trades 49 rfl
theorem dX6_trades_98 : decode cX6_trades 98 = .ok (.iaload, 1) := decA_get dAX6_trades 50 rfl
theorem dX6_trades_99 : decode cX6_trades 99 = .ok (.aload_n 0, 1) := decA_get dAX6_trades 51 rfl
theorem dX6_trades_100 : decode cX6_trades 100 = .ok (.getfield 27, 3) := decA_get dAX6_trades 52 rfl
theorem dX6_trades_103 : decode cX6_trades 103 = .ok (.getfield 94, 3) := decA_get dAX6_trades 53 rfl
theorem dX6_trades_106 : decode cX6_trades 106 = .ok (.iload 4, 2) := decA_get dAX6_trades 54 rfl
theorem dX6_trades_108 : decode cX6_trades 108 = .ok (.iaload, 1) := decA_get dAX6_trades 55 rfl
theorem dX6_trades_109 : decode cX6_trades 109 = .ok (.if_icmp .eq 6, 3) := decA_get dAX6_trades 56 rfl
theorem dX6_trades_115 : decode cX6_trades 115 = .ok (.aload_n 0, 1) := decA_get dAX6_trades 59 rfl
theorem dX6_trades_116 : decode cX6_trades 116 = .ok (.getfield 37, 3) := decA_get dAX6_trades 60 rfl
theorem dX6_trades_119 : decode cX6_trades 119 = .ok (.iload_n 1, 1) := decA_get dAX6_trades 61 rfl
theorem dX6_trades_120 : decode cX6_trades 120 = .ok (.iload 4, 2) := decA_get dAX6_trades 62 rfl
theorem dX6_trades_122 : decode cX6_trades 122 = .ok (.invokevirtual 119, 3) := decA_get dAX6_trades 63 rfl
theorem dX6_trades_125 : decode cX6_trades 125 = .ok (.bipush 99, 2) := decA_get dAX6_trades 64 rfl
theorem dX6_trades_127 : decode cX6_trades 127 = .ok (.if_icmp .ge 17, 3) := decA_get dAX6_trades 65 rfl
theorem dX6_trades_144 : decode cX6_trades 144 = .ok (.bipush (-2), 2) := decA_get dAX6_trades 73 rfl
theorem dX6_trades_146 : decode cX6_trades 146 = .ok (.ireturn, 1) := decA_get dAX6_trades 74 rfl
theorem dX6_trades_130 : decode cX6_trades 130 = .ok (.aload_n 0, 1) := decA_get dAX6_trades 66 rfl
theorem dX6_trades_131 : decode cX6_trades 131 = .ok (.getfield 37, 3) := decA_get dAX6_trades 67 rfl
theorem dX6_trades_134 : decode cX6_trades 134 = .ok (.iload_n 3, 1) := decA_get dAX6_trades 68 rfl
theorem dX6_trades_135 : decode cX6_trades 135 = .ok (.iload_n 2, 1) := decA_get dAX6_trades 69 rfl
theorem dX6_trades_136 : decode cX6_trades 136 = .ok (.invokevirtual 119, 3) := decA_get dAX6_trades 70 rfl
theorem dX6_trades_139 : decode cX6_trades 139 = .ok (.bipush 99, 2) := decA_get dAX6_trades 71 rfl
theorem dX6_trades_141 : decode cX6_trades 141 = .ok (.if_icmp .lt 6, 3) := decA_get dAX6_trades 72 rfl
theorem dX6_trades_147 : decode cX6_trades 147 = .ok (.aload_n 0, 1) := decA_get dAX6_trades 75 rfl
theorem dX6_trades_148 : decode cX6_trades 148 = .ok (.getfield 37, 3) := decA_get dAX6_trades 76 rfl
theorem dX6_trades_151 : decode cX6_trades 151 = .ok (.invokevirtual 154, 3) := decA_get dAX6_trades 77 rfl
set_option maxRecDepth 20000 in
theorem ggX6_trades_X1_remember : GoodIn wsX6_trades wsX1_remember := gd_ids wi_X6_trades wm_X6_trades wi_X1_remember (by decide +kernel)
theorem dX6_trades_154 : decode cX6_trades 154 = .ok (.aload_n 0, 1) := decA_get dAX6_trades 78 rfl
theorem dX6_trades_155 : decode cX6_trades 155 = .ok (.getfield 37, 3) := decA_get dAX6_trades 79 rfl
theorem dX6_trades_158 : decode cX6_trades 158 = .ok (.iload_n 1, 1) := decA_get dAX6_trades 80 rfl
theorem dX6_trades_159 : decode cX6_trades 159 = .ok (.iload_n 2, 1) := decA_get dAX6_trades 81 rfl
theorem dX6_trades_160 : decode cX6_trades 160 = .ok (.iconst (-1), 1) := decA_get dAX6_trades 82 rfl
theorem dX6_trades_161 : decode cX6_trades 161 = .ok (.invokevirtual 164, 3) := decA_get dAX6_trades 83 rfl
set_option maxRecDepth 20000 in
theorem ggX6_trades_X1_add : GoodIn wsX6_trades wsX1_add := gd_ids wi_X6_trades wm_X6_trades wi_X1_add (by decide +kernel)
theorem dX6_trades_164 : decode cX6_trades 164 = .ok (.aload_n 0, 1) := decA_get dAX6_trades 84 rfl
theorem dX6_trades_165 : decode cX6_trades 165 = .ok (.getfield 37, 3) := decA_get dAX6_trades 85 rfl
theorem dX6_trades_168 : decode cX6_trades 168 = .ok (.iload_n 3, 1) := decA_get dAX6_trades 86 rfl
theorem dX6_trades_169 : decode cX6_trades 169 = .ok (.iload_n 2, 1) := decA_get dAX6_trades 87 rfl
theorem dX6_trades_170 : decode cX6_trades 170 = .ok (.iconst 1, 1) := decA_get dAX6_trades 88 rfl
theorem dX6_trades_171 : decode cX6_trades 171 = .ok (.invokevirtual 164, 3) := decA_get dAX6_trades 89 rfl
theorem dX6_trades_174 : decode cX6_trades 174 = .ok (.aload_n 0, 1) := decA_get dAX6_trades 90 rfl
theorem dX6_trades_175 : decode cX6_trades 175 = .ok (.getfield 37, 3) := decA_get dAX6_trades 91 rfl
theorem dX6_trades_178 : decode cX6_trades 178 = .ok (.iload_n 3, 1) := decA_get dAX6_trades 92 rfl
theorem dX6_trades_179 : decode cX6_trades 179 = .ok (.iload 4, 2) := decA_get dAX6_trades 93 rfl
theorem dX6_trades_181 : decode cX6_trades 181 = .ok (.iconst (-1), 1) := decA_get dAX6_trades 94 rfl
theorem dX6_trades_182 : decode cX6_trades 182 = .ok (.invokevirtual 164, 3) := decA_get dAX6_trades 95 rfl
theorem dX6_trades_185 : decode cX6_trades 185 = .ok (.aload_n 0, 1) := decA_get dAX6_trades 96 rfl
theorem dX6_trades_186 : decode cX6_trades 186 = .ok (.getfield 37, 3) := decA_get dAX6_trades 97 rfl
theorem dX6_trades_189 : decode cX6_trades 189 = .ok (.iload_n 1, 1) := decA_get dAX6_trades 98 rfl
theorem dX6_trades_190 : decode cX6_trades 190 = .ok (.iload 4, 2) := decA_get dAX6_trades 99 rfl
theorem dX6_trades_192 : decode cX6_trades 192 = .ok (.iconst 1, 1) := decA_get dAX6_trades 100 rfl
theorem dX6_trades_193 : decode cX6_trades 193 = .ok (.invokevirtual 164, 3) := decA_get dAX6_trades 101 rfl
theorem dX6_trades_196 : decode cX6_trades 196 = .ok (.aload_n 0, 1) := decA_get dAX6_trades 102 rfl
theorem dX6_trades_197 : decode cX6_trades 197 = .ok (.getfield 37, 3) := decA_get dAX6_trades 103 rfl
theorem dX6_trades_200 : decode cX6_trades 200 = .ok (.iload_n 1, 1) := decA_get dAX6_trades 104 rfl
theorem dX6_trades_201 : decode cX6_trades 201 = .ok (.iload 4, 2) := decA_get dAX6_trades 105 rfl
theorem dX6_trades_203 : decode cX6_trades 203 = .ok (.invokevirtual 119, 3) := decA_get dAX6_trades 106 rfl
theorem dX6_trades_206 : decode cX6_trades 206 = .ok (.ireturn, 1) := decA_get dAX6_trades 107 rfl
theorem dX6_trades_112 : decode cX6_trades 112 = .ok (.bipush (-2), 2) := decA_get dAX6_trades 57 rfl
theorem dX6_trades_114 : decode cX6_trades 114 = .ok (.ireturn, 1) := decA_get dAX6_trades 58 rfl
theorem dX6_trades_45 : decode cX6_trades 45 = .ok (.iconst (-1), 1) := decA_get dAX6_trades 20 rfl
theorem dX6_trades_46 : decode cX6_trades 46 = .ok (.ireturn, 1) := decA_get dAX6_trades 21 rfl
set_option maxRecDepth 20000 in
theorem dAX6_loses : decA cX6_loses [(0, .aload_n 0, 1), (1, .getfield 27, 3), (4, .iload_n 1, 1), (5, .invokevirtual 104, 3), (8, .ifCond .eq 14, 3), (11, .aload_n 0, 1), (12, .getfield 27, 3), (15, .iload_n 2, 1), (16, .invokevirtual 87, 3), (19, .ifCond .ne 5, 3), (22, .iconst (-1), 1), (23, .ireturn, 1), (24, .aload_n 0, 1), (25, .getfield 37, 3), (28, .iload_n 1, 1), (29, .iload_n 2, 1), (30, .invokevirtual 119, 3), (33, .iconst 1, 1), (34, .if_icmp .ge 6, 3), (37, .bipush (-2), 2), (39, .ireturn, 1), (40, .aload_n 0, 1), (41, .getfield 37, 3), (44, .invokevirtual 154, 3), (47, .aload_n 0, 1), (48, .getfield 37, 3), (51, .iload_n 1, 1), (52, .iload_n 2, 1), (53, .iconst (-1), 1), (54, .invokevirtual 164, 3), (57, .aload_n 0, 1), (58, .getfield 37, 3), (61, .iload_n 1, 1), (62, .iload_n 2, 1), (63, .invokevirtual 119, 3), (66, .ireturn, 1)] = true := by decide +kernel
theorem dX6_loses_0 : decode cX6_loses 0 = .ok (.aload_n 0, 1) := decA_get dAX6_loses 0 rfl
theorem dX6_loses_1 : decode cX6_loses 1 = .ok (.getfield 27, 3) := decA_get dAX6_loses 1 rfl
theorem in_X6_loses_6 : ∀ w ∈ wsX60, w ∈ wsX6_loses := fun w h => (gd_ids wi_X6_loses wm_X6_loses wi_X60 (by decide +kernel) w h).1
theorem dX6_loses_4 : decode cX6_loses 4 = .ok (.iload_n 1, 1) := decA_get dAX6_loses 2 rfl
theorem dX6_loses_5 : decode cX6_loses 5 = .ok (.invokevirtual 104, 3) := decA_get dAX6_loses 3 rfl
set_option maxRecDepth 20000 in
theorem ggX6_loses_X0_hasPerson : GoodIn wsX6_loses wsX0_hasPerson := gd_ids wi_X6_loses wm_X6_loses wi_X0_hasPerson (by decide +kernel)
theorem dX6_loses_8 : decode cX6_loses 8 = .ok (.ifCond .eq 14, 3) := decA_get dAX6_loses 4 rfl
theorem dX6_loses_11 : decode cX6_loses 11 = .ok (.aload_n 0, 1) := decA_get dAX6_loses 5 rfl
theorem dX6_loses_12 : decode cX6_loses 12 = .ok (.getfield 27, 3) := decA_get dAX6_loses 6 rfl
theorem dX6_loses_15 : decode cX6_loses 15 = .ok (.iload_n 2, 1) := decA_get dAX6_loses 7 rfl
theorem dX6_loses_16 : decode cX6_loses 16 = .ok (.invokevirtual 87, 3) := decA_get dAX6_loses 8 rfl
set_option maxRecDepth 20000 in
theorem ggX6_loses_X0_hasCoin : GoodIn wsX6_loses wsX0_hasCoin := gd_ids wi_X6_loses wm_X6_loses wi_X0_hasCoin (by decide +kernel)
theorem dX6_loses_19 : decode cX6_loses 19 = .ok (.ifCond .ne 5, 3) := decA_get dAX6_loses 9 rfl
theorem dX6_loses_24 : decode cX6_loses 24 = .ok (.aload_n 0, 1) := decA_get dAX6_loses 12 rfl
theorem dX6_loses_25 : decode cX6_loses 25 = .ok (.getfield 37, 3) := decA_get dAX6_loses 13 rfl
theorem dX6_loses_28 : decode cX6_loses 28 = .ok (.iload_n 1, 1) := decA_get dAX6_loses 14 rfl
theorem dX6_loses_29 : decode cX6_loses 29 = .ok (.iload_n 2, 1) := decA_get dAX6_loses 15 rfl
theorem dX6_loses_30 : decode cX6_loses 30 = .ok (.invokevirtual 119, 3) := decA_get dAX6_loses 16 rfl
set_option maxRecDepth 20000 in
theorem ggX6_loses_X1_held : GoodIn wsX6_loses wsX1_held := gd_ids wi_X6_loses wm_X6_loses wi_X1_held (by decide +kernel)
theorem dX6_loses_33 : decode cX6_loses 33 = .ok (.iconst 1, 1) := decA_get dAX6_loses 17 rfl
theorem dX6_loses_34 : decode cX6_loses 34 = .ok (.if_icmp .ge 6, 3) := decA_get dAX6_loses 18 rfl
theorem dX6_loses_40 : decode cX6_loses 40 = .ok (.aload_n 0, 1) := decA_get dAX6_loses 21 rfl
theorem dX6_loses_41 : decode cX6_loses 41 = .ok (.getfield 37, 3) := decA_get dAX6_loses 22 rfl
theorem dX6_loses_44 : decode cX6_loses 44 = .ok (.invokevirtual 154, 3) := decA_get dAX6_loses 23 rfl
set_option maxRecDepth 20000 in
theorem ggX6_loses_X1_remember : GoodIn wsX6_loses wsX1_remember := gd_ids wi_X6_loses wm_X6_loses wi_X1_remember (by decide +kernel)
theorem dX6_loses_47 : decode cX6_loses 47 = .ok (.aload_n 0, 1) := decA_get dAX6_loses 24 rfl
theorem dX6_loses_48 : decode cX6_loses 48 = .ok (.getfield 37, 3) := decA_get dAX6_loses 25 rfl
theorem dX6_loses_51 : decode cX6_loses 51 = .ok (.iload_n 1, 1) := decA_get dAX6_loses 26 rfl
theorem dX6_loses_52 : decode cX6_loses 52 = .ok (.iload_n 2, 1) := decA_get dAX6_loses 27 rfl
theorem dX6_loses_53 : decode cX6_loses 53 = .ok (.iconst (-1), 1) := decA_get dAX6_loses 28 rfl
theorem dX6_loses_54 : decode cX6_loses 54 = .ok (.invokevirtual 164, 3) := decA_get dAX6_loses 29 rfl
set_option maxRecDepth 20000 in
theorem ggX6_loses_X1_add : GoodIn wsX6_loses wsX1_add := gd_ids wi_X6_loses wm_X6_loses wi_X1_add (by decide +kernel)
theorem dX6_loses_57 : decode cX6_loses 57 = .ok (.aload_n 0, 1) := decA_get dAX6_loses 30 rfl
theorem dX6_loses_58 : decode cX6_loses 58 = .ok (.getfield 37, 3) := decA_get dAX6_loses 31 rfl
theorem dX6_loses_61 : decode cX6_loses 61 = .ok (.iload_n 1, 1) := decA_get dAX6_loses 32 rfl
theorem dX6_loses_62 : decode cX6_loses 62 = .ok (.iload_n 2, 1) := decA_get dAX6_loses 33 rfl
theorem dX6_loses_63 : decode cX6_loses 63 = .ok (.invokevirtual 119, 3) := decA_get dAX6_loses 34 rfl
theorem dX6_loses_66 : decode cX6_loses 66 = .ok (.ireturn, 1) := decA_get dAX6_loses 35 rfl
theorem dX6_loses_37 : decode cX6_loses 37 = .ok (.bipush (-2), 2) := decA_get dAX6_loses 19 rfl
theorem dX6_loses_39 : decode cX6_loses 39 = .ok (.ireturn, 1) := decA_get dAX6_loses 20 rfl
theorem dX6_loses_22 : decode cX6_loses 22 = .ok (.iconst (-1), 1) := decA_get dAX6_loses 10 rfl
theorem dX6_loses_23 : decode cX6_loses 23 = .ok (.ireturn, 1) := decA_get dAX6_loses 11 rfl
set_option maxRecDepth 20000 in
theorem dAX6_finds : decA cX6_finds [(0, .aload_n 0, 1), (1, .getfield 27, 3), (4, .iload_n 1, 1), (5, .invokevirtual 104, 3), (8, .ifCond .eq 14, 3), (11, .aload_n 0, 1), (12, .getfield 27, 3), (15, .iload_n 2, 1), (16, .invokevirtual 87, 3), (19, .ifCond .ne 5, 3), (22, .iconst (-1), 1), (23, .ireturn, 1), (24, .aload_n 0, 1), (25, .getfield 37, 3), (28, .iload_n 1, 1), (29, .iload_n 2, 1), (30, .invokevirtual 119, 3), (33, .bipush 99, 2), (35, .if_icmp .lt 6, 3), (38, .bipush (-2), 2), (40, .ireturn, 1), (41, .aload_n 0, 1), (42, .getfield 37, 3), (45, .invokevirtual 154, 3), (48, .aload_n 0, 1), (49, .getfield 37, 3), (52, .iload_n 1, 1), (53, .iload_n 2, 1), (54, .iconst 1, 1), (55, .invokevirtual 164, 3), (58, .aload_n 0, 1), (59, .getfield 37, 3), (62, .iload_n 1, 1), (63, .iload_n 2, 1), (64, .invokevirtual 119, 3), (67, .ireturn, 1)] = true := by decide +kernel
theorem dX6_finds_0 : decode cX6_finds 0 = .ok (.aload_n 0, 1) := decA_get dAX6_finds 0 rfl
theorem dX6_finds_1 : decode cX6_finds 1 = .ok (.getfield 27, 3) := decA_get dAX6_finds 1 rfl
theorem in_X6_finds_6 : ∀ w ∈ wsX60, w ∈ wsX6_finds := fun w h => (gd_ids wi_X6_finds wm_X6_finds wi_X60 (by decide +kernel) w h).1
theorem dX6_finds_4 : decode cX6_finds 4 = .ok (.iload_n 1, 1) := decA_get dAX6_finds 2 rfl
theorem dX6_finds_5 : decode cX6_finds 5 = .ok (.invokevirtual 104, 3) := decA_get dAX6_finds 3 rfl
set_option maxRecDepth 20000 in
theorem ggX6_finds_X0_hasPerson : GoodIn wsX6_finds wsX0_hasPerson := gd_ids wi_X6_finds wm_X6_finds wi_X0_hasPerson (by decide +kernel)
theorem dX6_finds_8 : decode cX6_finds 8 = .ok (.ifCond .eq 14, 3) := decA_get dAX6_finds 4 rfl
theorem dX6_finds_11 : decode cX6_finds 11 = .ok (.aload_n 0, 1) := decA_get dAX6_finds 5 rfl
theorem dX6_finds_12 : decode cX6_finds 12 = .ok (.getfield 27, 3) := decA_get dAX6_finds 6 rfl
theorem dX6_finds_15 : decode cX6_finds 15 = .ok (.iload_n 2, 1) := decA_get dAX6_finds 7 rfl
theorem dX6_finds_16 : decode cX6_finds 16 = .ok (.invokevirtual 87, 3) := decA_get dAX6_finds 8 rfl
set_option maxRecDepth 20000 in
theorem ggX6_finds_X0_hasCoin : GoodIn wsX6_finds wsX0_hasCoin := gd_ids wi_X6_finds wm_X6_finds wi_X0_hasCoin (by decide +kernel)
theorem dX6_finds_19 : decode cX6_finds 19 = .ok (.ifCond .ne 5, 3) := decA_get dAX6_finds 9 rfl
theorem dX6_finds_24 : decode cX6_finds 24 = .ok (.aload_n 0, 1) := decA_get dAX6_finds 12 rfl
theorem dX6_finds_25 : decode cX6_finds 25 = .ok (.getfield 37, 3) := decA_get dAX6_finds 13 rfl
theorem dX6_finds_28 : decode cX6_finds 28 = .ok (.iload_n 1, 1) := decA_get dAX6_finds 14 rfl
theorem dX6_finds_29 : decode cX6_finds 29 = .ok (.iload_n 2, 1) := decA_get dAX6_finds 15 rfl
theorem dX6_finds_30 : decode cX6_finds 30 = .ok (.invokevirtual 119, 3) := decA_get dAX6_finds 16 rfl
set_option maxRecDepth 20000 in
theorem ggX6_finds_X1_held : GoodIn wsX6_finds wsX1_held := gd_ids wi_X6_finds wm_X6_finds wi_X1_held (by decide +kernel)
theorem dX6_finds_33 : decode cX6_finds 33 = .ok (.bipush 99, 2) := decA_get dAX6_finds 17 rfl
theorem dX6_finds_35 : decode cX6_finds 35 = .ok (.if_icmp .lt 6, 3) := decA_get dAX6_finds 18 rfl
theorem dX6_finds_41 : decode cX6_finds 41 = .ok (.aload_n 0, 1) := decA_get dAX6_finds 21 rfl
theorem dX6_finds_42 : decode cX6_finds 42 = .ok (.getfield 37, 3) := decA_get dAX6_finds 22 rfl
theorem dX6_finds_45 : decode cX6_finds 45 = .ok (.invokevirtual 154, 3) := decA_get dAX6_finds 23 rfl
set_option maxRecDepth 20000 in
theorem ggX6_finds_X1_remember : GoodIn wsX6_finds wsX1_remember := gd_ids wi_X6_finds wm_X6_finds wi_X1_remember (by decide +kernel)
theorem dX6_finds_48 : decode cX6_finds 48 = .ok (.aload_n 0, 1) := decA_get dAX6_finds 24 rfl
theorem dX6_finds_49 : decode cX6_finds 49 = .ok (.getfield 37, 3) := decA_get dAX6_finds 25 rfl
theorem dX6_finds_52 : decode cX6_finds 52 = .ok (.iload_n 1, 1) := decA_get dAX6_finds 26 rfl
theorem dX6_finds_53 : decode cX6_finds 53 = .ok (.iload_n 2, 1) := decA_get dAX6_finds 27 rfl
theorem dX6_finds_54 : decode cX6_finds 54 = .ok (.iconst 1, 1) := decA_get dAX6_finds 28 rfl
theorem dX6_finds_55 : decode cX6_finds 55 = .ok (.invokevirtual 164, 3) := decA_get dAX6_finds 29 rfl
set_option maxRecDepth 20000 in
theorem ggX6_finds_X1_add : GoodIn wsX6_finds wsX1_add := gd_ids wi_X6_finds wm_X6_finds wi_X1_add (by decide +kernel)
theorem dX6_finds_58 : decode cX6_finds 58 = .ok (.aload_n 0, 1) := decA_get dAX6_finds 30 rfl
theorem dX6_finds_59 : decode cX6_finds 59 = .ok (.getfield 37, 3) := decA_get dAX6_finds 31 rfl
theorem dX6_finds_62 : decode cX6_finds 62 = .ok (.iload_n 1, 1) := decA_get dAX6_finds 32 rfl
theorem dX6_finds_63 : decode cX6_finds 63 = .ok (.iload_n 2, 1) := decA_get dAX6_finds 33 rfl
theorem dX6_finds_64 : decode cX6_finds 64 = .ok (.invokevirtual 119, 3) := decA_get dAX6_finds 34 rfl
theorem dX6_finds_67 : decode cX6_finds 67 = .ok (.ireturn, 1) := decA_get dAX6_finds 35 rfl
theorem dX6_finds_38 : decode cX6_finds 38 = .ok (.bipush (-2), 2) := decA_get dAX6_finds 19 rfl
theorem dX6_finds_40 : decode cX6_finds 40 = .ok (.ireturn, 1) := decA_get dAX6_finds 20 rfl
theorem dX6_finds_22 : decode cX6_finds 22 = .ok (.iconst (-1), 1) := decA_get dAX6_finds 10 rfl
theorem dX6_finds_23 : decode cX6_finds 23 = .ok (.ireturn, 1) := decA_get dAX6_finds 11 rfl
set_option maxRecDepth 20000 in
theorem dAX6_passes : decA cX6_passes [(0, .aload_n 0, 1), (1, .getfield 27, 3), (4, .iload_n 1, 1), (5, .invokevirtual 123, 3), (8, .ifCond .eq 14, 3), (11, .aload_n 0, 1), (12, .getfield 27, 3), (15, .iload_n 2, 1), (16, .invokevirtual 104, 3), (19, .ifCond .ne 5, 3), (22, .iconst (-1), 1), (23, .ireturn, 1), (24, .aload_n 0, 1), (25, .getfield 37, 3), (28, .iload_n 1, 1), (29, .invokevirtual 129, 3), (32, .istore_n 3, 1), (33, .aload_n 0, 1), (34, .getfield 37, 3), (37, .iload_n 1, 1), (38, .invokevirtual 135, 3), (41, .ifCond .eq 21, 3), (44, .iload_n 2, 1), (45, .aload_n 0, 1), (46, .getfield 27, 3), (49, .getfield 126, 3), (52, .iload_n 1, 1), (53, .iaload, 1), (54, .if_icmp .eq 8, 3), (57, .iload_n 2, 1), (58, .iload_n 3, 1), (59, .if_icmp .ne 6, 3), (62, .bipush (-2), 2), (64, .ireturn, 1), (65, .aload_n 0, 1), (66, .getfield 37, 3), (69, .invokevirtual 154, 3), (72, .aload_n 0, 1), (73, .getfield 37, 3), (76, .iload_n 1, 1), (77, .iload_n 2, 1), (78, .invokevirtual 168, 3), (81, .iload_n 3, 1), (82, .ireturn, 1)] = true := by decide +kernel
theorem dX6_passes_0 : decode cX6_passes 0 = .ok (.aload_n 0, 1) := decA_get dAX6_passes 0 rfl
theorem dX6_passes_1 : decode cX6_passes 1 = .ok (.getfield 27, 3) := decA_get dAX6_passes 1 rfl
theorem in_X6_passes_6 : ∀ w ∈ wsX60, w ∈ wsX6_passes := fun w h => (gd_ids wi_X6_passes wm_X6_passes wi_X60 (by decide +kernel) w h).1
theorem dX6_passes_4 : decode cX6_passes 4 = .ok (.iload_n 1, 1) := decA_get dAX6_passes 2 rfl
theorem dX6_passes_5 : decode cX6_passes 5 = .ok (.invokevirtual 123, 3) := decA_get dAX6_passes 3 rfl
set_option maxRecDepth 20000 in
theorem ggX6_passes_X0_hasDebt : GoodIn wsX6_passes wsX0_hasDebt := gd_ids wi_X6_passes wm_X6_passes wi_X0_hasDebt (by decide +kernel)
theorem dX6_passes_8 : decode cX6_passes 8 = .ok (.ifCond .eq 14, 3) := decA_get dAX6_passes 4 rfl
theorem dX6_passes_11 : decode cX6_passes 11 = .ok (.aload_n 0, 1) := decA_get dAX6_passes 5 rfl
theorem dX6_passes_12 : decode cX6_passes 12 = .ok (.getfield 27, 3) := decA_get dAX6_passes 6 rfl
theorem dX6_passes_15 : decode cX6_passes 15 = .ok (.iload_n 2, 1) := decA_get dAX6_passes 7 rfl
theorem dX6_passes_16 : decode cX6_passes 16 = .ok (.invokevirtual 104, 3) := decA_get dAX6_passes 8 rfl
set_option maxRecDepth 20000 in
theorem ggX6_passes_X0_hasPerson : GoodIn wsX6_passes wsX0_hasPerson := gd_ids wi_X6_passes wm_X6_passes wi_X0_hasPerson (by decide +kernel)
theorem dX6_passes_19 : decode cX6_passes 19 = .ok (.ifCond .ne 5, 3) := decA_get dAX6_passes 9 rfl
theorem dX6_passes_24 : decode cX6_passes 24 = .ok (.aload_n 0, 1) := decA_get dAX6_passes 12 rfl
theorem dX6_passes_25 : decode cX6_passes 25 = .ok (.getfield 37, 3) := decA_get dAX6_passes 13 rfl
theorem dX6_passes_28 : decode cX6_passes 28 = .ok (.iload_n 1, 1) := decA_get dAX6_passes 14 rfl
theorem dX6_passes_29 : decode cX6_passes 29 = .ok (.invokevirtual 129, 3) := decA_get dAX6_passes 15 rfl
set_option maxRecDepth 20000 in
theorem ggX6_passes_X1_creditor : GoodIn wsX6_passes wsX1_creditor := gd_ids wi_X6_passes wm_X6_passes wi_X1_creditor (by decide +kernel)
theorem dX6_passes_32 : decode cX6_passes 32 = .ok (.istore_n 3, 1) := decA_get dAX6_passes 16 rfl
theorem dX6_passes_33 : decode cX6_passes 33 = .ok (.aload_n 0, 1) := decA_get dAX6_passes 17 rfl
theorem dX6_passes_34 : decode cX6_passes 34 = .ok (.getfield 37, 3) := decA_get dAX6_passes 18 rfl
theorem dX6_passes_37 : decode cX6_passes 37 = .ok (.iload_n 1, 1) := decA_get dAX6_passes 19 rfl
theorem dX6_passes_38 : decode cX6_passes 38 = .ok (.invokevirtual 135, 3) := decA_get dAX6_passes 20 rfl
set_option maxRecDepth 20000 in
theorem ggX6_passes_X1_isOpen : GoodIn wsX6_passes wsX1_isOpen := gd_ids wi_X6_passes wm_X6_passes wi_X1_isOpen (by decide +kernel)
theorem dX6_passes_41 : decode cX6_passes 41 = .ok (.ifCond .eq 21, 3) := decA_get dAX6_passes 21 rfl
theorem dX6_passes_62 : decode cX6_passes 62 = .ok (.bipush (-2), 2) := decA_get dAX6_passes 32 rfl
theorem dX6_passes_64 : decode cX6_passes 64 = .ok (.ireturn, 1) := decA_get dAX6_passes 33 rfl
theorem dX6_passes_44 : decode cX6_passes 44 = .ok (.iload_n 2, 1) := decA_get dAX6_passes 22 rfl
theorem dX6_passes_45 : decode cX6_passes 45 = .ok (.aload_n 0, 1) := decA_get dAX6_passes 23 rfl
theorem dX6_passes_46 : decode cX6_passes 46 = .ok (.getfield 27, 3) := decA_get dAX6_passes 24 rfl
theorem dX6_passes_49 : decode cX6_passes 49 = .ok (.getfield 126, 3) := decA_get dAX6_passes 25 rfl
theorem in_X6_passes_0 : ∀ w ∈ wsX00, w ∈ wsX6_passes := fun w h => (gd_ids wi_X6_passes wm_X6_passes wi_X00 (by decide +kernel) w h).1
theorem dX6_passes_52 : decode cX6_passes 52 = .ok (.iload_n 1, 1) := decA_get dAX6_passes 26 rfl
theorem dX6_passes_53 : decode cX6_passes 53 = .ok (.iaload, 1) := decA_get dAX6_passes 27 rfl
theorem dX6_passes_54 : decode cX6_passes 54 = .ok (.if_icmp .eq 8, 3) := decA_get dAX6_passes 28 rfl
theorem dX6_passes_57 : decode cX6_passes 57 = .ok (.iload_n 2, 1) := decA_get dAX6_passes 29 rfl
theorem dX6_passes_58 : decode cX6_passes 58 = .ok (.iload_n 3, 1) := decA_get dAX6_passes 30 rfl
theorem dX6_passes_59 : decode cX6_passes 59 = .ok (.if_icmp .ne 6, 3) := decA_get dAX6_passes 31 rfl
theorem dX6_passes_65 : decode cX6_passes 65 = .ok (.aload_n 0, 1) := decA_get dAX6_passes 34 rfl
theorem dX6_passes_66 : decode cX6_passes 66 = .ok (.getfield 37, 3) := decA_get dAX6_passes 35 rfl
theorem dX6_passes_69 : decode cX6_passes 69 = .ok (.invokevirtual 154, 3) := decA_get dAX6_passes 36 rfl
set_option maxRecDepth 20000 in
theorem ggX6_passes_X1_remember : GoodIn wsX6_passes wsX1_remember := gd_ids wi_X6_passes wm_X6_passes wi_X1_remember (by decide +kernel)
theorem dX6_passes_72 : decode cX6_passes 72 = .ok (.aload_n 0, 1) := decA_get dAX6_passes 37 rfl
theorem dX6_passes_73 : decode cX6_passes 73 = .ok (.getfield 37, 3) := decA_get dAX6_passes 38 rfl
theorem dX6_passes_76 : decode cX6_passes 76 = .ok (.iload_n 1, 1) := decA_get dAX6_passes 39 rfl
theorem dX6_passes_77 : decode cX6_passes 77 = .ok (.iload_n 2, 1) := decA_get dAX6_passes 40 rfl
theorem dX6_passes_78 : decode cX6_passes 78 = .ok (.invokevirtual 168, 3) := decA_get dAX6_passes 41 rfl
set_option maxRecDepth 20000 in
theorem ggX6_passes_X1_setCreditor : GoodIn wsX6_passes wsX1_setCreditor := gd_ids wi_X6_passes wm_X6_passes wi_X1_setCreditor (by decide +kernel)
theorem dX6_passes_81 : decode cX6_passes 81 = .ok (.iload_n 3, 1) := decA_get dAX6_passes 42 rfl
theorem dX6_passes_82 : decode cX6_passes 82 = .ok (.ireturn, 1) := decA_get dAX6_passes 43 rfl
theorem dX6_passes_22 : decode cX6_passes 22 = .ok (.iconst (-1), 1) := decA_get dAX6_passes 10 rfl
theorem dX6_passes_23 : decode cX6_passes 23 = .ok (.ireturn, 1) := decA_get dAX6_passes 11 rfl
set_option maxRecDepth 20000 in
theorem dAX6_undo : decA cX6_undo [(0, .aload_n 0, 1), (1, .getfield 37, 3), (4, .getfield 172, 3), (7, .iconst 1, 1), (8, .if_icmp .ge 6, 3), (11, .bipush (-2), 2), (13, .ireturn, 1), (14, .aload_n 0, 1), (15, .getfield 37, 3), (18, .invokevirtual 175, 3), (21, .aload_n 0, 1), (22, .getfield 37, 3), (25, .getfield 172, 3), (28, .ireturn, 1)] = true := by decide +kernel
theorem dX6_undo_0 : decode cX6_undo 0 = .ok (.aload_n 0, 1) := decA_get dAX6_undo 0 rfl
theorem dX6_undo_1 : decode cX6_undo 1 = .ok (.getfield 37, 3) := decA_get dAX6_undo 1 rfl
theorem in_X6_undo_6 : ∀ w ∈ wsX60, w ∈ wsX6_undo := fun w h => (gd_ids wi_X6_undo wm_X6_undo wi_X60 (by decide +kernel) w h).1
theorem dX6_undo_4 : decode cX6_undo 4 = .ok (.getfield 172, 3) := decA_get dAX6_undo 2 rfl
theorem in_X6_undo_1 : ∀ w ∈ wsX10, w ∈ wsX6_undo := fun w h => (gd_ids wi_X6_undo wm_X6_undo wi_X10 (by decide +kernel) w h).1
theorem dX6_undo_7 : decode cX6_undo 7 = .ok (.iconst 1, 1) := decA_get dAX6_undo 3 rfl
theorem dX6_undo_8 : decode cX6_undo 8 = .ok (.if_icmp .ge 6, 3) := decA_get dAX6_undo 4 rfl
theorem dX6_undo_14 : decode cX6_undo 14 = .ok (.aload_n 0, 1) := decA_get dAX6_undo 7 rfl
theorem dX6_undo_15 : decode cX6_undo 15 = .ok (.getfield 37, 3) := decA_get dAX6_undo 8 rfl
theorem dX6_undo_18 : decode cX6_undo 18 = .ok (.invokevirtual 175, 3) := decA_get dAX6_undo 9 rfl
set_option maxRecDepth 20000 in
theorem ggX6_undo_X1_stepBack : GoodIn wsX6_undo wsX1_stepBack := gd_ids wi_X6_undo wm_X6_undo wi_X1_stepBack (by decide +kernel)
theorem dX6_undo_21 : decode cX6_undo 21 = .ok (.aload_n 0, 1) := decA_get dAX6_undo 10 rfl
theorem dX6_undo_22 : decode cX6_undo 22 = .ok (.getfield 37, 3) := decA_get dAX6_undo 11 rfl
theorem dX6_undo_25 : decode cX6_undo 25 = .ok (.getfield 172, 3) := decA_get dAX6_undo 12 rfl
theorem dX6_undo_28 : decode cX6_undo 28 = .ok (.ireturn, 1) := decA_get dAX6_undo 13 rfl
theorem dX6_undo_11 : decode cX6_undo 11 = .ok (.bipush (-2), 2) := decA_get dAX6_undo 5 rfl
theorem dX6_undo_13 : decode cX6_undo 13 = .ok (.ireturn, 1) := decA_get dAX6_undo 6 rfl
