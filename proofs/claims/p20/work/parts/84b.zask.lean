set_option maxRecDepth 20000 in
theorem dAX7_now : decA cX7_now [(0, .iconst 0, 1), (1, .istore_n 2, 1), (2, .iload_n 1, 1), (3, .tableswitch 161 0 3 #[29, 37, 88, 116], 29), (32, .aload_n 0, 1), (33, .getfield 47, 3), (36, .bipush 35, 2), (38, .iaload, 1), (39, .ireturn, 1), (40, .iconst 0, 1), (41, .istore_n 3, 1), (42, .iload_n 3, 1), (43, .aload_n 0, 1), (44, .getfield 32, 3), (47, .iconst 0, 1), (48, .iaload, 1), (49, .if_icmp .ge 40, 3), (52, .iload_n 2, 1), (53, .aload_n 0, 1), (54, .aload_n 0, 1), (55, .getfield 47, 3), (58, .iload_n 3, 1), (59, .invokevirtual 168, 3), (62, .ifCond .eq 18, 3), (65, .aload_n 0, 1), (66, .iload_n 3, 1), (67, .iconst 0, 1), (68, .invokevirtual 176, 3), (71, .ifCond .ne 9, 3), (74, .iconst 1, 1), (75, .iload_n 3, 1), (76, .ishl, 1), (77, .goto 4, 3), (80, .iconst 0, 1), (81, .ior, 1), (82, .istore_n 2, 1), (83, .iinc 3 1, 3), (86, .goto (-44), 3), (89, .iload_n 2, 1), (90, .ireturn, 1), (91, .iconst 0, 1), (92, .istore_n 3, 1), (93, .iload_n 3, 1), (94, .aload_n 0, 1), (95, .getfield 23, 3), (98, .iconst 0, 1), (99, .iaload, 1), (100, .if_icmp .ge 17, 3), (103, .iload_n 2, 1), (104, .aload_n 0, 1), (105, .iload_n 3, 1), (106, .invokevirtual 148, 3), (109, .iadd, 1), (110, .istore_n 2, 1), (111, .iinc 3 1, 3), (114, .goto (-21), 3), (117, .iload_n 2, 1), (118, .ireturn, 1), (119, .iconst 0, 1), (120, .istore_n 3, 1), (121, .iload_n 3, 1), (122, .aload_n 0, 1), (123, .getfield 32, 3), (126, .iconst 0, 1), (127, .iaload, 1), (128, .if_icmp .ge 34, 3), (131, .iload_n 2, 1), (132, .aload_n 0, 1), (133, .aload_n 0, 1), (134, .getfield 47, 3), (137, .iload_n 3, 1), (138, .invokevirtual 168, 3), (141, .ifCond .eq 12, 3), (144, .aload_n 0, 1), (145, .getfield 41, 3), (148, .iload_n 3, 1), (149, .iaload, 1), (150, .goto 4, 3), (153, .iconst 0, 1), (154, .iadd, 1), (155, .istore_n 2, 1), (156, .iinc 3 1, 3), (159, .goto (-38), 3), (162, .iload_n 2, 1), (163, .ireturn, 1), (164, .iconst (-1), 1), (165, .ireturn, 1)] = true := by decide +kernel
theorem dX7_now_0 : decode cX7_now 0 = .ok (.iconst 0, 1) := decA_get dAX7_now 0 rfl
theorem dX7_now_1 : decode cX7_now 1 = .ok (.istore_n 2, 1) := decA_get dAX7_now 1 rfl
theorem dX7_now_2 : decode cX7_now 2 = .ok (.iload_n 1, 1) := decA_get dAX7_now 2 rfl
theorem dX7_now_3 : decode cX7_now 3 = .ok (.tableswitch 161 0 3 #[29, 37, 88, 116], 29) := decA_get dAX7_now 3 rfl
theorem dX7_now_32 : decode cX7_now 32 = .ok (.aload_n 0, 1) := decA_get dAX7_now 4 rfl
theorem dX7_now_33 : decode cX7_now 33 = .ok (.getfield 47, 3) := decA_get dAX7_now 5 rfl
theorem in_X7_now_7 : ∀ w ∈ wsX70, w ∈ wsX7_now := fun w h => (gd_ids wi_X7_now wm_X7_now wi_X70 (by decide +kernel) w h).1
theorem dX7_now_36 : decode cX7_now 36 = .ok (.bipush 35, 2) := decA_get dAX7_now 6 rfl
theorem dX7_now_38 : decode cX7_now 38 = .ok (.iaload, 1) := decA_get dAX7_now 7 rfl
theorem dX7_now_39 : decode cX7_now 39 = .ok (.ireturn, 1) := decA_get dAX7_now 8 rfl
theorem dX7_now_40 : decode cX7_now 40 = .ok (.iconst 0, 1) := decA_get dAX7_now 9 rfl
theorem dX7_now_41 : decode cX7_now 41 = .ok (.istore_n 3, 1) := decA_get dAX7_now 10 rfl
theorem dX7_now_42 : decode cX7_now 42 = .ok (.iload_n 3, 1) := decA_get dAX7_now 11 rfl
theorem dX7_now_43 : decode cX7_now 43 = .ok (.aload_n 0, 1) := decA_get dAX7_now 12 rfl
theorem dX7_now_44 : decode cX7_now 44 = .ok (.getfield 32, 3) := decA_get dAX7_now 13 rfl
theorem dX7_now_47 : decode cX7_now 47 = .ok (.iconst 0, 1) := decA_get dAX7_now 14 rfl
theorem dX7_now_48 : decode cX7_now 48 = .ok (.iaload, 1) := decA_get dAX7_now 15 rfl
theorem dX7_now_49 : decode cX7_now 49 = .ok (.if_icmp .ge 40, 3) := decA_get dAX7_now 16 rfl
theorem dX7_now_89 : decode cX7_now 89 = .ok (.iload_n 2, 1) := decA_get dAX7_now 38 rfl
theorem dX7_now_90 : decode cX7_now 90 = .ok (.ireturn, 1) := decA_get dAX7_now 39 rfl
theorem dX7_now_52 : decode cX7_now 52 = .ok (.iload_n 2, 1) := decA_get dAX7_now 17 rfl
theorem dX7_now_53 : decode cX7_now 53 = .ok (.aload_n 0, 1) := decA_get dAX7_now 18 rfl
theorem dX7_now_54 : decode cX7_now 54 = .ok (.aload_n 0, 1) := decA_get dAX7_now 19 rfl
theorem dX7_now_55 : decode cX7_now 55 = .ok (.getfield 47, 3) := decA_get dAX7_now 20 rfl
theorem dX7_now_58 : decode cX7_now 58 = .ok (.iload_n 3, 1) := decA_get dAX7_now 21 rfl
theorem dX7_now_59 : decode cX7_now 59 = .ok (.invokevirtual 168, 3) := decA_get dAX7_now 22 rfl
set_option maxRecDepth 20000 in
theorem ggX7_now_X7_isOpen : GoodIn wsX7_now wsX7_isOpen := gd_ids wi_X7_now wm_X7_now wi_X7_isOpen (by decide +kernel)
set_option maxRecDepth 20000 in
theorem gX7_now_X7_isOpen : GoodIn wsX7_now (wsV RX7 168 RX7 yX7_isOpen wsX7_isOpen) := goodIn_app (gd_ids wi_X7_now wm_X7_now (b := [575, 576, 577, 481]) rfl (by decide +kernel)) ggX7_now_X7_isOpen
theorem dX7_now_62 : decode cX7_now 62 = .ok (.ifCond .eq 18, 3) := decA_get dAX7_now 23 rfl
theorem dX7_now_80 : decode cX7_now 80 = .ok (.iconst 0, 1) := decA_get dAX7_now 33 rfl
theorem dX7_now_81 : decode cX7_now 81 = .ok (.ior, 1) := decA_get dAX7_now 34 rfl
theorem dX7_now_82 : decode cX7_now 82 = .ok (.istore_n 2, 1) := decA_get dAX7_now 35 rfl
theorem dX7_now_83 : decode cX7_now 83 = .ok (.iinc 3 1, 3) := decA_get dAX7_now 36 rfl
theorem dX7_now_86 : decode cX7_now 86 = .ok (.goto (-44), 3) := decA_get dAX7_now 37 rfl
theorem dX7_now_65 : decode cX7_now 65 = .ok (.aload_n 0, 1) := decA_get dAX7_now 24 rfl
theorem dX7_now_66 : decode cX7_now 66 = .ok (.iload_n 3, 1) := decA_get dAX7_now 25 rfl
theorem dX7_now_67 : decode cX7_now 67 = .ok (.iconst 0, 1) := decA_get dAX7_now 26 rfl
theorem dX7_now_68 : decode cX7_now 68 = .ok (.invokevirtual 176, 3) := decA_get dAX7_now 27 rfl
set_option maxRecDepth 20000 in
theorem ggX7_now_X7_canWorld : GoodIn wsX7_now wsX7_canWorld := gd_ids wi_X7_now wm_X7_now wi_X7_canWorld (by decide +kernel)
set_option maxRecDepth 20000 in
theorem gX7_now_X7_canWorld : GoodIn wsX7_now (wsV RX7 176 RX7 yX7_canWorld wsX7_canWorld) := goodIn_app (gd_ids wi_X7_now wm_X7_now (b := [581, 582, 583, 481]) rfl (by decide +kernel)) ggX7_now_X7_canWorld
theorem dX7_now_71 : decode cX7_now 71 = .ok (.ifCond .ne 9, 3) := decA_get dAX7_now 28 rfl
theorem dX7_now_74 : decode cX7_now 74 = .ok (.iconst 1, 1) := decA_get dAX7_now 29 rfl
theorem dX7_now_75 : decode cX7_now 75 = .ok (.iload_n 3, 1) := decA_get dAX7_now 30 rfl
theorem dX7_now_76 : decode cX7_now 76 = .ok (.ishl, 1) := decA_get dAX7_now 31 rfl
theorem dX7_now_77 : decode cX7_now 77 = .ok (.goto 4, 3) := decA_get dAX7_now 32 rfl
theorem dX7_now_91 : decode cX7_now 91 = .ok (.iconst 0, 1) := decA_get dAX7_now 40 rfl
theorem dX7_now_92 : decode cX7_now 92 = .ok (.istore_n 3, 1) := decA_get dAX7_now 41 rfl
theorem dX7_now_93 : decode cX7_now 93 = .ok (.iload_n 3, 1) := decA_get dAX7_now 42 rfl
theorem dX7_now_94 : decode cX7_now 94 = .ok (.aload_n 0, 1) := decA_get dAX7_now 43 rfl
theorem dX7_now_95 : decode cX7_now 95 = .ok (.getfield 23, 3) := decA_get dAX7_now 44 rfl
theorem dX7_now_98 : decode cX7_now 98 = .ok (.iconst 0, 1) := decA_get dAX7_now 45 rfl
theorem dX7_now_99 : decode cX7_now 99 = .ok (.iaload, 1) := decA_get dAX7_now 46 rfl
theorem dX7_now_100 : decode cX7_now 100 = .ok (.if_icmp .ge 17, 3) := decA_get dAX7_now 47 rfl
theorem dX7_now_117 : decode cX7_now 117 = .ok (.iload_n 2, 1) := decA_get dAX7_now 56 rfl
theorem dX7_now_118 : decode cX7_now 118 = .ok (.ireturn, 1) := decA_get dAX7_now 57 rfl
theorem dX7_now_103 : decode cX7_now 103 = .ok (.iload_n 2, 1) := decA_get dAX7_now 48 rfl
theorem dX7_now_104 : decode cX7_now 104 = .ok (.aload_n 0, 1) := decA_get dAX7_now 49 rfl
theorem dX7_now_105 : decode cX7_now 105 = .ok (.iload_n 3, 1) := decA_get dAX7_now 50 rfl
theorem dX7_now_106 : decode cX7_now 106 = .ok (.invokevirtual 148, 3) := decA_get dAX7_now 51 rfl
set_option maxRecDepth 20000 in
theorem ggX7_now_X7_hasOf : GoodIn wsX7_now wsX7_hasOf := gd_ids wi_X7_now wm_X7_now wi_X7_hasOf (by decide +kernel)
set_option maxRecDepth 20000 in
theorem gX7_now_X7_hasOf : GoodIn wsX7_now (wsV RX7 148 RX7 yX7_hasOf wsX7_hasOf) := goodIn_app (gd_ids wi_X7_now wm_X7_now (b := [549, 550, 551, 481]) rfl (by decide +kernel)) ggX7_now_X7_hasOf
theorem dX7_now_109 : decode cX7_now 109 = .ok (.iadd, 1) := decA_get dAX7_now 52 rfl
theorem dX7_now_110 : decode cX7_now 110 = .ok (.istore_n 2, 1) := decA_get dAX7_now 53 rfl
theorem dX7_now_111 : decode cX7_now 111 = .ok (.iinc 3 1, 3) := decA_get dAX7_now 54 rfl
theorem dX7_now_114 : decode cX7_now 114 = .ok (.goto (-21), 3) := decA_get dAX7_now 55 rfl
theorem dX7_now_119 : decode cX7_now 119 = .ok (.iconst 0, 1) := decA_get dAX7_now 58 rfl
theorem dX7_now_120 : decode cX7_now 120 = .ok (.istore_n 3, 1) := decA_get dAX7_now 59 rfl
theorem dX7_now_121 : decode cX7_now 121 = .ok (.iload_n 3, 1) := decA_get dAX7_now 60 rfl
theorem dX7_now_122 : decode cX7_now 122 = .ok (.aload_n 0, 1) := decA_get dAX7_now 61 rfl
theorem dX7_now_123 : decode cX7_now 123 = .ok (.getfield 32, 3) := decA_get dAX7_now 62 rfl
theorem dX7_now_126 : decode cX7_now 126 = .ok (.iconst 0, 1) := decA_get dAX7_now 63 rfl
theorem dX7_now_127 : decode cX7_now 127 = .ok (.iaload, 1) := decA_get dAX7_now 64 rfl
theorem dX7_now_128 : decode cX7_now 128 = .ok (.if_icmp .ge 34, 3) := decA_get dAX7_now 65 rfl
theorem dX7_now_162 : decode cX7_now 162 = .ok (.iload_n 2, 1) := decA_get dAX7_now 83 rfl
theorem dX7_now_163 : decode cX7_now 163 = .ok (.ireturn, 1) := decA_get dAX7_now 84 rfl
theorem dX7_now_131 : decode cX7_now 131 = .ok (.iload_n 2, 1) := decA_get dAX7_now 66 rfl
theorem dX7_now_132 : decode cX7_now 132 = .ok (.aload_n 0, 1) := decA_get dAX7_now 67 rfl
theorem dX7_now_133 : decode cX7_now 133 = .ok (.aload_n 0, 1) := decA_get dAX7_now 68 rfl
theorem dX7_now_134 : decode cX7_now 134 = .ok (.getfield 47, 3) := decA_get dAX7_now 69 rfl
theorem dX7_now_137 : decode cX7_now 137 = .ok (.iload_n 3, 1) := decA_get dAX7_now 70 rfl
theorem dX7_now_138 : decode cX7_now 138 = .ok (.invokevirtual 168, 3) := decA_get dAX7_now 71 rfl
theorem dX7_now_141 : decode cX7_now 141 = .ok (.ifCond .eq 12, 3) := decA_get dAX7_now 72 rfl
theorem dX7_now_153 : decode cX7_now 153 = .ok (.iconst 0, 1) := decA_get dAX7_now 78 rfl
theorem dX7_now_154 : decode cX7_now 154 = .ok (.iadd, 1) := decA_get dAX7_now 79 rfl
theorem dX7_now_155 : decode cX7_now 155 = .ok (.istore_n 2, 1) := decA_get dAX7_now 80 rfl
theorem dX7_now_156 : decode cX7_now 156 = .ok (.iinc 3 1, 3) := decA_get dAX7_now 81 rfl
theorem dX7_now_159 : decode cX7_now 159 = .ok (.goto (-38), 3) := decA_get dAX7_now 82 rfl
theorem dX7_now_144 : decode cX7_now 144 = .ok (.aload_n 0, 1) := decA_get dAX7_now 73 rfl
theorem dX7_now_145 : decode cX7_now 145 = .ok (.getfield 41, 3) := decA_get dAX7_now 74 rfl
theorem dX7_now_148 : decode cX7_now 148 = .ok (.iload_n 3, 1) := decA_get dAX7_now 75 rfl
theorem dX7_now_149 : decode cX7_now 149 = .ok (.iaload, 1) := decA_get dAX7_now 76 rfl
theorem dX7_now_150 : decode cX7_now 150 = .ok (.goto 4, 3) := decA_get dAX7_now 77 rfl
theorem dX7_now_164 : decode cX7_now 164 = .ok (.iconst (-1), 1) := decA_get dAX7_now 85 rfl
theorem dX7_now_165 : decode cX7_now 165 = .ok (.ireturn, 1) := decA_get dAX7_now 86 rfl
set_option maxRecDepth 20000 in
theorem dAX7_pieces : decA cX7_pieces [(0, .aload_n 0, 1), (1, .iload_n 1, 1), (2, .invokevirtual 165, 3), (5, .ifCond .eq 11, 3), (8, .aload_n 0, 1), (9, .iload_n 2, 1), (10, .invokevirtual 142, 3), (13, .ifCond .ne 5, 3), (16, .iconst (-1), 1), (17, .ireturn, 1), (18, .aload_n 0, 1), (19, .aload_n 0, 1), (20, .getfield 47, 3), (23, .iload_n 1, 1), (24, .invokevirtual 172, 3), (27, .bipush (-9), 2), (29, .if_icmp .ne 8, 3), (32, .bipush (-9), 2), (34, .goto 9, 3), (37, .aload_n 0, 1), (38, .getfield 63, 3), (41, .iload_n 2, 1), (42, .iaload, 1), (43, .ireturn, 1)] = true := by decide +kernel
theorem dX7_pieces_0 : decode cX7_pieces 0 = .ok (.aload_n 0, 1) := decA_get dAX7_pieces 0 rfl
theorem dX7_pieces_1 : decode cX7_pieces 1 = .ok (.iload_n 1, 1) := decA_get dAX7_pieces 1 rfl
theorem dX7_pieces_2 : decode cX7_pieces 2 = .ok (.invokevirtual 165, 3) := decA_get dAX7_pieces 2 rfl
set_option maxRecDepth 20000 in
theorem ggX7_pieces_X7_isDebt : GoodIn wsX7_pieces wsX7_isDebt := gd_ids wi_X7_pieces wm_X7_pieces wi_X7_isDebt (by decide +kernel)
set_option maxRecDepth 20000 in
theorem gX7_pieces_X7_isDebt : GoodIn wsX7_pieces (wsV RX7 165 RX7 yX7_isDebt wsX7_isDebt) := goodIn_app (gd_ids wi_X7_pieces wm_X7_pieces (b := [572, 573, 574, 481]) rfl (by decide +kernel)) ggX7_pieces_X7_isDebt
theorem dX7_pieces_5 : decode cX7_pieces 5 = .ok (.ifCond .eq 11, 3) := decA_get dAX7_pieces 3 rfl
theorem dX7_pieces_8 : decode cX7_pieces 8 = .ok (.aload_n 0, 1) := decA_get dAX7_pieces 4 rfl
theorem dX7_pieces_9 : decode cX7_pieces 9 = .ok (.iload_n 2, 1) := decA_get dAX7_pieces 5 rfl
theorem dX7_pieces_10 : decode cX7_pieces 10 = .ok (.invokevirtual 142, 3) := decA_get dAX7_pieces 6 rfl
set_option maxRecDepth 20000 in
theorem ggX7_pieces_X7_isCoin : GoodIn wsX7_pieces wsX7_isCoin := gd_ids wi_X7_pieces wm_X7_pieces wi_X7_isCoin (by decide +kernel)
set_option maxRecDepth 20000 in
theorem gX7_pieces_X7_isCoin : GoodIn wsX7_pieces (wsV RX7 142 RX7 yX7_isCoin wsX7_isCoin) := goodIn_app (gd_ids wi_X7_pieces wm_X7_pieces (b := [542, 543, 544, 481]) rfl (by decide +kernel)) ggX7_pieces_X7_isCoin
theorem dX7_pieces_13 : decode cX7_pieces 13 = .ok (.ifCond .ne 5, 3) := decA_get dAX7_pieces 7 rfl
theorem dX7_pieces_18 : decode cX7_pieces 18 = .ok (.aload_n 0, 1) := decA_get dAX7_pieces 10 rfl
theorem dX7_pieces_19 : decode cX7_pieces 19 = .ok (.aload_n 0, 1) := decA_get dAX7_pieces 11 rfl
theorem dX7_pieces_20 : decode cX7_pieces 20 = .ok (.getfield 47, 3) := decA_get dAX7_pieces 12 rfl
theorem in_X7_pieces_7 : ∀ w ∈ wsX70, w ∈ wsX7_pieces := fun w h => (gd_ids wi_X7_pieces wm_X7_pieces wi_X70 (by decide +kernel) w h).1
theorem dX7_pieces_23 : decode cX7_pieces 23 = .ok (.iload_n 1, 1) := decA_get dAX7_pieces 13 rfl
theorem dX7_pieces_24 : decode cX7_pieces 24 = .ok (.invokevirtual 172, 3) := decA_get dAX7_pieces 14 rfl
set_option maxRecDepth 20000 in
theorem ggX7_pieces_X7_paymentOf : GoodIn wsX7_pieces wsX7_paymentOf := gd_ids wi_X7_pieces wm_X7_pieces wi_X7_paymentOf (by decide +kernel)
set_option maxRecDepth 20000 in
theorem gX7_pieces_X7_paymentOf : GoodIn wsX7_pieces (wsV RX7 172 RX7 yX7_paymentOf wsX7_paymentOf) := goodIn_app (gd_ids wi_X7_pieces wm_X7_pieces (b := [578, 579, 580, 481]) rfl (by decide +kernel)) ggX7_pieces_X7_paymentOf
theorem dX7_pieces_27 : decode cX7_pieces 27 = .ok (.bipush (-9), 2) := decA_get dAX7_pieces 15 rfl
theorem dX7_pieces_29 : decode cX7_pieces 29 = .ok (.if_icmp .ne 8, 3) := decA_get dAX7_pieces 16 rfl
theorem dX7_pieces_32 : decode cX7_pieces 32 = .ok (.bipush (-9), 2) := decA_get dAX7_pieces 17 rfl
theorem dX7_pieces_34 : decode cX7_pieces 34 = .ok (.goto 9, 3) := decA_get dAX7_pieces 18 rfl
theorem dX7_pieces_43 : decode cX7_pieces 43 = .ok (.ireturn, 1) := decA_get dAX7_pieces 23 rfl
theorem dX7_pieces_37 : decode cX7_pieces 37 = .ok (.aload_n 0, 1) := decA_get dAX7_pieces 19 rfl
theorem dX7_pieces_38 : decode cX7_pieces 38 = .ok (.getfield 63, 3) := decA_get dAX7_pieces 20 rfl
theorem dX7_pieces_41 : decode cX7_pieces 41 = .ok (.iload_n 2, 1) := decA_get dAX7_pieces 21 rfl
theorem dX7_pieces_42 : decode cX7_pieces 42 = .ok (.iaload, 1) := decA_get dAX7_pieces 22 rfl
theorem dX7_pieces_16 : decode cX7_pieces 16 = .ok (.iconst (-1), 1) := decA_get dAX7_pieces 8 rfl
theorem dX7_pieces_17 : decode cX7_pieces 17 = .ok (.ireturn, 1) := decA_get dAX7_pieces 9 rfl
set_option maxHeartbeats 4000000 in
set_option maxRecDepth 100000 in
theorem z_pieces (l : Launch) (D : va_G) (cI cB cZ cN : ClassId) (Zh : Nat) (Za1 : Nat) (Za3 : Nat) (Za4 : Nat) (Za5 : Nat) (Za6 : Nat) (Za7 : Nat) (Za8 : Nat) (Za9 : Nat) (Za10 : Nat) (Za11 : Nat) (Za12 : Nat) (Za13 : Nat) (Za20 : Nat) (Za21 : Nat) (Za22 : Nat) (Za23 : Nat) (Za24 : Nat) (Za25 : Nat) (Za26 : Nat) (Za27 : Nat) (Zt : Int64) (ZS : Nat → Nat → Nat) (v_d : Int32) (v_c : Int32) (hZ : ZOk ZS) : Ci (S := (Nat → Nat → Nat)) l D cI cB cZ cN yX7_pieces wsX7_pieces ({ frames := 5, cells := 0, slots := 0, locals := 112 } : Room) [.ref Zh, .int v_d, .int v_c] [(Zh, .inr (7, [.long Zt, .ref Za1, .int (nI (ZS 2 0)), .ref Za3, .ref Za4, .ref Za5, .ref Za6, .ref Za7, .ref Za8, .ref Za9, .ref Za10, .ref Za11, .ref Za12, .ref Za13, .int (nI (ZS 14 0)), .int (nI (ZS 15 0)), .int (nI (ZS 16 0)), .int (nI (ZS 17 0)), .int (nI (ZS 18 0)), .int (nI (ZS 19 0) - nI 9), .ref Za20, .ref Za21, .ref Za22, .ref Za23, .ref Za24, .ref Za25, .ref Za26, .ref Za27, .int (nI (ZS 28 0))])), (Za1, .inl (cB, 180, .inl (bF (ZS 1)))), (Za3, .inl (cI, 2, .inl (nF (ZS 3)))), (Za4, .inl (cI, 12, .inl (nF (ZS 4)))), (Za5, .inl (cI, 12, .inl (nF (ZS 5)))), (Za6, .inl (cI, 2, .inl (nF (ZS 6)))), (Za7, .inl (cI, 10, .inl (nF (ZS 7)))), (Za8, .inl (cI, 30, .inl (nF (ZS 8)))), (Za9, .inl (cI, 2, .inl (nF (ZS 9)))), (Za10, .inl (cI, 10, .inl (nF (ZS 10)))), (Za11, .inl (cI, 5, .inl (nF (ZS 11)))), (Za12, .inl (cI, 10, .inl (nF (ZS 12)))), (Za13, .inl (cI, 2, .inl (nF (ZS 13)))), (Za20, .inl (cI, 1191, .inl (nF (ZS 20)))), (Za21, .inl (cZ, 2, .inl (nF (ZS 21)))), (Za22, .inl (cI, 36, .inl (nF (ZS 22)))), (Za23, .inl (cI, 6, .inl (nF (ZS 23)))), (Za24, .inl (cI, 427, .inl (nF (ZS 24)))), (Za25, .inl (cI, 6, .inl (nF (ZS 25)))), (Za26, .inl (cI, 5, .inl (nF (ZS 26)))), (Za27, .inl (cI, 6, .inl (nF (ZS 27))))] (fun (r : Int32) (u : (Nat → Nat → Nat)) => ZP [23, 24, 25] u ZS ∧ ((¬ (inN v_d (ZS 9 0) ∧ inN v_c (ZS 3 0)) ∧ r = -1) ∨ (∃ d c, d < ZS 9 0 ∧ c < ZS 3 0 ∧ v_d = nI d ∧ v_c = nI c ∧ ((PZ (ZS 5) (thN ZS 20 (ZS 10 d) (ZS 20 (30 + d))) (ZS 12 d) (-9) (u 25) ∧ r = -9) ∨ ((∃ n, n < 1000 ∧ PZ (ZS 5) (thN ZS 20 (ZS 10 d) (ZS 20 (30 + d))) (ZS 12 d) (nI n) (u 25)) ∧ r = nI (u 25 c)))))) (fun u => [(Zh, .inr (7, [.long Zt, .ref Za1, .int (nI (u 2 0)), .ref Za3, .ref Za4, .ref Za5, .ref Za6, .ref Za7, .ref Za8, .ref Za9, .ref Za10, .ref Za11, .ref Za12, .ref Za13, .int (nI (u 14 0)), .int (nI (u 15 0)), .int (nI (u 16 0)), .int (nI (u 17 0)), .int (nI (u 18 0)), .int (nI (u 19 0) - nI 9), .ref Za20, .ref Za21, .ref Za22, .ref Za23, .ref Za24, .ref Za25, .ref Za26, .ref Za27, .int (nI (u 28 0))])), (Za1, .inl (cB, 180, .inl (bF (u 1)))), (Za3, .inl (cI, 2, .inl (nF (u 3)))), (Za4, .inl (cI, 12, .inl (nF (u 4)))), (Za5, .inl (cI, 12, .inl (nF (u 5)))), (Za6, .inl (cI, 2, .inl (nF (u 6)))), (Za7, .inl (cI, 10, .inl (nF (u 7)))), (Za8, .inl (cI, 30, .inl (nF (u 8)))), (Za9, .inl (cI, 2, .inl (nF (u 9)))), (Za10, .inl (cI, 10, .inl (nF (u 10)))), (Za11, .inl (cI, 5, .inl (nF (u 11)))), (Za12, .inl (cI, 10, .inl (nF (u 12)))), (Za13, .inl (cI, 2, .inl (nF (u 13)))), (Za20, .inl (cI, 1191, .inl (nF (u 20)))), (Za21, .inl (cZ, 2, .inl (nF (u 21)))), (Za22, .inl (cI, 36, .inl (nF (u 22)))), (Za23, .inl (cI, 6, .inl (nF (u 23)))), (Za24, .inl (cI, 427, .inl (nF (u 24)))), (Za25, .inl (cI, 6, .inl (nF (u 25)))), (Za26, .inl (cI, 5, .inl (nF (u 26)))), (Za27, .inl (cI, 6, .inl (nF (u 27))))]) := by
  refine bx_of (D := D) (cI := cI) (cB := cB) (cZ := cZ) (cN := cN) (y := yX7_pieces) (wd := wsX7_pieces) (rm := ({ frames := 5, cells := 0, slots := 0, locals := 112 } : Room)) (av := [.ref Zh, .int v_d, .int v_c]) (wc := [(Zh, .inr (7, [.long Zt, .ref Za1, .int (nI (ZS 2 0)), .ref Za3, .ref Za4, .ref Za5, .ref Za6, .ref Za7, .ref Za8, .ref Za9, .ref Za10, .ref Za11, .ref Za12, .ref Za13, .int (nI (ZS 14 0)), .int (nI (ZS 15 0)), .int (nI (ZS 16 0)), .int (nI (ZS 17 0)), .int (nI (ZS 18 0)), .int (nI (ZS 19 0) - nI 9), .ref Za20, .ref Za21, .ref Za22, .ref Za23, .ref Za24, .ref Za25, .ref Za26, .ref Za27, .int (nI (ZS 28 0))])), (Za1, .inl (cB, 180, .inl (bF (ZS 1)))), (Za3, .inl (cI, 2, .inl (nF (ZS 3)))), (Za4, .inl (cI, 12, .inl (nF (ZS 4)))), (Za5, .inl (cI, 12, .inl (nF (ZS 5)))), (Za6, .inl (cI, 2, .inl (nF (ZS 6)))), (Za7, .inl (cI, 10, .inl (nF (ZS 7)))), (Za8, .inl (cI, 30, .inl (nF (ZS 8)))), (Za9, .inl (cI, 2, .inl (nF (ZS 9)))), (Za10, .inl (cI, 10, .inl (nF (ZS 10)))), (Za11, .inl (cI, 5, .inl (nF (ZS 11)))), (Za12, .inl (cI, 10, .inl (nF (ZS 12)))), (Za13, .inl (cI, 2, .inl (nF (ZS 13)))), (Za20, .inl (cI, 1191, .inl (nF (ZS 20)))), (Za21, .inl (cZ, 2, .inl (nF (ZS 21)))), (Za22, .inl (cI, 36, .inl (nF (ZS 22)))), (Za23, .inl (cI, 6, .inl (nF (ZS 23)))), (Za24, .inl (cI, 427, .inl (nF (ZS 24)))), (Za25, .inl (cI, 6, .inl (nF (ZS 25)))), (Za26, .inl (cI, 5, .inl (nF (ZS 26)))), (Za27, .inl (cI, 6, .inl (nF (ZS 27))))]) (cc := cX7_pieces) (maxL := 3) (ret := (some .int)) (Qc := fun _ A => va_Qi (S := (Nat → Nat → Nat)) (fun (r : Int32) (u : (Nat → Nat → Nat)) => ZP [23, 24, 25] u ZS ∧ ((¬ (inN v_d (ZS 9 0) ∧ inN v_c (ZS 3 0)) ∧ r = -1) ∨ (∃ d c, d < ZS 9 0 ∧ c < ZS 3 0 ∧ v_d = nI d ∧ v_c = nI c ∧ ((PZ (ZS 5) (thN ZS 20 (ZS 10 d) (ZS 20 (30 + d))) (ZS 12 d) (-9) (u 25) ∧ r = -9) ∨ ((∃ n, n < 1000 ∧ PZ (ZS 5) (thN ZS 20 (ZS 10 d) (ZS 20 (30 + d))) (ZS 12 d) (nI n) (u 25)) ∧ r = nI (u 25 c)))))) (Aft D (fun (u : (Nat → Nat → Nat)) => [(Zh, .inr (7, [.long Zt, .ref Za1, .int (nI (u 2 0)), .ref Za3, .ref Za4, .ref Za5, .ref Za6, .ref Za7, .ref Za8, .ref Za9, .ref Za10, .ref Za11, .ref Za12, .ref Za13, .int (nI (u 14 0)), .int (nI (u 15 0)), .int (nI (u 16 0)), .int (nI (u 17 0)), .int (nI (u 18 0)), .int (nI (u 19 0) - nI 9), .ref Za20, .ref Za21, .ref Za22, .ref Za23, .ref Za24, .ref Za25, .ref Za26, .ref Za27, .int (nI (u 28 0))])), (Za1, .inl (cB, 180, .inl (bF (u 1)))), (Za3, .inl (cI, 2, .inl (nF (u 3)))), (Za4, .inl (cI, 12, .inl (nF (u 4)))), (Za5, .inl (cI, 12, .inl (nF (u 5)))), (Za6, .inl (cI, 2, .inl (nF (u 6)))), (Za7, .inl (cI, 10, .inl (nF (u 7)))), (Za8, .inl (cI, 30, .inl (nF (u 8)))), (Za9, .inl (cI, 2, .inl (nF (u 9)))), (Za10, .inl (cI, 10, .inl (nF (u 10)))), (Za11, .inl (cI, 5, .inl (nF (u 11)))), (Za12, .inl (cI, 10, .inl (nF (u 12)))), (Za13, .inl (cI, 2, .inl (nF (u 13)))), (Za20, .inl (cI, 1191, .inl (nF (u 20)))), (Za21, .inl (cZ, 2, .inl (nF (u 21)))), (Za22, .inl (cI, 36, .inl (nF (u 22)))), (Za23, .inl (cI, 6, .inl (nF (u 23)))), (Za24, .inl (cI, 427, .inl (nF (u 24)))), (Za25, .inl (cI, 6, .inl (nF (u 25)))), (Za26, .inl (cI, 5, .inl (nF (u 26)))), (Za27, .inl (cI, 6, .inl (nF (u 27))))]) A) A) (by decide) rfl (Nat.le_of_ble_eq_true rfl) ?_
  intro p e s m below meth c A H locs ⟨hx, hb, hr, hml, hown, hts, hlk, hnm⟩ hK hP hD hS hA ls hl
  have hl : lv_has ls 3 [(0, .ref Zh), (1, .int v_d), (2, .int v_c)] := hl
  have hown : s.vm.findClass RX7 = some m.cls := hown
  have bz6 : ZS 6 0 ≤ 5 := hZ 6 0
  have bz3 : ZS 3 0 ≤ 6 := hZ 3 0
  have bz9 : ZS 9 0 ≤ 5 := hZ 9 0
  have bz28 : ZS 28 0 ≤ 6 := hZ 28 0
  refine lv_aload_n hx hb dX7_pieces_0 rfl (lv_at hl 0 rfl) ?_
  refine lv_iload_n hx hb dX7_pieces_1 rfl (lv_at hl 1 rfl) ?_
  refine be_i0 (ru_V (As := [.int v_d]) (rest := []) ⟨hx, hb, hml, hown, hts⟩ (z_isDebt l D cI cB cZ cN Zh Za1 Za3 Za4 Za5 Za6 Za7 Za8 Za9 Za10 Za11 Za12 Za13 Za20 Za21 Za22 Za23 Za24 Za25 Za26 Za27 Zt ZS v_d hZ H.size) gX7_pieces_X7_isDebt rfl ⟨rfl, by decide, by decide, (show Option.map (fun d => d.parameters.length) (parseMethodDescriptor yX7_isDebt.desc) = some 1 by decide +kernel)⟩ ⟨Nat.le_of_ble_eq_true rfl, Nat.le_of_ble_eq_true rfl⟩ hK hP hD 7 0 rfl rfl [0, 1, 2, 3, 4, 5, 6, 7, 8, 9, 10, 11, 12, 13, 14, 15, 16, 17, 18, 19, 20] (by decide) rfl hl.1 rfl (Nat.le_of_ble_eq_true rfl) dX7_pieces_2 ⟨Nat.le_of_ble_eq_true rfl, Nat.le_of_ble_eq_true rfl⟩) hP hD hS hA [0, 1, 2, 3, 4, 5, 6, 7, 8, 9, 10, 11, 12, 13, 14, 15, 16, 17, 18, 19, 20] rfl (fun r2 u1 H locs w3 hP hS => ?_)
  rcases w3 with ⟨rfl, hq4⟩ | ⟨rfl, hq4⟩
  · obtain ⟨k5, hq6, rfl⟩ := hq4
    refine nb_if_eq (tgt := 16) hx hb dX7_pieces_5 (by decide) (by omega) (fun hq7 => absurd hq7 (by omega)) (fun hq7 => ?_)
    refine lv_aload_n hx hb dX7_pieces_8 rfl (lv_at hl 0 rfl) ?_
    refine lv_iload_n hx hb dX7_pieces_9 rfl (lv_at hl 2 rfl) ?_
    refine be_i0 (ru_V (As := [.int v_c]) (rest := []) ⟨hx, hb, hml, hown, hts⟩ (z_isCoin l D cI cB cZ cN Zh Za1 Za3 Za4 Za5 Za6 Za7 Za8 Za9 Za10 Za11 Za12 Za13 Za20 Za21 Za22 Za23 Za24 Za25 Za26 Za27 Zt ZS v_c hZ H.size) gX7_pieces_X7_isCoin rfl ⟨rfl, by decide, by decide, (show Option.map (fun d => d.parameters.length) (parseMethodDescriptor yX7_isCoin.desc) = some 1 by decide +kernel)⟩ ⟨Nat.le_of_ble_eq_true rfl, Nat.le_of_ble_eq_true rfl⟩ hK hP hD 7 0 rfl rfl [0, 1, 2, 3, 4, 5, 6, 7, 8, 9, 10, 11, 12, 13, 14, 15, 16, 17, 18, 19, 20] (by decide) rfl hl.1 rfl (Nat.le_of_ble_eq_true rfl) dX7_pieces_10 ⟨Nat.le_of_ble_eq_true rfl, Nat.le_of_ble_eq_true rfl⟩) hP hD hS hA [0, 1, 2, 3, 4, 5, 6, 7, 8, 9, 10, 11, 12, 13, 14, 15, 16, 17, 18, 19, 20] rfl (fun r9 u8 H locs w10 hP hS => ?_)
    rcases w10 with ⟨rfl, hq11⟩ | ⟨rfl, hq11⟩
    · obtain ⟨k12, hq13, rfl⟩ := hq11
      refine nb_if_ne (tgt := 18) hx hb dX7_pieces_13 (by decide) (by omega) (fun hq14 => ?_) (fun hq14 => absurd hq14 (by omega))
      refine lv_aload_n hx hb dX7_pieces_18 rfl (lv_at hl 0 rfl) ?_
      refine lv_aload_n hx hb dX7_pieces_19 rfl (lv_at hl 0 rfl) ?_
      refine va_get (D := D) (ci := 7) (v := .ref Za20) (C := RX7) (T := TX7) (N := 29) hx hb hts in_X7_pieces_7 hown hK.1 hP 0 rfl rfl 20 (by decide) (hts (.fieldLink RX7 47 "ChildCoinsModel" "now" "[I") (List.mem_of_getElem? (i := 1) rfl)) (fun _ h9 => h9) rfl dX7_pieces_20 ?_
      refine lv_iload_n hx hb dX7_pieces_23 rfl (lv_at hl 1 rfl) ?_
      refine be_i (free := fun _ => False) (wr := []) (ru_V (As := [.ref Za20, .int (nI k5)]) (rest := []) ⟨hx, hb, hml, hown, hts⟩ (z_paymentOfN l D cI cB cZ cN Zh Za1 Za3 Za4 Za5 Za6 Za7 Za8 Za9 Za10 Za11 Za12 Za13 Za20 Za21 Za22 Za23 Za24 Za25 Za26 Za27 Zt ZS k5 hZ (by omega) H.size) gX7_pieces_X7_paymentOf rfl ⟨rfl, by decide, by decide, (show Option.map (fun d => d.parameters.length) (parseMethodDescriptor yX7_paymentOf.desc) = some 2 by decide +kernel)⟩ ⟨Nat.le_of_ble_eq_true rfl, Nat.le_of_ble_eq_true rfl⟩ hK hP hD 7 0 rfl rfl [0, 1, 2, 3, 4, 5, 6, 7, 8, 9, 10, 11, 12, 13, 14, 15, 16, 17, 18, 19, 20] (by decide) rfl hl.1 rfl (Nat.le_of_ble_eq_true rfl) dX7_pieces_24 ⟨Nat.le_of_ble_eq_true rfl, Nat.le_of_ble_eq_true rfl⟩) hP hD hS hA [0, 1, 2, 3, 4, 5, 6, 7, 8, 9, 10, 11, 12, 13, 14, 15, 16, 17, 18, 19, 20] [] rfl rfl (by decide) (by decide) (fun r16 u15 H locs w17 hP hD hS => ?_)
      obtain ⟨g18, g19, g20, rfl, hq21, hq22, hq23, hq24⟩ := w17
      have hzz25 : ZOk (ua (ua (ua ZS 23 (g18)) 24 (g19)) 25 (g20)) := (zok_set (k := 25) (zok_set (k := 24) (zok_set (k := 23) hZ hq21) hq22) hq23)
      obtain ⟨F26, hq27, ⟨rfl, hq28⟩ | ⟨hq28, rfl, l30, hq29⟩⟩ := id hq24
      · skip
        obtain ⟨hP, hD⟩ : wPD D A [(Zh, .inr (7, [.long Zt, .ref Za1, .int (nI (ZS 2 0)), .ref Za3, .ref Za4, .ref Za5, .ref Za6, .ref Za7, .ref Za8, .ref Za9, .ref Za10, .ref Za11, .ref Za12, .ref Za13, .int (nI (ZS 14 0)), .int (nI (ZS 15 0)), .int (nI (ZS 16 0)), .int (nI (ZS 17 0)), .int (nI (ZS 18 0)), .int (nI (ZS 19 0) - nI 9), .ref Za20, .ref Za21, .ref Za22, .ref Za23, .ref Za24, .ref Za25, .ref Za26, .ref Za27, .int (nI (ZS 28 0))])), (Za1, .inl (cB, 180, .inl (bF (ZS 1)))), (Za3, .inl (cI, 2, .inl (nF (ZS 3)))), (Za4, .inl (cI, 12, .inl (nF (ZS 4)))), (Za5, .inl (cI, 12, .inl (nF (ZS 5)))), (Za6, .inl (cI, 2, .inl (nF (ZS 6)))), (Za7, .inl (cI, 10, .inl (nF (ZS 7)))), (Za8, .inl (cI, 30, .inl (nF (ZS 8)))), (Za9, .inl (cI, 2, .inl (nF (ZS 9)))), (Za10, .inl (cI, 10, .inl (nF (ZS 10)))), (Za11, .inl (cI, 5, .inl (nF (ZS 11)))), (Za12, .inl (cI, 10, .inl (nF (ZS 12)))), (Za13, .inl (cI, 2, .inl (nF (ZS 13)))), (Za20, .inl (cI, 1191, .inl (nF (ZS 20)))), (Za21, .inl (cZ, 2, .inl (nF (ZS 21)))), (Za22, .inl (cI, 36, .inl (nF (ZS 22)))), (Za23, .inl (cI, 6, .inl (nF (g18)))), (Za24, .inl (cI, 427, .inl (nF (g19)))), (Za25, .inl (cI, 6, .inl (nF (g20)))), (Za26, .inl (cI, 5, .inl (nF (ZS 26)))), (Za27, .inl (cI, 6, .inl (nF (ZS 27))))] H := ⟨hP, hD⟩
        refine lv_bipush (v := -9) hx hb dX7_pieces_27 (by decide) ?_
        refine lv_icmp_ne (tgt := 37) hx hb dX7_pieces_29 (by decide) (fun hq31 => absurd hq31 (by decide)) (fun hq31 => ?_)
        refine lv_bipush (v := -9) hx hb dX7_pieces_32 (by decide) ?_
        refine lv_goto (tgt := 43) hx hb dX7_pieces_34 (by decide) ?_
        exact en_i hx hb hr hlk hP hD hS (ua (ua (ua ZS 23 (g18)) 24 (g19)) 25 (g20)) [0, 1, 2, 3, 4, 5, 6, 7, 8, 9, 10, 11, 12, 13, 14, 15, 16, 17, 18, 19, 20] (by decide) rfl (Nat.le_of_ble_eq_true rfl) (Nat.le_of_ble_eq_true rfl) dX7_pieces_43 ⟨(ZP.set (k := 25) (ZP.set (k := 24) (ZP.set (k := 23) (ZP.rf hZ) (by decide) hq21) (by decide) hq22) (by decide) hq23), Or.inr ⟨k5, k12, hq6, hq13, rfl, rfl, Or.inl ⟨hq24, rfl⟩⟩⟩
      · have hq28 : F26 (ZS 12 k5) < 1000 := hq28
        obtain ⟨hP, hD⟩ : wPD D A [(Zh, .inr (7, [.long Zt, .ref Za1, .int (nI (ZS 2 0)), .ref Za3, .ref Za4, .ref Za5, .ref Za6, .ref Za7, .ref Za8, .ref Za9, .ref Za10, .ref Za11, .ref Za12, .ref Za13, .int (nI (ZS 14 0)), .int (nI (ZS 15 0)), .int (nI (ZS 16 0)), .int (nI (ZS 17 0)), .int (nI (ZS 18 0)), .int (nI (ZS 19 0) - nI 9), .ref Za20, .ref Za21, .ref Za22, .ref Za23, .ref Za24, .ref Za25, .ref Za26, .ref Za27, .int (nI (ZS 28 0))])), (Za1, .inl (cB, 180, .inl (bF (ZS 1)))), (Za3, .inl (cI, 2, .inl (nF (ZS 3)))), (Za4, .inl (cI, 12, .inl (nF (ZS 4)))), (Za5, .inl (cI, 12, .inl (nF (ZS 5)))), (Za6, .inl (cI, 2, .inl (nF (ZS 6)))), (Za7, .inl (cI, 10, .inl (nF (ZS 7)))), (Za8, .inl (cI, 30, .inl (nF (ZS 8)))), (Za9, .inl (cI, 2, .inl (nF (ZS 9)))), (Za10, .inl (cI, 10, .inl (nF (ZS 10)))), (Za11, .inl (cI, 5, .inl (nF (ZS 11)))), (Za12, .inl (cI, 10, .inl (nF (ZS 12)))), (Za13, .inl (cI, 2, .inl (nF (ZS 13)))), (Za20, .inl (cI, 1191, .inl (nF (ZS 20)))), (Za21, .inl (cZ, 2, .inl (nF (ZS 21)))), (Za22, .inl (cI, 36, .inl (nF (ZS 22)))), (Za23, .inl (cI, 6, .inl (nF (g18)))), (Za24, .inl (cI, 427, .inl (nF (g19)))), (Za25, .inl (cI, 6, .inl (nF (g20)))), (Za26, .inl (cI, 5, .inl (nF (ZS 26)))), (Za27, .inl (cI, 6, .inl (nF (ZS 27))))] H := ⟨hP, hD⟩
        refine lv_bipush (v := -9) hx hb dX7_pieces_27 (by decide) ?_
        refine lv_icmp_ne (tgt := 37) hx hb dX7_pieces_29 (by decide) (fun hq32 => ?_) (fun hq32 => absurd hq32 (nI_ne9 (by omega)))
        refine lv_aload_n hx hb dX7_pieces_37 rfl (lv_at hl 0 rfl) ?_
        refine va_get (D := D) (ci := 7) (v := .ref Za25) (C := RX7) (T := TX7) (N := 29) hx hb hts in_X7_pieces_7 hown hK.1 hP 0 rfl rfl 25 (by decide) (hts (.fieldLink RX7 63 "ChildCoinsModel" "paid" "[I") (List.mem_of_getElem? (i := 2) rfl)) (fun _ h9 => h9) rfl dX7_pieces_38 ?_
        refine lv_iload_n hx hb dX7_pieces_41 rfl (lv_at hl 2 rfl) ?_
        refine va_iald hx hb hK.1 hP 18 0 rfl rfl (vp_in_nI (n := k12) (N := 6) (by omega) (by decide)) dX7_pieces_42 ?_
        refine set_i (y := nI (g20 k12)) (nF_ld (by omega)) ?_
        have b33 : g20 k12 ≤ 495 := hzz25 25 k12
        exact en_i hx hb hr hlk hP hD hS (ua (ua (ua ZS 23 (g18)) 24 (g19)) 25 (g20)) [0, 1, 2, 3, 4, 5, 6, 7, 8, 9, 10, 11, 12, 13, 14, 15, 16, 17, 18, 19, 20] (by decide) rfl (Nat.le_of_ble_eq_true rfl) (Nat.le_of_ble_eq_true rfl) dX7_pieces_43 ⟨(ZP.set (k := 25) (ZP.set (k := 24) (ZP.set (k := 23) (ZP.rf hZ) (by decide) hq21) (by decide) hq22) (by decide) hq23), Or.inr ⟨k5, k12, hq6, hq13, rfl, rfl, Or.inr ⟨⟨_, hq28, hq24⟩, rfl⟩⟩⟩
    · skip
      refine nb_if_ne (tgt := 18) hx hb dX7_pieces_13 (by decide) (by omega) (fun hq34 => absurd hq34 (by omega)) (fun hq34 => ?_)
      refine lv_iconst (v := -1) hx hb dX7_pieces_16 (by decide) ?_
      exact en_i hx hb hr hlk hP hD hS ZS [0, 1, 2, 3, 4, 5, 6, 7, 8, 9, 10, 11, 12, 13, 14, 15, 16, 17, 18, 19, 20] (by decide) rfl (Nat.le_of_ble_eq_true rfl) (Nat.le_of_ble_eq_true rfl) dX7_pieces_17 ⟨(ZP.rf hZ), Or.inl ⟨fun q => hq11 q.2, rfl⟩⟩
  · skip
    refine nb_if_eq (tgt := 16) hx hb dX7_pieces_5 (by decide) (by omega) (fun hq35 => ?_) (fun hq35 => absurd hq35 (by omega))
    refine lv_iconst (v := -1) hx hb dX7_pieces_16 (by decide) ?_
    exact en_i hx hb hr hlk hP hD hS ZS [0, 1, 2, 3, 4, 5, 6, 7, 8, 9, 10, 11, 12, 13, 14, 15, 16, 17, 18, 19, 20] (by decide) rfl (Nat.le_of_ble_eq_true rfl) (Nat.le_of_ble_eq_true rfl) dX7_pieces_17 ⟨(ZP.rf hZ), Or.inl ⟨fun q => hq4 q.1, rfl⟩⟩
set_option maxRecDepth 20000 in
theorem dAX7_lender : decA cX7_lender [(0, .aload_n 0, 1), (1, .iload_n 1, 1), (2, .invokevirtual 145, 3), (5, .ifCond .ne 5, 3), (8, .iconst (-1), 1), (9, .ireturn, 1), (10, .bipush (-9), 2), (12, .istore_n 2, 1), (13, .iconst 0, 1), (14, .istore_n 3, 1), (15, .iload_n 3, 1), (16, .aload_n 0, 1), (17, .getfield 23, 3), (20, .iconst 0, 1), (21, .iaload, 1), (22, .if_icmp .ge 59, 3), (25, .iload_n 3, 1), (26, .iload_n 1, 1), (27, .if_icmp .eq 34, 3), (30, .aload_n 0, 1), (31, .iload_n 3, 1), (32, .invokevirtual 148, 3), (35, .ifCond .le 26, 3), (38, .iload_n 2, 1), (39, .bipush (-9), 2), (41, .if_icmp .eq 16, 3), (44, .aload_n 0, 1), (45, .iload_n 3, 1), (46, .invokevirtual 151, 3), (49, .aload_n 0, 1), (50, .iload_n 2, 1), (51, .invokevirtual 151, 3), (54, .if_icmp .le 7, 3), (57, .iconst 1, 1), (58, .goto 4, 3), (61, .iconst 0, 1), (62, .istore 4, 2), (64, .iload 4, 2), (66, .ifCond .eq 7, 3), (69, .iload_n 3, 1), (70, .goto 4, 3), (73, .iload_n 2, 1), (74, .istore_n 2, 1), (75, .iinc 3 1, 3), (78, .goto (-63), 3), (81, .iload_n 2, 1), (82, .ireturn, 1)] = true := by decide +kernel
theorem dX7_lender_0 : decode cX7_lender 0 = .ok (.aload_n 0, 1) := decA_get dAX7_lender 0 rfl
theorem dX7_lender_1 : decode cX7_lender 1 = .ok (.iload_n 1, 1) := decA_get dAX7_lender 1 rfl
theorem dX7_lender_2 : decode cX7_lender 2 = .ok (.invokevirtual 145, 3) := decA_get dAX7_lender 2 rfl
set_option maxRecDepth 20000 in
theorem ggX7_lender_X7_isPerson : GoodIn wsX7_lender wsX7_isPerson := gd_ids wi_X7_lender wm_X7_lender wi_X7_isPerson (by decide +kernel)
set_option maxRecDepth 20000 in
theorem gX7_lender_X7_isPerson : GoodIn wsX7_lender (wsV RX7 145 RX7 yX7_isPerson wsX7_isPerson) := goodIn_app (gd_ids wi_X7_lender wm_X7_lender (b := [546, 547, 548, 481]) rfl (by decide +kernel)) ggX7_lender_X7_isPerson
theorem dX7_lender_5 : decode cX7_lender 5 = .ok (.ifCond .ne 5, 3) := decA_get dAX7_lender 3 rfl
theorem dX7_lender_10 : decode cX7_lender 10 = .ok (.bipush (-9), 2) := decA_get dAX7_lender 6 rfl
theorem dX7_lender_12 : decode cX7_lender 12 = .ok (.istore_n 2, 1) := decA_get dAX7_lender 7 rfl
theorem dX7_lender_13 : decode cX7_lender 13 = .ok (.iconst 0, 1) := decA_get dAX7_lender 8 rfl
theorem dX7_lender_14 : decode cX7_lender 14 = .ok (.istore_n 3, 1) := decA_get dAX7_lender 9 rfl
theorem dX7_lender_15 : decode cX7_lender 15 = .ok (.iload_n 3, 1) := decA_get dAX7_lender 10 rfl
theorem dX7_lender_16 : decode cX7_lender 16 = .ok (.aload_n 0, 1) := decA_get dAX7_lender 11 rfl
theorem dX7_lender_17 : decode cX7_lender 17 = .ok (.getfield 23, 3) := decA_get dAX7_lender 12 rfl
theorem in_X7_lender_7 : ∀ w ∈ wsX70, w ∈ wsX7_lender := fun w h => (gd_ids wi_X7_lender wm_X7_lender wi_X70 (by decide +kernel) w h).1
theorem dX7_lender_20 : decode cX7_lender 20 = .ok (.iconst 0, 1) := decA_get dAX7_lender 13 rfl
theorem dX7_lender_21 : decode cX7_lender 21 = .ok (.iaload, 1) := decA_get dAX7_lender 14 rfl
theorem dX7_lender_22 : decode cX7_lender 22 = .ok (.if_icmp .ge 59, 3) := decA_get dAX7_lender 15 rfl
theorem dX7_lender_81 : decode cX7_lender 81 = .ok (.iload_n 2, 1) := decA_get dAX7_lender 45 rfl
theorem dX7_lender_82 : decode cX7_lender 82 = .ok (.ireturn, 1) := decA_get dAX7_lender 46 rfl
theorem dX7_lender_25 : decode cX7_lender 25 = .ok (.iload_n 3, 1) := decA_get dAX7_lender 16 rfl
theorem dX7_lender_26 : decode cX7_lender 26 = .ok (.iload_n 1, 1) := decA_get dAX7_lender 17 rfl
theorem dX7_lender_27 : decode cX7_lender 27 = .ok (.if_icmp .eq 34, 3) := decA_get dAX7_lender 18 rfl
theorem dX7_lender_61 : decode cX7_lender 61 = .ok (.iconst 0, 1) := decA_get dAX7_lender 35 rfl
theorem dX7_lender_62 : decode cX7_lender 62 = .ok (.istore 4, 2) := decA_get dAX7_lender 36 rfl
theorem dX7_lender_64 : decode cX7_lender 64 = .ok (.iload 4, 2) := decA_get dAX7_lender 37 rfl
theorem dX7_lender_66 : decode cX7_lender 66 = .ok (.ifCond .eq 7, 3) := decA_get dAX7_lender 38 rfl
theorem dX7_lender_73 : decode cX7_lender 73 = .ok (.iload_n 2, 1) := decA_get dAX7_lender 41 rfl
theorem dX7_lender_74 : decode cX7_lender 74 = .ok (.istore_n 2, 1) := decA_get dAX7_lender 42 rfl
theorem dX7_lender_75 : decode cX7_lender 75 = .ok (.iinc 3 1, 3) := decA_get dAX7_lender 43 rfl
theorem dX7_lender_78 : decode cX7_lender 78 = .ok (.goto (-63), 3) := decA_get dAX7_lender 44 rfl
theorem dX7_lender_30 : decode cX7_lender 30 = .ok (.aload_n 0, 1) := decA_get dAX7_lender 19 rfl
theorem dX7_lender_31 : decode cX7_lender 31 = .ok (.iload_n 3, 1) := decA_get dAX7_lender 20 rfl
theorem dX7_lender_32 : decode cX7_lender 32 = .ok (.invokevirtual 148, 3) := decA_get dAX7_lender 21 rfl
set_option maxRecDepth 20000 in
theorem ggX7_lender_X7_hasOf : GoodIn wsX7_lender wsX7_hasOf := gd_ids wi_X7_lender wm_X7_lender wi_X7_hasOf (by decide +kernel)
set_option maxRecDepth 20000 in
theorem gX7_lender_X7_hasOf : GoodIn wsX7_lender (wsV RX7 148 RX7 yX7_hasOf wsX7_hasOf) := goodIn_app (gd_ids wi_X7_lender wm_X7_lender (b := [549, 550, 551, 481]) rfl (by decide +kernel)) ggX7_lender_X7_hasOf
theorem dX7_lender_35 : decode cX7_lender 35 = .ok (.ifCond .le 26, 3) := decA_get dAX7_lender 22 rfl
theorem dX7_lender_38 : decode cX7_lender 38 = .ok (.iload_n 2, 1) := decA_get dAX7_lender 23 rfl
theorem dX7_lender_39 : decode cX7_lender 39 = .ok (.bipush (-9), 2) := decA_get dAX7_lender 24 rfl
theorem dX7_lender_41 : decode cX7_lender 41 = .ok (.if_icmp .eq 16, 3) := decA_get dAX7_lender 25 rfl
theorem dX7_lender_57 : decode cX7_lender 57 = .ok (.iconst 1, 1) := decA_get dAX7_lender 33 rfl
theorem dX7_lender_58 : decode cX7_lender 58 = .ok (.goto 4, 3) := decA_get dAX7_lender 34 rfl
theorem dX7_lender_69 : decode cX7_lender 69 = .ok (.iload_n 3, 1) := decA_get dAX7_lender 39 rfl
theorem dX7_lender_70 : decode cX7_lender 70 = .ok (.goto 4, 3) := decA_get dAX7_lender 40 rfl
theorem dX7_lender_44 : decode cX7_lender 44 = .ok (.aload_n 0, 1) := decA_get dAX7_lender 26 rfl
theorem dX7_lender_45 : decode cX7_lender 45 = .ok (.iload_n 3, 1) := decA_get dAX7_lender 27 rfl
theorem dX7_lender_46 : decode cX7_lender 46 = .ok (.invokevirtual 151, 3) := decA_get dAX7_lender 28 rfl
set_option maxRecDepth 20000 in
theorem ggX7_lender_X7_ease : GoodIn wsX7_lender wsX7_ease := gd_ids wi_X7_lender wm_X7_lender wi_X7_ease (by decide +kernel)
set_option maxRecDepth 20000 in
theorem gX7_lender_X7_ease : GoodIn wsX7_lender (wsV RX7 151 RX7 yX7_ease wsX7_ease) := goodIn_app (gd_ids wi_X7_lender wm_X7_lender (b := [552, 553, 554, 481]) rfl (by decide +kernel)) ggX7_lender_X7_ease
theorem dX7_lender_49 : decode cX7_lender 49 = .ok (.aload_n 0, 1) := decA_get dAX7_lender 29 rfl
theorem dX7_lender_50 : decode cX7_lender 50 = .ok (.iload_n 2, 1) := decA_get dAX7_lender 30 rfl
theorem dX7_lender_51 : decode cX7_lender 51 = .ok (.invokevirtual 151, 3) := decA_get dAX7_lender 31 rfl
theorem dX7_lender_54 : decode cX7_lender 54 = .ok (.if_icmp .le 7, 3) := decA_get dAX7_lender 32 rfl
theorem dX7_lender_8 : decode cX7_lender 8 = .ok (.iconst (-1), 1) := decA_get dAX7_lender 4 rfl
theorem dX7_lender_9 : decode cX7_lender 9 = .ok (.ireturn, 1) := decA_get dAX7_lender 5 rfl
set_option maxHeartbeats 4000000 in
set_option maxRecDepth 100000 in
theorem z_lender (l : Launch) (D : va_G) (cI cB cZ cN : ClassId) (Zh : Nat) (Za1 : Nat) (Za3 : Nat) (Za4 : Nat) (Za5 : Nat) (Za6 : Nat) (Za7 : Nat) (Za8 : Nat) (Za9 : Nat) (Za10 : Nat) (Za11 : Nat) (Za12 : Nat) (Za13 : Nat) (Za20 : Nat) (Za21 : Nat) (Za22 : Nat) (Za23 : Nat) (Za24 : Nat) (Za25 : Nat) (Za26 : Nat) (Za27 : Nat) (Zt : Int64) (ZS : Nat → Nat → Nat) (v_p : Int32) (hZ : ZOk ZS) : Ci (S := Unit) l D cI cB cZ cN yX7_lender wsX7_lender ({ frames := 4, cells := 0, slots := 0, locals := 89 } : Room) [.ref Zh, .int v_p] [(Zh, .inr (7, [.long Zt, .ref Za1, .int (nI (ZS 2 0)), .ref Za3, .ref Za4, .ref Za5, .ref Za6, .ref Za7, .ref Za8, .ref Za9, .ref Za10, .ref Za11, .ref Za12, .ref Za13, .int (nI (ZS 14 0)), .int (nI (ZS 15 0)), .int (nI (ZS 16 0)), .int (nI (ZS 17 0)), .int (nI (ZS 18 0)), .int (nI (ZS 19 0) - nI 9), .ref Za20, .ref Za21, .ref Za22, .ref Za23, .ref Za24, .ref Za25, .ref Za26, .ref Za27, .int (nI (ZS 28 0))])), (Za1, .inl (cB, 180, .inl (bF (ZS 1)))), (Za3, .inl (cI, 2, .inl (nF (ZS 3)))), (Za4, .inl (cI, 12, .inl (nF (ZS 4)))), (Za5, .inl (cI, 12, .inl (nF (ZS 5)))), (Za6, .inl (cI, 2, .inl (nF (ZS 6)))), (Za7, .inl (cI, 10, .inl (nF (ZS 7)))), (Za8, .inl (cI, 30, .inl (nF (ZS 8)))), (Za9, .inl (cI, 2, .inl (nF (ZS 9)))), (Za10, .inl (cI, 10, .inl (nF (ZS 10)))), (Za11, .inl (cI, 5, .inl (nF (ZS 11)))), (Za12, .inl (cI, 10, .inl (nF (ZS 12)))), (Za13, .inl (cI, 2, .inl (nF (ZS 13)))), (Za20, .inl (cI, 1191, .inl (nF (ZS 20)))), (Za21, .inl (cZ, 2, .inl (nF (ZS 21)))), (Za22, .inl (cI, 36, .inl (nF (ZS 22)))), (Za23, .inl (cI, 6, .inl (nF (ZS 23)))), (Za24, .inl (cI, 427, .inl (nF (ZS 24)))), (Za25, .inl (cI, 6, .inl (nF (ZS 25)))), (Za26, .inl (cI, 5, .inl (nF (ZS 26)))), (Za27, .inl (cI, 6, .inl (nF (ZS 27))))] (fun (r : Int32) (_ : Unit) => (¬ inN v_p (ZS 6 0) ∧ r = -1) ∨ (∃ p, p < ZS 6 0 ∧ v_p = nI p ∧ r = ldI (ldN (fun o => sumN (fun c => if ZS 4 c ≤ ZS 7 o + 7 ∧ ZS 7 o + 7 < ZS 4 c + ZS 13 0 then sumN (fun p => ZS 20 (6 * p + c)) (ZS 6 0) * ZS 5 c else 0) (ZS 3 0)) (fun o => sumN (fun c => ZS 20 (6 * o + c) * ZS 5 c) (ZS 3 0)) p (ZS 6 0)))) (fun u => [(Zh, .inr (7, [.long Zt, .ref Za1, .int (nI (ZS 2 0)), .ref Za3, .ref Za4, .ref Za5, .ref Za6, .ref Za7, .ref Za8, .ref Za9, .ref Za10, .ref Za11, .ref Za12, .ref Za13, .int (nI (ZS 14 0)), .int (nI (ZS 15 0)), .int (nI (ZS 16 0)), .int (nI (ZS 17 0)), .int (nI (ZS 18 0)), .int (nI (ZS 19 0) - nI 9), .ref Za20, .ref Za21, .ref Za22, .ref Za23, .ref Za24, .ref Za25, .ref Za26, .ref Za27, .int (nI (ZS 28 0))])), (Za1, .inl (cB, 180, .inl (bF (ZS 1)))), (Za3, .inl (cI, 2, .inl (nF (ZS 3)))), (Za4, .inl (cI, 12, .inl (nF (ZS 4)))), (Za5, .inl (cI, 12, .inl (nF (ZS 5)))), (Za6, .inl (cI, 2, .inl (nF (ZS 6)))), (Za7, .inl (cI, 10, .inl (nF (ZS 7)))), (Za8, .inl (cI, 30, .inl (nF (ZS 8)))), (Za9, .inl (cI, 2, .inl (nF (ZS 9)))), (Za10, .inl (cI, 10, .inl (nF (ZS 10)))), (Za11, .inl (cI, 5, .inl (nF (ZS 11)))), (Za12, .inl (cI, 10, .inl (nF (ZS 12)))), (Za13, .inl (cI, 2, .inl (nF (ZS 13)))), (Za20, .inl (cI, 1191, .inl (nF (ZS 20)))), (Za21, .inl (cZ, 2, .inl (nF (ZS 21)))), (Za22, .inl (cI, 36, .inl (nF (ZS 22)))), (Za23, .inl (cI, 6, .inl (nF (ZS 23)))), (Za24, .inl (cI, 427, .inl (nF (ZS 24)))), (Za25, .inl (cI, 6, .inl (nF (ZS 25)))), (Za26, .inl (cI, 5, .inl (nF (ZS 26)))), (Za27, .inl (cI, 6, .inl (nF (ZS 27))))]) := by
  refine bx_of (D := D) (cI := cI) (cB := cB) (cZ := cZ) (cN := cN) (y := yX7_lender) (wd := wsX7_lender) (rm := ({ frames := 4, cells := 0, slots := 0, locals := 89 } : Room)) (av := [.ref Zh, .int v_p]) (wc := [(Zh, .inr (7, [.long Zt, .ref Za1, .int (nI (ZS 2 0)), .ref Za3, .ref Za4, .ref Za5, .ref Za6, .ref Za7, .ref Za8, .ref Za9, .ref Za10, .ref Za11, .ref Za12, .ref Za13, .int (nI (ZS 14 0)), .int (nI (ZS 15 0)), .int (nI (ZS 16 0)), .int (nI (ZS 17 0)), .int (nI (ZS 18 0)), .int (nI (ZS 19 0) - nI 9), .ref Za20, .ref Za21, .ref Za22, .ref Za23, .ref Za24, .ref Za25, .ref Za26, .ref Za27, .int (nI (ZS 28 0))])), (Za1, .inl (cB, 180, .inl (bF (ZS 1)))), (Za3, .inl (cI, 2, .inl (nF (ZS 3)))), (Za4, .inl (cI, 12, .inl (nF (ZS 4)))), (Za5, .inl (cI, 12, .inl (nF (ZS 5)))), (Za6, .inl (cI, 2, .inl (nF (ZS 6)))), (Za7, .inl (cI, 10, .inl (nF (ZS 7)))), (Za8, .inl (cI, 30, .inl (nF (ZS 8)))), (Za9, .inl (cI, 2, .inl (nF (ZS 9)))), (Za10, .inl (cI, 10, .inl (nF (ZS 10)))), (Za11, .inl (cI, 5, .inl (nF (ZS 11)))), (Za12, .inl (cI, 10, .inl (nF (ZS 12)))), (Za13, .inl (cI, 2, .inl (nF (ZS 13)))), (Za20, .inl (cI, 1191, .inl (nF (ZS 20)))), (Za21, .inl (cZ, 2, .inl (nF (ZS 21)))), (Za22, .inl (cI, 36, .inl (nF (ZS 22)))), (Za23, .inl (cI, 6, .inl (nF (ZS 23)))), (Za24, .inl (cI, 427, .inl (nF (ZS 24)))), (Za25, .inl (cI, 6, .inl (nF (ZS 25)))), (Za26, .inl (cI, 5, .inl (nF (ZS 26)))), (Za27, .inl (cI, 6, .inl (nF (ZS 27))))]) (cc := cX7_lender) (maxL := 5) (ret := (some .int)) (Qc := fun _ A => va_Qi (S := Unit) (fun (r : Int32) (_ : Unit) => (¬ inN v_p (ZS 6 0) ∧ r = -1) ∨ (∃ p, p < ZS 6 0 ∧ v_p = nI p ∧ r = ldI (ldN (fun o => sumN (fun c => if ZS 4 c ≤ ZS 7 o + 7 ∧ ZS 7 o + 7 < ZS 4 c + ZS 13 0 then sumN (fun p => ZS 20 (6 * p + c)) (ZS 6 0) * ZS 5 c else 0) (ZS 3 0)) (fun o => sumN (fun c => ZS 20 (6 * o + c) * ZS 5 c) (ZS 3 0)) p (ZS 6 0)))) (Aft D (fun (u : Unit) => [(Zh, .inr (7, [.long Zt, .ref Za1, .int (nI (ZS 2 0)), .ref Za3, .ref Za4, .ref Za5, .ref Za6, .ref Za7, .ref Za8, .ref Za9, .ref Za10, .ref Za11, .ref Za12, .ref Za13, .int (nI (ZS 14 0)), .int (nI (ZS 15 0)), .int (nI (ZS 16 0)), .int (nI (ZS 17 0)), .int (nI (ZS 18 0)), .int (nI (ZS 19 0) - nI 9), .ref Za20, .ref Za21, .ref Za22, .ref Za23, .ref Za24, .ref Za25, .ref Za26, .ref Za27, .int (nI (ZS 28 0))])), (Za1, .inl (cB, 180, .inl (bF (ZS 1)))), (Za3, .inl (cI, 2, .inl (nF (ZS 3)))), (Za4, .inl (cI, 12, .inl (nF (ZS 4)))), (Za5, .inl (cI, 12, .inl (nF (ZS 5)))), (Za6, .inl (cI, 2, .inl (nF (ZS 6)))), (Za7, .inl (cI, 10, .inl (nF (ZS 7)))), (Za8, .inl (cI, 30, .inl (nF (ZS 8)))), (Za9, .inl (cI, 2, .inl (nF (ZS 9)))), (Za10, .inl (cI, 10, .inl (nF (ZS 10)))), (Za11, .inl (cI, 5, .inl (nF (ZS 11)))), (Za12, .inl (cI, 10, .inl (nF (ZS 12)))), (Za13, .inl (cI, 2, .inl (nF (ZS 13)))), (Za20, .inl (cI, 1191, .inl (nF (ZS 20)))), (Za21, .inl (cZ, 2, .inl (nF (ZS 21)))), (Za22, .inl (cI, 36, .inl (nF (ZS 22)))), (Za23, .inl (cI, 6, .inl (nF (ZS 23)))), (Za24, .inl (cI, 427, .inl (nF (ZS 24)))), (Za25, .inl (cI, 6, .inl (nF (ZS 25)))), (Za26, .inl (cI, 5, .inl (nF (ZS 26)))), (Za27, .inl (cI, 6, .inl (nF (ZS 27))))]) A) A) (by decide) rfl (Nat.le_of_ble_eq_true rfl) ?_
  intro p e s m below meth c A H locs ⟨hx, hb, hr, hml, hown, hts, hlk, hnm⟩ hK hP hD hS hA ls hl
  have hl : lv_has ls 5 [(0, .ref Zh), (1, .int v_p)] := hl
  have hown : s.vm.findClass RX7 = some m.cls := hown
  have bz6 : ZS 6 0 ≤ 5 := hZ 6 0
  have bz3 : ZS 3 0 ≤ 6 := hZ 3 0
  have bz9 : ZS 9 0 ≤ 5 := hZ 9 0
  have bz28 : ZS 28 0 ≤ 6 := hZ 28 0
  refine lv_aload_n hx hb dX7_lender_0 rfl (lv_at hl 0 rfl) ?_
  refine lv_iload_n hx hb dX7_lender_1 rfl (lv_at hl 1 rfl) ?_
  refine be_i0 (ru_V (As := [.int v_p]) (rest := []) ⟨hx, hb, hml, hown, hts⟩ (z_isPerson l D cI cB cZ cN Zh Za1 Za3 Za4 Za5 Za6 Za7 Za8 Za9 Za10 Za11 Za12 Za13 Za20 Za21 Za22 Za23 Za24 Za25 Za26 Za27 Zt ZS v_p hZ H.size) gX7_lender_X7_isPerson rfl ⟨rfl, by decide, by decide, (show Option.map (fun d => d.parameters.length) (parseMethodDescriptor yX7_isPerson.desc) = some 1 by decide +kernel)⟩ ⟨Nat.le_of_ble_eq_true rfl, Nat.le_of_ble_eq_true rfl⟩ hK hP hD 7 0 rfl rfl [0, 1, 2, 3, 4, 5, 6, 7, 8, 9, 10, 11, 12, 13, 14, 15, 16, 17, 18, 19, 20] (by decide) rfl hl.1 rfl (Nat.le_of_ble_eq_true rfl) dX7_lender_2 ⟨Nat.le_of_ble_eq_true rfl, Nat.le_of_ble_eq_true rfl⟩) hP hD hS hA [0, 1, 2, 3, 4, 5, 6, 7, 8, 9, 10, 11, 12, 13, 14, 15, 16, 17, 18, 19, 20] rfl (fun r2 u1 H locs w3 hP hS => ?_)
  rcases w3 with ⟨rfl, hq4⟩ | ⟨rfl, hq4⟩
  · obtain ⟨k5, hq6, rfl⟩ := hq4
    refine nb_if_ne (tgt := 10) hx hb dX7_lender_5 (by decide) (by omega) (fun hq7 => ?_) (fun hq7 => absurd hq7 (by omega))
    obtain ⟨k_p, hkp⟩ : ∃ k, k = k5 := ⟨_, rfl⟩
    refine lv_bipush (v := -9) hx hb dX7_lender_10 (by decide) ?_
    refine lv_istore_n (lv' := [(2, .int (-9)), (0, .ref Zh), (1, .int (nI k5))]) hx hb dX7_lender_12 rfl hl (by decide) rfl (fun ls hl => ?_)
    refine lv_iconst (v := nI 0) hx hb dX7_lender_13 (by decide) ?_
    refine lv_istore_n (lv' := [(3, .int (nI 0)), (2, .int (-9)), (0, .ref Zh), (1, .int (nI k5))]) hx hb dX7_lender_14 rfl hl (by decide) rfl (fun ls hl => ?_)
    refine loopS (σ := Nat) (D := D) (A := A) (fun i1 z1 => z1 = ldN (fun o => sumN (fun c => if ZS 4 c ≤ ZS 7 o + 7 ∧ ZS 7 o + 7 < ZS 4 c + ZS 13 0 then sumN (fun p => ZS 20 (6 * p + c)) (ZS 6 0) * ZS 5 c else 0) (ZS 3 0)) (fun o => sumN (fun c => ZS 20 (6 * o + c) * ZS 5 c) (ZS 3 0)) k_p i1) (fun i1 z1 => [(Zh, .inr (7, [.long Zt, .ref Za1, .int (nI (ZS 2 0)), .ref Za3, .ref Za4, .ref Za5, .ref Za6, .ref Za7, .ref Za8, .ref Za9, .ref Za10, .ref Za11, .ref Za12, .ref Za13, .int (nI (ZS 14 0)), .int (nI (ZS 15 0)), .int (nI (ZS 16 0)), .int (nI (ZS 17 0)), .int (nI (ZS 18 0)), .int (nI (ZS 19 0) - nI 9), .ref Za20, .ref Za21, .ref Za22, .ref Za23, .ref Za24, .ref Za25, .ref Za26, .ref Za27, .int (nI (ZS 28 0))])), (Za1, .inl (cB, 180, .inl (bF (ZS 1)))), (Za3, .inl (cI, 2, .inl (nF (ZS 3)))), (Za4, .inl (cI, 12, .inl (nF (ZS 4)))), (Za5, .inl (cI, 12, .inl (nF (ZS 5)))), (Za6, .inl (cI, 2, .inl (nF (ZS 6)))), (Za7, .inl (cI, 10, .inl (nF (ZS 7)))), (Za8, .inl (cI, 30, .inl (nF (ZS 8)))), (Za9, .inl (cI, 2, .inl (nF (ZS 9)))), (Za10, .inl (cI, 10, .inl (nF (ZS 10)))), (Za11, .inl (cI, 5, .inl (nF (ZS 11)))), (Za12, .inl (cI, 10, .inl (nF (ZS 12)))), (Za13, .inl (cI, 2, .inl (nF (ZS 13)))), (Za20, .inl (cI, 1191, .inl (nF (ZS 20)))), (Za21, .inl (cZ, 2, .inl (nF (ZS 21)))), (Za22, .inl (cI, 36, .inl (nF (ZS 22)))), (Za23, .inl (cI, 6, .inl (nF (ZS 23)))), (Za24, .inl (cI, 427, .inl (nF (ZS 24)))), (Za25, .inl (cI, 6, .inl (nF (ZS 25)))), (Za26, .inl (cI, 5, .inl (nF (ZS 26)))), (Za27, .inl (cI, 6, .inl (nF (ZS 27))))]) (fun i1 z1 => [(0, .ref Zh), (1, .int (nI k5)), (2, .int (ldI z1)), (3, .int (nI i1))]) 15 5 (ZS 6 0) 0 (Nat.zero_le _) ?_ ?_ 0 rfl _ _ ls (by first | exact hP) (by first | exact hD) hS (lv_sub hl [2, 3, 1, 0] rfl)
    · intro z1 hI1 H locs ls hP hD hS hl
      have hl : lv_has ls 5 [(0, .ref Zh), (1, .int (nI k5)), (2, .int (ldI z1)), (3, .int (nI (ZS 6 0)))] := hl
      obtain ⟨hP, hD⟩ : wPD D A [(Zh, .inr (7, [.long Zt, .ref Za1, .int (nI (ZS 2 0)), .ref Za3, .ref Za4, .ref Za5, .ref Za6, .ref Za7, .ref Za8, .ref Za9, .ref Za10, .ref Za11, .ref Za12, .ref Za13, .int (nI (ZS 14 0)), .int (nI (ZS 15 0)), .int (nI (ZS 16 0)), .int (nI (ZS 17 0)), .int (nI (ZS 18 0)), .int (nI (ZS 19 0) - nI 9), .ref Za20, .ref Za21, .ref Za22, .ref Za23, .ref Za24, .ref Za25, .ref Za26, .ref Za27, .int (nI (ZS 28 0))])), (Za1, .inl (cB, 180, .inl (bF (ZS 1)))), (Za3, .inl (cI, 2, .inl (nF (ZS 3)))), (Za4, .inl (cI, 12, .inl (nF (ZS 4)))), (Za5, .inl (cI, 12, .inl (nF (ZS 5)))), (Za6, .inl (cI, 2, .inl (nF (ZS 6)))), (Za7, .inl (cI, 10, .inl (nF (ZS 7)))), (Za8, .inl (cI, 30, .inl (nF (ZS 8)))), (Za9, .inl (cI, 2, .inl (nF (ZS 9)))), (Za10, .inl (cI, 10, .inl (nF (ZS 10)))), (Za11, .inl (cI, 5, .inl (nF (ZS 11)))), (Za12, .inl (cI, 10, .inl (nF (ZS 12)))), (Za13, .inl (cI, 2, .inl (nF (ZS 13)))), (Za20, .inl (cI, 1191, .inl (nF (ZS 20)))), (Za21, .inl (cZ, 2, .inl (nF (ZS 21)))), (Za22, .inl (cI, 36, .inl (nF (ZS 22)))), (Za23, .inl (cI, 6, .inl (nF (ZS 23)))), (Za24, .inl (cI, 427, .inl (nF (ZS 24)))), (Za25, .inl (cI, 6, .inl (nF (ZS 25)))), (Za26, .inl (cI, 5, .inl (nF (ZS 26)))), (Za27, .inl (cI, 6, .inl (nF (ZS 27))))] H := ⟨hP, hD⟩
      refine lv_iload_n hx hb dX7_lender_15 rfl (lv_at hl 3 rfl) ?_
      refine lv_aload_n hx hb dX7_lender_16 rfl (lv_at hl 0 rfl) ?_
      refine va_get (D := D) (ci := 7) (v := .ref Za6) (C := RX7) (T := TX7) (N := 29) hx hb hts in_X7_lender_7 hown hK.1 hP 0 rfl rfl 6 (by decide) (hts (.fieldLink RX7 23 "ChildCoinsModel" "people" "[I") (List.mem_of_getElem? (i := 1) rfl)) (fun _ h9 => h9) rfl dX7_lender_17 ?_
      refine lv_iconst (v := nI 0) hx hb dX7_lender_20 (by decide) ?_
      refine va_iald hx hb hK.1 hP 5 0 rfl rfl (vp_in_nI (n := 0) (N := 2) (by omega) (by decide)) dX7_lender_21 ?_
      refine set_i (y := nI (ZS 6 0)) (nF_ld (by omega)) ?_
      have b8 : ZS 6 0 ≤ 5 := hZ 6 0
      refine nb_icmp_ge (tgt := 81) hx hb dX7_lender_22 (by decide) (by omega) (by omega) (fun hq9 => ?_) (fun hq9 => absurd hq9 (by omega))
      refine lv_iload_n hx hb dX7_lender_81 rfl (lv_at hl 2 rfl) ?_
      exact en_i hx hb hr hlk hP hD hS () [0, 1, 2, 3, 4, 5, 6, 7, 8, 9, 10, 11, 12, 13, 14, 15, 16, 17, 18, 19, 20] (by decide) rfl (Nat.le_of_ble_eq_true rfl) (Nat.le_of_ble_eq_true rfl) dX7_lender_82 (Or.inr ⟨k5, hq6, rfl, by rw [← hkp, ← hI1]⟩)
    · intro i1 hi01 hi1 z1 hI1 ih1 H locs ls hP hD hS hl
      have hl : lv_has ls 5 [(0, .ref Zh), (1, .int (nI k5)), (2, .int (ldI z1)), (3, .int (nI i1))] := hl
      obtain ⟨hP, hD⟩ : wPD D A [(Zh, .inr (7, [.long Zt, .ref Za1, .int (nI (ZS 2 0)), .ref Za3, .ref Za4, .ref Za5, .ref Za6, .ref Za7, .ref Za8, .ref Za9, .ref Za10, .ref Za11, .ref Za12, .ref Za13, .int (nI (ZS 14 0)), .int (nI (ZS 15 0)), .int (nI (ZS 16 0)), .int (nI (ZS 17 0)), .int (nI (ZS 18 0)), .int (nI (ZS 19 0) - nI 9), .ref Za20, .ref Za21, .ref Za22, .ref Za23, .ref Za24, .ref Za25, .ref Za26, .ref Za27, .int (nI (ZS 28 0))])), (Za1, .inl (cB, 180, .inl (bF (ZS 1)))), (Za3, .inl (cI, 2, .inl (nF (ZS 3)))), (Za4, .inl (cI, 12, .inl (nF (ZS 4)))), (Za5, .inl (cI, 12, .inl (nF (ZS 5)))), (Za6, .inl (cI, 2, .inl (nF (ZS 6)))), (Za7, .inl (cI, 10, .inl (nF (ZS 7)))), (Za8, .inl (cI, 30, .inl (nF (ZS 8)))), (Za9, .inl (cI, 2, .inl (nF (ZS 9)))), (Za10, .inl (cI, 10, .inl (nF (ZS 10)))), (Za11, .inl (cI, 5, .inl (nF (ZS 11)))), (Za12, .inl (cI, 10, .inl (nF (ZS 12)))), (Za13, .inl (cI, 2, .inl (nF (ZS 13)))), (Za20, .inl (cI, 1191, .inl (nF (ZS 20)))), (Za21, .inl (cZ, 2, .inl (nF (ZS 21)))), (Za22, .inl (cI, 36, .inl (nF (ZS 22)))), (Za23, .inl (cI, 6, .inl (nF (ZS 23)))), (Za24, .inl (cI, 427, .inl (nF (ZS 24)))), (Za25, .inl (cI, 6, .inl (nF (ZS 25)))), (Za26, .inl (cI, 5, .inl (nF (ZS 26)))), (Za27, .inl (cI, 6, .inl (nF (ZS 27))))] H := ⟨hP, hD⟩
      refine lv_iload_n hx hb dX7_lender_15 rfl (lv_at hl 3 rfl) ?_
      refine lv_aload_n hx hb dX7_lender_16 rfl (lv_at hl 0 rfl) ?_
      refine va_get (D := D) (ci := 7) (v := .ref Za6) (C := RX7) (T := TX7) (N := 29) hx hb hts in_X7_lender_7 hown hK.1 hP 0 rfl rfl 6 (by decide) (hts (.fieldLink RX7 23 "ChildCoinsModel" "people" "[I") (List.mem_of_getElem? (i := 1) rfl)) (fun _ h9 => h9) rfl dX7_lender_17 ?_
      refine lv_iconst (v := nI 0) hx hb dX7_lender_20 (by decide) ?_
      refine va_iald hx hb hK.1 hP 5 0 rfl rfl (vp_in_nI (n := 0) (N := 2) (by omega) (by decide)) dX7_lender_21 ?_
      refine set_i (y := nI (ZS 6 0)) (nF_ld (by omega)) ?_
      have b10 : ZS 6 0 ≤ 5 := hZ 6 0
      refine nb_icmp_ge (tgt := 81) hx hb dX7_lender_22 (by decide) (by omega) (by omega) (fun hq11 => absurd hq11 (by omega)) (fun hq11 => ?_)
      have hlz : z1 ≤ i1 := by rw [hI1]; exact ldN_le _ _ _ _
      rcases z_cases z1 with rfl | ⟨k1z, rfl⟩
      · skip
        have hl : lv_has ls 5 [(0, .ref Zh), (1, .int (nI k5)), (2, .int (-9)), (3, .int (nI i1))] := hl
        refine lv_iload_n hx hb dX7_lender_25 rfl (lv_at hl 3 rfl) ?_
        refine lv_iload_n hx hb dX7_lender_26 rfl (lv_at hl 1 rfl) ?_
        refine nb_icmp_eq (tgt := 61) hx hb dX7_lender_27 (by decide) (by omega) (by omega) (fun hq12 => ?_) (fun hq12 => ?_)
        · skip
          refine lv_iconst (v := nI 0) hx hb dX7_lender_61 (by decide) ?_
          refine lv_istore (lv' := [(4, .int (nI 0)), (0, .ref Zh), (1, .int (nI k5)), (2, .int (-9)), (3, .int (nI i1))]) hx hb dX7_lender_62 hl (by decide) rfl (fun ls hl => ?_)
          refine lv_iload hx hb dX7_lender_64 (lv_at hl 0 rfl) ?_
          refine nb_if_eq (tgt := 73) hx hb dX7_lender_66 (by decide) (by omega) (fun hq13 => ?_) (fun hq13 => absurd hq13 (by omega))
          refine lv_iload_n hx hb dX7_lender_73 rfl (lv_at hl 3 rfl) ?_
          refine lv_istore_n (lv' := [(2, .int (-9)), (4, .int (nI 0)), (0, .ref Zh), (1, .int (nI k5)), (3, .int (nI i1))]) hx hb dX7_lender_74 rfl hl (by decide) rfl (fun ls hl => ?_)
          refine lv_iinc (v := nI (i1 + 1)) (lv' := [(3, .int (nI (i1 + 1))), (2, .int (-9)), (4, .int (nI 0)), (0, .ref Zh), (1, .int (nI k5))]) hx hb dX7_lender_75 hl (k := 4) rfl (nI_add i1 1) (by decide) rfl (fun ls hl => ?_)
          refine lv_goto (tgt := 15) hx hb dX7_lender_78 (by decide) ?_
          have hl : lv_has ls 5 [(3, .int (nI (i1 + 1))), (2, .int (ldI (0))), (4, .int (nI 0)), (0, .ref Zh), (1, .int (nI k5))] := hl
          have hl : lv_has ls 5 [(0, .ref Zh), (1, .int (nI k5)), (2, .int (ldI (0))), (3, .int (nI (i1 + 1)))] := lv_sub hl [3, 4, 1, 0] rfl
          exact ih1 0 (ldN_f hI1 (fun q => by first | exact absurd q.1 (by omega) | exact absurd q.2.1 (by show ¬ 0 < _; omega) | (rcases q.2.2 with y | y; exact absurd y (by omega); exact absurd y (Nat.not_lt.mpr (by assumption))))) _ _ _ hP hD hS hl
        · skip
          refine lv_aload_n hx hb dX7_lender_30 rfl (lv_at hl 0 rfl) ?_
          refine lv_iload_n hx hb dX7_lender_31 rfl (lv_at hl 3 rfl) ?_
          refine be_i0 (ru_V (As := [.int (nI i1)]) (rest := []) ⟨hx, hb, hml, hown, hts⟩ (z_hasOf l D cI cB cZ cN Zh Za1 Za3 Za4 Za5 Za6 Za7 Za8 Za9 Za10 Za11 Za12 Za13 Za20 Za21 Za22 Za23 Za24 Za25 Za26 Za27 Zt ZS i1 hZ (by omega) H.size) gX7_lender_X7_hasOf rfl ⟨rfl, by decide, by decide, (show Option.map (fun d => d.parameters.length) (parseMethodDescriptor yX7_hasOf.desc) = some 1 by decide +kernel)⟩ ⟨Nat.le_of_ble_eq_true rfl, Nat.le_of_ble_eq_true rfl⟩ hK hP hD 7 0 rfl rfl [0, 1, 2, 3, 4, 5, 6, 7, 8, 9, 10, 11, 12, 13, 14, 15, 16, 17, 18, 19, 20] (by decide) rfl hl.1 rfl (Nat.le_of_ble_eq_true rfl) dX7_lender_32 ⟨Nat.le_of_ble_eq_true rfl, Nat.le_of_ble_eq_true rfl⟩) hP hD hS hA [0, 1, 2, 3, 4, 5, 6, 7, 8, 9, 10, 11, 12, 13, 14, 15, 16, 17, 18, 19, 20] rfl (fun r15 u14 H locs w16 hP hS => ?_)
          obtain rfl : r15 = nI (sumN (fun c => ZS 20 (6 * i1 + c) * ZS 5 c) (ZS 3 0)) := w16
          have b17 : sumN (fun c => ZS 20 (6 * i1 + c) * ZS 5 c) (ZS 3 0) ≤ 6 * (99 * 999) := Nat.le_trans (sumN_le (M := 99 * 999) (fun j => Nat.mul_le_mul (Nat.le_trans (hZ 20 _) (nbd_99 _)) (hZ 5 j)) _) (by have q : ZS 3 0 ≤ 6 := hZ 3 0; omega)
          refine nb_if_le (tgt := 61) hx hb dX7_lender_35 (by decide) (by omega) (fun hq18 => ?_) (fun hq18 => ?_)
          · skip
            refine lv_iconst (v := nI 0) hx hb dX7_lender_61 (by decide) ?_
            refine lv_istore (lv' := [(4, .int (nI 0)), (0, .ref Zh), (1, .int (nI k5)), (2, .int (-9)), (3, .int (nI i1))]) hx hb dX7_lender_62 hl (by decide) rfl (fun ls hl => ?_)
            refine lv_iload hx hb dX7_lender_64 (lv_at hl 0 rfl) ?_
            refine nb_if_eq (tgt := 73) hx hb dX7_lender_66 (by decide) (by omega) (fun hq19 => ?_) (fun hq19 => absurd hq19 (by omega))
            refine lv_iload_n hx hb dX7_lender_73 rfl (lv_at hl 3 rfl) ?_
            refine lv_istore_n (lv' := [(2, .int (-9)), (4, .int (nI 0)), (0, .ref Zh), (1, .int (nI k5)), (3, .int (nI i1))]) hx hb dX7_lender_74 rfl hl (by decide) rfl (fun ls hl => ?_)
            refine lv_iinc (v := nI (i1 + 1)) (lv' := [(3, .int (nI (i1 + 1))), (2, .int (-9)), (4, .int (nI 0)), (0, .ref Zh), (1, .int (nI k5))]) hx hb dX7_lender_75 hl (k := 4) rfl (nI_add i1 1) (by decide) rfl (fun ls hl => ?_)
            refine lv_goto (tgt := 15) hx hb dX7_lender_78 (by decide) ?_
            have hl : lv_has ls 5 [(3, .int (nI (i1 + 1))), (2, .int (ldI (0))), (4, .int (nI 0)), (0, .ref Zh), (1, .int (nI k5))] := hl
            have hl : lv_has ls 5 [(0, .ref Zh), (1, .int (nI k5)), (2, .int (ldI (0))), (3, .int (nI (i1 + 1)))] := lv_sub hl [3, 4, 1, 0] rfl
            exact ih1 0 (ldN_f hI1 (fun q => by first | exact absurd q.1 (by omega) | exact absurd q.2.1 (by show ¬ 0 < _; omega) | (rcases q.2.2 with y | y; exact absurd y (by omega); exact absurd y (Nat.not_lt.mpr (by assumption))))) _ _ _ hP hD hS hl
          · skip
            refine lv_iload_n hx hb dX7_lender_38 rfl (lv_at hl 2 rfl) ?_
            refine lv_bipush (v := -9) hx hb dX7_lender_39 (by decide) ?_
            refine lv_icmp_eq (tgt := 57) hx hb dX7_lender_41 (by decide) (fun hq20 => ?_) (fun hq20 => absurd hq20 (by decide))
            refine lv_iconst (v := nI 1) hx hb dX7_lender_57 (by decide) ?_
            refine lv_goto (tgt := 62) hx hb dX7_lender_58 (by decide) ?_
            refine lv_istore (lv' := [(4, .int (nI 1)), (0, .ref Zh), (1, .int (nI k5)), (2, .int (-9)), (3, .int (nI i1))]) hx hb dX7_lender_62 hl (by decide) rfl (fun ls hl => ?_)
            refine lv_iload hx hb dX7_lender_64 (lv_at hl 0 rfl) ?_
            refine nb_if_eq (tgt := 73) hx hb dX7_lender_66 (by decide) (by omega) (fun hq21 => absurd hq21 (by omega)) (fun hq21 => ?_)
            refine lv_iload_n hx hb dX7_lender_69 rfl (lv_at hl 4 rfl) ?_
            refine lv_goto (tgt := 74) hx hb dX7_lender_70 (by decide) ?_
            refine lv_istore_n (lv' := [(2, .int (nI i1)), (4, .int (nI 1)), (0, .ref Zh), (1, .int (nI k5)), (3, .int (nI i1))]) hx hb dX7_lender_74 rfl hl (by decide) rfl (fun ls hl => ?_)
            refine lv_iinc (v := nI (i1 + 1)) (lv' := [(3, .int (nI (i1 + 1))), (2, .int (nI i1)), (4, .int (nI 1)), (0, .ref Zh), (1, .int (nI k5))]) hx hb dX7_lender_75 hl (k := 4) rfl (nI_add i1 1) (by decide) rfl (fun ls hl => ?_)
            refine lv_goto (tgt := 15) hx hb dX7_lender_78 (by decide) ?_
            have hl : lv_has ls 5 [(3, .int (nI (i1 + 1))), (2, .int (ldI (i1 + 1))), (4, .int (nI 1)), (0, .ref Zh), (1, .int (nI k5))] := hl
            have hl : lv_has ls 5 [(0, .ref Zh), (1, .int (nI k5)), (2, .int (ldI (i1 + 1))), (3, .int (nI (i1 + 1)))] := lv_sub hl [3, 4, 1, 0] rfl
            exact ih1 (i1 + 1) (ldN_t hI1 (by omega) (by omega) (by first | exact Or.inl rfl | exact Or.inr (by assumption))) _ _ _ hP hD hS hl
      · skip
        have hl : lv_has ls 5 [(0, .ref Zh), (1, .int (nI k5)), (2, .int (nI k1z)), (3, .int (nI i1))] := hl
        refine lv_iload_n hx hb dX7_lender_25 rfl (lv_at hl 3 rfl) ?_
        refine lv_iload_n hx hb dX7_lender_26 rfl (lv_at hl 1 rfl) ?_
        refine nb_icmp_eq (tgt := 61) hx hb dX7_lender_27 (by decide) (by omega) (by omega) (fun hq22 => ?_) (fun hq22 => ?_)
        · skip
          refine lv_iconst (v := nI 0) hx hb dX7_lender_61 (by decide) ?_
          refine lv_istore (lv' := [(4, .int (nI 0)), (0, .ref Zh), (1, .int (nI k5)), (2, .int (nI k1z)), (3, .int (nI i1))]) hx hb dX7_lender_62 hl (by decide) rfl (fun ls hl => ?_)
          refine lv_iload hx hb dX7_lender_64 (lv_at hl 0 rfl) ?_
          refine nb_if_eq (tgt := 73) hx hb dX7_lender_66 (by decide) (by omega) (fun hq23 => ?_) (fun hq23 => absurd hq23 (by omega))
          refine lv_iload_n hx hb dX7_lender_73 rfl (lv_at hl 3 rfl) ?_
          refine lv_istore_n (lv' := [(2, .int (nI k1z)), (4, .int (nI 0)), (0, .ref Zh), (1, .int (nI k5)), (3, .int (nI i1))]) hx hb dX7_lender_74 rfl hl (by decide) rfl (fun ls hl => ?_)
          refine lv_iinc (v := nI (i1 + 1)) (lv' := [(3, .int (nI (i1 + 1))), (2, .int (nI k1z)), (4, .int (nI 0)), (0, .ref Zh), (1, .int (nI k5))]) hx hb dX7_lender_75 hl (k := 4) rfl (nI_add i1 1) (by decide) rfl (fun ls hl => ?_)
          refine lv_goto (tgt := 15) hx hb dX7_lender_78 (by decide) ?_
          have hl : lv_has ls 5 [(3, .int (nI (i1 + 1))), (2, .int (ldI (k1z + 1))), (4, .int (nI 0)), (0, .ref Zh), (1, .int (nI k5))] := hl
          have hl : lv_has ls 5 [(0, .ref Zh), (1, .int (nI k5)), (2, .int (ldI (k1z + 1))), (3, .int (nI (i1 + 1)))] := lv_sub hl [3, 4, 1, 0] rfl
          exact ih1 (k1z + 1) (ldN_f hI1 (fun q => by first | exact absurd q.1 (by omega) | exact absurd q.2.1 (by show ¬ 0 < _; omega) | (rcases q.2.2 with y | y; exact absurd y (by omega); exact absurd y (Nat.not_lt.mpr (by assumption))))) _ _ _ hP hD hS hl
        · skip
          refine lv_aload_n hx hb dX7_lender_30 rfl (lv_at hl 0 rfl) ?_
          refine lv_iload_n hx hb dX7_lender_31 rfl (lv_at hl 3 rfl) ?_
          refine be_i0 (ru_V (As := [.int (nI i1)]) (rest := []) ⟨hx, hb, hml, hown, hts⟩ (z_hasOf l D cI cB cZ cN Zh Za1 Za3 Za4 Za5 Za6 Za7 Za8 Za9 Za10 Za11 Za12 Za13 Za20 Za21 Za22 Za23 Za24 Za25 Za26 Za27 Zt ZS i1 hZ (by omega) H.size) gX7_lender_X7_hasOf rfl ⟨rfl, by decide, by decide, (show Option.map (fun d => d.parameters.length) (parseMethodDescriptor yX7_hasOf.desc) = some 1 by decide +kernel)⟩ ⟨Nat.le_of_ble_eq_true rfl, Nat.le_of_ble_eq_true rfl⟩ hK hP hD 7 0 rfl rfl [0, 1, 2, 3, 4, 5, 6, 7, 8, 9, 10, 11, 12, 13, 14, 15, 16, 17, 18, 19, 20] (by decide) rfl hl.1 rfl (Nat.le_of_ble_eq_true rfl) dX7_lender_32 ⟨Nat.le_of_ble_eq_true rfl, Nat.le_of_ble_eq_true rfl⟩) hP hD hS hA [0, 1, 2, 3, 4, 5, 6, 7, 8, 9, 10, 11, 12, 13, 14, 15, 16, 17, 18, 19, 20] rfl (fun r25 u24 H locs w26 hP hS => ?_)
          obtain rfl : r25 = nI (sumN (fun c => ZS 20 (6 * i1 + c) * ZS 5 c) (ZS 3 0)) := w26
          have b27 : sumN (fun c => ZS 20 (6 * i1 + c) * ZS 5 c) (ZS 3 0) ≤ 6 * (99 * 999) := Nat.le_trans (sumN_le (M := 99 * 999) (fun j => Nat.mul_le_mul (Nat.le_trans (hZ 20 _) (nbd_99 _)) (hZ 5 j)) _) (by have q : ZS 3 0 ≤ 6 := hZ 3 0; omega)
          refine nb_if_le (tgt := 61) hx hb dX7_lender_35 (by decide) (by omega) (fun hq28 => ?_) (fun hq28 => ?_)
          · skip
            refine lv_iconst (v := nI 0) hx hb dX7_lender_61 (by decide) ?_
            refine lv_istore (lv' := [(4, .int (nI 0)), (0, .ref Zh), (1, .int (nI k5)), (2, .int (nI k1z)), (3, .int (nI i1))]) hx hb dX7_lender_62 hl (by decide) rfl (fun ls hl => ?_)
            refine lv_iload hx hb dX7_lender_64 (lv_at hl 0 rfl) ?_
            refine nb_if_eq (tgt := 73) hx hb dX7_lender_66 (by decide) (by omega) (fun hq29 => ?_) (fun hq29 => absurd hq29 (by omega))
            refine lv_iload_n hx hb dX7_lender_73 rfl (lv_at hl 3 rfl) ?_
            refine lv_istore_n (lv' := [(2, .int (nI k1z)), (4, .int (nI 0)), (0, .ref Zh), (1, .int (nI k5)), (3, .int (nI i1))]) hx hb dX7_lender_74 rfl hl (by decide) rfl (fun ls hl => ?_)
            refine lv_iinc (v := nI (i1 + 1)) (lv' := [(3, .int (nI (i1 + 1))), (2, .int (nI k1z)), (4, .int (nI 0)), (0, .ref Zh), (1, .int (nI k5))]) hx hb dX7_lender_75 hl (k := 4) rfl (nI_add i1 1) (by decide) rfl (fun ls hl => ?_)
            refine lv_goto (tgt := 15) hx hb dX7_lender_78 (by decide) ?_
            have hl : lv_has ls 5 [(3, .int (nI (i1 + 1))), (2, .int (ldI (k1z + 1))), (4, .int (nI 0)), (0, .ref Zh), (1, .int (nI k5))] := hl
            have hl : lv_has ls 5 [(0, .ref Zh), (1, .int (nI k5)), (2, .int (ldI (k1z + 1))), (3, .int (nI (i1 + 1)))] := lv_sub hl [3, 4, 1, 0] rfl
            exact ih1 (k1z + 1) (ldN_f hI1 (fun q => by first | exact absurd q.1 (by omega) | exact absurd q.2.1 (by show ¬ 0 < _; omega) | (rcases q.2.2 with y | y; exact absurd y (by omega); exact absurd y (Nat.not_lt.mpr (by assumption))))) _ _ _ hP hD hS hl
          · skip
            refine lv_iload_n hx hb dX7_lender_38 rfl (lv_at hl 2 rfl) ?_
            refine lv_bipush (v := -9) hx hb dX7_lender_39 (by decide) ?_
            refine lv_icmp_eq (tgt := 57) hx hb dX7_lender_41 (by decide) (fun hq30 => absurd hq30 (nI_ne9 (by omega))) (fun hq30 => ?_)
            refine lv_aload_n hx hb dX7_lender_44 rfl (lv_at hl 0 rfl) ?_
            refine lv_iload_n hx hb dX7_lender_45 rfl (lv_at hl 3 rfl) ?_
            refine be_i0 (ru_V (As := [.int (nI i1)]) (rest := []) ⟨hx, hb, hml, hown, hts⟩ (z_ease l D cI cB cZ cN Zh Za1 Za3 Za4 Za5 Za6 Za7 Za8 Za9 Za10 Za11 Za12 Za13 Za20 Za21 Za22 Za23 Za24 Za25 Za26 Za27 Zt ZS i1 hZ (by omega) H.size) gX7_lender_X7_ease rfl ⟨rfl, by decide, by decide, (show Option.map (fun d => d.parameters.length) (parseMethodDescriptor yX7_ease.desc) = some 1 by decide +kernel)⟩ ⟨Nat.le_of_ble_eq_true rfl, Nat.le_of_ble_eq_true rfl⟩ hK hP hD 7 0 rfl rfl [0, 1, 2, 3, 4, 5, 6, 7, 8, 9, 10, 11, 12, 13, 14, 15, 16, 17, 18, 19, 20] (by decide) rfl hl.1 rfl (Nat.le_of_ble_eq_true rfl) dX7_lender_46 ⟨Nat.le_of_ble_eq_true rfl, Nat.le_of_ble_eq_true rfl⟩) hP hD hS hA [0, 1, 2, 3, 4, 5, 6, 7, 8, 9, 10, 11, 12, 13, 14, 15, 16, 17, 18, 19, 20] rfl (fun r32 u31 H locs w33 hP hS => ?_)
            obtain rfl : r32 = nI (sumN (fun c => if ZS 4 c ≤ ZS 7 i1 + 7 ∧ ZS 7 i1 + 7 < ZS 4 c + ZS 13 0 then sumN (fun p => ZS 20 (6 * p + c)) (ZS 6 0) * ZS 5 c else 0) (ZS 3 0)) := w33
            have b34 : sumN (fun c => if ZS 4 c ≤ ZS 7 i1 + 7 ∧ ZS 7 i1 + 7 < ZS 4 c + ZS 13 0 then sumN (fun p => ZS 20 (6 * p + c)) (ZS 6 0) * ZS 5 c else 0) (ZS 3 0) ≤ 6 * (495 * 999) := Nat.le_trans (sumN_le (M := 495 * 999) (fun j => by split; exact Nat.mul_le_mul (Nat.le_trans (sumN_le (M := 99) (fun j => Nat.le_trans (hZ 20 _) (nbd_99 _)) _) (by have q : ZS 6 0 ≤ 5 := hZ 6 0; omega)) (hZ 5 j); exact Nat.zero_le _) _) (by have q : ZS 3 0 ≤ 6 := hZ 3 0; omega)
            refine lv_aload_n hx hb dX7_lender_49 rfl (lv_at hl 0 rfl) ?_
            refine lv_iload_n hx hb dX7_lender_50 rfl (lv_at hl 2 rfl) ?_
            refine be_i0 (ru_V (As := [.int (nI k1z)]) (rest := [.int (nI (sumN (fun c => if ZS 4 c ≤ ZS 7 i1 + 7 ∧ ZS 7 i1 + 7 < ZS 4 c + ZS 13 0 then sumN (fun p => ZS 20 (6 * p + c)) (ZS 6 0) * ZS 5 c else 0) (ZS 3 0)))]) ⟨hx, hb, hml, hown, hts⟩ (z_ease l D cI cB cZ cN Zh Za1 Za3 Za4 Za5 Za6 Za7 Za8 Za9 Za10 Za11 Za12 Za13 Za20 Za21 Za22 Za23 Za24 Za25 Za26 Za27 Zt ZS k1z hZ (by omega) H.size) gX7_lender_X7_ease rfl ⟨rfl, by decide, by decide, (show Option.map (fun d => d.parameters.length) (parseMethodDescriptor yX7_ease.desc) = some 1 by decide +kernel)⟩ ⟨Nat.le_of_ble_eq_true rfl, Nat.le_of_ble_eq_true rfl⟩ hK hP hD 7 0 rfl rfl [0, 1, 2, 3, 4, 5, 6, 7, 8, 9, 10, 11, 12, 13, 14, 15, 16, 17, 18, 19, 20] (by decide) rfl hl.1 rfl (Nat.le_of_ble_eq_true rfl) dX7_lender_51 ⟨Nat.le_of_ble_eq_true rfl, Nat.le_of_ble_eq_true rfl⟩) hP hD hS hA [0, 1, 2, 3, 4, 5, 6, 7, 8, 9, 10, 11, 12, 13, 14, 15, 16, 17, 18, 19, 20] rfl (fun r36 u35 H locs w37 hP hS => ?_)
            obtain rfl : r36 = nI (sumN (fun c => if ZS 4 c ≤ ZS 7 k1z + 7 ∧ ZS 7 k1z + 7 < ZS 4 c + ZS 13 0 then sumN (fun p => ZS 20 (6 * p + c)) (ZS 6 0) * ZS 5 c else 0) (ZS 3 0)) := w37
            have b38 : sumN (fun c => if ZS 4 c ≤ ZS 7 k1z + 7 ∧ ZS 7 k1z + 7 < ZS 4 c + ZS 13 0 then sumN (fun p => ZS 20 (6 * p + c)) (ZS 6 0) * ZS 5 c else 0) (ZS 3 0) ≤ 6 * (495 * 999) := Nat.le_trans (sumN_le (M := 495 * 999) (fun j => by split; exact Nat.mul_le_mul (Nat.le_trans (sumN_le (M := 99) (fun j => Nat.le_trans (hZ 20 _) (nbd_99 _)) _) (by have q : ZS 6 0 ≤ 5 := hZ 6 0; omega)) (hZ 5 j); exact Nat.zero_le _) _) (by have q : ZS 3 0 ≤ 6 := hZ 3 0; omega)
            refine nb_icmp_le (tgt := 61) hx hb dX7_lender_54 (by decide) (by omega) (by omega) (fun hq39 => ?_) (fun hq39 => ?_)
            · skip
              refine lv_iconst (v := nI 0) hx hb dX7_lender_61 (by decide) ?_
              refine lv_istore (lv' := [(4, .int (nI 0)), (0, .ref Zh), (1, .int (nI k5)), (2, .int (nI k1z)), (3, .int (nI i1))]) hx hb dX7_lender_62 hl (by decide) rfl (fun ls hl => ?_)
              refine lv_iload hx hb dX7_lender_64 (lv_at hl 0 rfl) ?_
              refine nb_if_eq (tgt := 73) hx hb dX7_lender_66 (by decide) (by omega) (fun hq40 => ?_) (fun hq40 => absurd hq40 (by omega))
              refine lv_iload_n hx hb dX7_lender_73 rfl (lv_at hl 3 rfl) ?_
              refine lv_istore_n (lv' := [(2, .int (nI k1z)), (4, .int (nI 0)), (0, .ref Zh), (1, .int (nI k5)), (3, .int (nI i1))]) hx hb dX7_lender_74 rfl hl (by decide) rfl (fun ls hl => ?_)
              refine lv_iinc (v := nI (i1 + 1)) (lv' := [(3, .int (nI (i1 + 1))), (2, .int (nI k1z)), (4, .int (nI 0)), (0, .ref Zh), (1, .int (nI k5))]) hx hb dX7_lender_75 hl (k := 4) rfl (nI_add i1 1) (by decide) rfl (fun ls hl => ?_)
              refine lv_goto (tgt := 15) hx hb dX7_lender_78 (by decide) ?_
              have hl : lv_has ls 5 [(3, .int (nI (i1 + 1))), (2, .int (ldI (k1z + 1))), (4, .int (nI 0)), (0, .ref Zh), (1, .int (nI k5))] := hl
              have hl : lv_has ls 5 [(0, .ref Zh), (1, .int (nI k5)), (2, .int (ldI (k1z + 1))), (3, .int (nI (i1 + 1)))] := lv_sub hl [3, 4, 1, 0] rfl
              exact ih1 (k1z + 1) (ldN_f hI1 (fun q => by first | exact absurd q.1 (by omega) | exact absurd q.2.1 (by show ¬ 0 < _; omega) | (rcases q.2.2 with y | y; exact absurd y (by omega); exact absurd y (Nat.not_lt.mpr (by assumption))))) _ _ _ hP hD hS hl
            · skip
              refine lv_iconst (v := nI 1) hx hb dX7_lender_57 (by decide) ?_
              refine lv_goto (tgt := 62) hx hb dX7_lender_58 (by decide) ?_
              refine lv_istore (lv' := [(4, .int (nI 1)), (0, .ref Zh), (1, .int (nI k5)), (2, .int (nI k1z)), (3, .int (nI i1))]) hx hb dX7_lender_62 hl (by decide) rfl (fun ls hl => ?_)
              refine lv_iload hx hb dX7_lender_64 (lv_at hl 0 rfl) ?_
              refine nb_if_eq (tgt := 73) hx hb dX7_lender_66 (by decide) (by omega) (fun hq41 => absurd hq41 (by omega)) (fun hq41 => ?_)
              refine lv_iload_n hx hb dX7_lender_69 rfl (lv_at hl 4 rfl) ?_
              refine lv_goto (tgt := 74) hx hb dX7_lender_70 (by decide) ?_
              refine lv_istore_n (lv' := [(2, .int (nI i1)), (4, .int (nI 1)), (0, .ref Zh), (1, .int (nI k5)), (3, .int (nI i1))]) hx hb dX7_lender_74 rfl hl (by decide) rfl (fun ls hl => ?_)
              refine lv_iinc (v := nI (i1 + 1)) (lv' := [(3, .int (nI (i1 + 1))), (2, .int (nI i1)), (4, .int (nI 1)), (0, .ref Zh), (1, .int (nI k5))]) hx hb dX7_lender_75 hl (k := 4) rfl (nI_add i1 1) (by decide) rfl (fun ls hl => ?_)
              refine lv_goto (tgt := 15) hx hb dX7_lender_78 (by decide) ?_
              have hl : lv_has ls 5 [(3, .int (nI (i1 + 1))), (2, .int (ldI (i1 + 1))), (4, .int (nI 1)), (0, .ref Zh), (1, .int (nI k5))] := hl
              have hl : lv_has ls 5 [(0, .ref Zh), (1, .int (nI k5)), (2, .int (ldI (i1 + 1))), (3, .int (nI (i1 + 1)))] := lv_sub hl [3, 4, 1, 0] rfl
              exact ih1 (i1 + 1) (ldN_t hI1 (by omega) (by omega) (by first | exact Or.inl rfl | exact Or.inr (by assumption))) _ _ _ hP hD hS hl
  · skip
    refine nb_if_ne (tgt := 10) hx hb dX7_lender_5 (by decide) (by omega) (fun hq42 => absurd hq42 (by omega)) (fun hq42 => ?_)
    refine lv_iconst (v := -1) hx hb dX7_lender_8 (by decide) ?_
    exact en_i hx hb hr hlk hP hD hS () [0, 1, 2, 3, 4, 5, 6, 7, 8, 9, 10, 11, 12, 13, 14, 15, 16, 17, 18, 19, 20] (by decide) rfl (Nat.le_of_ble_eq_true rfl) (Nat.le_of_ble_eq_true rfl) dX7_lender_9 (Or.inl ⟨hq4, rfl⟩)
