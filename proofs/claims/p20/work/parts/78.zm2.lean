set_option maxRecDepth 20000 in
theorem dAX7_coin : decA cX7_coin [(0, .aload_n 0, 1), (1, .iload_n 1, 1), (2, .invokevirtual 142, 3), (5, .ifCond .eq 12, 3), (8, .iload_n 2, 1), (9, .iconst 0, 1), (10, .iconst 3, 1), (11, .invokestatic 78, 3), (14, .ifCond .ne 5, 3), (17, .iconst (-1), 1), (18, .ireturn, 1), (19, .iconst 0, 1), (20, .istore_n 3, 1), (21, .iconst 0, 1), (22, .istore 4, 2), (24, .iload 4, 2), (26, .aload_n 0, 1), (27, .getfield 23, 3), (30, .iconst 0, 1), (31, .iaload, 1), (32, .if_icmp .ge 30, 3), (35, .iload_n 3, 1), (36, .aload_n 0, 1), (37, .iload_n 1, 1), (38, .iload 4, 2), (40, .invokevirtual 135, 3), (43, .ifCond .eq 10, 3), (46, .iconst 1, 1), (47, .iload 4, 2), (49, .ishl, 1), (50, .goto 4, 3), (53, .iconst 0, 1), (54, .ior, 1), (55, .istore_n 3, 1), (56, .iinc 4 1, 3), (59, .goto (-35), 3), (62, .iload_n 2, 1), (63, .ifCond .ne 12, 3), (66, .aload_n 0, 1), (67, .getfield 17, 3), (70, .iload_n 1, 1), (71, .iaload, 1), (72, .goto 31, 3), (75, .iload_n 2, 1), (76, .iconst 1, 1), (77, .if_icmp .ne 12, 3), (80, .aload_n 0, 1), (81, .getfield 20, 3), (84, .iload_n 1, 1), (85, .iaload, 1), (86, .goto 17, 3), (89, .iload_n 2, 1), (90, .iconst 2, 1), (91, .if_icmp .ne 7, 3), (94, .iload_n 3, 1), (95, .goto 8, 3), (98, .aload_n 0, 1), (99, .iload_n 1, 1), (100, .invokevirtual 138, 3), (103, .ireturn, 1)] = true := by decide +kernel
theorem dX7_coin_0 : decode cX7_coin 0 = .ok (.aload_n 0, 1) := decA_get dAX7_coin 0 rfl
theorem dX7_coin_1 : decode cX7_coin 1 = .ok (.iload_n 1, 1) := decA_get dAX7_coin 1 rfl
theorem dX7_coin_2 : decode cX7_coin 2 = .ok (.invokevirtual 142, 3) := decA_get dAX7_coin 2 rfl
set_option maxRecDepth 20000 in
theorem ggX7_coin_X7_isCoin : GoodIn wsX7_coin wsX7_isCoin := gd_ids wi_X7_coin wm_X7_coin wi_X7_isCoin (by decide +kernel)
set_option maxRecDepth 20000 in
theorem gX7_coin_X7_isCoin : GoodIn wsX7_coin (wsV RX7 142 RX7 yX7_isCoin wsX7_isCoin) := goodIn_app (gd_ids wi_X7_coin wm_X7_coin (b := [542, 543, 544, 481]) rfl (by decide +kernel)) ggX7_coin_X7_isCoin
theorem dX7_coin_5 : decode cX7_coin 5 = .ok (.ifCond .eq 12, 3) := decA_get dAX7_coin 3 rfl
theorem dX7_coin_8 : decode cX7_coin 8 = .ok (.iload_n 2, 1) := decA_get dAX7_coin 4 rfl
theorem dX7_coin_9 : decode cX7_coin 9 = .ok (.iconst 0, 1) := decA_get dAX7_coin 5 rfl
theorem dX7_coin_10 : decode cX7_coin 10 = .ok (.iconst 3, 1) := decA_get dAX7_coin 6 rfl
theorem dX7_coin_11 : decode cX7_coin 11 = .ok (.invokestatic 78, 3) := decA_get dAX7_coin 7 rfl
set_option maxRecDepth 20000 in
theorem ggX7_coin_X7_in : GoodIn wsX7_coin wsX7_in := gd_ids wi_X7_coin wm_X7_coin wi_X7_in (by decide +kernel)
theorem dX7_coin_14 : decode cX7_coin 14 = .ok (.ifCond .ne 5, 3) := decA_get dAX7_coin 8 rfl
theorem dX7_coin_19 : decode cX7_coin 19 = .ok (.iconst 0, 1) := decA_get dAX7_coin 11 rfl
theorem dX7_coin_20 : decode cX7_coin 20 = .ok (.istore_n 3, 1) := decA_get dAX7_coin 12 rfl
theorem dX7_coin_21 : decode cX7_coin 21 = .ok (.iconst 0, 1) := decA_get dAX7_coin 13 rfl
theorem dX7_coin_22 : decode cX7_coin 22 = .ok (.istore 4, 2) := decA_get dAX7_coin 14 rfl
theorem dX7_coin_24 : decode cX7_coin 24 = .ok (.iload 4, 2) := decA_get dAX7_coin 15 rfl
theorem dX7_coin_26 : decode cX7_coin 26 = .ok (.aload_n 0, 1) := decA_get dAX7_coin 16 rfl
theorem dX7_coin_27 : decode cX7_coin 27 = .ok (.getfield 23, 3) := decA_get dAX7_coin 17 rfl
theorem in_X7_coin_7 : ∀ w ∈ wsX70, w ∈ wsX7_coin := fun w h => (gd_ids wi_X7_coin wm_X7_coin wi_X70 (by decide +kernel) w h).1
theorem dX7_coin_30 : decode cX7_coin 30 = .ok (.iconst 0, 1) := decA_get dAX7_coin 18 rfl
theorem dX7_coin_31 : decode cX7_coin 31 = .ok (.iaload, 1) := decA_get dAX7_coin 19 rfl
theorem dX7_coin_32 : decode cX7_coin 32 = .ok (.if_icmp .ge 30, 3) := decA_get dAX7_coin 20 rfl
theorem dX7_coin_62 : decode cX7_coin 62 = .ok (.iload_n 2, 1) := decA_get dAX7_coin 36 rfl
theorem dX7_coin_63 : decode cX7_coin 63 = .ok (.ifCond .ne 12, 3) := decA_get dAX7_coin 37 rfl
theorem dX7_coin_75 : decode cX7_coin 75 = .ok (.iload_n 2, 1) := decA_get dAX7_coin 43 rfl
theorem dX7_coin_76 : decode cX7_coin 76 = .ok (.iconst 1, 1) := decA_get dAX7_coin 44 rfl
theorem dX7_coin_77 : decode cX7_coin 77 = .ok (.if_icmp .ne 12, 3) := decA_get dAX7_coin 45 rfl
theorem dX7_coin_89 : decode cX7_coin 89 = .ok (.iload_n 2, 1) := decA_get dAX7_coin 51 rfl
theorem dX7_coin_90 : decode cX7_coin 90 = .ok (.iconst 2, 1) := decA_get dAX7_coin 52 rfl
theorem dX7_coin_91 : decode cX7_coin 91 = .ok (.if_icmp .ne 7, 3) := decA_get dAX7_coin 53 rfl
theorem dX7_coin_98 : decode cX7_coin 98 = .ok (.aload_n 0, 1) := decA_get dAX7_coin 56 rfl
theorem dX7_coin_99 : decode cX7_coin 99 = .ok (.iload_n 1, 1) := decA_get dAX7_coin 57 rfl
theorem dX7_coin_100 : decode cX7_coin 100 = .ok (.invokevirtual 138, 3) := decA_get dAX7_coin 58 rfl
set_option maxRecDepth 20000 in
theorem ggX7_coin_X7_allOf : GoodIn wsX7_coin wsX7_allOf := gd_ids wi_X7_coin wm_X7_coin wi_X7_allOf (by decide +kernel)
set_option maxRecDepth 20000 in
theorem gX7_coin_X7_allOf : GoodIn wsX7_coin (wsV RX7 138 RX7 yX7_allOf wsX7_allOf) := goodIn_app (gd_ids wi_X7_coin wm_X7_coin (b := [538, 539, 540, 481]) rfl (by decide +kernel)) ggX7_coin_X7_allOf
theorem dX7_coin_103 : decode cX7_coin 103 = .ok (.ireturn, 1) := decA_get dAX7_coin 59 rfl
theorem dX7_coin_94 : decode cX7_coin 94 = .ok (.iload_n 3, 1) := decA_get dAX7_coin 54 rfl
theorem dX7_coin_95 : decode cX7_coin 95 = .ok (.goto 8, 3) := decA_get dAX7_coin 55 rfl
theorem dX7_coin_80 : decode cX7_coin 80 = .ok (.aload_n 0, 1) := decA_get dAX7_coin 46 rfl
theorem dX7_coin_81 : decode cX7_coin 81 = .ok (.getfield 20, 3) := decA_get dAX7_coin 47 rfl
theorem dX7_coin_84 : decode cX7_coin 84 = .ok (.iload_n 1, 1) := decA_get dAX7_coin 48 rfl
theorem dX7_coin_85 : decode cX7_coin 85 = .ok (.iaload, 1) := decA_get dAX7_coin 49 rfl
theorem dX7_coin_86 : decode cX7_coin 86 = .ok (.goto 17, 3) := decA_get dAX7_coin 50 rfl
theorem dX7_coin_66 : decode cX7_coin 66 = .ok (.aload_n 0, 1) := decA_get dAX7_coin 38 rfl
theorem dX7_coin_67 : decode cX7_coin 67 = .ok (.getfield 17, 3) := decA_get dAX7_coin 39 rfl
theorem dX7_coin_70 : decode cX7_coin 70 = .ok (.iload_n 1, 1) := decA_get dAX7_coin 40 rfl
theorem dX7_coin_71 : decode cX7_coin 71 = .ok (.iaload, 1) := decA_get dAX7_coin 41 rfl
theorem dX7_coin_72 : decode cX7_coin 72 = .ok (.goto 31, 3) := decA_get dAX7_coin 42 rfl
theorem dX7_coin_35 : decode cX7_coin 35 = .ok (.iload_n 3, 1) := decA_get dAX7_coin 21 rfl
theorem dX7_coin_36 : decode cX7_coin 36 = .ok (.aload_n 0, 1) := decA_get dAX7_coin 22 rfl
theorem dX7_coin_37 : decode cX7_coin 37 = .ok (.iload_n 1, 1) := decA_get dAX7_coin 23 rfl
theorem dX7_coin_38 : decode cX7_coin 38 = .ok (.iload 4, 2) := decA_get dAX7_coin 24 rfl
theorem dX7_coin_40 : decode cX7_coin 40 = .ok (.invokevirtual 135, 3) := decA_get dAX7_coin 25 rfl
set_option maxRecDepth 20000 in
theorem ggX7_coin_X7_does : GoodIn wsX7_coin wsX7_does := gd_ids wi_X7_coin wm_X7_coin wi_X7_does (by decide +kernel)
set_option maxRecDepth 20000 in
theorem gX7_coin_X7_does : GoodIn wsX7_coin (wsV RX7 135 RX7 yX7_does wsX7_does) := goodIn_app (gd_ids wi_X7_coin wm_X7_coin (b := [535, 536, 537, 481]) rfl (by decide +kernel)) ggX7_coin_X7_does
theorem dX7_coin_43 : decode cX7_coin 43 = .ok (.ifCond .eq 10, 3) := decA_get dAX7_coin 26 rfl
theorem dX7_coin_46 : decode cX7_coin 46 = .ok (.iconst 1, 1) := decA_get dAX7_coin 27 rfl
theorem dX7_coin_47 : decode cX7_coin 47 = .ok (.iload 4, 2) := decA_get dAX7_coin 28 rfl
theorem dX7_coin_49 : decode cX7_coin 49 = .ok (.ishl, 1) := decA_get dAX7_coin 29 rfl
theorem dX7_coin_50 : decode cX7_coin 50 = .ok (.goto 4, 3) := decA_get dAX7_coin 30 rfl
theorem dX7_coin_54 : decode cX7_coin 54 = .ok (.ior, 1) := decA_get dAX7_coin 32 rfl
theorem dX7_coin_55 : decode cX7_coin 55 = .ok (.istore_n 3, 1) := decA_get dAX7_coin 33 rfl
theorem dX7_coin_56 : decode cX7_coin 56 = .ok (.iinc 4 1, 3) := decA_get dAX7_coin 34 rfl
theorem dX7_coin_59 : decode cX7_coin 59 = .ok (.goto (-35), 3) := decA_get dAX7_coin 35 rfl
theorem dX7_coin_53 : decode cX7_coin 53 = .ok (.iconst 0, 1) := decA_get dAX7_coin 31 rfl
theorem dX7_coin_17 : decode cX7_coin 17 = .ok (.iconst (-1), 1) := decA_get dAX7_coin 9 rfl
theorem dX7_coin_18 : decode cX7_coin 18 = .ok (.ireturn, 1) := decA_get dAX7_coin 10 rfl
set_option maxRecDepth 20000 in
theorem dAX7_person : decA cX7_person [(0, .aload_n 0, 1), (1, .iload_n 1, 1), (2, .invokevirtual 145, 3), (5, .ifCond .eq 12, 3), (8, .iload_n 2, 1), (9, .iconst 0, 1), (10, .iconst 3, 1), (11, .invokestatic 78, 3), (14, .ifCond .ne 5, 3), (17, .iconst (-1), 1), (18, .ireturn, 1), (19, .iconst 0, 1), (20, .istore_n 3, 1), (21, .iconst 0, 1), (22, .istore 4, 2), (24, .iload 4, 2), (26, .aload_n 0, 1), (27, .getfield 13, 3), (30, .iconst 0, 1), (31, .iaload, 1), (32, .if_icmp .ge 30, 3), (35, .iload_n 3, 1), (36, .aload_n 0, 1), (37, .iload 4, 2), (39, .iload_n 1, 1), (40, .invokevirtual 135, 3), (43, .ifCond .eq 10, 3), (46, .iconst 1, 1), (47, .iload 4, 2), (49, .ishl, 1), (50, .goto 4, 3), (53, .iconst 0, 1), (54, .ior, 1), (55, .istore_n 3, 1), (56, .iinc 4 1, 3), (59, .goto (-35), 3), (62, .iload_n 2, 1), (63, .ifCond .ne 12, 3), (66, .aload_n 0, 1), (67, .getfield 26, 3), (70, .iload_n 1, 1), (71, .iaload, 1), (72, .goto 30, 3), (75, .iload_n 2, 1), (76, .iconst 1, 1), (77, .if_icmp .ne 7, 3), (80, .iload_n 3, 1), (81, .goto 21, 3), (84, .iload_n 2, 1), (85, .iconst 2, 1), (86, .if_icmp .ne 11, 3), (89, .aload_n 0, 1), (90, .iload_n 1, 1), (91, .invokevirtual 148, 3), (94, .goto 8, 3), (97, .aload_n 0, 1), (98, .iload_n 1, 1), (99, .invokevirtual 151, 3), (102, .ireturn, 1)] = true := by decide +kernel
theorem dX7_person_0 : decode cX7_person 0 = .ok (.aload_n 0, 1) := decA_get dAX7_person 0 rfl
theorem dX7_person_1 : decode cX7_person 1 = .ok (.iload_n 1, 1) := decA_get dAX7_person 1 rfl
theorem dX7_person_2 : decode cX7_person 2 = .ok (.invokevirtual 145, 3) := decA_get dAX7_person 2 rfl
set_option maxRecDepth 20000 in
theorem ggX7_person_X7_isPerson : GoodIn wsX7_person wsX7_isPerson := gd_ids wi_X7_person wm_X7_person wi_X7_isPerson (by decide +kernel)
set_option maxRecDepth 20000 in
theorem gX7_person_X7_isPerson : GoodIn wsX7_person (wsV RX7 145 RX7 yX7_isPerson wsX7_isPerson) := goodIn_app (gd_ids wi_X7_person wm_X7_person (b := [546, 547, 548, 481]) rfl (by decide +kernel)) ggX7_person_X7_isPerson
theorem dX7_person_5 : decode cX7_person 5 = .ok (.ifCond .eq 12, 3) := decA_get dAX7_person 3 rfl
theorem dX7_person_8 : decode cX7_person 8 = .ok (.iload_n 2, 1) := decA_get dAX7_person 4 rfl
theorem dX7_person_9 : decode cX7_person 9 = .ok (.iconst 0, 1) := decA_get dAX7_person 5 rfl
theorem dX7_person_10 : decode cX7_person 10 = .ok (.iconst 3, 1) := decA_get dAX7_person 6 rfl
theorem dX7_person_11 : decode cX7_person 11 = .ok (.invokestatic 78, 3) := decA_get dAX7_person 7 rfl
set_option maxRecDepth 20000 in
theorem ggX7_person_X7_in : GoodIn wsX7_person wsX7_in := gd_ids wi_X7_person wm_X7_person wi_X7_in (by decide +kernel)
theorem dX7_person_14 : decode cX7_person 14 = .ok (.ifCond .ne 5, 3) := decA_get dAX7_person 8 rfl
theorem dX7_person_19 : decode cX7_person 19 = .ok (.iconst 0, 1) := decA_get dAX7_person 11 rfl
theorem dX7_person_20 : decode cX7_person 20 = .ok (.istore_n 3, 1) := decA_get dAX7_person 12 rfl
theorem dX7_person_21 : decode cX7_person 21 = .ok (.iconst 0, 1) := decA_get dAX7_person 13 rfl
theorem dX7_person_22 : decode cX7_person 22 = .ok (.istore 4, 2) := decA_get dAX7_person 14 rfl
theorem dX7_person_24 : decode cX7_person 24 = .ok (.iload 4, 2) := decA_get dAX7_person 15 rfl
theorem dX7_person_26 : decode cX7_person 26 = .ok (.aload_n 0, 1) := decA_get dAX7_person 16 rfl
theorem dX7_person_27 : decode cX7_person 27 = .ok (.getfield 13, 3) := decA_get dAX7_person 17 rfl
theorem in_X7_person_7 : ∀ w ∈ wsX70, w ∈ wsX7_person := fun w h => (gd_ids wi_X7_person wm_X7_person wi_X70 (by decide +kernel) w h).1
theorem dX7_person_30 : decode cX7_person 30 = .ok (.iconst 0, 1) := decA_get dAX7_person 18 rfl
theorem dX7_person_31 : decode cX7_person 31 = .ok (.iaload, 1) := decA_get dAX7_person 19 rfl
theorem dX7_person_32 : decode cX7_person 32 = .ok (.if_icmp .ge 30, 3) := decA_get dAX7_person 20 rfl
theorem dX7_person_62 : decode cX7_person 62 = .ok (.iload_n 2, 1) := decA_get dAX7_person 36 rfl
theorem dX7_person_63 : decode cX7_person 63 = .ok (.ifCond .ne 12, 3) := decA_get dAX7_person 37 rfl
theorem dX7_person_75 : decode cX7_person 75 = .ok (.iload_n 2, 1) := decA_get dAX7_person 43 rfl
theorem dX7_person_76 : decode cX7_person 76 = .ok (.iconst 1, 1) := decA_get dAX7_person 44 rfl
theorem dX7_person_77 : decode cX7_person 77 = .ok (.if_icmp .ne 7, 3) := decA_get dAX7_person 45 rfl
theorem dX7_person_84 : decode cX7_person 84 = .ok (.iload_n 2, 1) := decA_get dAX7_person 48 rfl
theorem dX7_person_85 : decode cX7_person 85 = .ok (.iconst 2, 1) := decA_get dAX7_person 49 rfl
theorem dX7_person_86 : decode cX7_person 86 = .ok (.if_icmp .ne 11, 3) := decA_get dAX7_person 50 rfl
theorem dX7_person_97 : decode cX7_person 97 = .ok (.aload_n 0, 1) := decA_get dAX7_person 55 rfl
theorem dX7_person_98 : decode cX7_person 98 = .ok (.iload_n 1, 1) := decA_get dAX7_person 56 rfl
theorem dX7_person_99 : decode cX7_person 99 = .ok (.invokevirtual 151, 3) := decA_get dAX7_person 57 rfl
set_option maxRecDepth 20000 in
theorem ggX7_person_X7_ease : GoodIn wsX7_person wsX7_ease := gd_ids wi_X7_person wm_X7_person wi_X7_ease (by decide +kernel)
set_option maxRecDepth 20000 in
theorem gX7_person_X7_ease : GoodIn wsX7_person (wsV RX7 151 RX7 yX7_ease wsX7_ease) := goodIn_app (gd_ids wi_X7_person wm_X7_person (b := [552, 553, 554, 481]) rfl (by decide +kernel)) ggX7_person_X7_ease
theorem dX7_person_102 : decode cX7_person 102 = .ok (.ireturn, 1) := decA_get dAX7_person 58 rfl
theorem dX7_person_89 : decode cX7_person 89 = .ok (.aload_n 0, 1) := decA_get dAX7_person 51 rfl
theorem dX7_person_90 : decode cX7_person 90 = .ok (.iload_n 1, 1) := decA_get dAX7_person 52 rfl
theorem dX7_person_91 : decode cX7_person 91 = .ok (.invokevirtual 148, 3) := decA_get dAX7_person 53 rfl
set_option maxRecDepth 20000 in
theorem ggX7_person_X7_hasOf : GoodIn wsX7_person wsX7_hasOf := gd_ids wi_X7_person wm_X7_person wi_X7_hasOf (by decide +kernel)
set_option maxRecDepth 20000 in
theorem gX7_person_X7_hasOf : GoodIn wsX7_person (wsV RX7 148 RX7 yX7_hasOf wsX7_hasOf) := goodIn_app (gd_ids wi_X7_person wm_X7_person (b := [549, 550, 551, 481]) rfl (by decide +kernel)) ggX7_person_X7_hasOf
theorem dX7_person_94 : decode cX7_person 94 = .ok (.goto 8, 3) := decA_get dAX7_person 54 rfl
theorem dX7_person_80 : decode cX7_person 80 = .ok (.iload_n 3, 1) := decA_get dAX7_person 46 rfl
theorem dX7_person_81 : decode cX7_person 81 = .ok (.goto 21, 3) := decA_get dAX7_person 47 rfl
theorem dX7_person_66 : decode cX7_person 66 = .ok (.aload_n 0, 1) := decA_get dAX7_person 38 rfl
theorem dX7_person_67 : decode cX7_person 67 = .ok (.getfield 26, 3) := decA_get dAX7_person 39 rfl
theorem dX7_person_70 : decode cX7_person 70 = .ok (.iload_n 1, 1) := decA_get dAX7_person 40 rfl
theorem dX7_person_71 : decode cX7_person 71 = .ok (.iaload, 1) := decA_get dAX7_person 41 rfl
theorem dX7_person_72 : decode cX7_person 72 = .ok (.goto 30, 3) := decA_get dAX7_person 42 rfl
theorem dX7_person_35 : decode cX7_person 35 = .ok (.iload_n 3, 1) := decA_get dAX7_person 21 rfl
theorem dX7_person_36 : decode cX7_person 36 = .ok (.aload_n 0, 1) := decA_get dAX7_person 22 rfl
theorem dX7_person_37 : decode cX7_person 37 = .ok (.iload 4, 2) := decA_get dAX7_person 23 rfl
theorem dX7_person_39 : decode cX7_person 39 = .ok (.iload_n 1, 1) := decA_get dAX7_person 24 rfl
theorem dX7_person_40 : decode cX7_person 40 = .ok (.invokevirtual 135, 3) := decA_get dAX7_person 25 rfl
set_option maxRecDepth 20000 in
theorem ggX7_person_X7_does : GoodIn wsX7_person wsX7_does := gd_ids wi_X7_person wm_X7_person wi_X7_does (by decide +kernel)
set_option maxRecDepth 20000 in
theorem gX7_person_X7_does : GoodIn wsX7_person (wsV RX7 135 RX7 yX7_does wsX7_does) := goodIn_app (gd_ids wi_X7_person wm_X7_person (b := [535, 536, 537, 481]) rfl (by decide +kernel)) ggX7_person_X7_does
theorem dX7_person_43 : decode cX7_person 43 = .ok (.ifCond .eq 10, 3) := decA_get dAX7_person 26 rfl
theorem dX7_person_46 : decode cX7_person 46 = .ok (.iconst 1, 1) := decA_get dAX7_person 27 rfl
theorem dX7_person_47 : decode cX7_person 47 = .ok (.iload 4, 2) := decA_get dAX7_person 28 rfl
theorem dX7_person_49 : decode cX7_person 49 = .ok (.ishl, 1) := decA_get dAX7_person 29 rfl
theorem dX7_person_50 : decode cX7_person 50 = .ok (.goto 4, 3) := decA_get dAX7_person 30 rfl
theorem dX7_person_54 : decode cX7_person 54 = .ok (.ior, 1) := decA_get dAX7_person 32 rfl
theorem dX7_person_55 : decode cX7_person 55 = .ok (.istore_n 3, 1) := decA_get dAX7_person 33 rfl
theorem dX7_person_56 : decode cX7_person 56 = .ok (.iinc 4 1, 3) := decA_get dAX7_person 34 rfl
theorem dX7_person_59 : decode cX7_person 59 = .ok (.goto (-35), 3) := decA_get dAX7_person 35 rfl
theorem dX7_person_53 : decode cX7_person 53 = .ok (.iconst 0, 1) := decA_get dAX7_person 31 rfl
theorem dX7_person_17 : decode cX7_person 17 = .ok (.iconst (-1), 1) := decA_get dAX7_person 9 rfl
theorem dX7_person_18 : decode cX7_person 18 = .ok (.ireturn, 1) := decA_get dAX7_person 10 rfl
set_option maxRecDepth 20000 in
theorem dAX7_holds : decA cX7_holds [(0, .aload_n 0, 1), (1, .iload_n 1, 1), (2, .invokevirtual 145, 3), (5, .ifCond .eq 25, 3), (8, .aload_n 0, 1), (9, .iload_n 2, 1), (10, .invokevirtual 142, 3), (13, .ifCond .eq 17, 3), (16, .aload_n 0, 1), (17, .getfield 47, 3), (20, .bipush 6, 2), (22, .iload_n 1, 1), (23, .imul, 1), (24, .iload_n 2, 1), (25, .iadd, 1), (26, .iaload, 1), (27, .goto 4, 3), (30, .iconst (-1), 1), (31, .ireturn, 1)] = true := by decide +kernel
theorem dX7_holds_0 : decode cX7_holds 0 = .ok (.aload_n 0, 1) := decA_get dAX7_holds 0 rfl
theorem dX7_holds_1 : decode cX7_holds 1 = .ok (.iload_n 1, 1) := decA_get dAX7_holds 1 rfl
theorem dX7_holds_2 : decode cX7_holds 2 = .ok (.invokevirtual 145, 3) := decA_get dAX7_holds 2 rfl
set_option maxRecDepth 20000 in
theorem ggX7_holds_X7_isPerson : GoodIn wsX7_holds wsX7_isPerson := gd_ids wi_X7_holds wm_X7_holds wi_X7_isPerson (by decide +kernel)
set_option maxRecDepth 20000 in
theorem gX7_holds_X7_isPerson : GoodIn wsX7_holds (wsV RX7 145 RX7 yX7_isPerson wsX7_isPerson) := goodIn_app (gd_ids wi_X7_holds wm_X7_holds (b := [546, 547, 548, 481]) rfl (by decide +kernel)) ggX7_holds_X7_isPerson
theorem dX7_holds_5 : decode cX7_holds 5 = .ok (.ifCond .eq 25, 3) := decA_get dAX7_holds 3 rfl
theorem dX7_holds_8 : decode cX7_holds 8 = .ok (.aload_n 0, 1) := decA_get dAX7_holds 4 rfl
theorem dX7_holds_9 : decode cX7_holds 9 = .ok (.iload_n 2, 1) := decA_get dAX7_holds 5 rfl
theorem dX7_holds_10 : decode cX7_holds 10 = .ok (.invokevirtual 142, 3) := decA_get dAX7_holds 6 rfl
set_option maxRecDepth 20000 in
theorem ggX7_holds_X7_isCoin : GoodIn wsX7_holds wsX7_isCoin := gd_ids wi_X7_holds wm_X7_holds wi_X7_isCoin (by decide +kernel)
set_option maxRecDepth 20000 in
theorem gX7_holds_X7_isCoin : GoodIn wsX7_holds (wsV RX7 142 RX7 yX7_isCoin wsX7_isCoin) := goodIn_app (gd_ids wi_X7_holds wm_X7_holds (b := [542, 543, 544, 481]) rfl (by decide +kernel)) ggX7_holds_X7_isCoin
theorem dX7_holds_13 : decode cX7_holds 13 = .ok (.ifCond .eq 17, 3) := decA_get dAX7_holds 7 rfl
theorem dX7_holds_16 : decode cX7_holds 16 = .ok (.aload_n 0, 1) := decA_get dAX7_holds 8 rfl
theorem dX7_holds_17 : decode cX7_holds 17 = .ok (.getfield 47, 3) := decA_get dAX7_holds 9 rfl
theorem in_X7_holds_7 : ∀ w ∈ wsX70, w ∈ wsX7_holds := fun w h => (gd_ids wi_X7_holds wm_X7_holds wi_X70 (by decide +kernel) w h).1
theorem dX7_holds_20 : decode cX7_holds 20 = .ok (.bipush 6, 2) := decA_get dAX7_holds 10 rfl
theorem dX7_holds_22 : decode cX7_holds 22 = .ok (.iload_n 1, 1) := decA_get dAX7_holds 11 rfl
theorem dX7_holds_23 : decode cX7_holds 23 = .ok (.imul, 1) := decA_get dAX7_holds 12 rfl
theorem dX7_holds_24 : decode cX7_holds 24 = .ok (.iload_n 2, 1) := decA_get dAX7_holds 13 rfl
theorem dX7_holds_25 : decode cX7_holds 25 = .ok (.iadd, 1) := decA_get dAX7_holds 14 rfl
theorem dX7_holds_26 : decode cX7_holds 26 = .ok (.iaload, 1) := decA_get dAX7_holds 15 rfl
theorem dX7_holds_27 : decode cX7_holds 27 = .ok (.goto 4, 3) := decA_get dAX7_holds 16 rfl
theorem dX7_holds_31 : decode cX7_holds 31 = .ok (.ireturn, 1) := decA_get dAX7_holds 18 rfl
theorem dX7_holds_30 : decode cX7_holds 30 = .ok (.iconst (-1), 1) := decA_get dAX7_holds 17 rfl
set_option maxRecDepth 20000 in
theorem dAX7_count : decA cX7_count [(0, .iload_n 1, 1), (1, .tableswitch 89 0 6 #[43, 50, 57, 64, 71, 76, 84], 43), (44, .aload_n 0, 1), (45, .getfield 13, 3), (48, .iconst 0, 1), (49, .iaload, 1), (50, .ireturn, 1), (51, .aload_n 0, 1), (52, .getfield 23, 3), (55, .iconst 0, 1), (56, .iaload, 1), (57, .ireturn, 1), (58, .aload_n 0, 1), (59, .getfield 32, 3), (62, .iconst 0, 1), (63, .iaload, 1), (64, .ireturn, 1), (65, .aload_n 0, 1), (66, .getfield 44, 3), (69, .iconst 0, 1), (70, .iaload, 1), (71, .ireturn, 1), (72, .aload_n 0, 1), (73, .getfield 120, 3), (76, .ireturn, 1), (77, .aload_n 0, 1), (78, .getfield 47, 3), (81, .bipush 36, 2), (83, .iaload, 1), (84, .ireturn, 1), (85, .aload_n 0, 1), (86, .getfield 82, 3), (89, .ireturn, 1), (90, .iconst (-1), 1), (91, .ireturn, 1)] = true := by decide +kernel
theorem dX7_count_0 : decode cX7_count 0 = .ok (.iload_n 1, 1) := decA_get dAX7_count 0 rfl
theorem dX7_count_1 : decode cX7_count 1 = .ok (.tableswitch 89 0 6 #[43, 50, 57, 64, 71, 76, 84], 43) := decA_get dAX7_count 1 rfl
theorem dX7_count_44 : decode cX7_count 44 = .ok (.aload_n 0, 1) := decA_get dAX7_count 2 rfl
theorem dX7_count_45 : decode cX7_count 45 = .ok (.getfield 13, 3) := decA_get dAX7_count 3 rfl
theorem in_X7_count_7 : ∀ w ∈ wsX70, w ∈ wsX7_count := fun w h => (gd_ids wi_X7_count wm_X7_count wi_X70 (by decide +kernel) w h).1
theorem dX7_count_48 : decode cX7_count 48 = .ok (.iconst 0, 1) := decA_get dAX7_count 4 rfl
theorem dX7_count_49 : decode cX7_count 49 = .ok (.iaload, 1) := decA_get dAX7_count 5 rfl
theorem dX7_count_50 : decode cX7_count 50 = .ok (.ireturn, 1) := decA_get dAX7_count 6 rfl
theorem dX7_count_51 : decode cX7_count 51 = .ok (.aload_n 0, 1) := decA_get dAX7_count 7 rfl
theorem dX7_count_52 : decode cX7_count 52 = .ok (.getfield 23, 3) := decA_get dAX7_count 8 rfl
theorem dX7_count_55 : decode cX7_count 55 = .ok (.iconst 0, 1) := decA_get dAX7_count 9 rfl
theorem dX7_count_56 : decode cX7_count 56 = .ok (.iaload, 1) := decA_get dAX7_count 10 rfl
theorem dX7_count_57 : decode cX7_count 57 = .ok (.ireturn, 1) := decA_get dAX7_count 11 rfl
theorem dX7_count_58 : decode cX7_count 58 = .ok (.aload_n 0, 1) := decA_get dAX7_count 12 rfl
theorem dX7_count_59 : decode cX7_count 59 = .ok (.getfield 32, 3) := decA_get dAX7_count 13 rfl
theorem dX7_count_62 : decode cX7_count 62 = .ok (.iconst 0, 1) := decA_get dAX7_count 14 rfl
theorem dX7_count_63 : decode cX7_count 63 = .ok (.iaload, 1) := decA_get dAX7_count 15 rfl
theorem dX7_count_64 : decode cX7_count 64 = .ok (.ireturn, 1) := decA_get dAX7_count 16 rfl
theorem dX7_count_65 : decode cX7_count 65 = .ok (.aload_n 0, 1) := decA_get dAX7_count 17 rfl
theorem dX7_count_66 : decode cX7_count 66 = .ok (.getfield 44, 3) := decA_get dAX7_count 18 rfl
theorem dX7_count_69 : decode cX7_count 69 = .ok (.iconst 0, 1) := decA_get dAX7_count 19 rfl
theorem dX7_count_70 : decode cX7_count 70 = .ok (.iaload, 1) := decA_get dAX7_count 20 rfl
theorem dX7_count_71 : decode cX7_count 71 = .ok (.ireturn, 1) := decA_get dAX7_count 21 rfl
theorem dX7_count_72 : decode cX7_count 72 = .ok (.aload_n 0, 1) := decA_get dAX7_count 22 rfl
theorem dX7_count_73 : decode cX7_count 73 = .ok (.getfield 120, 3) := decA_get dAX7_count 23 rfl
theorem dX7_count_76 : decode cX7_count 76 = .ok (.ireturn, 1) := decA_get dAX7_count 24 rfl
theorem dX7_count_77 : decode cX7_count 77 = .ok (.aload_n 0, 1) := decA_get dAX7_count 25 rfl
theorem dX7_count_78 : decode cX7_count 78 = .ok (.getfield 47, 3) := decA_get dAX7_count 26 rfl
theorem dX7_count_81 : decode cX7_count 81 = .ok (.bipush 36, 2) := decA_get dAX7_count 27 rfl
theorem dX7_count_83 : decode cX7_count 83 = .ok (.iaload, 1) := decA_get dAX7_count 28 rfl
theorem dX7_count_84 : decode cX7_count 84 = .ok (.ireturn, 1) := decA_get dAX7_count 29 rfl
theorem dX7_count_85 : decode cX7_count 85 = .ok (.aload_n 0, 1) := decA_get dAX7_count 30 rfl
theorem dX7_count_86 : decode cX7_count 86 = .ok (.getfield 82, 3) := decA_get dAX7_count 31 rfl
theorem dX7_count_89 : decode cX7_count 89 = .ok (.ireturn, 1) := decA_get dAX7_count 32 rfl
theorem dX7_count_90 : decode cX7_count 90 = .ok (.iconst (-1), 1) := decA_get dAX7_count 33 rfl
theorem dX7_count_91 : decode cX7_count 91 = .ok (.ireturn, 1) := decA_get dAX7_count 34 rfl
set_option maxRecDepth 20000 in
theorem dAX7_took : decA cX7_took [(0, .aload_n 0, 1), (1, .iload_n 1, 1), (2, .invokevirtual 142, 3), (5, .ifCond .ne 5, 3), (8, .iconst (-1), 1), (9, .ireturn, 1), (10, .aload_n 0, 1), (11, .getfield 120, 3), (14, .bipush 6, 2), (16, .if_icmp .ne 6, 3), (19, .bipush (-3), 2), (21, .ireturn, 1), (22, .aload_n 0, 1), (23, .getfield 69, 3), (26, .aload_n 0, 1), (27, .getfield 120, 3), (30, .iload_n 1, 1), (31, .iastore, 1), (32, .aload_n 0, 1), (33, .dup, 1), (34, .getfield 120, 3), (37, .iconst 1, 1), (38, .iadd, 1), (39, .putfield 120, 3), (42, .aload_n 0, 1), (43, .getfield 120, 3), (46, .ireturn, 1)] = true := by decide +kernel
theorem dX7_took_0 : decode cX7_took 0 = .ok (.aload_n 0, 1) := decA_get dAX7_took 0 rfl
theorem dX7_took_1 : decode cX7_took 1 = .ok (.iload_n 1, 1) := decA_get dAX7_took 1 rfl
theorem dX7_took_2 : decode cX7_took 2 = .ok (.invokevirtual 142, 3) := decA_get dAX7_took 2 rfl
set_option maxRecDepth 20000 in
theorem ggX7_took_X7_isCoin : GoodIn wsX7_took wsX7_isCoin := gd_ids wi_X7_took wm_X7_took wi_X7_isCoin (by decide +kernel)
set_option maxRecDepth 20000 in
theorem gX7_took_X7_isCoin : GoodIn wsX7_took (wsV RX7 142 RX7 yX7_isCoin wsX7_isCoin) := goodIn_app (gd_ids wi_X7_took wm_X7_took (b := [542, 543, 544, 481]) rfl (by decide +kernel)) ggX7_took_X7_isCoin
theorem dX7_took_5 : decode cX7_took 5 = .ok (.ifCond .ne 5, 3) := decA_get dAX7_took 3 rfl
theorem dX7_took_10 : decode cX7_took 10 = .ok (.aload_n 0, 1) := decA_get dAX7_took 6 rfl
theorem dX7_took_11 : decode cX7_took 11 = .ok (.getfield 120, 3) := decA_get dAX7_took 7 rfl
theorem in_X7_took_7 : ∀ w ∈ wsX70, w ∈ wsX7_took := fun w h => (gd_ids wi_X7_took wm_X7_took wi_X70 (by decide +kernel) w h).1
theorem dX7_took_14 : decode cX7_took 14 = .ok (.bipush 6, 2) := decA_get dAX7_took 8 rfl
theorem dX7_took_16 : decode cX7_took 16 = .ok (.if_icmp .ne 6, 3) := decA_get dAX7_took 9 rfl
theorem dX7_took_22 : decode cX7_took 22 = .ok (.aload_n 0, 1) := decA_get dAX7_took 12 rfl
theorem dX7_took_23 : decode cX7_took 23 = .ok (.getfield 69, 3) := decA_get dAX7_took 13 rfl
theorem dX7_took_26 : decode cX7_took 26 = .ok (.aload_n 0, 1) := decA_get dAX7_took 14 rfl
theorem dX7_took_27 : decode cX7_took 27 = .ok (.getfield 120, 3) := decA_get dAX7_took 15 rfl
theorem dX7_took_30 : decode cX7_took 30 = .ok (.iload_n 1, 1) := decA_get dAX7_took 16 rfl
theorem dX7_took_31 : decode cX7_took 31 = .ok (.iastore, 1) := decA_get dAX7_took 17 rfl
theorem dX7_took_32 : decode cX7_took 32 = .ok (.aload_n 0, 1) := decA_get dAX7_took 18 rfl
theorem dX7_took_33 : decode cX7_took 33 = .ok (.dup, 1) := decA_get dAX7_took 19 rfl
theorem dX7_took_34 : decode cX7_took 34 = .ok (.getfield 120, 3) := decA_get dAX7_took 20 rfl
theorem dX7_took_37 : decode cX7_took 37 = .ok (.iconst 1, 1) := decA_get dAX7_took 21 rfl
theorem dX7_took_38 : decode cX7_took 38 = .ok (.iadd, 1) := decA_get dAX7_took 22 rfl
theorem dX7_took_39 : decode cX7_took 39 = .ok (.putfield 120, 3) := decA_get dAX7_took 23 rfl
theorem dX7_took_42 : decode cX7_took 42 = .ok (.aload_n 0, 1) := decA_get dAX7_took 24 rfl
theorem dX7_took_43 : decode cX7_took 43 = .ok (.getfield 120, 3) := decA_get dAX7_took 25 rfl
theorem dX7_took_46 : decode cX7_took 46 = .ok (.ireturn, 1) := decA_get dAX7_took 26 rfl
theorem dX7_took_19 : decode cX7_took 19 = .ok (.bipush (-3), 2) := decA_get dAX7_took 10 rfl
theorem dX7_took_21 : decode cX7_took 21 = .ok (.ireturn, 1) := decA_get dAX7_took 11 rfl
theorem dX7_took_8 : decode cX7_took 8 = .ok (.iconst (-1), 1) := decA_get dAX7_took 4 rfl
theorem dX7_took_9 : decode cX7_took 9 = .ok (.ireturn, 1) := decA_get dAX7_took 5 rfl
set_option maxHeartbeats 4000000 in
set_option maxRecDepth 100000 in
theorem z_took (l : Launch) (D : va_G) (cI cB cZ cN : ClassId) (Zh : Nat) (Za1 : Nat) (Za3 : Nat) (Za4 : Nat) (Za5 : Nat) (Za6 : Nat) (Za7 : Nat) (Za8 : Nat) (Za9 : Nat) (Za10 : Nat) (Za11 : Nat) (Za12 : Nat) (Za13 : Nat) (Za20 : Nat) (Za21 : Nat) (Za22 : Nat) (Za23 : Nat) (Za24 : Nat) (Za25 : Nat) (Za26 : Nat) (Za27 : Nat) (Zt : Int64) (ZS : Nat → Nat → Nat) (v_c : Int32) (hZ : ZOk ZS) : Ci (S := (Nat → Nat → Nat)) l D cI cB cZ cN yX7_took wsX7_took ({ frames := 2, cells := 0, slots := 0, locals := 43 } : Room) [.ref Zh, .int v_c] [(Zh, .inr (7, [.long Zt, .ref Za1, .int (nI (ZS 2 0)), .ref Za3, .ref Za4, .ref Za5, .ref Za6, .ref Za7, .ref Za8, .ref Za9, .ref Za10, .ref Za11, .ref Za12, .ref Za13, .int (nI (ZS 14 0)), .int (nI (ZS 15 0)), .int (nI (ZS 16 0)), .int (nI (ZS 17 0)), .int (nI (ZS 18 0)), .int (nI (ZS 19 0) - nI 9), .ref Za20, .ref Za21, .ref Za22, .ref Za23, .ref Za24, .ref Za25, .ref Za26, .ref Za27, .int (nI (ZS 28 0))])), (Za1, .inl (cB, 180, .inl (bF (ZS 1)))), (Za3, .inl (cI, 2, .inl (nF (ZS 3)))), (Za4, .inl (cI, 12, .inl (nF (ZS 4)))), (Za5, .inl (cI, 12, .inl (nF (ZS 5)))), (Za6, .inl (cI, 2, .inl (nF (ZS 6)))), (Za7, .inl (cI, 10, .inl (nF (ZS 7)))), (Za8, .inl (cI, 30, .inl (nF (ZS 8)))), (Za9, .inl (cI, 2, .inl (nF (ZS 9)))), (Za10, .inl (cI, 10, .inl (nF (ZS 10)))), (Za11, .inl (cI, 5, .inl (nF (ZS 11)))), (Za12, .inl (cI, 10, .inl (nF (ZS 12)))), (Za13, .inl (cI, 2, .inl (nF (ZS 13)))), (Za20, .inl (cI, 1191, .inl (nF (ZS 20)))), (Za21, .inl (cZ, 2, .inl (nF (ZS 21)))), (Za22, .inl (cI, 36, .inl (nF (ZS 22)))), (Za23, .inl (cI, 6, .inl (nF (ZS 23)))), (Za24, .inl (cI, 427, .inl (nF (ZS 24)))), (Za25, .inl (cI, 6, .inl (nF (ZS 25)))), (Za26, .inl (cI, 5, .inl (nF (ZS 26)))), (Za27, .inl (cI, 6, .inl (nF (ZS 27))))] (fun (r : Int32) (u : (Nat → Nat → Nat)) => (¬ inN v_c (ZS 3 0) ∧ r = -1 ∧ u = ZS) ∨ (inN v_c (ZS 3 0) ∧ ZS 28 0 = 6 ∧ r = -3 ∧ u = ZS) ∨ (∃ k, k < ZS 3 0 ∧ v_c = nI k ∧ ZS 28 0 < 6 ∧ r = nI (ZS 28 0 + 1) ∧ u = ua (ua ZS 27 (un (ZS 27) (ZS 28 0) k)) 28 (fun _ => ZS 28 0 + 1))) (fun u => [(Zh, .inr (7, [.long Zt, .ref Za1, .int (nI (u 2 0)), .ref Za3, .ref Za4, .ref Za5, .ref Za6, .ref Za7, .ref Za8, .ref Za9, .ref Za10, .ref Za11, .ref Za12, .ref Za13, .int (nI (u 14 0)), .int (nI (u 15 0)), .int (nI (u 16 0)), .int (nI (u 17 0)), .int (nI (u 18 0)), .int (nI (u 19 0) - nI 9), .ref Za20, .ref Za21, .ref Za22, .ref Za23, .ref Za24, .ref Za25, .ref Za26, .ref Za27, .int (nI (u 28 0))])), (Za1, .inl (cB, 180, .inl (bF (u 1)))), (Za3, .inl (cI, 2, .inl (nF (u 3)))), (Za4, .inl (cI, 12, .inl (nF (u 4)))), (Za5, .inl (cI, 12, .inl (nF (u 5)))), (Za6, .inl (cI, 2, .inl (nF (u 6)))), (Za7, .inl (cI, 10, .inl (nF (u 7)))), (Za8, .inl (cI, 30, .inl (nF (u 8)))), (Za9, .inl (cI, 2, .inl (nF (u 9)))), (Za10, .inl (cI, 10, .inl (nF (u 10)))), (Za11, .inl (cI, 5, .inl (nF (u 11)))), (Za12, .inl (cI, 10, .inl (nF (u 12)))), (Za13, .inl (cI, 2, .inl (nF (u 13)))), (Za20, .inl (cI, 1191, .inl (nF (u 20)))), (Za21, .inl (cZ, 2, .inl (nF (u 21)))), (Za22, .inl (cI, 36, .inl (nF (u 22)))), (Za23, .inl (cI, 6, .inl (nF (u 23)))), (Za24, .inl (cI, 427, .inl (nF (u 24)))), (Za25, .inl (cI, 6, .inl (nF (u 25)))), (Za26, .inl (cI, 5, .inl (nF (u 26)))), (Za27, .inl (cI, 6, .inl (nF (u 27))))]) := by
  refine bx_of (D := D) (cI := cI) (cB := cB) (cZ := cZ) (cN := cN) (y := yX7_took) (wd := wsX7_took) (rm := ({ frames := 2, cells := 0, slots := 0, locals := 43 } : Room)) (av := [.ref Zh, .int v_c]) (wc := [(Zh, .inr (7, [.long Zt, .ref Za1, .int (nI (ZS 2 0)), .ref Za3, .ref Za4, .ref Za5, .ref Za6, .ref Za7, .ref Za8, .ref Za9, .ref Za10, .ref Za11, .ref Za12, .ref Za13, .int (nI (ZS 14 0)), .int (nI (ZS 15 0)), .int (nI (ZS 16 0)), .int (nI (ZS 17 0)), .int (nI (ZS 18 0)), .int (nI (ZS 19 0) - nI 9), .ref Za20, .ref Za21, .ref Za22, .ref Za23, .ref Za24, .ref Za25, .ref Za26, .ref Za27, .int (nI (ZS 28 0))])), (Za1, .inl (cB, 180, .inl (bF (ZS 1)))), (Za3, .inl (cI, 2, .inl (nF (ZS 3)))), (Za4, .inl (cI, 12, .inl (nF (ZS 4)))), (Za5, .inl (cI, 12, .inl (nF (ZS 5)))), (Za6, .inl (cI, 2, .inl (nF (ZS 6)))), (Za7, .inl (cI, 10, .inl (nF (ZS 7)))), (Za8, .inl (cI, 30, .inl (nF (ZS 8)))), (Za9, .inl (cI, 2, .inl (nF (ZS 9)))), (Za10, .inl (cI, 10, .inl (nF (ZS 10)))), (Za11, .inl (cI, 5, .inl (nF (ZS 11)))), (Za12, .inl (cI, 10, .inl (nF (ZS 12)))), (Za13, .inl (cI, 2, .inl (nF (ZS 13)))), (Za20, .inl (cI, 1191, .inl (nF (ZS 20)))), (Za21, .inl (cZ, 2, .inl (nF (ZS 21)))), (Za22, .inl (cI, 36, .inl (nF (ZS 22)))), (Za23, .inl (cI, 6, .inl (nF (ZS 23)))), (Za24, .inl (cI, 427, .inl (nF (ZS 24)))), (Za25, .inl (cI, 6, .inl (nF (ZS 25)))), (Za26, .inl (cI, 5, .inl (nF (ZS 26)))), (Za27, .inl (cI, 6, .inl (nF (ZS 27))))]) (cc := cX7_took) (maxL := 2) (ret := (some .int)) (Qc := fun _ A => va_Qi (S := (Nat → Nat → Nat)) (fun (r : Int32) (u : (Nat → Nat → Nat)) => (¬ inN v_c (ZS 3 0) ∧ r = -1 ∧ u = ZS) ∨ (inN v_c (ZS 3 0) ∧ ZS 28 0 = 6 ∧ r = -3 ∧ u = ZS) ∨ (∃ k, k < ZS 3 0 ∧ v_c = nI k ∧ ZS 28 0 < 6 ∧ r = nI (ZS 28 0 + 1) ∧ u = ua (ua ZS 27 (un (ZS 27) (ZS 28 0) k)) 28 (fun _ => ZS 28 0 + 1))) (Aft D (fun (u : (Nat → Nat → Nat)) => [(Zh, .inr (7, [.long Zt, .ref Za1, .int (nI (u 2 0)), .ref Za3, .ref Za4, .ref Za5, .ref Za6, .ref Za7, .ref Za8, .ref Za9, .ref Za10, .ref Za11, .ref Za12, .ref Za13, .int (nI (u 14 0)), .int (nI (u 15 0)), .int (nI (u 16 0)), .int (nI (u 17 0)), .int (nI (u 18 0)), .int (nI (u 19 0) - nI 9), .ref Za20, .ref Za21, .ref Za22, .ref Za23, .ref Za24, .ref Za25, .ref Za26, .ref Za27, .int (nI (u 28 0))])), (Za1, .inl (cB, 180, .inl (bF (u 1)))), (Za3, .inl (cI, 2, .inl (nF (u 3)))), (Za4, .inl (cI, 12, .inl (nF (u 4)))), (Za5, .inl (cI, 12, .inl (nF (u 5)))), (Za6, .inl (cI, 2, .inl (nF (u 6)))), (Za7, .inl (cI, 10, .inl (nF (u 7)))), (Za8, .inl (cI, 30, .inl (nF (u 8)))), (Za9, .inl (cI, 2, .inl (nF (u 9)))), (Za10, .inl (cI, 10, .inl (nF (u 10)))), (Za11, .inl (cI, 5, .inl (nF (u 11)))), (Za12, .inl (cI, 10, .inl (nF (u 12)))), (Za13, .inl (cI, 2, .inl (nF (u 13)))), (Za20, .inl (cI, 1191, .inl (nF (u 20)))), (Za21, .inl (cZ, 2, .inl (nF (u 21)))), (Za22, .inl (cI, 36, .inl (nF (u 22)))), (Za23, .inl (cI, 6, .inl (nF (u 23)))), (Za24, .inl (cI, 427, .inl (nF (u 24)))), (Za25, .inl (cI, 6, .inl (nF (u 25)))), (Za26, .inl (cI, 5, .inl (nF (u 26)))), (Za27, .inl (cI, 6, .inl (nF (u 27))))]) A) A) (by decide) rfl (Nat.le_of_ble_eq_true rfl) ?_
  intro p e s m below meth c A H locs ⟨hx, hb, hr, hml, hown, hts, hlk, hnm⟩ hK hP hD hS hA ls hl
  have hl : lv_has ls 2 [(0, .ref Zh), (1, .int v_c)] := hl
  have hown : s.vm.findClass RX7 = some m.cls := hown
  have bz6 : ZS 6 0 ≤ 5 := hZ 6 0
  have bz3 : ZS 3 0 ≤ 6 := hZ 3 0
  have bz9 : ZS 9 0 ≤ 5 := hZ 9 0
  have bz28 : ZS 28 0 ≤ 6 := hZ 28 0
  refine lv_aload_n hx hb dX7_took_0 rfl (lv_at hl 0 rfl) ?_
  refine lv_iload_n hx hb dX7_took_1 rfl (lv_at hl 1 rfl) ?_
  refine be_i0 (ru_V (As := [.int v_c]) (rest := []) ⟨hx, hb, hml, hown, hts⟩ (z_isCoin l D cI cB cZ cN Zh Za1 Za3 Za4 Za5 Za6 Za7 Za8 Za9 Za10 Za11 Za12 Za13 Za20 Za21 Za22 Za23 Za24 Za25 Za26 Za27 Zt ZS v_c hZ H.size) gX7_took_X7_isCoin rfl ⟨rfl, by decide, by decide, (show Option.map (fun d => d.parameters.length) (parseMethodDescriptor yX7_isCoin.desc) = some 1 by decide +kernel)⟩ ⟨Nat.le_of_ble_eq_true rfl, Nat.le_of_ble_eq_true rfl⟩ hK hP hD 7 0 rfl rfl [0, 1, 2, 3, 4, 5, 6, 7, 8, 9, 10, 11, 12, 13, 14, 15, 16, 17, 18, 19, 20] (by decide) rfl hl.1 rfl (Nat.le_of_ble_eq_true rfl) dX7_took_2 ⟨Nat.le_of_ble_eq_true rfl, Nat.le_of_ble_eq_true rfl⟩) hP hD hS hA [0, 1, 2, 3, 4, 5, 6, 7, 8, 9, 10, 11, 12, 13, 14, 15, 16, 17, 18, 19, 20] rfl (fun r2 u1 H locs w3 hP hS => ?_)
  rcases w3 with ⟨rfl, hq4⟩ | ⟨rfl, hq4⟩
  · obtain ⟨k5, hq6, rfl⟩ := hq4
    refine nb_if_ne (tgt := 10) hx hb dX7_took_5 (by decide) (by omega) (fun hq7 => ?_) (fun hq7 => absurd hq7 (by omega))
    refine lv_aload_n hx hb dX7_took_10 rfl (lv_at hl 0 rfl) ?_
    refine va_get (D := D) (ci := 7) (v := .int (nI (ZS 28 0))) (C := RX7) (T := TX7) (N := 29) hx hb hts in_X7_took_7 hown hK.1 hP 0 rfl rfl 28 (by decide) (hts (.fieldLink RX7 120 "ChildCoinsModel" "told" "I") (List.mem_of_getElem? (i := 1) rfl)) (fun _ h9 => h9) rfl dX7_took_11 ?_
    have b8 : ZS 28 0 ≤ 6 := hZ 28 0
    refine lv_bipush (v := nI 6) hx hb dX7_took_14 (by decide) ?_
    refine nb_icmp_ne (tgt := 22) hx hb dX7_took_16 (by decide) (by omega) (by omega) (fun hq9 => ?_) (fun hq9 => ?_)
    · skip
      refine lv_aload_n hx hb dX7_took_22 rfl (lv_at hl 0 rfl) ?_
      refine va_get (D := D) (ci := 7) (v := .ref Za27) (C := RX7) (T := TX7) (N := 29) hx hb hts in_X7_took_7 hown hK.1 hP 0 rfl rfl 27 (by decide) (hts (.fieldLink RX7 69 "ChildCoinsModel" "toldCoin" "[I") (List.mem_of_getElem? (i := 2) rfl)) (fun _ h9 => h9) rfl dX7_took_23 ?_
      refine lv_aload_n hx hb dX7_took_26 rfl (lv_at hl 0 rfl) ?_
      refine va_get (D := D) (ci := 7) (v := .int (nI (ZS 28 0))) (C := RX7) (T := TX7) (N := 29) hx hb hts in_X7_took_7 hown hK.1 hP 0 rfl rfl 28 (by decide) (hts (.fieldLink RX7 120 "ChildCoinsModel" "told" "I") (List.mem_of_getElem? (i := 1) rfl)) (fun _ h9 => h9) rfl dX7_took_27 ?_
      have b10 : ZS 28 0 ≤ 6 := hZ 28 0
      refine lv_iload_n hx hb dX7_took_30 rfl (lv_at hl 1 rfl) ?_
      refine va_iast hx hb hK.1 hP hD hS 20 0 rfl rfl (vp_in_nI (n := ZS 28 0) (N := 6) (by omega) (by decide)) dX7_took_31 (fun H locs hP hD hS => ?_)
      obtain ⟨hP, hD⟩ : wPD D A [(Zh, .inr (7, [.long Zt, .ref Za1, .int (nI (ZS 2 0)), .ref Za3, .ref Za4, .ref Za5, .ref Za6, .ref Za7, .ref Za8, .ref Za9, .ref Za10, .ref Za11, .ref Za12, .ref Za13, .int (nI (ZS 14 0)), .int (nI (ZS 15 0)), .int (nI (ZS 16 0)), .int (nI (ZS 17 0)), .int (nI (ZS 18 0)), .int (nI (ZS 19 0) - nI 9), .ref Za20, .ref Za21, .ref Za22, .ref Za23, .ref Za24, .ref Za25, .ref Za26, .ref Za27, .int (nI (ZS 28 0))])), (Za1, .inl (cB, 180, .inl (bF (ZS 1)))), (Za3, .inl (cI, 2, .inl (nF (ZS 3)))), (Za4, .inl (cI, 12, .inl (nF (ZS 4)))), (Za5, .inl (cI, 12, .inl (nF (ZS 5)))), (Za6, .inl (cI, 2, .inl (nF (ZS 6)))), (Za7, .inl (cI, 10, .inl (nF (ZS 7)))), (Za8, .inl (cI, 30, .inl (nF (ZS 8)))), (Za9, .inl (cI, 2, .inl (nF (ZS 9)))), (Za10, .inl (cI, 10, .inl (nF (ZS 10)))), (Za11, .inl (cI, 5, .inl (nF (ZS 11)))), (Za12, .inl (cI, 10, .inl (nF (ZS 12)))), (Za13, .inl (cI, 2, .inl (nF (ZS 13)))), (Za20, .inl (cI, 1191, .inl (nF (ZS 20)))), (Za21, .inl (cZ, 2, .inl (nF (ZS 21)))), (Za22, .inl (cI, 36, .inl (nF (ZS 22)))), (Za23, .inl (cI, 6, .inl (nF (ZS 23)))), (Za24, .inl (cI, 427, .inl (nF (ZS 24)))), (Za25, .inl (cI, 6, .inl (nF (ZS 25)))), (Za26, .inl (cI, 5, .inl (nF (ZS 26)))), (Za27, .inl (cI, 6, .inl (upd (nF (ZS 27)) (nI (ZS 28 0)).toNatClampNeg (nI k5))))] H := ⟨hP, hD⟩
      rw [nF_st (by omega)] at hP hD
      refine lv_aload_n hx hb dX7_took_32 rfl (lv_at hl 0 rfl) ?_
      refine lv_dup hx hb dX7_took_33 rfl ?_
      refine va_get (D := D) (ci := 7) (v := .int (nI (ZS 28 0))) (C := RX7) (T := TX7) (N := 29) hx hb hts in_X7_took_7 hown hK.1 hP 0 rfl rfl 28 (by decide) (hts (.fieldLink RX7 120 "ChildCoinsModel" "told" "I") (List.mem_of_getElem? (i := 1) rfl)) (fun _ h9 => h9) rfl dX7_took_34 ?_
      have b11 : ZS 28 0 ≤ 6 := hZ 28 0
      refine lv_iconst (v := nI 1) hx hb dX7_took_37 (by decide) ?_
      refine lv_iadd hx hb dX7_took_38 ?_
      refine set_i (y := nI ((ZS 28 0) + 1)) (nI_add (ZS 28 0) 1) ?_
      refine va_put (D := D) (ci := 7) (v := .int (nI ((ZS 28 0) + 1))) (ty := tyX7 28) (C := RX7) (T := TX7) (N := 29) hx hb hts in_X7_took_7 tyX7 tyX7_ok nmX7 hown hK.1 hP hD hS 0 rfl rfl 28 (by decide) (hts (.fieldLink RX7 120 "ChildCoinsModel" "told" "I") (List.mem_of_getElem? (i := 1) rfl)) (fun _ h9 => h9) rfl (tyX7_ok 28 (by decide)) rfl rfl (Nat.le_of_ble_eq_true rfl) dX7_took_39 (fun H locs hP hD hS => ?_)
      obtain ⟨hP, hD⟩ : wPD D A [(Zh, .inr (7, [.long Zt, .ref Za1, .int (nI (ZS 2 0)), .ref Za3, .ref Za4, .ref Za5, .ref Za6, .ref Za7, .ref Za8, .ref Za9, .ref Za10, .ref Za11, .ref Za12, .ref Za13, .int (nI (ZS 14 0)), .int (nI (ZS 15 0)), .int (nI (ZS 16 0)), .int (nI (ZS 17 0)), .int (nI (ZS 18 0)), .int (nI (ZS 19 0) - nI 9), .ref Za20, .ref Za21, .ref Za22, .ref Za23, .ref Za24, .ref Za25, .ref Za26, .ref Za27, .int (nI ((ZS 28 0) + 1))])), (Za1, .inl (cB, 180, .inl (bF (ZS 1)))), (Za3, .inl (cI, 2, .inl (nF (ZS 3)))), (Za4, .inl (cI, 12, .inl (nF (ZS 4)))), (Za5, .inl (cI, 12, .inl (nF (ZS 5)))), (Za6, .inl (cI, 2, .inl (nF (ZS 6)))), (Za7, .inl (cI, 10, .inl (nF (ZS 7)))), (Za8, .inl (cI, 30, .inl (nF (ZS 8)))), (Za9, .inl (cI, 2, .inl (nF (ZS 9)))), (Za10, .inl (cI, 10, .inl (nF (ZS 10)))), (Za11, .inl (cI, 5, .inl (nF (ZS 11)))), (Za12, .inl (cI, 10, .inl (nF (ZS 12)))), (Za13, .inl (cI, 2, .inl (nF (ZS 13)))), (Za20, .inl (cI, 1191, .inl (nF (ZS 20)))), (Za21, .inl (cZ, 2, .inl (nF (ZS 21)))), (Za22, .inl (cI, 36, .inl (nF (ZS 22)))), (Za23, .inl (cI, 6, .inl (nF (ZS 23)))), (Za24, .inl (cI, 427, .inl (nF (ZS 24)))), (Za25, .inl (cI, 6, .inl (nF (ZS 25)))), (Za26, .inl (cI, 5, .inl (nF (ZS 26)))), (Za27, .inl (cI, 6, .inl (nF (un (ZS 27) (ZS 28 0) k5))))] H := ⟨hP, hD⟩
      refine lv_aload_n hx hb dX7_took_42 rfl (lv_at hl 0 rfl) ?_
      refine va_get (D := D) (ci := 7) (v := .int (nI ((ZS 28 0) + 1))) (C := RX7) (T := TX7) (N := 29) hx hb hts in_X7_took_7 hown hK.1 hP 0 rfl rfl 28 (by decide) (hts (.fieldLink RX7 120 "ChildCoinsModel" "told" "I") (List.mem_of_getElem? (i := 1) rfl)) (fun _ h9 => h9) rfl dX7_took_43 ?_
      exact en_i hx hb hr hlk hP hD hS (ua (ua ZS 27 (un (ZS 27) (ZS 28 0) k5)) 28 (fun _ => (ZS 28 0) + 1)) [0, 1, 2, 3, 4, 5, 6, 7, 8, 9, 10, 11, 12, 13, 14, 15, 16, 17, 18, 19, 20] (by decide) rfl (Nat.le_of_ble_eq_true rfl) (Nat.le_of_ble_eq_true rfl) dX7_took_46 (Or.inr (Or.inr ⟨k5, hq6, rfl, by omega, rfl, rfl⟩))
    · skip
      refine lv_bipush (v := -3) hx hb dX7_took_19 (by decide) ?_
      exact en_i hx hb hr hlk hP hD hS ZS [0, 1, 2, 3, 4, 5, 6, 7, 8, 9, 10, 11, 12, 13, 14, 15, 16, 17, 18, 19, 20] (by decide) rfl (Nat.le_of_ble_eq_true rfl) (Nat.le_of_ble_eq_true rfl) dX7_took_21 (Or.inr (Or.inl ⟨⟨k5, hq6, rfl⟩, by omega, rfl, rfl⟩))
  · skip
    refine nb_if_ne (tgt := 10) hx hb dX7_took_5 (by decide) (by omega) (fun hq12 => absurd hq12 (by omega)) (fun hq12 => ?_)
    refine lv_iconst (v := -1) hx hb dX7_took_8 (by decide) ?_
    exact en_i hx hb hr hlk hP hD hS ZS [0, 1, 2, 3, 4, 5, 6, 7, 8, 9, 10, 11, 12, 13, 14, 15, 16, 17, 18, 19, 20] (by decide) rfl (Nat.le_of_ble_eq_true rfl) (Nat.le_of_ble_eq_true rfl) dX7_took_9 (Or.inl ⟨hq4, rfl, rfl⟩)
set_option maxRecDepth 20000 in
theorem dAX7_years : decA cX7_years [(0, .iload_n 1, 1), (1, .iconst 0, 1), (2, .iconst 2, 1), (3, .invokestatic 78, 3), (6, .ifCond .ne 5, 3), (9, .iconst (-1), 1), (10, .ireturn, 1), (11, .iconst 0, 1), (12, .istore_n 2, 1), (13, .bipush (-9), 2), (15, .istore_n 3, 1), (16, .bipush (-9), 2), (18, .istore 4, 2), (20, .iconst 0, 1), (21, .istore 5, 2), (23, .iload 5, 2), (25, .bipush 60, 2), (27, .if_icmp .gt 81, 3), (30, .iconst 1, 1), (31, .istore 6, 2), (33, .iconst 0, 1), (34, .istore 7, 2), (36, .iload 7, 2), (38, .aload_n 0, 1), (39, .getfield 120, 3), (42, .if_icmp .ge 37, 3), (45, .iload 6, 2), (47, .ifCond .eq 23, 3), (50, .aload_n 0, 1), (51, .aload_n 0, 1), (52, .getfield 69, 3), (55, .iload 7, 2), (57, .iaload, 1), (58, .iload 5, 2), (60, .invokevirtual 131, 3), (63, .ifCond .eq 7, 3), (66, .iconst 1, 1), (67, .goto 4, 3), (70, .iconst 0, 1), (71, .istore 6, 2), (73, .iinc 7 1, 3), (76, .goto (-40), 3), (79, .iload 6, 2), (81, .ifCond .eq 21, 3), (84, .iload_n 2, 1), (85, .ifCond .ne 8, 3), (88, .iload 5, 2), (90, .goto 4, 3), (93, .iload_n 3, 1), (94, .istore_n 3, 1), (95, .iload 5, 2), (97, .istore 4, 2), (99, .iinc 2 1, 3), (102, .iinc 5 1, 3), (105, .goto (-82), 3), (108, .iload_n 1, 1), (109, .ifCond .ne 7, 3), (112, .iload_n 2, 1), (113, .goto 14, 3), (116, .iload_n 1, 1), (117, .iconst 1, 1), (118, .if_icmp .ne 7, 3), (121, .iload_n 3, 1), (122, .goto 5, 3), (125, .iload 4, 2), (127, .ireturn, 1)] = true := by decide +kernel
theorem dX7_years_0 : decode cX7_years 0 = .ok (.iload_n 1, 1) := decA_get dAX7_years 0 rfl
theorem dX7_years_1 : decode cX7_years 1 = .ok (.iconst 0, 1) := decA_get dAX7_years 1 rfl
theorem dX7_years_2 : decode cX7_years 2 = .ok (.iconst 2, 1) := decA_get dAX7_years 2 rfl
theorem dX7_years_3 : decode cX7_years 3 = .ok (.invokestatic 78, 3) := decA_get dAX7_years 3 rfl
set_option maxRecDepth 20000 in
theorem ggX7_years_X7_in : GoodIn wsX7_years wsX7_in := gd_ids wi_X7_years wm_X7_years wi_X7_in (by decide +kernel)
theorem dX7_years_6 : decode cX7_years 6 = .ok (.ifCond .ne 5, 3) := decA_get dAX7_years 4 rfl
theorem dX7_years_11 : decode cX7_years 11 = .ok (.iconst 0, 1) := decA_get dAX7_years 7 rfl
theorem dX7_years_12 : decode cX7_years 12 = .ok (.istore_n 2, 1) := decA_get dAX7_years 8 rfl
theorem dX7_years_13 : decode cX7_years 13 = .ok (.bipush (-9), 2) := decA_get dAX7_years 9 rfl
theorem dX7_years_15 : decode cX7_years 15 = .ok (.istore_n 3, 1) := decA_get dAX7_years 10 rfl
theorem dX7_years_16 : decode cX7_years 16 = .ok (.bipush (-9), 2) := decA_get dAX7_years 11 rfl
theorem dX7_years_18 : decode cX7_years 18 = .ok (.istore 4, 2) := decA_get dAX7_years 12 rfl
theorem dX7_years_20 : decode cX7_years 20 = .ok (.iconst 0, 1) := decA_get dAX7_years 13 rfl
theorem dX7_years_21 : decode cX7_years 21 = .ok (.istore 5, 2) := decA_get dAX7_years 14 rfl
theorem dX7_years_23 : decode cX7_years 23 = .ok (.iload 5, 2) := decA_get dAX7_years 15 rfl
theorem dX7_years_25 : decode cX7_years 25 = .ok (.bipush 60, 2) := decA_get dAX7_years 16 rfl
theorem dX7_years_27 : decode cX7_years 27 = .ok (.if_icmp .gt 81, 3) := decA_get dAX7_years 17 rfl
theorem dX7_years_108 : decode cX7_years 108 = .ok (.iload_n 1, 1) := decA_get dAX7_years 55 rfl
theorem dX7_years_109 : decode cX7_years 109 = .ok (.ifCond .ne 7, 3) := decA_get dAX7_years 56 rfl
theorem dX7_years_116 : decode cX7_years 116 = .ok (.iload_n 1, 1) := decA_get dAX7_years 59 rfl
theorem dX7_years_117 : decode cX7_years 117 = .ok (.iconst 1, 1) := decA_get dAX7_years 60 rfl
theorem dX7_years_118 : decode cX7_years 118 = .ok (.if_icmp .ne 7, 3) := decA_get dAX7_years 61 rfl
theorem dX7_years_125 : decode cX7_years 125 = .ok (.iload 4, 2) := decA_get dAX7_years 64 rfl
theorem dX7_years_127 : decode cX7_years 127 = .ok (.ireturn, 1) := decA_get dAX7_years 65 rfl
theorem dX7_years_121 : decode cX7_years 121 = .ok (.iload_n 3, 1) := decA_get dAX7_years 62 rfl
theorem dX7_years_122 : decode cX7_years 122 = .ok (.goto 5, 3) := decA_get dAX7_years 63 rfl
theorem dX7_years_112 : decode cX7_years 112 = .ok (.iload_n 2, 1) := decA_get dAX7_years 57 rfl
theorem dX7_years_113 : decode cX7_years 113 = .ok (.goto 14, 3) := decA_get dAX7_years 58 rfl
theorem dX7_years_30 : decode cX7_years 30 = .ok (.iconst 1, 1) := decA_get dAX7_years 18 rfl
theorem dX7_years_31 : decode cX7_years 31 = .ok (.istore 6, 2) := decA_get dAX7_years 19 rfl
theorem dX7_years_33 : decode cX7_years 33 = .ok (.iconst 0, 1) := decA_get dAX7_years 20 rfl
theorem dX7_years_34 : decode cX7_years 34 = .ok (.istore 7, 2) := decA_get dAX7_years 21 rfl
theorem dX7_years_36 : decode cX7_years 36 = .ok (.iload 7, 2) := decA_get dAX7_years 22 rfl
theorem dX7_years_38 : decode cX7_years 38 = .ok (.aload_n 0, 1) := decA_get dAX7_years 23 rfl
theorem dX7_years_39 : decode cX7_years 39 = .ok (.getfield 120, 3) := decA_get dAX7_years 24 rfl
theorem in_X7_years_7 : ∀ w ∈ wsX70, w ∈ wsX7_years := fun w h => (gd_ids wi_X7_years wm_X7_years wi_X70 (by decide +kernel) w h).1
theorem dX7_years_42 : decode cX7_years 42 = .ok (.if_icmp .ge 37, 3) := decA_get dAX7_years 25 rfl
theorem dX7_years_79 : decode cX7_years 79 = .ok (.iload 6, 2) := decA_get dAX7_years 42 rfl
theorem dX7_years_81 : decode cX7_years 81 = .ok (.ifCond .eq 21, 3) := decA_get dAX7_years 43 rfl
theorem dX7_years_102 : decode cX7_years 102 = .ok (.iinc 5 1, 3) := decA_get dAX7_years 53 rfl
theorem dX7_years_105 : decode cX7_years 105 = .ok (.goto (-82), 3) := decA_get dAX7_years 54 rfl
theorem dX7_years_84 : decode cX7_years 84 = .ok (.iload_n 2, 1) := decA_get dAX7_years 44 rfl
theorem dX7_years_85 : decode cX7_years 85 = .ok (.ifCond .ne 8, 3) := decA_get dAX7_years 45 rfl
theorem dX7_years_93 : decode cX7_years 93 = .ok (.iload_n 3, 1) := decA_get dAX7_years 48 rfl
theorem dX7_years_94 : decode cX7_years 94 = .ok (.istore_n 3, 1) := decA_get dAX7_years 49 rfl
theorem dX7_years_95 : decode cX7_years 95 = .ok (.iload 5, 2) := decA_get dAX7_years 50 rfl
theorem dX7_years_97 : decode cX7_years 97 = .ok (.istore 4, 2) := decA_get dAX7_years 51 rfl
theorem dX7_years_99 : decode cX7_years 99 = .ok (.iinc 2 1, 3) := decA_get dAX7_years 52 rfl
theorem dX7_years_88 : decode cX7_years 88 = .ok (.iload 5, 2) := decA_get dAX7_years 46 rfl
theorem dX7_years_90 : decode cX7_years 90 = .ok (.goto 4, 3) := decA_get dAX7_years 47 rfl
theorem dX7_years_45 : decode cX7_years 45 = .ok (.iload 6, 2) := decA_get dAX7_years 26 rfl
theorem dX7_years_47 : decode cX7_years 47 = .ok (.ifCond .eq 23, 3) := decA_get dAX7_years 27 rfl
theorem dX7_years_70 : decode cX7_years 70 = .ok (.iconst 0, 1) := decA_get dAX7_years 38 rfl
theorem dX7_years_71 : decode cX7_years 71 = .ok (.istore 6, 2) := decA_get dAX7_years 39 rfl
theorem dX7_years_73 : decode cX7_years 73 = .ok (.iinc 7 1, 3) := decA_get dAX7_years 40 rfl
theorem dX7_years_76 : decode cX7_years 76 = .ok (.goto (-40), 3) := decA_get dAX7_years 41 rfl
theorem dX7_years_50 : decode cX7_years 50 = .ok (.aload_n 0, 1) := decA_get dAX7_years 28 rfl
theorem dX7_years_51 : decode cX7_years 51 = .ok (.aload_n 0, 1) := decA_get dAX7_years 29 rfl
theorem dX7_years_52 : decode cX7_years 52 = .ok (.getfield 69, 3) := decA_get dAX7_years 30 rfl
theorem dX7_years_55 : decode cX7_years 55 = .ok (.iload 7, 2) := decA_get dAX7_years 31 rfl
theorem dX7_years_57 : decode cX7_years 57 = .ok (.iaload, 1) := decA_get dAX7_years 32 rfl
theorem dX7_years_58 : decode cX7_years 58 = .ok (.iload 5, 2) := decA_get dAX7_years 33 rfl
theorem dX7_years_60 : decode cX7_years 60 = .ok (.invokevirtual 131, 3) := decA_get dAX7_years 34 rfl
set_option maxRecDepth 20000 in
theorem ggX7_years_X7_isGoodIn : GoodIn wsX7_years wsX7_isGoodIn := gd_ids wi_X7_years wm_X7_years wi_X7_isGoodIn (by decide +kernel)
set_option maxRecDepth 20000 in
theorem gX7_years_X7_isGoodIn : GoodIn wsX7_years (wsV RX7 131 RX7 yX7_isGoodIn wsX7_isGoodIn) := goodIn_app (gd_ids wi_X7_years wm_X7_years (b := [530, 531, 532, 481]) rfl (by decide +kernel)) ggX7_years_X7_isGoodIn
theorem dX7_years_63 : decode cX7_years 63 = .ok (.ifCond .eq 7, 3) := decA_get dAX7_years 35 rfl
theorem dX7_years_66 : decode cX7_years 66 = .ok (.iconst 1, 1) := decA_get dAX7_years 36 rfl
theorem dX7_years_67 : decode cX7_years 67 = .ok (.goto 4, 3) := decA_get dAX7_years 37 rfl
theorem dX7_years_9 : decode cX7_years 9 = .ok (.iconst (-1), 1) := decA_get dAX7_years 5 rfl
theorem dX7_years_10 : decode cX7_years 10 = .ok (.ireturn, 1) := decA_get dAX7_years 6 rfl
