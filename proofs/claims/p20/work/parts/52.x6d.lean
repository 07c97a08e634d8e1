set_option maxRecDepth 20000 in
theorem dAX6_coin : decA cX6_coin [(0, .aload_n 0, 1), (1, .getfield 27, 3), (4, .iload_n 1, 1), (5, .invokevirtual 87, 3), (8, .ifCond .ne 5, 3), (11, .iconst (-1), 1), (12, .ireturn, 1), (13, .iload_n 2, 1), (14, .tableswitch 68 0 3 #[30, 40, 50, 59], 30), (44, .aload_n 0, 1), (45, .getfield 27, 3), (48, .getfield 91, 3), (51, .iload_n 1, 1), (52, .iaload, 1), (53, .ireturn, 1), (54, .aload_n 0, 1), (55, .getfield 27, 3), (58, .getfield 94, 3), (61, .iload_n 1, 1), (62, .iaload, 1), (63, .ireturn, 1), (64, .aload_n 0, 1), (65, .getfield 27, 3), (68, .iload_n 1, 1), (69, .invokevirtual 97, 3), (72, .ireturn, 1), (73, .aload_n 0, 1), (74, .getfield 37, 3), (77, .iload_n 1, 1), (78, .invokevirtual 101, 3), (81, .ireturn, 1), (82, .iconst (-1), 1), (83, .ireturn, 1)] = true := by decide +kernel
theorem dX6_coin_0 : decode cX6_coin 0 = .ok (.aload_n 0, 1) := decA_get dAX6_coin 0 rfl
theorem dX6_coin_1 : decode cX6_coin 1 = .ok (.getfield 27, 3) := decA_get dAX6_coin 1 rfl
theorem in_X6_coin_6 : ∀ w ∈ wsX60, w ∈ wsX6_coin := fun w h => (gd_ids wi_X6_coin wm_X6_coin wi_X60 (by decide +kernel) w h).1
theorem dX6_coin_4 : decode cX6_coin 4 = .ok (.iload_n 1, 1) := decA_get dAX6_coin 2 rfl
theorem dX6_coin_5 : decode cX6_coin 5 = .ok (.invokevirtual 87, 3) := decA_get dAX6_coin 3 rfl
set_option maxRecDepth 20000 in
theorem ggX6_coin_X0_hasCoin : GoodIn wsX6_coin wsX0_hasCoin := gd_ids wi_X6_coin wm_X6_coin wi_X0_hasCoin (by decide +kernel)
theorem dX6_coin_8 : decode cX6_coin 8 = .ok (.ifCond .ne 5, 3) := decA_get dAX6_coin 4 rfl
theorem dX6_coin_13 : decode cX6_coin 13 = .ok (.iload_n 2, 1) := decA_get dAX6_coin 7 rfl
theorem dX6_coin_14 : decode cX6_coin 14 = .ok (.tableswitch 68 0 3 #[30, 40, 50, 59], 30) := decA_get dAX6_coin 8 rfl
theorem dX6_coin_44 : decode cX6_coin 44 = .ok (.aload_n 0, 1) := decA_get dAX6_coin 9 rfl
theorem dX6_coin_45 : decode cX6_coin 45 = .ok (.getfield 27, 3) := decA_get dAX6_coin 10 rfl
theorem dX6_coin_48 : decode cX6_coin 48 = .ok (.getfield 91, 3) := decA_get dAX6_coin 11 rfl
theorem in_X6_coin_0 : ∀ w ∈ wsX00, w ∈ wsX6_coin := fun w h => (gd_ids wi_X6_coin wm_X6_coin wi_X00 (by decide +kernel) w h).1
theorem dX6_coin_51 : decode cX6_coin 51 = .ok (.iload_n 1, 1) := decA_get dAX6_coin 12 rfl
theorem dX6_coin_52 : decode cX6_coin 52 = .ok (.iaload, 1) := decA_get dAX6_coin 13 rfl
theorem dX6_coin_53 : decode cX6_coin 53 = .ok (.ireturn, 1) := decA_get dAX6_coin 14 rfl
theorem dX6_coin_54 : decode cX6_coin 54 = .ok (.aload_n 0, 1) := decA_get dAX6_coin 15 rfl
theorem dX6_coin_55 : decode cX6_coin 55 = .ok (.getfield 27, 3) := decA_get dAX6_coin 16 rfl
theorem dX6_coin_58 : decode cX6_coin 58 = .ok (.getfield 94, 3) := decA_get dAX6_coin 17 rfl
theorem dX6_coin_61 : decode cX6_coin 61 = .ok (.iload_n 1, 1) := decA_get dAX6_coin 18 rfl
theorem dX6_coin_62 : decode cX6_coin 62 = .ok (.iaload, 1) := decA_get dAX6_coin 19 rfl
theorem dX6_coin_63 : decode cX6_coin 63 = .ok (.ireturn, 1) := decA_get dAX6_coin 20 rfl
theorem dX6_coin_64 : decode cX6_coin 64 = .ok (.aload_n 0, 1) := decA_get dAX6_coin 21 rfl
theorem dX6_coin_65 : decode cX6_coin 65 = .ok (.getfield 27, 3) := decA_get dAX6_coin 22 rfl
theorem dX6_coin_68 : decode cX6_coin 68 = .ok (.iload_n 1, 1) := decA_get dAX6_coin 23 rfl
theorem dX6_coin_69 : decode cX6_coin 69 = .ok (.invokevirtual 97, 3) := decA_get dAX6_coin 24 rfl
set_option maxRecDepth 20000 in
theorem ggX6_coin_X0_peopleFor : GoodIn wsX6_coin wsX0_peopleFor := gd_ids wi_X6_coin wm_X6_coin wi_X0_peopleFor (by decide +kernel)
theorem dX6_coin_72 : decode cX6_coin 72 = .ok (.ireturn, 1) := decA_get dAX6_coin 25 rfl
theorem dX6_coin_73 : decode cX6_coin 73 = .ok (.aload_n 0, 1) := decA_get dAX6_coin 26 rfl
theorem dX6_coin_74 : decode cX6_coin 74 = .ok (.getfield 37, 3) := decA_get dAX6_coin 27 rfl
theorem dX6_coin_77 : decode cX6_coin 77 = .ok (.iload_n 1, 1) := decA_get dAX6_coin 28 rfl
theorem dX6_coin_78 : decode cX6_coin 78 = .ok (.invokevirtual 101, 3) := decA_get dAX6_coin 29 rfl
set_option maxRecDepth 20000 in
theorem ggX6_coin_X1_inAll : GoodIn wsX6_coin wsX1_inAll := gd_ids wi_X6_coin wm_X6_coin wi_X1_inAll (by decide +kernel)
theorem dX6_coin_81 : decode cX6_coin 81 = .ok (.ireturn, 1) := decA_get dAX6_coin 30 rfl
theorem dX6_coin_82 : decode cX6_coin 82 = .ok (.iconst (-1), 1) := decA_get dAX6_coin 31 rfl
theorem dX6_coin_83 : decode cX6_coin 83 = .ok (.ireturn, 1) := decA_get dAX6_coin 32 rfl
theorem dX6_coin_11 : decode cX6_coin 11 = .ok (.iconst (-1), 1) := decA_get dAX6_coin 5 rfl
theorem dX6_coin_12 : decode cX6_coin 12 = .ok (.ireturn, 1) := decA_get dAX6_coin 6 rfl
set_option maxRecDepth 20000 in
theorem dAX6_person : decA cX6_person [(0, .aload_n 0, 1), (1, .getfield 27, 3), (4, .iload_n 1, 1), (5, .invokevirtual 104, 3), (8, .ifCond .ne 5, 3), (11, .iconst (-1), 1), (12, .ireturn, 1), (13, .iload_n 2, 1), (14, .tableswitch 61 0 3 #[30, 40, 49, 55], 30), (44, .aload_n 0, 1), (45, .getfield 27, 3), (48, .getfield 107, 3), (51, .iload_n 1, 1), (52, .iaload, 1), (53, .ireturn, 1), (54, .aload_n 0, 1), (55, .getfield 27, 3), (58, .iload_n 1, 1), (59, .invokevirtual 110, 3), (62, .ireturn, 1), (63, .aload_n 0, 1), (64, .iload_n 1, 1), (65, .invokevirtual 113, 3), (68, .ireturn, 1), (69, .aload_n 0, 1), (70, .iload_n 1, 1), (71, .invokevirtual 116, 3), (74, .ireturn, 1), (75, .iconst (-1), 1), (76, .ireturn, 1)] = true := by decide +kernel
theorem dX6_person_0 : decode cX6_person 0 = .ok (.aload_n 0, 1) := decA_get dAX6_person 0 rfl
theorem dX6_person_1 : decode cX6_person 1 = .ok (.getfield 27, 3) := decA_get dAX6_person 1 rfl
theorem in_X6_person_6 : ∀ w ∈ wsX60, w ∈ wsX6_person := fun w h => (gd_ids wi_X6_person wm_X6_person wi_X60 (by decide +kernel) w h).1
theorem dX6_person_4 : decode cX6_person 4 = .ok (.iload_n 1, 1) := decA_get dAX6_person 2 rfl
theorem dX6_person_5 : decode cX6_person 5 = .ok (.invokevirtual 104, 3) := decA_get dAX6_person 3 rfl
set_option maxRecDepth 20000 in
theorem ggX6_person_X0_hasPerson : GoodIn wsX6_person wsX0_hasPerson := gd_ids wi_X6_person wm_X6_person wi_X0_hasPerson (by decide +kernel)
theorem dX6_person_8 : decode cX6_person 8 = .ok (.ifCond .ne 5, 3) := decA_get dAX6_person 4 rfl
theorem dX6_person_13 : decode cX6_person 13 = .ok (.iload_n 2, 1) := decA_get dAX6_person 7 rfl
theorem dX6_person_14 : decode cX6_person 14 = .ok (.tableswitch 61 0 3 #[30, 40, 49, 55], 30) := decA_get dAX6_person 8 rfl
theorem dX6_person_44 : decode cX6_person 44 = .ok (.aload_n 0, 1) := decA_get dAX6_person 9 rfl
theorem dX6_person_45 : decode cX6_person 45 = .ok (.getfield 27, 3) := decA_get dAX6_person 10 rfl
theorem dX6_person_48 : decode cX6_person 48 = .ok (.getfield 107, 3) := decA_get dAX6_person 11 rfl
theorem in_X6_person_0 : ∀ w ∈ wsX00, w ∈ wsX6_person := fun w h => (gd_ids wi_X6_person wm_X6_person wi_X00 (by decide +kernel) w h).1
theorem dX6_person_51 : decode cX6_person 51 = .ok (.iload_n 1, 1) := decA_get dAX6_person 12 rfl
theorem dX6_person_52 : decode cX6_person 52 = .ok (.iaload, 1) := decA_get dAX6_person 13 rfl
theorem dX6_person_53 : decode cX6_person 53 = .ok (.ireturn, 1) := decA_get dAX6_person 14 rfl
theorem dX6_person_54 : decode cX6_person 54 = .ok (.aload_n 0, 1) := decA_get dAX6_person 15 rfl
theorem dX6_person_55 : decode cX6_person 55 = .ok (.getfield 27, 3) := decA_get dAX6_person 16 rfl
theorem dX6_person_58 : decode cX6_person 58 = .ok (.iload_n 1, 1) := decA_get dAX6_person 17 rfl
theorem dX6_person_59 : decode cX6_person 59 = .ok (.invokevirtual 110, 3) := decA_get dAX6_person 18 rfl
set_option maxRecDepth 20000 in
theorem ggX6_person_X0_coinsFor : GoodIn wsX6_person wsX0_coinsFor := gd_ids wi_X6_person wm_X6_person wi_X0_coinsFor (by decide +kernel)
theorem dX6_person_62 : decode cX6_person 62 = .ok (.ireturn, 1) := decA_get dAX6_person 19 rfl
theorem dX6_person_63 : decode cX6_person 63 = .ok (.aload_n 0, 1) := decA_get dAX6_person 20 rfl
theorem dX6_person_64 : decode cX6_person 64 = .ok (.iload_n 1, 1) := decA_get dAX6_person 21 rfl
theorem dX6_person_65 : decode cX6_person 65 = .ok (.invokevirtual 113, 3) := decA_get dAX6_person 22 rfl
set_option maxRecDepth 20000 in
theorem ggX6_person_X6_wealth : GoodIn wsX6_person wsX6_wealth := gd_ids wi_X6_person wm_X6_person wi_X6_wealth (by decide +kernel)
set_option maxRecDepth 20000 in
theorem gX6_person_X6_wealth : GoodIn wsX6_person (wsV RX6 113 RX6 yX6_wealth wsX6_wealth) := goodIn_app (gd_ids wi_X6_person wm_X6_person (b := [341, 342, 343, 344]) rfl (by decide +kernel)) ggX6_person_X6_wealth
theorem dX6_person_68 : decode cX6_person 68 = .ok (.ireturn, 1) := decA_get dAX6_person 23 rfl
theorem dX6_person_69 : decode cX6_person 69 = .ok (.aload_n 0, 1) := decA_get dAX6_person 24 rfl
theorem dX6_person_70 : decode cX6_person 70 = .ok (.iload_n 1, 1) := decA_get dAX6_person 25 rfl
theorem dX6_person_71 : decode cX6_person 71 = .ok (.invokevirtual 116, 3) := decA_get dAX6_person 26 rfl
set_option maxRecDepth 20000 in
theorem ggX6_person_X6_ease : GoodIn wsX6_person wsX6_ease := gd_ids wi_X6_person wm_X6_person wi_X6_ease (by decide +kernel)
set_option maxRecDepth 20000 in
theorem gX6_person_X6_ease : GoodIn wsX6_person (wsV RX6 116 RX6 yX6_ease wsX6_ease) := goodIn_app (gd_ids wi_X6_person wm_X6_person (b := [345, 346, 347, 344]) rfl (by decide +kernel)) ggX6_person_X6_ease
theorem dX6_person_74 : decode cX6_person 74 = .ok (.ireturn, 1) := decA_get dAX6_person 27 rfl
theorem dX6_person_75 : decode cX6_person 75 = .ok (.iconst (-1), 1) := decA_get dAX6_person 28 rfl
theorem dX6_person_76 : decode cX6_person 76 = .ok (.ireturn, 1) := decA_get dAX6_person 29 rfl
theorem dX6_person_11 : decode cX6_person 11 = .ok (.iconst (-1), 1) := decA_get dAX6_person 5 rfl
theorem dX6_person_12 : decode cX6_person 12 = .ok (.ireturn, 1) := decA_get dAX6_person 6 rfl
set_option maxRecDepth 20000 in
theorem dAX6_holds : decA cX6_holds [(0, .aload_n 0, 1), (1, .getfield 27, 3), (4, .iload_n 1, 1), (5, .invokevirtual 104, 3), (8, .ifCond .eq 14, 3), (11, .aload_n 0, 1), (12, .getfield 27, 3), (15, .iload_n 2, 1), (16, .invokevirtual 87, 3), (19, .ifCond .ne 5, 3), (22, .iconst (-1), 1), (23, .ireturn, 1), (24, .aload_n 0, 1), (25, .getfield 37, 3), (28, .iload_n 1, 1), (29, .iload_n 2, 1), (30, .invokevirtual 119, 3), (33, .ireturn, 1)] = true := by decide +kernel
theorem dX6_holds_0 : decode cX6_holds 0 = .ok (.aload_n 0, 1) := decA_get dAX6_holds 0 rfl
theorem dX6_holds_1 : decode cX6_holds 1 = .ok (.getfield 27, 3) := decA_get dAX6_holds 1 rfl
theorem in_X6_holds_6 : ∀ w ∈ wsX60, w ∈ wsX6_holds := fun w h => (gd_ids wi_X6_holds wm_X6_holds wi_X60 (by decide +kernel) w h).1
theorem dX6_holds_4 : decode cX6_holds 4 = .ok (.iload_n 1, 1) := decA_get dAX6_holds 2 rfl
theorem dX6_holds_5 : decode cX6_holds 5 = .ok (.invokevirtual 104, 3) := decA_get dAX6_holds 3 rfl
set_option maxRecDepth 20000 in
theorem ggX6_holds_X0_hasPerson : GoodIn wsX6_holds wsX0_hasPerson := gd_ids wi_X6_holds wm_X6_holds wi_X0_hasPerson (by decide +kernel)
theorem dX6_holds_8 : decode cX6_holds 8 = .ok (.ifCond .eq 14, 3) := decA_get dAX6_holds 4 rfl
theorem dX6_holds_11 : decode cX6_holds 11 = .ok (.aload_n 0, 1) := decA_get dAX6_holds 5 rfl
theorem dX6_holds_12 : decode cX6_holds 12 = .ok (.getfield 27, 3) := decA_get dAX6_holds 6 rfl
theorem dX6_holds_15 : decode cX6_holds 15 = .ok (.iload_n 2, 1) := decA_get dAX6_holds 7 rfl
theorem dX6_holds_16 : decode cX6_holds 16 = .ok (.invokevirtual 87, 3) := decA_get dAX6_holds 8 rfl
set_option maxRecDepth 20000 in
theorem ggX6_holds_X0_hasCoin : GoodIn wsX6_holds wsX0_hasCoin := gd_ids wi_X6_holds wm_X6_holds wi_X0_hasCoin (by decide +kernel)
theorem dX6_holds_19 : decode cX6_holds 19 = .ok (.ifCond .ne 5, 3) := decA_get dAX6_holds 9 rfl
theorem dX6_holds_24 : decode cX6_holds 24 = .ok (.aload_n 0, 1) := decA_get dAX6_holds 12 rfl
theorem dX6_holds_25 : decode cX6_holds 25 = .ok (.getfield 37, 3) := decA_get dAX6_holds 13 rfl
theorem dX6_holds_28 : decode cX6_holds 28 = .ok (.iload_n 1, 1) := decA_get dAX6_holds 14 rfl
theorem dX6_holds_29 : decode cX6_holds 29 = .ok (.iload_n 2, 1) := decA_get dAX6_holds 15 rfl
theorem dX6_holds_30 : decode cX6_holds 30 = .ok (.invokevirtual 119, 3) := decA_get dAX6_holds 16 rfl
set_option maxRecDepth 20000 in
theorem ggX6_holds_X1_held : GoodIn wsX6_holds wsX1_held := gd_ids wi_X6_holds wm_X6_holds wi_X1_held (by decide +kernel)
theorem dX6_holds_33 : decode cX6_holds 33 = .ok (.ireturn, 1) := decA_get dAX6_holds 17 rfl
theorem dX6_holds_22 : decode cX6_holds 22 = .ok (.iconst (-1), 1) := decA_get dAX6_holds 10 rfl
theorem dX6_holds_23 : decode cX6_holds 23 = .ok (.ireturn, 1) := decA_get dAX6_holds 11 rfl
set_option maxRecDepth 20000 in
theorem dAX6_debt : decA cX6_debt [(0, .aload_n 0, 1), (1, .getfield 27, 3), (4, .iload_n 1, 1), (5, .invokevirtual 123, 3), (8, .ifCond .ne 5, 3), (11, .iconst (-1), 1), (12, .ireturn, 1), (13, .iload_n 2, 1), (14, .tableswitch 129 0 6 #[42, 52, 61, 71, 88, 109, 123], 42), (56, .aload_n 0, 1), (57, .getfield 27, 3), (60, .getfield 126, 3), (63, .iload_n 1, 1), (64, .iaload, 1), (65, .ireturn, 1), (66, .aload_n 0, 1), (67, .getfield 37, 3), (70, .iload_n 1, 1), (71, .invokevirtual 129, 3), (74, .ireturn, 1), (75, .aload_n 0, 1), (76, .getfield 27, 3), (79, .getfield 132, 3), (82, .iload_n 1, 1), (83, .iaload, 1), (84, .ireturn, 1), (85, .aload_n 0, 1), (86, .getfield 37, 3), (89, .iload_n 1, 1), (90, .invokevirtual 135, 3), (93, .ifCond .eq 7, 3), (96, .iconst 1, 1), (97, .goto 4, 3), (100, .iconst 0, 1), (101, .ireturn, 1), (102, .aload_n 0, 1), (103, .iload_n 1, 1), (104, .invokevirtual 138, 3), (107, .ifCond .eq 13, 3), (110, .aload_n 0, 1), (111, .getfield 51, 3), (114, .getfield 141, 3), (117, .goto 5, 3), (120, .bipush (-9), 2), (122, .ireturn, 1), (123, .aload_n 0, 1), (124, .iload_n 1, 1), (125, .invokevirtual 144, 3), (128, .ifCond .eq 7, 3), (131, .iconst 1, 1), (132, .goto 4, 3), (135, .iconst 0, 1), (136, .ireturn, 1), (137, .aload_n 0, 1), (138, .iload_n 1, 1), (139, .invokevirtual 147, 3), (142, .ireturn, 1), (143, .iconst (-1), 1), (144, .ireturn, 1)] = true := by decide +kernel
theorem dX6_debt_0 : decode cX6_debt 0 = .ok (.aload_n 0, 1) := decA_get dAX6_debt 0 rfl
theorem dX6_debt_1 : decode cX6_debt 1 = .ok (.getfield 27, 3) := decA_get dAX6_debt 1 rfl
theorem in_X6_debt_6 : ∀ w ∈ wsX60, w ∈ wsX6_debt := fun w h => (gd_ids wi_X6_debt wm_X6_debt wi_X60 (by decide +kernel) w h).1
theorem dX6_debt_4 : decode cX6_debt 4 = .ok (.iload_n 1, 1) := decA_get dAX6_debt 2 rfl
theorem dX6_debt_5 : decode cX6_debt 5 = .ok (.invokevirtual 123, 3) := decA_get dAX6_debt 3 rfl
set_option maxRecDepth 20000 in
theorem ggX6_debt_X0_hasDebt : GoodIn wsX6_debt wsX0_hasDebt := gd_ids wi_X6_debt wm_X6_debt wi_X0_hasDebt (by decide +kernel)
theorem dX6_debt_8 : decode cX6_debt 8 = .ok (.ifCond .ne 5, 3) := decA_get dAX6_debt 4 rfl
theorem dX6_debt_13 : decode cX6_debt 13 = .ok (.iload_n 2, 1) := decA_get dAX6_debt 7 rfl
theorem dX6_debt_14 : decode cX6_debt 14 = .ok (.tableswitch 129 0 6 #[42, 52, 61, 71, 88, 109, 123], 42) := decA_get dAX6_debt 8 rfl
theorem dX6_debt_56 : decode cX6_debt 56 = .ok (.aload_n 0, 1) := decA_get dAX6_debt 9 rfl
theorem dX6_debt_57 : decode cX6_debt 57 = .ok (.getfield 27, 3) := decA_get dAX6_debt 10 rfl
theorem dX6_debt_60 : decode cX6_debt 60 = .ok (.getfield 126, 3) := decA_get dAX6_debt 11 rfl
theorem in_X6_debt_0 : ∀ w ∈ wsX00, w ∈ wsX6_debt := fun w h => (gd_ids wi_X6_debt wm_X6_debt wi_X00 (by decide +kernel) w h).1
theorem dX6_debt_63 : decode cX6_debt 63 = .ok (.iload_n 1, 1) := decA_get dAX6_debt 12 rfl
theorem dX6_debt_64 : decode cX6_debt 64 = .ok (.iaload, 1) := decA_get dAX6_debt 13 rfl
theorem dX6_debt_65 : decode cX6_debt 65 = .ok (.ireturn, 1) := decA_get dAX6_debt 14 rfl
theorem dX6_debt_66 : decode cX6_debt 66 = .ok (.aload_n 0, 1) := decA_get dAX6_debt 15 rfl
theorem dX6_debt_67 : decode cX6_debt 67 = .ok (.getfield 37, 3) := decA_get dAX6_debt 16 rfl
theorem dX6_debt_70 : decode cX6_debt 70 = .ok (.iload_n 1, 1) := decA_get dAX6_debt 17 rfl
theorem dX6_debt_71 : decode cX6_debt 71 = .ok (.invokevirtual 129, 3) := decA_get dAX6_debt 18 rfl
set_option maxRecDepth 20000 in
theorem ggX6_debt_X1_creditor : GoodIn wsX6_debt wsX1_creditor := gd_ids wi_X6_debt wm_X6_debt wi_X1_creditor (by decide +kernel)
theorem dX6_debt_74 : decode cX6_debt 74 = .ok (.ireturn, 1) := decA_get dAX6_debt 19 rfl
theorem dX6_debt_75 : decode cX6_debt 75 = .ok (.aload_n 0, 1) := decA_get dAX6_debt 20 rfl
theorem dX6_debt_76 : decode cX6_debt 76 = .ok (.getfield 27, 3) := decA_get dAX6_debt 21 rfl
theorem dX6_debt_79 : decode cX6_debt 79 = .ok (.getfield 132, 3) := decA_get dAX6_debt 22 rfl
theorem dX6_debt_82 : decode cX6_debt 82 = .ok (.iload_n 1, 1) := decA_get dAX6_debt 23 rfl
theorem dX6_debt_83 : decode cX6_debt 83 = .ok (.iaload, 1) := decA_get dAX6_debt 24 rfl
theorem dX6_debt_84 : decode cX6_debt 84 = .ok (.ireturn, 1) := decA_get dAX6_debt 25 rfl
theorem dX6_debt_85 : decode cX6_debt 85 = .ok (.aload_n 0, 1) := decA_get dAX6_debt 26 rfl
theorem dX6_debt_86 : decode cX6_debt 86 = .ok (.getfield 37, 3) := decA_get dAX6_debt 27 rfl
theorem dX6_debt_89 : decode cX6_debt 89 = .ok (.iload_n 1, 1) := decA_get dAX6_debt 28 rfl
theorem dX6_debt_90 : decode cX6_debt 90 = .ok (.invokevirtual 135, 3) := decA_get dAX6_debt 29 rfl
set_option maxRecDepth 20000 in
theorem ggX6_debt_X1_isOpen : GoodIn wsX6_debt wsX1_isOpen := gd_ids wi_X6_debt wm_X6_debt wi_X1_isOpen (by decide +kernel)
theorem dX6_debt_93 : decode cX6_debt 93 = .ok (.ifCond .eq 7, 3) := decA_get dAX6_debt 30 rfl
theorem dX6_debt_100 : decode cX6_debt 100 = .ok (.iconst 0, 1) := decA_get dAX6_debt 33 rfl
theorem dX6_debt_101 : decode cX6_debt 101 = .ok (.ireturn, 1) := decA_get dAX6_debt 34 rfl
theorem dX6_debt_96 : decode cX6_debt 96 = .ok (.iconst 1, 1) := decA_get dAX6_debt 31 rfl
theorem dX6_debt_97 : decode cX6_debt 97 = .ok (.goto 4, 3) := decA_get dAX6_debt 32 rfl
theorem dX6_debt_102 : decode cX6_debt 102 = .ok (.aload_n 0, 1) := decA_get dAX6_debt 35 rfl
theorem dX6_debt_103 : decode cX6_debt 103 = .ok (.iload_n 1, 1) := decA_get dAX6_debt 36 rfl
theorem dX6_debt_104 : decode cX6_debt 104 = .ok (.invokevirtual 138, 3) := decA_get dAX6_debt 37 rfl
set_option maxRecDepth 20000 in
theorem ggX6_debt_X6_findPayment : GoodIn wsX6_debt wsX6_findPayment := gd_ids wi_X6_debt wm_X6_debt wi_X6_findPayment (by decide +kernel)
set_option maxRecDepth 20000 in
theorem gX6_debt_X6_findPayment : GoodIn wsX6_debt (wsV RX6 138 RX6 yX6_findPayment wsX6_findPayment) := goodIn_app (gd_ids wi_X6_debt wm_X6_debt (b := [357, 358, 359, 344]) rfl (by decide +kernel)) ggX6_debt_X6_findPayment
theorem dX6_debt_107 : decode cX6_debt 107 = .ok (.ifCond .eq 13, 3) := decA_get dAX6_debt 38 rfl
theorem dX6_debt_120 : decode cX6_debt 120 = .ok (.bipush (-9), 2) := decA_get dAX6_debt 43 rfl
theorem dX6_debt_122 : decode cX6_debt 122 = .ok (.ireturn, 1) := decA_get dAX6_debt 44 rfl
theorem dX6_debt_110 : decode cX6_debt 110 = .ok (.aload_n 0, 1) := decA_get dAX6_debt 39 rfl
theorem dX6_debt_111 : decode cX6_debt 111 = .ok (.getfield 51, 3) := decA_get dAX6_debt 40 rfl
theorem dX6_debt_114 : decode cX6_debt 114 = .ok (.getfield 141, 3) := decA_get dAX6_debt 41 rfl
theorem in_X6_debt_2 : ∀ w ∈ wsX20, w ∈ wsX6_debt := fun w h => (gd_ids wi_X6_debt wm_X6_debt wi_X20 (by decide +kernel) w h).1
theorem dX6_debt_117 : decode cX6_debt 117 = .ok (.goto 5, 3) := decA_get dAX6_debt 42 rfl
theorem dX6_debt_123 : decode cX6_debt 123 = .ok (.aload_n 0, 1) := decA_get dAX6_debt 45 rfl
theorem dX6_debt_124 : decode cX6_debt 124 = .ok (.iload_n 1, 1) := decA_get dAX6_debt 46 rfl
theorem dX6_debt_125 : decode cX6_debt 125 = .ok (.invokevirtual 144, 3) := decA_get dAX6_debt 47 rfl
set_option maxRecDepth 20000 in
theorem ggX6_debt_X6_worldPays : GoodIn wsX6_debt wsX6_worldPays := gd_ids wi_X6_debt wm_X6_debt wi_X6_worldPays (by decide +kernel)
set_option maxRecDepth 20000 in
theorem gX6_debt_X6_worldPays : GoodIn wsX6_debt (wsV RX6 144 RX6 yX6_worldPays wsX6_worldPays) := goodIn_app (gd_ids wi_X6_debt wm_X6_debt (b := [360, 361, 362, 344]) rfl (by decide +kernel)) ggX6_debt_X6_worldPays
theorem dX6_debt_128 : decode cX6_debt 128 = .ok (.ifCond .eq 7, 3) := decA_get dAX6_debt 48 rfl
theorem dX6_debt_135 : decode cX6_debt 135 = .ok (.iconst 0, 1) := decA_get dAX6_debt 51 rfl
theorem dX6_debt_136 : decode cX6_debt 136 = .ok (.ireturn, 1) := decA_get dAX6_debt 52 rfl
theorem dX6_debt_131 : decode cX6_debt 131 = .ok (.iconst 1, 1) := decA_get dAX6_debt 49 rfl
theorem dX6_debt_132 : decode cX6_debt 132 = .ok (.goto 4, 3) := decA_get dAX6_debt 50 rfl
theorem dX6_debt_137 : decode cX6_debt 137 = .ok (.aload_n 0, 1) := decA_get dAX6_debt 53 rfl
theorem dX6_debt_138 : decode cX6_debt 138 = .ok (.iload_n 1, 1) := decA_get dAX6_debt 54 rfl
theorem dX6_debt_139 : decode cX6_debt 139 = .ok (.invokevirtual 147, 3) := decA_get dAX6_debt 55 rfl
set_option maxRecDepth 20000 in
theorem ggX6_debt_X6_heirs : GoodIn wsX6_debt wsX6_heirs := gd_ids wi_X6_debt wm_X6_debt wi_X6_heirs (by decide +kernel)
set_option maxRecDepth 20000 in
theorem gX6_debt_X6_heirs : GoodIn wsX6_debt (wsV RX6 147 RX6 yX6_heirs wsX6_heirs) := goodIn_app (gd_ids wi_X6_debt wm_X6_debt (b := [363, 364, 365, 344]) rfl (by decide +kernel)) ggX6_debt_X6_heirs
theorem dX6_debt_142 : decode cX6_debt 142 = .ok (.ireturn, 1) := decA_get dAX6_debt 56 rfl
theorem dX6_debt_143 : decode cX6_debt 143 = .ok (.iconst (-1), 1) := decA_get dAX6_debt 57 rfl
theorem dX6_debt_144 : decode cX6_debt 144 = .ok (.ireturn, 1) := decA_get dAX6_debt 58 rfl
theorem dX6_debt_11 : decode cX6_debt 11 = .ok (.iconst (-1), 1) := decA_get dAX6_debt 5 rfl
theorem dX6_debt_12 : decode cX6_debt 12 = .ok (.ireturn, 1) := decA_get dAX6_debt 6 rfl
set_option maxHeartbeats 4000000 in
set_option maxRecDepth 100000 in
theorem g_debt (l : Launch) (D : va_G) (cI cB cZ cN : ClassId) (Xh : Nat) (Xa6 : Nat) (Xa11 : Nat) (Th : Nat) (Rh : Nat) (Mh : Nat) (Qh : Nat) (Xt : Int64) (Ih : Nat) (Jh : Nat) (XS : Nat → Nat → Nat) (Lh : Nat) (La1 : Nat) (La2 : Nat) (La4 : Nat) (La5 : Nat) (La7 : Nat) (La8 : Nat) (La9 : Nat) (LS : Nat → Nat → Nat) (Nh : Nat) (Na0 : Nat) (Na1 : Nat) (NS : Nat → Nat → Nat) (Yh : Nat) (Ya0 : Nat) (Ya1 : Nat) (Ya2 : Nat) (YS : Nat → Nat → Nat) (Wh : Nat) (Wa0 : Nat) (Wa1 : Nat) (WS : Nat → Nat → Nat) (v_c : Int32) (v_w : Int32) (hL : LandOk LS) (hN : NowOk NS) (hY : PayOk YS) (hW : WorldOk WS) : Ci (S := (Nat → Nat → Nat) × (Nat → Nat → Nat)) l D cI cB cZ cN yX6_debt wsX6_debt ({ frames := 5, cells := 0, slots := 0, locals := 126 } : Room) [.ref Xh, .int v_c, .int v_w] [(Xh, .inr (6, [.ref Th, .int (nI (XS 1 0)), .ref Rh, .ref Lh, .ref Mh, .ref Nh, .ref Xa6, .int (nI (XS 7 0)), .ref Yh, .ref Wh, .ref Qh, .ref Xa11, .int (nI (XS 12 0)), .long Xt])), (Xa6, .inl (cN, 2, .inr (.inr (.inr (.inr (va_up (va_up (fun _ => none) 0 (some Ih)) 1 (some Jh))))))), (Xa11, .inl (cI, 6, .inl (nF (XS 11)))), (Lh, .inr (0, [.int (nI (LS 0 0)), .ref La1, .ref La2, .int (nI (LS 3 0)), .ref La4, .ref La5, .int (nI (LS 6 0)), .ref La7, .ref La8, .ref La9, .int (nI (LS 10 0)), .int (nI (LS 11 0))])), (La1, .inl (cI, 6, .inl (nF (LS 1)))), (La2, .inl (cI, 6, .inl (nF (LS 2)))), (La4, .inl (cI, 5, .inl (nF (LS 4)))), (La5, .inl (cI, 30, .inl (nF (LS 5)))), (La7, .inl (cI, 5, .inl (nF (LS 7)))), (La8, .inl (cI, 5, .inl (nF (LS 8)))), (La9, .inl (cI, 5, .inl (nF (LS 9)))), (Nh, .inr (1, [.ref Na0, .ref Na1, .int (nI (NS 2 0))])), (Na0, .inl (cI, 36, .inl (nF (NS 0)))), (Na1, .inl (cI, 360, .inl (nF (NS 1)))), (Yh, .inr (2, [.ref Ya0, .ref Ya1, .ref Ya2, .int (nI (YS 3 0))])), (Ya0, .inl (cI, 6, .inl (nF (YS 0)))), (Ya1, .inl (cI, 6, .inl (nF (YS 1)))), (Ya2, .inl (cI, 427, .inl (nF (YS 2)))), (Wh, .inr (5, [.ref Wa0, .ref Wa1, .int (nI (WS 2 0)), .int (nI (WS 3 0))])), (Wa0, .inl (cI, 6, .inl (nF (WS 0)))), (Wa1, .inl (cI, 6, .inl (nF (WS 1))))] (fun (r : Int32) (u : (Nat → Nat → Nat) × (Nat → Nat → Nat)) => PayOk u.1 ∧ WorldOk u.2) (fun u => [(Xh, .inr (6, [.ref Th, .int (nI (XS 1 0)), .ref Rh, .ref Lh, .ref Mh, .ref Nh, .ref Xa6, .int (nI (XS 7 0)), .ref Yh, .ref Wh, .ref Qh, .ref Xa11, .int (nI (XS 12 0)), .long Xt])), (Xa6, .inl (cN, 2, .inr (.inr (.inr (.inr (va_up (va_up (fun _ => none) 0 (some Ih)) 1 (some Jh))))))), (Xa11, .inl (cI, 6, .inl (nF (XS 11)))), (Lh, .inr (0, [.int (nI (LS 0 0)), .ref La1, .ref La2, .int (nI (LS 3 0)), .ref La4, .ref La5, .int (nI (LS 6 0)), .ref La7, .ref La8, .ref La9, .int (nI (LS 10 0)), .int (nI (LS 11 0))])), (La1, .inl (cI, 6, .inl (nF (LS 1)))), (La2, .inl (cI, 6, .inl (nF (LS 2)))), (La4, .inl (cI, 5, .inl (nF (LS 4)))), (La5, .inl (cI, 30, .inl (nF (LS 5)))), (La7, .inl (cI, 5, .inl (nF (LS 7)))), (La8, .inl (cI, 5, .inl (nF (LS 8)))), (La9, .inl (cI, 5, .inl (nF (LS 9)))), (Nh, .inr (1, [.ref Na0, .ref Na1, .int (nI (NS 2 0))])), (Na0, .inl (cI, 36, .inl (nF (NS 0)))), (Na1, .inl (cI, 360, .inl (nF (NS 1)))), (Yh, .inr (2, [.ref Ya0, .ref Ya1, .ref Ya2, .int (nI (u.1 3 0))])), (Ya0, .inl (cI, 6, .inl (nF (u.1 0)))), (Ya1, .inl (cI, 6, .inl (nF (u.1 1)))), (Ya2, .inl (cI, 427, .inl (nF (u.1 2)))), (Wh, .inr (5, [.ref Wa0, .ref Wa1, .int (nI (u.2 2 0)), .int (nI (u.2 3 0))])), (Wa0, .inl (cI, 6, .inl (nF (u.2 0)))), (Wa1, .inl (cI, 6, .inl (nF (u.2 1))))]) := by
  refine bx_of (D := D) (cI := cI) (cB := cB) (cZ := cZ) (cN := cN) (y := yX6_debt) (wd := wsX6_debt) (rm := ({ frames := 5, cells := 0, slots := 0, locals := 126 } : Room)) (av := [.ref Xh, .int v_c, .int v_w]) (wc := [(Xh, .inr (6, [.ref Th, .int (nI (XS 1 0)), .ref Rh, .ref Lh, .ref Mh, .ref Nh, .ref Xa6, .int (nI (XS 7 0)), .ref Yh, .ref Wh, .ref Qh, .ref Xa11, .int (nI (XS 12 0)), .long Xt])), (Xa6, .inl (cN, 2, .inr (.inr (.inr (.inr (va_up (va_up (fun _ => none) 0 (some Ih)) 1 (some Jh))))))), (Xa11, .inl (cI, 6, .inl (nF (XS 11)))), (Lh, .inr (0, [.int (nI (LS 0 0)), .ref La1, .ref La2, .int (nI (LS 3 0)), .ref La4, .ref La5, .int (nI (LS 6 0)), .ref La7, .ref La8, .ref La9, .int (nI (LS 10 0)), .int (nI (LS 11 0))])), (La1, .inl (cI, 6, .inl (nF (LS 1)))), (La2, .inl (cI, 6, .inl (nF (LS 2)))), (La4, .inl (cI, 5, .inl (nF (LS 4)))), (La5, .inl (cI, 30, .inl (nF (LS 5)))), (La7, .inl (cI, 5, .inl (nF (LS 7)))), (La8, .inl (cI, 5, .inl (nF (LS 8)))), (La9, .inl (cI, 5, .inl (nF (LS 9)))), (Nh, .inr (1, [.ref Na0, .ref Na1, .int (nI (NS 2 0))])), (Na0, .inl (cI, 36, .inl (nF (NS 0)))), (Na1, .inl (cI, 360, .inl (nF (NS 1)))), (Yh, .inr (2, [.ref Ya0, .ref Ya1, .ref Ya2, .int (nI (YS 3 0))])), (Ya0, .inl (cI, 6, .inl (nF (YS 0)))), (Ya1, .inl (cI, 6, .inl (nF (YS 1)))), (Ya2, .inl (cI, 427, .inl (nF (YS 2)))), (Wh, .inr (5, [.ref Wa0, .ref Wa1, .int (nI (WS 2 0)), .int (nI (WS 3 0))])), (Wa0, .inl (cI, 6, .inl (nF (WS 0)))), (Wa1, .inl (cI, 6, .inl (nF (WS 1))))]) (cc := cX6_debt) (maxL := 3) (ret := (some .int)) (Qc := fun _ A => va_Qi (S := (Nat → Nat → Nat) × (Nat → Nat → Nat)) (fun (r : Int32) (u : (Nat → Nat → Nat) × (Nat → Nat → Nat)) => PayOk u.1 ∧ WorldOk u.2) (Aft D (fun (u : (Nat → Nat → Nat) × (Nat → Nat → Nat)) => [(Xh, .inr (6, [.ref Th, .int (nI (XS 1 0)), .ref Rh, .ref Lh, .ref Mh, .ref Nh, .ref Xa6, .int (nI (XS 7 0)), .ref Yh, .ref Wh, .ref Qh, .ref Xa11, .int (nI (XS 12 0)), .long Xt])), (Xa6, .inl (cN, 2, .inr (.inr (.inr (.inr (va_up (va_up (fun _ => none) 0 (some Ih)) 1 (some Jh))))))), (Xa11, .inl (cI, 6, .inl (nF (XS 11)))), (Lh, .inr (0, [.int (nI (LS 0 0)), .ref La1, .ref La2, .int (nI (LS 3 0)), .ref La4, .ref La5, .int (nI (LS 6 0)), .ref La7, .ref La8, .ref La9, .int (nI (LS 10 0)), .int (nI (LS 11 0))])), (La1, .inl (cI, 6, .inl (nF (LS 1)))), (La2, .inl (cI, 6, .inl (nF (LS 2)))), (La4, .inl (cI, 5, .inl (nF (LS 4)))), (La5, .inl (cI, 30, .inl (nF (LS 5)))), (La7, .inl (cI, 5, .inl (nF (LS 7)))), (La8, .inl (cI, 5, .inl (nF (LS 8)))), (La9, .inl (cI, 5, .inl (nF (LS 9)))), (Nh, .inr (1, [.ref Na0, .ref Na1, .int (nI (NS 2 0))])), (Na0, .inl (cI, 36, .inl (nF (NS 0)))), (Na1, .inl (cI, 360, .inl (nF (NS 1)))), (Yh, .inr (2, [.ref Ya0, .ref Ya1, .ref Ya2, .int (nI (u.1 3 0))])), (Ya0, .inl (cI, 6, .inl (nF (u.1 0)))), (Ya1, .inl (cI, 6, .inl (nF (u.1 1)))), (Ya2, .inl (cI, 427, .inl (nF (u.1 2)))), (Wh, .inr (5, [.ref Wa0, .ref Wa1, .int (nI (u.2 2 0)), .int (nI (u.2 3 0))])), (Wa0, .inl (cI, 6, .inl (nF (u.2 0)))), (Wa1, .inl (cI, 6, .inl (nF (u.2 1))))]) A) A) (by decide) rfl (Nat.le_of_ble_eq_true rfl) ?_
  intro p e s m below meth c A H locs ⟨hx, hb, hr, hml, hown, hts, hlk, hnm⟩ hK hP hD hS hA ls hl
  have hl : lv_has ls 3 [(0, .ref Xh), (1, .int v_c), (2, .int v_w)] := hl
  have hown : s.vm.findClass RX6 = some m.cls := hown
  have hL0 := hL
  obtain ⟨bl0, bl3, bl6, bl10, bl11, bl1, bl2, bl4, bl5, bl7, bl8, bl9⟩ := hL
  refine lv_aload_n hx hb dX6_debt_0 rfl (lv_at hl 0 rfl) ?_
  refine va_get (D := D) (ci := 6) (v := .ref Lh) (C := RX6) (T := TX6) (N := 14) hx hb hts in_X6_debt_6 hown hK.1 hP 0 rfl rfl 3 (by decide) (hts (.fieldLink RX6 27 "ChildCoins" "ours" "LChildCoins$Land;") (List.mem_of_getElem? (i := 1) rfl)) (fun _ h9 => h9) rfl dX6_debt_1 ?_
  refine lv_iload_n hx hb dX6_debt_4 rfl (lv_at hl 1 rfl) ?_
  refine be_i0 (ru_N (C := RX0) (host := "ChildCoins") (As := [.int v_c]) (rest := []) ⟨hx, hb, hml, hown, hts⟩ (g_hasDebt l D cI cB cZ cN Lh La1 La2 La4 La5 La7 La8 La9 LS v_c hL0 H.size) ggX6_debt_X0_hasDebt rfl (nmX6_123 hK.2) (hts (.initialized RX0) (List.mem_of_getElem? (i := 5) rfl)) (hts (.instanceMethod yX0_hasDebt) (List.mem_of_getElem? (i := 4) rfl)) (hts (.selects RX0 yX0_hasDebt yX0_hasDebt) (List.mem_of_getElem? (i := 6) rfl)) ⟨by decide, by decide, (show Option.map (fun d => d.parameters.length) (parseMethodDescriptor yX0_hasDebt.desc) = some 1 by decide +kernel)⟩ ⟨Nat.le_of_ble_eq_true rfl, Nat.le_of_ble_eq_true rfl⟩ hK hP hD 0 3 rfl rfl [3, 4, 5, 6, 7, 8, 9, 10] (by decide) rfl hl.1 rfl (Nat.le_of_ble_eq_true rfl) dX6_debt_5 ⟨Nat.le_of_ble_eq_true rfl, Nat.le_of_ble_eq_true rfl⟩) hP hD hS hA [3, 4, 5, 6, 7, 8, 9, 10] rfl (fun r2 u1 H locs w3 hP hS => ?_)
  rcases w3 with ⟨rfl, hq4⟩ | ⟨rfl, hq4⟩
  · obtain ⟨k5, hq6, rfl⟩ := hq4
    refine nb_if_ne (tgt := 13) hx hb dX6_debt_8 (by decide) (by omega) (fun hq7 => ?_) (fun hq7 => absurd hq7 (by omega))
    refine lv_iload_n hx hb dX6_debt_13 rfl (lv_at hl 2 rfl) ?_
    rcases sw6 (v_w) with hq8 | hq8 | hq8 | hq8 | hq8 | hq8 | hq8 | hq8
    · refine set_i (y := 0) hq8 ?_
      refine lv_tableIn (tgt := 56) (off := 42) hx hb dX6_debt_14 (by decide) (by decide) (by decide) (by decide) ?_
      refine lv_aload_n hx hb dX6_debt_56 rfl (lv_at hl 0 rfl) ?_
      refine va_get (D := D) (ci := 6) (v := .ref Lh) (C := RX6) (T := TX6) (N := 14) hx hb hts in_X6_debt_6 hown hK.1 hP 0 rfl rfl 3 (by decide) (hts (.fieldLink RX6 27 "ChildCoins" "ours" "LChildCoins$Land;") (List.mem_of_getElem? (i := 1) rfl)) (fun _ h9 => h9) rfl dX6_debt_57 ?_
      refine va_getN (D := D) (ci := 0) (v := .ref La7) (C := RX0) (T := TX0) (N := 12) hx hb hts in_X6_debt_0 hown hK.1 hP 3 rfl rfl 7 (by decide) (nfX6_126 hK.2) (fun _ h9 => h9) rfl dX6_debt_60 ?_
      refine lv_iload_n hx hb dX6_debt_63 rfl (lv_at hl 1 rfl) ?_
      refine va_iald hx hb hK.1 hP 8 0 rfl rfl (vp_in_nI (n := k5) (N := 5) (by omega) (by decide)) dX6_debt_64 ?_
      refine set_i (y := nI (LS 7 k5)) (nF_ld (by omega)) ?_
      have b9 := bl7 k5
      exact en_i hx hb hr hlk hP hD hS (YS, WS) [0, 1, 2, 3, 4, 5, 6, 7, 8, 9, 10, 11, 12, 13, 14, 15, 16, 17, 18, 19, 20] (by decide) rfl (Nat.le_of_ble_eq_true rfl) (Nat.le_of_ble_eq_true rfl) dX6_debt_65 ⟨hY, hW⟩
    · refine set_i (y := 1) hq8 ?_
      refine lv_tableIn (tgt := 66) (off := 52) hx hb dX6_debt_14 (by decide) (by decide) (by decide) (by decide) ?_
      refine lv_aload_n hx hb dX6_debt_66 rfl (lv_at hl 0 rfl) ?_
      refine va_get (D := D) (ci := 6) (v := .ref Nh) (C := RX6) (T := TX6) (N := 14) hx hb hts in_X6_debt_6 hown hK.1 hP 0 rfl rfl 5 (by decide) (hts (.fieldLink RX6 37 "ChildCoins" "present" "LChildCoins$Now;") (List.mem_of_getElem? (i := 2) rfl)) (fun _ h9 => h9) rfl dX6_debt_67 ?_
      refine lv_iload_n hx hb dX6_debt_70 rfl (lv_at hl 1 rfl) ?_
      refine be_i0 (ru_N (C := RX1) (host := "ChildCoins") (As := [.int (nI k5)]) (rest := []) ⟨hx, hb, hml, hown, hts⟩ (g_creditor l D cI cB cZ cN Nh Na0 Na1 NS k5 hN (by omega) H.size) ggX6_debt_X1_creditor rfl (nmX6_129 hK.2) (hts (.initialized RX1) (List.mem_of_getElem? (i := 10) rfl)) (hts (.instanceMethod yX1_creditor) (List.mem_of_getElem? (i := 9) rfl)) (hts (.selects RX1 yX1_creditor yX1_creditor) (List.mem_of_getElem? (i := 11) rfl)) ⟨by decide, by decide, (show Option.map (fun d => d.parameters.length) (parseMethodDescriptor yX1_creditor.desc) = some 1 by decide +kernel)⟩ ⟨Nat.le_of_ble_eq_true rfl, Nat.le_of_ble_eq_true rfl⟩ hK hP hD 1 11 rfl rfl [11, 12, 13] (by decide) rfl hl.1 rfl (Nat.le_of_ble_eq_true rfl) dX6_debt_71 ⟨Nat.le_of_ble_eq_true rfl, Nat.le_of_ble_eq_true rfl⟩) hP hD hS hA [11, 12, 13] rfl (fun r11 u10 H locs w12 hP hS => ?_)
      obtain rfl : r11 = nI (NS 0 (30 + k5)) := w12
      have b13 := hN.cr (d := k5) (by omega)
      exact en_i hx hb hr hlk hP hD hS (YS, WS) [0, 1, 2, 3, 4, 5, 6, 7, 8, 9, 10, 11, 12, 13, 14, 15, 16, 17, 18, 19, 20] (by decide) rfl (Nat.le_of_ble_eq_true rfl) (Nat.le_of_ble_eq_true rfl) dX6_debt_74 ⟨hY, hW⟩
    · refine set_i (y := 2) hq8 ?_
      refine lv_tableIn (tgt := 75) (off := 61) hx hb dX6_debt_14 (by decide) (by decide) (by decide) (by decide) ?_
      refine lv_aload_n hx hb dX6_debt_75 rfl (lv_at hl 0 rfl) ?_
      refine va_get (D := D) (ci := 6) (v := .ref Lh) (C := RX6) (T := TX6) (N := 14) hx hb hts in_X6_debt_6 hown hK.1 hP 0 rfl rfl 3 (by decide) (hts (.fieldLink RX6 27 "ChildCoins" "ours" "LChildCoins$Land;") (List.mem_of_getElem? (i := 1) rfl)) (fun _ h9 => h9) rfl dX6_debt_76 ?_
      refine va_getN (D := D) (ci := 0) (v := .ref La9) (C := RX0) (T := TX0) (N := 12) hx hb hts in_X6_debt_0 hown hK.1 hP 3 rfl rfl 9 (by decide) (nfX6_132 hK.2) (fun _ h9 => h9) rfl dX6_debt_79 ?_
      refine lv_iload_n hx hb dX6_debt_82 rfl (lv_at hl 1 rfl) ?_
      refine va_iald hx hb hK.1 hP 10 0 rfl rfl (vp_in_nI (n := k5) (N := 5) (by omega) (by decide)) dX6_debt_83 ?_
      refine set_i (y := nI (LS 9 k5)) (nF_ld (by omega)) ?_
      have b14 := bl9 k5
      exact en_i hx hb hr hlk hP hD hS (YS, WS) [0, 1, 2, 3, 4, 5, 6, 7, 8, 9, 10, 11, 12, 13, 14, 15, 16, 17, 18, 19, 20] (by decide) rfl (Nat.le_of_ble_eq_true rfl) (Nat.le_of_ble_eq_true rfl) dX6_debt_84 ⟨hY, hW⟩
    · refine set_i (y := 3) hq8 ?_
      refine lv_tableIn (tgt := 85) (off := 71) hx hb dX6_debt_14 (by decide) (by decide) (by decide) (by decide) ?_
      refine lv_aload_n hx hb dX6_debt_85 rfl (lv_at hl 0 rfl) ?_
      refine va_get (D := D) (ci := 6) (v := .ref Nh) (C := RX6) (T := TX6) (N := 14) hx hb hts in_X6_debt_6 hown hK.1 hP 0 rfl rfl 5 (by decide) (hts (.fieldLink RX6 37 "ChildCoins" "present" "LChildCoins$Now;") (List.mem_of_getElem? (i := 2) rfl)) (fun _ h9 => h9) rfl dX6_debt_86 ?_
      refine lv_iload_n hx hb dX6_debt_89 rfl (lv_at hl 1 rfl) ?_
      refine be_i0 (ru_N (C := RX1) (host := "ChildCoins") (As := [.int (nI k5)]) (rest := []) ⟨hx, hb, hml, hown, hts⟩ (g_isOpen l D cI cB cZ cN Nh Na0 Na1 NS k5 hN (by omega) H.size) ggX6_debt_X1_isOpen rfl (nmX6_135 hK.2) (hts (.initialized RX1) (List.mem_of_getElem? (i := 10) rfl)) (hts (.instanceMethod yX1_isOpen) (List.mem_of_getElem? (i := 14) rfl)) (hts (.selects RX1 yX1_isOpen yX1_isOpen) (List.mem_of_getElem? (i := 15) rfl)) ⟨by decide, by decide, (show Option.map (fun d => d.parameters.length) (parseMethodDescriptor yX1_isOpen.desc) = some 1 by decide +kernel)⟩ ⟨Nat.le_of_ble_eq_true rfl, Nat.le_of_ble_eq_true rfl⟩ hK hP hD 1 11 rfl rfl [11, 12, 13] (by decide) rfl hl.1 rfl (Nat.le_of_ble_eq_true rfl) dX6_debt_90 ⟨Nat.le_of_ble_eq_true rfl, Nat.le_of_ble_eq_true rfl⟩) hP hD hS hA [11, 12, 13] rfl (fun r16 u15 H locs w17 hP hS => ?_)
      obtain rfl : r16 = nI (NS 0 35 / 2 ^ k5 % 2) := w17
      have b18 := bit_le (NS 0 35) k5
      refine nb_if_eq (tgt := 100) hx hb dX6_debt_93 (by decide) (by omega) (fun hq19 => ?_) (fun hq19 => ?_)
      · skip
        refine lv_iconst (v := nI 0) hx hb dX6_debt_100 (by decide) ?_
        exact en_i hx hb hr hlk hP hD hS (YS, WS) [0, 1, 2, 3, 4, 5, 6, 7, 8, 9, 10, 11, 12, 13, 14, 15, 16, 17, 18, 19, 20] (by decide) rfl (Nat.le_of_ble_eq_true rfl) (Nat.le_of_ble_eq_true rfl) dX6_debt_101 ⟨hY, hW⟩
      · skip
        refine lv_iconst (v := nI 1) hx hb dX6_debt_96 (by decide) ?_
        refine lv_goto (tgt := 101) hx hb dX6_debt_97 (by decide) ?_
        exact en_i hx hb hr hlk hP hD hS (YS, WS) [0, 1, 2, 3, 4, 5, 6, 7, 8, 9, 10, 11, 12, 13, 14, 15, 16, 17, 18, 19, 20] (by decide) rfl (Nat.le_of_ble_eq_true rfl) (Nat.le_of_ble_eq_true rfl) dX6_debt_101 ⟨hY, hW⟩
    · refine set_i (y := 4) hq8 ?_
      refine lv_tableIn (tgt := 102) (off := 88) hx hb dX6_debt_14 (by decide) (by decide) (by decide) (by decide) ?_
      refine lv_aload_n hx hb dX6_debt_102 rfl (lv_at hl 0 rfl) ?_
      refine lv_iload_n hx hb dX6_debt_103 rfl (lv_at hl 1 rfl) ?_
      refine be_i (free := fun _ => False) (wr := [(Wh, .inr (5, [.ref Wa0, .ref Wa1, .int (nI (WS 2 0)), .int (nI (WS 3 0))])), (Wa0, .inl (cI, 6, .inl (nF (WS 0)))), (Wa1, .inl (cI, 6, .inl (nF (WS 1))))]) (ru_V (As := [.int (nI k5)]) (rest := []) ⟨hx, hb, hml, hown, hts⟩ (g_findPayment l D cI cB cZ cN Xh Xa6 Xa11 Th Rh Mh Wh Qh Xt Ih Jh XS Lh La1 La2 La4 La5 La7 La8 La9 LS Nh Na0 Na1 NS Yh Ya0 Ya1 Ya2 YS k5 hL0 hN hY (by omega) H.size) gX6_debt_X6_findPayment rfl ⟨rfl, by decide, by decide, (show Option.map (fun d => d.parameters.length) (parseMethodDescriptor yX6_findPayment.desc) = some 1 by decide +kernel)⟩ ⟨Nat.le_of_ble_eq_true rfl, Nat.le_of_ble_eq_true rfl⟩ hK hP hD 6 0 rfl rfl [0, 1, 2, 3, 4, 5, 6, 7, 8, 9, 10, 11, 12, 13, 14, 15, 16, 17] (by decide) rfl hl.1 rfl (Nat.le_of_ble_eq_true rfl) dX6_debt_104 ⟨Nat.le_of_ble_eq_true rfl, Nat.le_of_ble_eq_true rfl⟩) hP hD hS hA [0, 1, 2, 3, 4, 5, 6, 7, 8, 9, 10, 11, 12, 13, 14, 15, 16, 17] [18, 19, 20] rfl rfl (by decide) (by decide) (fun r21 u20 H locs w22 hP hD hS => ?_)
      obtain ⟨hq23, hq24⟩ := w22
      rcases hq24 with rfl | rfl
      · skip
        obtain ⟨hP, hD⟩ : wPD D A [(Wh, .inr (5, [.ref Wa0, .ref Wa1, .int (nI (WS 2 0)), .int (nI (WS 3 0))])), (Wa0, .inl (cI, 6, .inl (nF (WS 0)))), (Wa1, .inl (cI, 6, .inl (nF (WS 1)))), (Xh, .inr (6, [.ref Th, .int (nI (XS 1 0)), .ref Rh, .ref Lh, .ref Mh, .ref Nh, .ref Xa6, .int (nI (XS 7 0)), .ref Yh, .ref Wh, .ref Qh, .ref Xa11, .int (nI (XS 12 0)), .long Xt])), (Xa6, .inl (cN, 2, .inr (.inr (.inr (.inr (va_up (va_up (fun _ => none) 0 (some Ih)) 1 (some Jh))))))), (Xa11, .inl (cI, 6, .inl (nF (XS 11)))), (Lh, .inr (0, [.int (nI (LS 0 0)), .ref La1, .ref La2, .int (nI (LS 3 0)), .ref La4, .ref La5, .int (nI (LS 6 0)), .ref La7, .ref La8, .ref La9, .int (nI (LS 10 0)), .int (nI (LS 11 0))])), (La1, .inl (cI, 6, .inl (nF (LS 1)))), (La2, .inl (cI, 6, .inl (nF (LS 2)))), (La4, .inl (cI, 5, .inl (nF (LS 4)))), (La5, .inl (cI, 30, .inl (nF (LS 5)))), (La7, .inl (cI, 5, .inl (nF (LS 7)))), (La8, .inl (cI, 5, .inl (nF (LS 8)))), (La9, .inl (cI, 5, .inl (nF (LS 9)))), (Nh, .inr (1, [.ref Na0, .ref Na1, .int (nI (NS 2 0))])), (Na0, .inl (cI, 36, .inl (nF (NS 0)))), (Na1, .inl (cI, 360, .inl (nF (NS 1)))), (Yh, .inr (2, [.ref Ya0, .ref Ya1, .ref Ya2, .int (nI (u20 3 0))])), (Ya0, .inl (cI, 6, .inl (nF (u20 0)))), (Ya1, .inl (cI, 6, .inl (nF (u20 1)))), (Ya2, .inl (cI, 427, .inl (nF (u20 2))))] H := ⟨hP, hD⟩
        refine nb_if_eq (tgt := 120) hx hb dX6_debt_107 (by decide) (by omega) (fun hq25 => ?_) (fun hq25 => absurd hq25 (by omega))
        refine lv_bipush (v := -9) hx hb dX6_debt_120 (by decide) ?_
        exact en_i hx hb hr hlk hP hD hS (u20, WS) [3, 4, 5, 6, 7, 8, 9, 10, 11, 12, 13, 14, 15, 16, 17, 18, 19, 20, 0, 1, 2] (by decide) rfl (Nat.le_of_ble_eq_true rfl) (Nat.le_of_ble_eq_true rfl) dX6_debt_122 ⟨hq23, hW⟩
      · skip
        obtain ⟨hP, hD⟩ : wPD D A [(Wh, .inr (5, [.ref Wa0, .ref Wa1, .int (nI (WS 2 0)), .int (nI (WS 3 0))])), (Wa0, .inl (cI, 6, .inl (nF (WS 0)))), (Wa1, .inl (cI, 6, .inl (nF (WS 1)))), (Xh, .inr (6, [.ref Th, .int (nI (XS 1 0)), .ref Rh, .ref Lh, .ref Mh, .ref Nh, .ref Xa6, .int (nI (XS 7 0)), .ref Yh, .ref Wh, .ref Qh, .ref Xa11, .int (nI (XS 12 0)), .long Xt])), (Xa6, .inl (cN, 2, .inr (.inr (.inr (.inr (va_up (va_up (fun _ => none) 0 (some Ih)) 1 (some Jh))))))), (Xa11, .inl (cI, 6, .inl (nF (XS 11)))), (Lh, .inr (0, [.int (nI (LS 0 0)), .ref La1, .ref La2, .int (nI (LS 3 0)), .ref La4, .ref La5, .int (nI (LS 6 0)), .ref La7, .ref La8, .ref La9, .int (nI (LS 10 0)), .int (nI (LS 11 0))])), (La1, .inl (cI, 6, .inl (nF (LS 1)))), (La2, .inl (cI, 6, .inl (nF (LS 2)))), (La4, .inl (cI, 5, .inl (nF (LS 4)))), (La5, .inl (cI, 30, .inl (nF (LS 5)))), (La7, .inl (cI, 5, .inl (nF (LS 7)))), (La8, .inl (cI, 5, .inl (nF (LS 8)))), (La9, .inl (cI, 5, .inl (nF (LS 9)))), (Nh, .inr (1, [.ref Na0, .ref Na1, .int (nI (NS 2 0))])), (Na0, .inl (cI, 36, .inl (nF (NS 0)))), (Na1, .inl (cI, 360, .inl (nF (NS 1)))), (Yh, .inr (2, [.ref Ya0, .ref Ya1, .ref Ya2, .int (nI (u20 3 0))])), (Ya0, .inl (cI, 6, .inl (nF (u20 0)))), (Ya1, .inl (cI, 6, .inl (nF (u20 1)))), (Ya2, .inl (cI, 427, .inl (nF (u20 2))))] H := ⟨hP, hD⟩
        refine nb_if_eq (tgt := 120) hx hb dX6_debt_107 (by decide) (by omega) (fun hq26 => absurd hq26 (by omega)) (fun hq26 => ?_)
        refine lv_aload_n hx hb dX6_debt_110 rfl (lv_at hl 0 rfl) ?_
        refine va_get (D := D) (ci := 6) (v := .ref Yh) (C := RX6) (T := TX6) (N := 14) hx hb hts in_X6_debt_6 hown hK.1 hP 3 rfl rfl 8 (by decide) (hts (.fieldLink RX6 51 "ChildCoins" "payment" "LChildCoins$Payment;") (List.mem_of_getElem? (i := 3) rfl)) (fun _ h9 => h9) rfl dX6_debt_111 ?_
        refine va_getN (D := D) (ci := 2) (v := .int (nI (u20 3 0))) (C := RX2) (T := TX2) (N := 4) hx hb hts in_X6_debt_2 hown hK.1 hP 17 rfl rfl 3 (by decide) (nfX6_141 hK.2) (fun _ h9 => h9) rfl dX6_debt_114 ?_
        refine lv_goto (tgt := 122) hx hb dX6_debt_117 (by decide) ?_
        exact en_i hx hb hr hlk hP hD hS (u20, WS) [3, 4, 5, 6, 7, 8, 9, 10, 11, 12, 13, 14, 15, 16, 17, 18, 19, 20, 0, 1, 2] (by decide) rfl (Nat.le_of_ble_eq_true rfl) (Nat.le_of_ble_eq_true rfl) dX6_debt_122 ⟨hq23, hW⟩
    · refine set_i (y := 5) hq8 ?_
      refine lv_tableIn (tgt := 123) (off := 109) hx hb dX6_debt_14 (by decide) (by decide) (by decide) (by decide) ?_
      refine lv_aload_n hx hb dX6_debt_123 rfl (lv_at hl 0 rfl) ?_
      refine lv_iload_n hx hb dX6_debt_124 rfl (lv_at hl 1 rfl) ?_
      refine be_i (free := fun _ => False) (wr := [(Yh, .inr (2, [.ref Ya0, .ref Ya1, .ref Ya2, .int (nI (YS 3 0))])), (Ya0, .inl (cI, 6, .inl (nF (YS 0)))), (Ya1, .inl (cI, 6, .inl (nF (YS 1)))), (Ya2, .inl (cI, 427, .inl (nF (YS 2))))]) (ru_V (As := [.int (nI k5)]) (rest := []) ⟨hx, hb, hml, hown, hts⟩ (g_worldPays l D cI cB cZ cN Xh Xa6 Xa11 Th Rh Mh Yh Qh Xt Ih Jh XS Lh La1 La2 La4 La5 La7 La8 La9 LS Nh Na0 Na1 NS Wh Wa0 Wa1 WS k5 hL0 hN hW (by omega) H.size) gX6_debt_X6_worldPays rfl ⟨rfl, by decide, by decide, (show Option.map (fun d => d.parameters.length) (parseMethodDescriptor yX6_worldPays.desc) = some 1 by decide +kernel)⟩ ⟨Nat.le_of_ble_eq_true rfl, Nat.le_of_ble_eq_true rfl⟩ hK hP hD 6 0 rfl rfl [0, 1, 2, 3, 4, 5, 6, 7, 8, 9, 10, 11, 12, 13, 18, 19, 20] (by decide) rfl hl.1 rfl (Nat.le_of_ble_eq_true rfl) dX6_debt_125 ⟨Nat.le_of_ble_eq_true rfl, Nat.le_of_ble_eq_true rfl⟩) hP hD hS hA [0, 1, 2, 3, 4, 5, 6, 7, 8, 9, 10, 11, 12, 13, 18, 19, 20] [14, 15, 16, 17] rfl rfl (by decide) (by decide) (fun r28 u27 H locs w29 hP hD hS => ?_)
      obtain ⟨hq30, hq31⟩ := w29
      rcases hq31 with rfl | rfl
      · skip
        obtain ⟨hP, hD⟩ : wPD D A [(Yh, .inr (2, [.ref Ya0, .ref Ya1, .ref Ya2, .int (nI (YS 3 0))])), (Ya0, .inl (cI, 6, .inl (nF (YS 0)))), (Ya1, .inl (cI, 6, .inl (nF (YS 1)))), (Ya2, .inl (cI, 427, .inl (nF (YS 2)))), (Xh, .inr (6, [.ref Th, .int (nI (XS 1 0)), .ref Rh, .ref Lh, .ref Mh, .ref Nh, .ref Xa6, .int (nI (XS 7 0)), .ref Yh, .ref Wh, .ref Qh, .ref Xa11, .int (nI (XS 12 0)), .long Xt])), (Xa6, .inl (cN, 2, .inr (.inr (.inr (.inr (va_up (va_up (fun _ => none) 0 (some Ih)) 1 (some Jh))))))), (Xa11, .inl (cI, 6, .inl (nF (XS 11)))), (Lh, .inr (0, [.int (nI (LS 0 0)), .ref La1, .ref La2, .int (nI (LS 3 0)), .ref La4, .ref La5, .int (nI (LS 6 0)), .ref La7, .ref La8, .ref La9, .int (nI (LS 10 0)), .int (nI (LS 11 0))])), (La1, .inl (cI, 6, .inl (nF (LS 1)))), (La2, .inl (cI, 6, .inl (nF (LS 2)))), (La4, .inl (cI, 5, .inl (nF (LS 4)))), (La5, .inl (cI, 30, .inl (nF (LS 5)))), (La7, .inl (cI, 5, .inl (nF (LS 7)))), (La8, .inl (cI, 5, .inl (nF (LS 8)))), (La9, .inl (cI, 5, .inl (nF (LS 9)))), (Nh, .inr (1, [.ref Na0, .ref Na1, .int (nI (NS 2 0))])), (Na0, .inl (cI, 36, .inl (nF (NS 0)))), (Na1, .inl (cI, 360, .inl (nF (NS 1)))), (Wh, .inr (5, [.ref Wa0, .ref Wa1, .int (nI (u27 2 0)), .int (nI (u27 3 0))])), (Wa0, .inl (cI, 6, .inl (nF (u27 0)))), (Wa1, .inl (cI, 6, .inl (nF (u27 1))))] H := ⟨hP, hD⟩
        refine nb_if_eq (tgt := 135) hx hb dX6_debt_128 (by decide) (by omega) (fun hq32 => ?_) (fun hq32 => absurd hq32 (by omega))
        refine lv_iconst (v := nI 0) hx hb dX6_debt_135 (by decide) ?_
        exact en_i hx hb hr hlk hP hD hS (YS, u27) [4, 5, 6, 7, 8, 9, 10, 11, 12, 13, 14, 15, 16, 17, 0, 1, 2, 3, 18, 19, 20] (by decide) rfl (Nat.le_of_ble_eq_true rfl) (Nat.le_of_ble_eq_true rfl) dX6_debt_136 ⟨hY, hq30⟩
      · skip
        obtain ⟨hP, hD⟩ : wPD D A [(Yh, .inr (2, [.ref Ya0, .ref Ya1, .ref Ya2, .int (nI (YS 3 0))])), (Ya0, .inl (cI, 6, .inl (nF (YS 0)))), (Ya1, .inl (cI, 6, .inl (nF (YS 1)))), (Ya2, .inl (cI, 427, .inl (nF (YS 2)))), (Xh, .inr (6, [.ref Th, .int (nI (XS 1 0)), .ref Rh, .ref Lh, .ref Mh, .ref Nh, .ref Xa6, .int (nI (XS 7 0)), .ref Yh, .ref Wh, .ref Qh, .ref Xa11, .int (nI (XS 12 0)), .long Xt])), (Xa6, .inl (cN, 2, .inr (.inr (.inr (.inr (va_up (va_up (fun _ => none) 0 (some Ih)) 1 (some Jh))))))), (Xa11, .inl (cI, 6, .inl (nF (XS 11)))), (Lh, .inr (0, [.int (nI (LS 0 0)), .ref La1, .ref La2, .int (nI (LS 3 0)), .ref La4, .ref La5, .int (nI (LS 6 0)), .ref La7, .ref La8, .ref La9, .int (nI (LS 10 0)), .int (nI (LS 11 0))])), (La1, .inl (cI, 6, .inl (nF (LS 1)))), (La2, .inl (cI, 6, .inl (nF (LS 2)))), (La4, .inl (cI, 5, .inl (nF (LS 4)))), (La5, .inl (cI, 30, .inl (nF (LS 5)))), (La7, .inl (cI, 5, .inl (nF (LS 7)))), (La8, .inl (cI, 5, .inl (nF (LS 8)))), (La9, .inl (cI, 5, .inl (nF (LS 9)))), (Nh, .inr (1, [.ref Na0, .ref Na1, .int (nI (NS 2 0))])), (Na0, .inl (cI, 36, .inl (nF (NS 0)))), (Na1, .inl (cI, 360, .inl (nF (NS 1)))), (Wh, .inr (5, [.ref Wa0, .ref Wa1, .int (nI (u27 2 0)), .int (nI (u27 3 0))])), (Wa0, .inl (cI, 6, .inl (nF (u27 0)))), (Wa1, .inl (cI, 6, .inl (nF (u27 1))))] H := ⟨hP, hD⟩
        refine nb_if_eq (tgt := 135) hx hb dX6_debt_128 (by decide) (by omega) (fun hq33 => absurd hq33 (by omega)) (fun hq33 => ?_)
        refine lv_iconst (v := nI 1) hx hb dX6_debt_131 (by decide) ?_
        refine lv_goto (tgt := 136) hx hb dX6_debt_132 (by decide) ?_
        exact en_i hx hb hr hlk hP hD hS (YS, u27) [4, 5, 6, 7, 8, 9, 10, 11, 12, 13, 14, 15, 16, 17, 0, 1, 2, 3, 18, 19, 20] (by decide) rfl (Nat.le_of_ble_eq_true rfl) (Nat.le_of_ble_eq_true rfl) dX6_debt_136 ⟨hY, hq30⟩
    · refine set_i (y := 6) hq8 ?_
      refine lv_tableIn (tgt := 137) (off := 123) hx hb dX6_debt_14 (by decide) (by decide) (by decide) (by decide) ?_
      refine lv_aload_n hx hb dX6_debt_137 rfl (lv_at hl 0 rfl) ?_
      refine lv_iload_n hx hb dX6_debt_138 rfl (lv_at hl 1 rfl) ?_
      refine be_i (free := fun _ => False) (wr := [(Wh, .inr (5, [.ref Wa0, .ref Wa1, .int (nI (WS 2 0)), .int (nI (WS 3 0))])), (Wa0, .inl (cI, 6, .inl (nF (WS 0)))), (Wa1, .inl (cI, 6, .inl (nF (WS 1))))]) (ru_V (As := [.int (nI k5)]) (rest := []) ⟨hx, hb, hml, hown, hts⟩ (g_heirs l D cI cB cZ cN Xh Xa6 Xa11 Th Rh Mh Wh Qh Xt Ih Jh XS Lh La1 La2 La4 La5 La7 La8 La9 LS Nh Na0 Na1 NS Yh Ya0 Ya1 Ya2 YS k5 hL0 hN hY (by omega) H.size) gX6_debt_X6_heirs rfl ⟨rfl, by decide, by decide, (show Option.map (fun d => d.parameters.length) (parseMethodDescriptor yX6_heirs.desc) = some 1 by decide +kernel)⟩ ⟨Nat.le_of_ble_eq_true rfl, Nat.le_of_ble_eq_true rfl⟩ hK hP hD 6 0 rfl rfl [0, 1, 2, 3, 4, 5, 6, 7, 8, 9, 10, 11, 12, 13, 14, 15, 16, 17] (by decide) rfl hl.1 rfl (Nat.le_of_ble_eq_true rfl) dX6_debt_139 ⟨Nat.le_of_ble_eq_true rfl, Nat.le_of_ble_eq_true rfl⟩) hP hD hS hA [0, 1, 2, 3, 4, 5, 6, 7, 8, 9, 10, 11, 12, 13, 14, 15, 16, 17] [18, 19, 20] rfl rfl (by decide) (by decide) (fun r35 u34 H locs w36 hP hD hS => ?_)
      have hq37 := w36
      obtain ⟨hP, hD⟩ : wPD D A [(Wh, .inr (5, [.ref Wa0, .ref Wa1, .int (nI (WS 2 0)), .int (nI (WS 3 0))])), (Wa0, .inl (cI, 6, .inl (nF (WS 0)))), (Wa1, .inl (cI, 6, .inl (nF (WS 1)))), (Xh, .inr (6, [.ref Th, .int (nI (XS 1 0)), .ref Rh, .ref Lh, .ref Mh, .ref Nh, .ref Xa6, .int (nI (XS 7 0)), .ref Yh, .ref Wh, .ref Qh, .ref Xa11, .int (nI (XS 12 0)), .long Xt])), (Xa6, .inl (cN, 2, .inr (.inr (.inr (.inr (va_up (va_up (fun _ => none) 0 (some Ih)) 1 (some Jh))))))), (Xa11, .inl (cI, 6, .inl (nF (XS 11)))), (Lh, .inr (0, [.int (nI (LS 0 0)), .ref La1, .ref La2, .int (nI (LS 3 0)), .ref La4, .ref La5, .int (nI (LS 6 0)), .ref La7, .ref La8, .ref La9, .int (nI (LS 10 0)), .int (nI (LS 11 0))])), (La1, .inl (cI, 6, .inl (nF (LS 1)))), (La2, .inl (cI, 6, .inl (nF (LS 2)))), (La4, .inl (cI, 5, .inl (nF (LS 4)))), (La5, .inl (cI, 30, .inl (nF (LS 5)))), (La7, .inl (cI, 5, .inl (nF (LS 7)))), (La8, .inl (cI, 5, .inl (nF (LS 8)))), (La9, .inl (cI, 5, .inl (nF (LS 9)))), (Nh, .inr (1, [.ref Na0, .ref Na1, .int (nI (NS 2 0))])), (Na0, .inl (cI, 36, .inl (nF (NS 0)))), (Na1, .inl (cI, 360, .inl (nF (NS 1)))), (Yh, .inr (2, [.ref Ya0, .ref Ya1, .ref Ya2, .int (nI (u34 3 0))])), (Ya0, .inl (cI, 6, .inl (nF (u34 0)))), (Ya1, .inl (cI, 6, .inl (nF (u34 1)))), (Ya2, .inl (cI, 427, .inl (nF (u34 2))))] H := ⟨hP, hD⟩
      exact en_i hx hb hr hlk hP hD hS (u34, WS) [3, 4, 5, 6, 7, 8, 9, 10, 11, 12, 13, 14, 15, 16, 17, 18, 19, 20, 0, 1, 2] (by decide) rfl (Nat.le_of_ble_eq_true rfl) (Nat.le_of_ble_eq_true rfl) dX6_debt_142 ⟨hq37, hW⟩
    · refine lv_tableOut (tgt := 143) hx hb dX6_debt_14 hq8 (by decide) ?_
      refine lv_iconst (v := -1) hx hb dX6_debt_143 (by decide) ?_
      exact en_i hx hb hr hlk hP hD hS (YS, WS) [0, 1, 2, 3, 4, 5, 6, 7, 8, 9, 10, 11, 12, 13, 14, 15, 16, 17, 18, 19, 20] (by decide) rfl (Nat.le_of_ble_eq_true rfl) (Nat.le_of_ble_eq_true rfl) dX6_debt_144 ⟨hY, hW⟩
  · skip
    refine nb_if_ne (tgt := 13) hx hb dX6_debt_8 (by decide) (by omega) (fun hq38 => absurd hq38 (by omega)) (fun hq38 => ?_)
    refine lv_iconst (v := -1) hx hb dX6_debt_11 (by decide) ?_
    exact en_i hx hb hr hlk hP hD hS (YS, WS) [0, 1, 2, 3, 4, 5, 6, 7, 8, 9, 10, 11, 12, 13, 14, 15, 16, 17, 18, 19, 20] (by decide) rfl (Nat.le_of_ble_eq_true rfl) (Nat.le_of_ble_eq_true rfl) dX6_debt_12 ⟨hY, hW⟩
set_option maxRecDepth 20000 in
theorem dAX6_now : decA cX6_now [(0, .iload_n 1, 1), (1, .tableswitch 54 0 3 #[31, 39, 44, 49], 31), (32, .aload_n 0, 1), (33, .getfield 37, 3), (36, .invokevirtual 178, 3), (39, .ireturn, 1), (40, .aload_n 0, 1), (41, .invokevirtual 182, 3), (44, .ireturn, 1), (45, .aload_n 0, 1), (46, .invokevirtual 185, 3), (49, .ireturn, 1), (50, .aload_n 0, 1), (51, .invokevirtual 188, 3), (54, .ireturn, 1), (55, .iconst (-1), 1), (56, .ireturn, 1)] = true := by decide +kernel
theorem dX6_now_0 : decode cX6_now 0 = .ok (.iload_n 1, 1) := decA_get dAX6_now 0 rfl
theorem dX6_now_1 : decode cX6_now 1 = .ok (.tableswitch 54 0 3 #[31, 39, 44, 49], 31) := decA_get dAX6_now 1 rfl
theorem dX6_now_32 : decode cX6_now 32 = .ok (.aload_n 0, 1) := decA_get dAX6_now 2 rfl
theorem dX6_now_33 : decode cX6_now 33 = .ok (.getfield 37, 3) := decA_get dAX6_now 3 rfl
theorem in_X6_now_6 : ∀ w ∈ wsX60, w ∈ wsX6_now := fun w h => (gd_ids wi_X6_now wm_X6_now wi_X60 (by decide +kernel) w h).1
theorem dX6_now_36 : decode cX6_now 36 = .ok (.invokevirtual 178, 3) := decA_get dAX6_now 4 rfl
set_option maxRecDepth 20000 in
theorem ggX6_now_X1_openBits : GoodIn wsX6_now wsX1_openBits := gd_ids wi_X6_now wm_X6_now wi_X1_openBits (by decide +kernel)
theorem dX6_now_39 : decode cX6_now 39 = .ok (.ireturn, 1) := decA_get dAX6_now 5 rfl
theorem dX6_now_40 : decode cX6_now 40 = .ok (.aload_n 0, 1) := decA_get dAX6_now 6 rfl
theorem dX6_now_41 : decode cX6_now 41 = .ok (.invokevirtual 182, 3) := decA_get dAX6_now 7 rfl
set_option maxRecDepth 20000 in
theorem ggX6_now_X6_helpless : GoodIn wsX6_now wsX6_helpless := gd_ids wi_X6_now wm_X6_now wi_X6_helpless (by decide +kernel)
set_option maxRecDepth 20000 in
theorem gX6_now_X6_helpless : GoodIn wsX6_now (wsV RX6 182 RX6 yX6_helpless wsX6_helpless) := goodIn_app (gd_ids wi_X6_now wm_X6_now (b := [378, 379, 380, 344]) rfl (by decide +kernel)) ggX6_now_X6_helpless
theorem dX6_now_44 : decode cX6_now 44 = .ok (.ireturn, 1) := decA_get dAX6_now 8 rfl
theorem dX6_now_45 : decode cX6_now 45 = .ok (.aload_n 0, 1) := decA_get dAX6_now 9 rfl
theorem dX6_now_46 : decode cX6_now 46 = .ok (.invokevirtual 185, 3) := decA_get dAX6_now 10 rfl
set_option maxRecDepth 20000 in
theorem ggX6_now_X6_allWealth : GoodIn wsX6_now wsX6_allWealth := gd_ids wi_X6_now wm_X6_now wi_X6_allWealth (by decide +kernel)
set_option maxRecDepth 20000 in
theorem gX6_now_X6_allWealth : GoodIn wsX6_now (wsV RX6 185 RX6 yX6_allWealth wsX6_allWealth) := goodIn_app (gd_ids wi_X6_now wm_X6_now (b := [381, 382, 383, 344]) rfl (by decide +kernel)) ggX6_now_X6_allWealth
theorem dX6_now_49 : decode cX6_now 49 = .ok (.ireturn, 1) := decA_get dAX6_now 11 rfl
theorem dX6_now_50 : decode cX6_now 50 = .ok (.aload_n 0, 1) := decA_get dAX6_now 12 rfl
theorem dX6_now_51 : decode cX6_now 51 = .ok (.invokevirtual 188, 3) := decA_get dAX6_now 13 rfl
set_option maxRecDepth 20000 in
theorem ggX6_now_X6_openSums : GoodIn wsX6_now wsX6_openSums := gd_ids wi_X6_now wm_X6_now wi_X6_openSums (by decide +kernel)
set_option maxRecDepth 20000 in
theorem gX6_now_X6_openSums : GoodIn wsX6_now (wsV RX6 188 RX6 yX6_openSums wsX6_openSums) := goodIn_app (gd_ids wi_X6_now wm_X6_now (b := [384, 385, 386, 344]) rfl (by decide +kernel)) ggX6_now_X6_openSums
theorem dX6_now_54 : decode cX6_now 54 = .ok (.ireturn, 1) := decA_get dAX6_now 14 rfl
theorem dX6_now_55 : decode cX6_now 55 = .ok (.iconst (-1), 1) := decA_get dAX6_now 15 rfl
theorem dX6_now_56 : decode cX6_now 56 = .ok (.ireturn, 1) := decA_get dAX6_now 16 rfl
set_option maxRecDepth 20000 in
theorem dAX6_pieces : decA cX6_pieces [(0, .aload_n 0, 1), (1, .getfield 27, 3), (4, .iload_n 1, 1), (5, .invokevirtual 123, 3), (8, .ifCond .eq 14, 3), (11, .aload_n 0, 1), (12, .getfield 27, 3), (15, .iload_n 2, 1), (16, .invokevirtual 87, 3), (19, .ifCond .ne 5, 3), (22, .iconst (-1), 1), (23, .ireturn, 1), (24, .aload_n 0, 1), (25, .iload_n 1, 1), (26, .invokevirtual 138, 3), (29, .ifCond .eq 15, 3), (32, .aload_n 0, 1), (33, .getfield 51, 3), (36, .getfield 157, 3), (39, .iload_n 2, 1), (40, .iaload, 1), (41, .goto 5, 3), (44, .bipush (-9), 2), (46, .ireturn, 1)] = true := by decide +kernel
theorem dX6_pieces_0 : decode cX6_pieces 0 = .ok (.aload_n 0, 1) := decA_get dAX6_pieces 0 rfl
theorem dX6_pieces_1 : decode cX6_pieces 1 = .ok (.getfield 27, 3) := decA_get dAX6_pieces 1 rfl
theorem in_X6_pieces_6 : ∀ w ∈ wsX60, w ∈ wsX6_pieces := fun w h => (gd_ids wi_X6_pieces wm_X6_pieces wi_X60 (by decide +kernel) w h).1
theorem dX6_pieces_4 : decode cX6_pieces 4 = .ok (.iload_n 1, 1) := decA_get dAX6_pieces 2 rfl
theorem dX6_pieces_5 : decode cX6_pieces 5 = .ok (.invokevirtual 123, 3) := decA_get dAX6_pieces 3 rfl
set_option maxRecDepth 20000 in
theorem ggX6_pieces_X0_hasDebt : GoodIn wsX6_pieces wsX0_hasDebt := gd_ids wi_X6_pieces wm_X6_pieces wi_X0_hasDebt (by decide +kernel)
theorem dX6_pieces_8 : decode cX6_pieces 8 = .ok (.ifCond .eq 14, 3) := decA_get dAX6_pieces 4 rfl
theorem dX6_pieces_11 : decode cX6_pieces 11 = .ok (.aload_n 0, 1) := decA_get dAX6_pieces 5 rfl
theorem dX6_pieces_12 : decode cX6_pieces 12 = .ok (.getfield 27, 3) := decA_get dAX6_pieces 6 rfl
theorem dX6_pieces_15 : decode cX6_pieces 15 = .ok (.iload_n 2, 1) := decA_get dAX6_pieces 7 rfl
theorem dX6_pieces_16 : decode cX6_pieces 16 = .ok (.invokevirtual 87, 3) := decA_get dAX6_pieces 8 rfl
set_option maxRecDepth 20000 in
theorem ggX6_pieces_X0_hasCoin : GoodIn wsX6_pieces wsX0_hasCoin := gd_ids wi_X6_pieces wm_X6_pieces wi_X0_hasCoin (by decide +kernel)
theorem dX6_pieces_19 : decode cX6_pieces 19 = .ok (.ifCond .ne 5, 3) := decA_get dAX6_pieces 9 rfl
theorem dX6_pieces_24 : decode cX6_pieces 24 = .ok (.aload_n 0, 1) := decA_get dAX6_pieces 12 rfl
theorem dX6_pieces_25 : decode cX6_pieces 25 = .ok (.iload_n 1, 1) := decA_get dAX6_pieces 13 rfl
theorem dX6_pieces_26 : decode cX6_pieces 26 = .ok (.invokevirtual 138, 3) := decA_get dAX6_pieces 14 rfl
set_option maxRecDepth 20000 in
theorem ggX6_pieces_X6_findPayment : GoodIn wsX6_pieces wsX6_findPayment := gd_ids wi_X6_pieces wm_X6_pieces wi_X6_findPayment (by decide +kernel)
set_option maxRecDepth 20000 in
theorem gX6_pieces_X6_findPayment : GoodIn wsX6_pieces (wsV RX6 138 RX6 yX6_findPayment wsX6_findPayment) := goodIn_app (gd_ids wi_X6_pieces wm_X6_pieces (b := [357, 358, 359, 344]) rfl (by decide +kernel)) ggX6_pieces_X6_findPayment
theorem dX6_pieces_29 : decode cX6_pieces 29 = .ok (.ifCond .eq 15, 3) := decA_get dAX6_pieces 15 rfl
theorem dX6_pieces_44 : decode cX6_pieces 44 = .ok (.bipush (-9), 2) := decA_get dAX6_pieces 22 rfl
theorem dX6_pieces_46 : decode cX6_pieces 46 = .ok (.ireturn, 1) := decA_get dAX6_pieces 23 rfl
theorem dX6_pieces_32 : decode cX6_pieces 32 = .ok (.aload_n 0, 1) := decA_get dAX6_pieces 16 rfl
theorem dX6_pieces_33 : decode cX6_pieces 33 = .ok (.getfield 51, 3) := decA_get dAX6_pieces 17 rfl
theorem dX6_pieces_36 : decode cX6_pieces 36 = .ok (.getfield 157, 3) := decA_get dAX6_pieces 18 rfl
theorem in_X6_pieces_2 : ∀ w ∈ wsX20, w ∈ wsX6_pieces := fun w h => (gd_ids wi_X6_pieces wm_X6_pieces wi_X20 (by decide +kernel) w h).1
theorem dX6_pieces_39 : decode cX6_pieces 39 = .ok (.iload_n 2, 1) := decA_get dAX6_pieces 19 rfl
theorem dX6_pieces_40 : decode cX6_pieces 40 = .ok (.iaload, 1) := decA_get dAX6_pieces 20 rfl
theorem dX6_pieces_41 : decode cX6_pieces 41 = .ok (.goto 5, 3) := decA_get dAX6_pieces 21 rfl
theorem dX6_pieces_22 : decode cX6_pieces 22 = .ok (.iconst (-1), 1) := decA_get dAX6_pieces 10 rfl
theorem dX6_pieces_23 : decode cX6_pieces 23 = .ok (.ireturn, 1) := decA_get dAX6_pieces 11 rfl
set_option maxRecDepth 20000 in
theorem dAX6_corner : decA cX6_corner [(0, .aload_n 0, 1), (1, .getfield 27, 3), (4, .iload_n 1, 1), (5, .invokevirtual 123, 3), (8, .ifCond .ne 5, 3), (11, .iconst (-1), 1), (12, .ireturn, 1), (13, .aload_n 0, 1), (14, .getfield 58, 3), (17, .aload_n 0, 1), (18, .getfield 27, 3), (21, .aload_n 0, 1), (22, .getfield 37, 3), (25, .iload_n 1, 1), (26, .invokevirtual 207, 3), (29, .aload_n 0, 1), (30, .getfield 58, 3), (33, .invokevirtual 211, 3), (36, .ireturn, 1)] = true := by decide +kernel
theorem dX6_corner_0 : decode cX6_corner 0 = .ok (.aload_n 0, 1) := decA_get dAX6_corner 0 rfl
theorem dX6_corner_1 : decode cX6_corner 1 = .ok (.getfield 27, 3) := decA_get dAX6_corner 1 rfl
theorem in_X6_corner_6 : ∀ w ∈ wsX60, w ∈ wsX6_corner := fun w h => (gd_ids wi_X6_corner wm_X6_corner wi_X60 (by decide +kernel) w h).1
theorem dX6_corner_4 : decode cX6_corner 4 = .ok (.iload_n 1, 1) := decA_get dAX6_corner 2 rfl
theorem dX6_corner_5 : decode cX6_corner 5 = .ok (.invokevirtual 123, 3) := decA_get dAX6_corner 3 rfl
set_option maxRecDepth 20000 in
theorem ggX6_corner_X0_hasDebt : GoodIn wsX6_corner wsX0_hasDebt := gd_ids wi_X6_corner wm_X6_corner wi_X0_hasDebt (by decide +kernel)
theorem dX6_corner_8 : decode cX6_corner 8 = .ok (.ifCond .ne 5, 3) := decA_get dAX6_corner 4 rfl
theorem dX6_corner_13 : decode cX6_corner 13 = .ok (.aload_n 0, 1) := decA_get dAX6_corner 7 rfl
theorem dX6_corner_14 : decode cX6_corner 14 = .ok (.getfield 58, 3) := decA_get dAX6_corner 8 rfl
theorem dX6_corner_17 : decode cX6_corner 17 = .ok (.aload_n 0, 1) := decA_get dAX6_corner 9 rfl
theorem dX6_corner_18 : decode cX6_corner 18 = .ok (.getfield 27, 3) := decA_get dAX6_corner 10 rfl
theorem dX6_corner_21 : decode cX6_corner 21 = .ok (.aload_n 0, 1) := decA_get dAX6_corner 11 rfl
theorem dX6_corner_22 : decode cX6_corner 22 = .ok (.getfield 37, 3) := decA_get dAX6_corner 12 rfl
theorem dX6_corner_25 : decode cX6_corner 25 = .ok (.iload_n 1, 1) := decA_get dAX6_corner 13 rfl
theorem dX6_corner_26 : decode cX6_corner 26 = .ok (.invokevirtual 207, 3) := decA_get dAX6_corner 14 rfl
set_option maxRecDepth 20000 in
theorem ggX6_corner_X5_gather : GoodIn wsX6_corner wsX5_gather := gd_ids wi_X6_corner wm_X6_corner wi_X5_gather (by decide +kernel)
theorem dX6_corner_29 : decode cX6_corner 29 = .ok (.aload_n 0, 1) := decA_get dAX6_corner 15 rfl
theorem dX6_corner_30 : decode cX6_corner 30 = .ok (.getfield 58, 3) := decA_get dAX6_corner 16 rfl
theorem dX6_corner_33 : decode cX6_corner 33 = .ok (.invokevirtual 211, 3) := decA_get dAX6_corner 17 rfl
set_option maxRecDepth 20000 in
theorem ggX6_corner_X5_fewestKindsToCorner : GoodIn wsX6_corner wsX5_fewestKindsToCorner := gd_ids wi_X6_corner wm_X6_corner wi_X5_fewestKindsToCorner (by decide +kernel)
theorem dX6_corner_36 : decode cX6_corner 36 = .ok (.ireturn, 1) := decA_get dAX6_corner 18 rfl
theorem dX6_corner_11 : decode cX6_corner 11 = .ok (.iconst (-1), 1) := decA_get dAX6_corner 5 rfl
theorem dX6_corner_12 : decode cX6_corner 12 = .ok (.ireturn, 1) := decA_get dAX6_corner 6 rfl
set_option maxRecDepth 20000 in
theorem dAX6_odds : decA cX6_odds [(0, .aload_n 0, 1), (1, .getfield 27, 3), (4, .iload_n 1, 1), (5, .invokevirtual 123, 3), (8, .ifCond .eq 22, 3), (11, .iload_n 2, 1), (12, .ifCond .lt 18, 3), (15, .iload_n 2, 1), (16, .bipush 10, 2), (18, .if_icmp .gt 12, 3), (21, .iload_n 3, 1), (22, .ifCond .lt 8, 3), (25, .iload_n 3, 1), (26, .iconst 1, 1), (27, .if_icmp .le 5, 3), (30, .iconst (-1), 1), (31, .ireturn, 1), (32, .aload_n 0, 1), (33, .getfield 58, 3), (36, .aload_n 0, 1), (37, .getfield 27, 3), (40, .aload_n 0, 1), (41, .getfield 37, 3), (44, .iload_n 1, 1), (45, .invokevirtual 207, 3), (48, .aload_n 0, 1), (49, .getfield 58, 3), (52, .iload_n 2, 1), (53, .invokevirtual 214, 3), (56, .istore 4, 2), (58, .aload_n 0, 1), (59, .getfield 58, 3), (62, .invokevirtual 217, 3), (65, .istore 5, 2), (67, .iload 4, 2), (69, .iload 5, 2), (71, .invokestatic 220, 3), (74, .istore 6, 2), (76, .iload 6, 2), (78, .iconst 1, 1), (79, .if_icmp .ge 5, 3), (82, .iconst (-1), 1), (83, .ireturn, 1), (84, .iload_n 3, 1), (85, .ifCond .ne 8, 3), (88, .iload 4, 2), (90, .goto 5, 3), (93, .iload 5, 2), (95, .iload 6, 2), (97, .idiv, 1), (98, .ireturn, 1)] = true := by decide +kernel
theorem dX6_odds_0 : decode cX6_odds 0 = .ok (.aload_n 0, 1) := decA_get dAX6_odds 0 rfl
theorem dX6_odds_1 : decode cX6_odds 1 = .ok (.getfield 27, 3) := decA_get dAX6_odds 1 rfl
theorem in_X6_odds_6 : ∀ w ∈ wsX60, w ∈ wsX6_odds := fun w h => (gd_ids wi_X6_odds wm_X6_odds wi_X60 (by decide +kernel) w h).1
theorem dX6_odds_4 : decode cX6_odds 4 = .ok (.iload_n 1, 1) := decA_get dAX6_odds 2 rfl
theorem dX6_odds_5 : decode cX6_odds 5 = .ok (.invokevirtual 123, 3) := decA_get dAX6_odds 3 rfl
set_option maxRecDepth 20000 in
theorem ggX6_odds_X0_hasDebt : GoodIn wsX6_odds wsX0_hasDebt := gd_ids wi_X6_odds wm_X6_odds wi_X0_hasDebt (by decide +kernel)
theorem dX6_odds_8 : decode cX6_odds 8 = .ok (.ifCond .eq 22, 3) := decA_get dAX6_odds 4 rfl
theorem dX6_odds_11 : decode cX6_odds 11 = .ok (.iload_n 2, 1) := decA_get dAX6_odds 5 rfl
theorem dX6_odds_12 : decode cX6_odds 12 = .ok (.ifCond .lt 18, 3) := decA_get dAX6_odds 6 rfl
theorem dX6_odds_30 : decode cX6_odds 30 = .ok (.iconst (-1), 1) := decA_get dAX6_odds 15 rfl
theorem dX6_odds_31 : decode cX6_odds 31 = .ok (.ireturn, 1) := decA_get dAX6_odds 16 rfl
theorem dX6_odds_15 : decode cX6_odds 15 = .ok (.iload_n 2, 1) := decA_get dAX6_odds 7 rfl
theorem dX6_odds_16 : decode cX6_odds 16 = .ok (.bipush 10, 2) := decA_get dAX6_odds 8 rfl
theorem dX6_odds_18 : decode cX6_odds 18 = .ok (.if_icmp .gt 12, 3) := decA_get dAX6_odds 9 rfl
theorem dX6_odds_21 : decode cX6_odds 21 = .ok (.iload_n 3, 1) := decA_get dAX6_odds 10 rfl
theorem dX6_odds_22 : decode cX6_odds 22 = .ok (.ifCond .lt 8, 3) := decA_get dAX6_odds 11 rfl
theorem dX6_odds_25 : decode cX6_odds 25 = .ok (.iload_n 3, 1) := decA_get dAX6_odds 12 rfl
theorem dX6_odds_26 : decode cX6_odds 26 = .ok (.iconst 1, 1) := decA_get dAX6_odds 13 rfl
theorem dX6_odds_27 : decode cX6_odds 27 = .ok (.if_icmp .le 5, 3) := decA_get dAX6_odds 14 rfl
theorem dX6_odds_32 : decode cX6_odds 32 = .ok (.aload_n 0, 1) := decA_get dAX6_odds 17 rfl
theorem dX6_odds_33 : decode cX6_odds 33 = .ok (.getfield 58, 3) := decA_get dAX6_odds 18 rfl
theorem dX6_odds_36 : decode cX6_odds 36 = .ok (.aload_n 0, 1) := decA_get dAX6_odds 19 rfl
theorem dX6_odds_37 : decode cX6_odds 37 = .ok (.getfield 27, 3) := decA_get dAX6_odds 20 rfl
theorem dX6_odds_40 : decode cX6_odds 40 = .ok (.aload_n 0, 1) := decA_get dAX6_odds 21 rfl
theorem dX6_odds_41 : decode cX6_odds 41 = .ok (.getfield 37, 3) := decA_get dAX6_odds 22 rfl
theorem dX6_odds_44 : decode cX6_odds 44 = .ok (.iload_n 1, 1) := decA_get dAX6_odds 23 rfl
theorem dX6_odds_45 : decode cX6_odds 45 = .ok (.invokevirtual 207, 3) := decA_get dAX6_odds 24 rfl
set_option maxRecDepth 20000 in
theorem ggX6_odds_X5_gather : GoodIn wsX6_odds wsX5_gather := gd_ids wi_X6_odds wm_X6_odds wi_X5_gather (by decide +kernel)
theorem dX6_odds_48 : decode cX6_odds 48 = .ok (.aload_n 0, 1) := decA_get dAX6_odds 25 rfl
theorem dX6_odds_49 : decode cX6_odds 49 = .ok (.getfield 58, 3) := decA_get dAX6_odds 26 rfl
theorem dX6_odds_52 : decode cX6_odds 52 = .ok (.iload_n 2, 1) := decA_get dAX6_odds 27 rfl
theorem dX6_odds_53 : decode cX6_odds 53 = .ok (.invokevirtual 214, 3) := decA_get dAX6_odds 28 rfl
set_option maxRecDepth 20000 in
theorem ggX6_odds_X5_oddsUpper : GoodIn wsX6_odds wsX5_oddsUpper := gd_ids wi_X6_odds wm_X6_odds wi_X5_oddsUpper (by decide +kernel)
theorem dX6_odds_56 : decode cX6_odds 56 = .ok (.istore 4, 2) := decA_get dAX6_odds 29 rfl
theorem dX6_odds_58 : decode cX6_odds 58 = .ok (.aload_n 0, 1) := decA_get dAX6_odds 30 rfl
theorem dX6_odds_59 : decode cX6_odds 59 = .ok (.getfield 58, 3) := decA_get dAX6_odds 31 rfl
theorem dX6_odds_62 : decode cX6_odds 62 = .ok (.invokevirtual 217, 3) := decA_get dAX6_odds 32 rfl
set_option maxRecDepth 20000 in
theorem ggX6_odds_X5_oddsLower : GoodIn wsX6_odds wsX5_oddsLower := gd_ids wi_X6_odds wm_X6_odds wi_X5_oddsLower (by decide +kernel)
theorem dX6_odds_65 : decode cX6_odds 65 = .ok (.istore 5, 2) := decA_get dAX6_odds 33 rfl
theorem dX6_odds_67 : decode cX6_odds 67 = .ok (.iload 4, 2) := decA_get dAX6_odds 34 rfl
theorem dX6_odds_69 : decode cX6_odds 69 = .ok (.iload 5, 2) := decA_get dAX6_odds 35 rfl
theorem dX6_odds_71 : decode cX6_odds 71 = .ok (.invokestatic 220, 3) := decA_get dAX6_odds 36 rfl
set_option maxRecDepth 20000 in
theorem ggX6_odds_X6_commonDivisor : GoodIn wsX6_odds wsX6_commonDivisor := gd_ids wi_X6_odds wm_X6_odds wi_X6_commonDivisor (by decide +kernel)
theorem dX6_odds_74 : decode cX6_odds 74 = .ok (.istore 6, 2) := decA_get dAX6_odds 37 rfl
theorem dX6_odds_76 : decode cX6_odds 76 = .ok (.iload 6, 2) := decA_get dAX6_odds 38 rfl
theorem dX6_odds_78 : decode cX6_odds 78 = .ok (.iconst 1, 1) := decA_get dAX6_odds 39 rfl
theorem dX6_odds_79 : decode cX6_odds 79 = .ok (.if_icmp .ge 5, 3) := decA_get dAX6_odds 40 rfl
theorem dX6_odds_84 : decode cX6_odds 84 = .ok (.iload_n 3, 1) := decA_get dAX6_odds 43 rfl
theorem dX6_odds_85 : decode cX6_odds 85 = .ok (.ifCond .ne 8, 3) := decA_get dAX6_odds 44 rfl
theorem dX6_odds_93 : decode cX6_odds 93 = .ok (.iload 5, 2) := decA_get dAX6_odds 47 rfl
theorem dX6_odds_95 : decode cX6_odds 95 = .ok (.iload 6, 2) := decA_get dAX6_odds 48 rfl
theorem dX6_odds_97 : decode cX6_odds 97 = .ok (.idiv, 1) := decA_get dAX6_odds 49 rfl
theorem dX6_odds_98 : decode cX6_odds 98 = .ok (.ireturn, 1) := decA_get dAX6_odds 50 rfl
theorem dX6_odds_88 : decode cX6_odds 88 = .ok (.iload 4, 2) := decA_get dAX6_odds 45 rfl
theorem dX6_odds_90 : decode cX6_odds 90 = .ok (.goto 5, 3) := decA_get dAX6_odds 46 rfl
set_option maxRecDepth 20000 in
theorem dAX6_lender : decA cX6_lender [(0, .aload_n 0, 1), (1, .getfield 27, 3), (4, .iload_n 1, 1), (5, .invokevirtual 104, 3), (8, .ifCond .ne 5, 3), (11, .iconst (-1), 1), (12, .ireturn, 1), (13, .bipush (-9), 2), (15, .istore_n 2, 1), (16, .iconst (-1), 1), (17, .istore_n 3, 1), (18, .iconst 0, 1), (19, .istore 4, 2), (21, .iload 4, 2), (23, .aload_n 0, 1), (24, .getfield 27, 3), (27, .getfield 201, 3), (30, .if_icmp .ge 50, 3), (33, .iload 4, 2), (35, .iload_n 1, 1), (36, .if_icmp .eq 38, 3), (39, .aload_n 0, 1), (40, .getfield 37, 3), (43, .iload 4, 2), (45, .invokevirtual 204, 3), (48, .ifCond .ne 6, 3), (51, .goto 23, 3), (54, .aload_n 0, 1), (55, .iload 4, 2), (57, .invokevirtual 116, 3), (60, .istore 5, 2), (62, .iload 5, 2), (64, .iload_n 3, 1), (65, .if_icmp .le 9, 3), (68, .iload 4, 2), (70, .istore_n 2, 1), (71, .iload 5, 2), (73, .istore_n 3, 1), (74, .iinc 4 1, 3), (77, .goto (-56), 3), (80, .iload_n 2, 1), (81, .ireturn, 1)] = true := by decide +kernel
theorem dX6_lender_0 : decode cX6_lender 0 = .ok (.aload_n 0, 1) := decA_get dAX6_lender 0 rfl
theorem dX6_lender_1 : decode cX6_lender 1 = .ok (.getfield 27, 3) := decA_get dAX6_lender 1 rfl
theorem in_X6_lender_6 : ∀ w ∈ wsX60, w ∈ wsX6_lender := fun w h => (gd_ids wi_X6_lender wm_X6_lender wi_X60 (by decide +kernel) w h).1
theorem dX6_lender_4 : decode cX6_lender 4 = .ok (.iload_n 1, 1) := decA_get dAX6_lender 2 rfl
theorem dX6_lender_5 : decode cX6_lender 5 = .ok (.invokevirtual 104, 3) := decA_get dAX6_lender 3 rfl
set_option maxRecDepth 20000 in
theorem ggX6_lender_X0_hasPerson : GoodIn wsX6_lender wsX0_hasPerson := gd_ids wi_X6_lender wm_X6_lender wi_X0_hasPerson (by decide +kernel)
theorem dX6_lender_8 : decode cX6_lender 8 = .ok (.ifCond .ne 5, 3) := decA_get dAX6_lender 4 rfl
theorem dX6_lender_13 : decode cX6_lender 13 = .ok (.bipush (-9), 2) := decA_get dAX6_lender 7 rfl
theorem dX6_lender_15 : decode cX6_lender 15 = .ok (.istore_n 2, 1) := decA_get dAX6_lender 8 rfl
theorem dX6_lender_16 : decode cX6_lender 16 = .ok (.iconst (-1), 1) := decA_get dAX6_lender 9 rfl
theorem dX6_lender_17 : decode cX6_lender 17 = .ok (.istore_n 3, 1) := decA_get dAX6_lender 10 rfl
theorem dX6_lender_18 : decode cX6_lender 18 = .ok (.iconst 0, 1) := decA_get dAX6_lender 11 rfl
theorem dX6_lender_19 : decode cX6_lender 19 = .ok (.istore 4, 2) := decA_get dAX6_lender 12 rfl
theorem dX6_lender_21 : decode cX6_lender 21 = .ok (.iload 4, 2) := decA_get dAX6_lender 13 rfl
theorem dX6_lender_23 : decode cX6_lender 23 = .ok (.aload_n 0, 1) := decA_get dAX6_lender 14 rfl
theorem dX6_lender_24 : decode cX6_lender 24 = .ok (.getfield 27, 3) := decA_get dAX6_lender 15 rfl
theorem dX6_lender_27 : decode cX6_lender 27 = .ok (.getfield 201, 3) := decA_get dAX6_lender 16 rfl
theorem in_X6_lender_0 : ∀ w ∈ wsX00, w ∈ wsX6_lender := fun w h => (gd_ids wi_X6_lender wm_X6_lender wi_X00 (by decide +kernel) w h).1
theorem dX6_lender_30 : decode cX6_lender 30 = .ok (.if_icmp .ge 50, 3) := decA_get dAX6_lender 17 rfl
theorem dX6_lender_80 : decode cX6_lender 80 = .ok (.iload_n 2, 1) := decA_get dAX6_lender 40 rfl
theorem dX6_lender_81 : decode cX6_lender 81 = .ok (.ireturn, 1) := decA_get dAX6_lender 41 rfl
theorem dX6_lender_33 : decode cX6_lender 33 = .ok (.iload 4, 2) := decA_get dAX6_lender 18 rfl
theorem dX6_lender_35 : decode cX6_lender 35 = .ok (.iload_n 1, 1) := decA_get dAX6_lender 19 rfl
theorem dX6_lender_36 : decode cX6_lender 36 = .ok (.if_icmp .eq 38, 3) := decA_get dAX6_lender 20 rfl
theorem dX6_lender_74 : decode cX6_lender 74 = .ok (.iinc 4 1, 3) := decA_get dAX6_lender 38 rfl
theorem dX6_lender_77 : decode cX6_lender 77 = .ok (.goto (-56), 3) := decA_get dAX6_lender 39 rfl
theorem dX6_lender_39 : decode cX6_lender 39 = .ok (.aload_n 0, 1) := decA_get dAX6_lender 21 rfl
theorem dX6_lender_40 : decode cX6_lender 40 = .ok (.getfield 37, 3) := decA_get dAX6_lender 22 rfl
theorem dX6_lender_43 : decode cX6_lender 43 = .ok (.iload 4, 2) := decA_get dAX6_lender 23 rfl
theorem dX6_lender_45 : decode cX6_lender 45 = .ok (.invokevirtual 204, 3) := decA_get dAX6_lender 24 rfl
set_option maxRecDepth 20000 in
theorem ggX6_lender_X1_holdsAnything : GoodIn wsX6_lender wsX1_holdsAnything := gd_ids wi_X6_lender wm_X6_lender wi_X1_holdsAnything (by decide +kernel)
theorem dX6_lender_48 : decode cX6_lender 48 = .ok (.ifCond .ne 6, 3) := decA_get dAX6_lender 25 rfl
theorem dX6_lender_54 : decode cX6_lender 54 = .ok (.aload_n 0, 1) := decA_get dAX6_lender 27 rfl
theorem dX6_lender_55 : decode cX6_lender 55 = .ok (.iload 4, 2) := decA_get dAX6_lender 28 rfl
theorem dX6_lender_57 : decode cX6_lender 57 = .ok (.invokevirtual 116, 3) := decA_get dAX6_lender 29 rfl
set_option maxRecDepth 20000 in
theorem ggX6_lender_X6_ease : GoodIn wsX6_lender wsX6_ease := gd_ids wi_X6_lender wm_X6_lender wi_X6_ease (by decide +kernel)
set_option maxRecDepth 20000 in
theorem gX6_lender_X6_ease : GoodIn wsX6_lender (wsV RX6 116 RX6 yX6_ease wsX6_ease) := goodIn_app (gd_ids wi_X6_lender wm_X6_lender (b := [345, 346, 347, 344]) rfl (by decide +kernel)) ggX6_lender_X6_ease
theorem dX6_lender_60 : decode cX6_lender 60 = .ok (.istore 5, 2) := decA_get dAX6_lender 30 rfl
theorem dX6_lender_62 : decode cX6_lender 62 = .ok (.iload 5, 2) := decA_get dAX6_lender 31 rfl
theorem dX6_lender_64 : decode cX6_lender 64 = .ok (.iload_n 3, 1) := decA_get dAX6_lender 32 rfl
theorem dX6_lender_65 : decode cX6_lender 65 = .ok (.if_icmp .le 9, 3) := decA_get dAX6_lender 33 rfl
theorem dX6_lender_68 : decode cX6_lender 68 = .ok (.iload 4, 2) := decA_get dAX6_lender 34 rfl
theorem dX6_lender_70 : decode cX6_lender 70 = .ok (.istore_n 2, 1) := decA_get dAX6_lender 35 rfl
theorem dX6_lender_71 : decode cX6_lender 71 = .ok (.iload 5, 2) := decA_get dAX6_lender 36 rfl
theorem dX6_lender_73 : decode cX6_lender 73 = .ok (.istore_n 3, 1) := decA_get dAX6_lender 37 rfl
theorem dX6_lender_51 : decode cX6_lender 51 = .ok (.goto 23, 3) := decA_get dAX6_lender 26 rfl
theorem dX6_lender_11 : decode cX6_lender 11 = .ok (.iconst (-1), 1) := decA_get dAX6_lender 5 rfl
theorem dX6_lender_12 : decode cX6_lender 12 = .ok (.ireturn, 1) := decA_get dAX6_lender 6 rfl
set_option maxRecDepth 20000 in
theorem dAX6_order : decA cX6_order [(0, .iload_n 1, 1), (1, .iconst (-1), 1), (2, .if_icmp .lt 8, 3), (5, .iload_n 1, 1), (6, .iconst 5, 1), (7, .if_icmp .lt 5, 3), (10, .iconst (-1), 1), (11, .ireturn, 1), (12, .aload_n 0, 1), (13, .getfield 65, 3), (16, .aload_n 0, 1), (17, .getfield 27, 3), (20, .aload_n 0, 1), (21, .getfield 37, 3), (24, .aload_n 0, 1), (25, .getfield 51, 3), (28, .invokevirtual 191, 3), (31, .iload_n 1, 1), (32, .ifCond .ge 11, 3), (35, .aload_n 0, 1), (36, .getfield 65, 3), (39, .getfield 195, 3), (42, .ireturn, 1), (43, .iload_n 1, 1), (44, .aload_n 0, 1), (45, .getfield 65, 3), (48, .getfield 195, 3), (51, .if_icmp .ge 15, 3), (54, .aload_n 0, 1), (55, .getfield 65, 3), (58, .getfield 198, 3), (61, .iload_n 1, 1), (62, .iaload, 1), (63, .goto 5, 3), (66, .bipush (-9), 2), (68, .ireturn, 1)] = true := by decide +kernel
theorem dX6_order_0 : decode cX6_order 0 = .ok (.iload_n 1, 1) := decA_get dAX6_order 0 rfl
theorem dX6_order_1 : decode cX6_order 1 = .ok (.iconst (-1), 1) := decA_get dAX6_order 1 rfl
theorem dX6_order_2 : decode cX6_order 2 = .ok (.if_icmp .lt 8, 3) := decA_get dAX6_order 2 rfl
theorem dX6_order_10 : decode cX6_order 10 = .ok (.iconst (-1), 1) := decA_get dAX6_order 6 rfl
theorem dX6_order_11 : decode cX6_order 11 = .ok (.ireturn, 1) := decA_get dAX6_order 7 rfl
theorem dX6_order_5 : decode cX6_order 5 = .ok (.iload_n 1, 1) := decA_get dAX6_order 3 rfl
theorem dX6_order_6 : decode cX6_order 6 = .ok (.iconst 5, 1) := decA_get dAX6_order 4 rfl
theorem dX6_order_7 : decode cX6_order 7 = .ok (.if_icmp .lt 5, 3) := decA_get dAX6_order 5 rfl
theorem dX6_order_12 : decode cX6_order 12 = .ok (.aload_n 0, 1) := decA_get dAX6_order 8 rfl
theorem dX6_order_13 : decode cX6_order 13 = .ok (.getfield 65, 3) := decA_get dAX6_order 9 rfl
theorem in_X6_order_6 : ∀ w ∈ wsX60, w ∈ wsX6_order := fun w h => (gd_ids wi_X6_order wm_X6_order wi_X60 (by decide +kernel) w h).1
theorem dX6_order_16 : decode cX6_order 16 = .ok (.aload_n 0, 1) := decA_get dAX6_order 10 rfl
theorem dX6_order_17 : decode cX6_order 17 = .ok (.getfield 27, 3) := decA_get dAX6_order 11 rfl
theorem dX6_order_20 : decode cX6_order 20 = .ok (.aload_n 0, 1) := decA_get dAX6_order 12 rfl
theorem dX6_order_21 : decode cX6_order 21 = .ok (.getfield 37, 3) := decA_get dAX6_order 13 rfl
theorem dX6_order_24 : decode cX6_order 24 = .ok (.aload_n 0, 1) := decA_get dAX6_order 14 rfl
theorem dX6_order_25 : decode cX6_order 25 = .ok (.getfield 51, 3) := decA_get dAX6_order 15 rfl
theorem dX6_order_28 : decode cX6_order 28 = .ok (.invokevirtual 191, 3) := decA_get dAX6_order 16 rfl
set_option maxRecDepth 20000 in
theorem ggX6_order_X4_search : GoodIn wsX6_order wsX4_search := gd_ids wi_X6_order wm_X6_order wi_X4_search (by decide +kernel)
theorem dX6_order_31 : decode cX6_order 31 = .ok (.iload_n 1, 1) := decA_get dAX6_order 17 rfl
theorem dX6_order_32 : decode cX6_order 32 = .ok (.ifCond .ge 11, 3) := decA_get dAX6_order 18 rfl
theorem dX6_order_43 : decode cX6_order 43 = .ok (.iload_n 1, 1) := decA_get dAX6_order 23 rfl
theorem dX6_order_44 : decode cX6_order 44 = .ok (.aload_n 0, 1) := decA_get dAX6_order 24 rfl
theorem dX6_order_45 : decode cX6_order 45 = .ok (.getfield 65, 3) := decA_get dAX6_order 25 rfl
theorem dX6_order_48 : decode cX6_order 48 = .ok (.getfield 195, 3) := decA_get dAX6_order 26 rfl
theorem in_X6_order_4 : ∀ w ∈ wsX40, w ∈ wsX6_order := fun w h => (gd_ids wi_X6_order wm_X6_order wi_X40 (by decide +kernel) w h).1
theorem dX6_order_51 : decode cX6_order 51 = .ok (.if_icmp .ge 15, 3) := decA_get dAX6_order 27 rfl
theorem dX6_order_66 : decode cX6_order 66 = .ok (.bipush (-9), 2) := decA_get dAX6_order 34 rfl
theorem dX6_order_68 : decode cX6_order 68 = .ok (.ireturn, 1) := decA_get dAX6_order 35 rfl
theorem dX6_order_54 : decode cX6_order 54 = .ok (.aload_n 0, 1) := decA_get dAX6_order 28 rfl
theorem dX6_order_55 : decode cX6_order 55 = .ok (.getfield 65, 3) := decA_get dAX6_order 29 rfl
theorem dX6_order_58 : decode cX6_order 58 = .ok (.getfield 198, 3) := decA_get dAX6_order 30 rfl
theorem dX6_order_61 : decode cX6_order 61 = .ok (.iload_n 1, 1) := decA_get dAX6_order 31 rfl
theorem dX6_order_62 : decode cX6_order 62 = .ok (.iaload, 1) := decA_get dAX6_order 32 rfl
theorem dX6_order_63 : decode cX6_order 63 = .ok (.goto 5, 3) := decA_get dAX6_order 33 rfl
theorem dX6_order_35 : decode cX6_order 35 = .ok (.aload_n 0, 1) := decA_get dAX6_order 19 rfl
theorem dX6_order_36 : decode cX6_order 36 = .ok (.getfield 65, 3) := decA_get dAX6_order 20 rfl
theorem dX6_order_39 : decode cX6_order 39 = .ok (.getfield 195, 3) := decA_get dAX6_order 21 rfl
theorem dX6_order_42 : decode cX6_order 42 = .ok (.ireturn, 1) := decA_get dAX6_order 22 rfl
set_option maxHeartbeats 4000000 in
set_option maxRecDepth 100000 in
theorem g_order (l : Launch) (D : va_G) (cI cB cZ cN : ClassId) (Xh : Nat) (Xa6 : Nat) (Xa11 : Nat) (Th : Nat) (Rh : Nat) (Mh : Nat) (Wh : Nat) (Xt : Int64) (Ih : Nat) (Jh : Nat) (XS : Nat → Nat → Nat) (Qh : Nat) (Qa1 : Nat) (Qa2 : Nat) (QS : Nat → Nat → Nat) (Kh : Nat) (Ka0 : Nat) (Ka1 : Nat) (KS : Nat → Nat → Nat) (Lh : Nat) (La1 : Nat) (La2 : Nat) (La4 : Nat) (La5 : Nat) (La7 : Nat) (La8 : Nat) (La9 : Nat) (LS : Nat → Nat → Nat) (Nh : Nat) (Na0 : Nat) (Na1 : Nat) (NS : Nat → Nat → Nat) (Yh : Nat) (Ya0 : Nat) (Ya1 : Nat) (Ya2 : Nat) (YS : Nat → Nat → Nat) (v_i : Int32) (hQ : RowsOk QS) (hK0 : NowOk KS) (hL : LandOk LS) (hN : NowOk NS) (hY : PayOk YS) : Ci (S := (Nat → Nat → Nat) × (Nat → Nat → Nat) × (Nat → Nat → Nat)) l D cI cB cZ cN yX6_order wsX6_order ({ frames := 10, cells := 0, slots := 0, locals := 251 } : Room) [.ref Xh, .int v_i] [(Xh, .inr (6, [.ref Th, .int (nI (XS 1 0)), .ref Rh, .ref Lh, .ref Mh, .ref Nh, .ref Xa6, .int (nI (XS 7 0)), .ref Yh, .ref Wh, .ref Qh, .ref Xa11, .int (nI (XS 12 0)), .long Xt])), (Xa6, .inl (cN, 2, .inr (.inr (.inr (.inr (va_up (va_up (fun _ => none) 0 (some Ih)) 1 (some Jh))))))), (Xa11, .inl (cI, 6, .inl (nF (XS 11)))), (Qh, .inr (4, [.ref Kh, .ref Qa1, .ref Qa2, .int (nI (QS 3 0))])), (Qa1, .inl (cI, 5, .inl (nF (QS 1)))), (Qa2, .inl (cI, 5, .inl (nF (QS 2)))), (Kh, .inr (1, [.ref Ka0, .ref Ka1, .int (nI (KS 2 0))])), (Ka0, .inl (cI, 36, .inl (nF (KS 0)))), (Ka1, .inl (cI, 360, .inl (nF (KS 1)))), (Lh, .inr (0, [.int (nI (LS 0 0)), .ref La1, .ref La2, .int (nI (LS 3 0)), .ref La4, .ref La5, .int (nI (LS 6 0)), .ref La7, .ref La8, .ref La9, .int (nI (LS 10 0)), .int (nI (LS 11 0))])), (La1, .inl (cI, 6, .inl (nF (LS 1)))), (La2, .inl (cI, 6, .inl (nF (LS 2)))), (La4, .inl (cI, 5, .inl (nF (LS 4)))), (La5, .inl (cI, 30, .inl (nF (LS 5)))), (La7, .inl (cI, 5, .inl (nF (LS 7)))), (La8, .inl (cI, 5, .inl (nF (LS 8)))), (La9, .inl (cI, 5, .inl (nF (LS 9)))), (Nh, .inr (1, [.ref Na0, .ref Na1, .int (nI (NS 2 0))])), (Na0, .inl (cI, 36, .inl (nF (NS 0)))), (Na1, .inl (cI, 360, .inl (nF (NS 1)))), (Yh, .inr (2, [.ref Ya0, .ref Ya1, .ref Ya2, .int (nI (YS 3 0))])), (Ya0, .inl (cI, 6, .inl (nF (YS 0)))), (Ya1, .inl (cI, 6, .inl (nF (YS 1)))), (Ya2, .inl (cI, 427, .inl (nF (YS 2))))] (fun (r : Int32) (u : (Nat → Nat → Nat) × (Nat → Nat → Nat) × (Nat → Nat → Nat)) => RowsOk u.1 ∧ NowOk u.2.1 ∧ PayOk u.2.2) (fun u => [(Xh, .inr (6, [.ref Th, .int (nI (XS 1 0)), .ref Rh, .ref Lh, .ref Mh, .ref Nh, .ref Xa6, .int (nI (XS 7 0)), .ref Yh, .ref Wh, .ref Qh, .ref Xa11, .int (nI (XS 12 0)), .long Xt])), (Xa6, .inl (cN, 2, .inr (.inr (.inr (.inr (va_up (va_up (fun _ => none) 0 (some Ih)) 1 (some Jh))))))), (Xa11, .inl (cI, 6, .inl (nF (XS 11)))), (Qh, .inr (4, [.ref Kh, .ref Qa1, .ref Qa2, .int (nI (u.1 3 0))])), (Qa1, .inl (cI, 5, .inl (nF (u.1 1)))), (Qa2, .inl (cI, 5, .inl (nF (u.1 2)))), (Kh, .inr (1, [.ref Ka0, .ref Ka1, .int (nI (u.2.1 2 0))])), (Ka0, .inl (cI, 36, .inl (nF (u.2.1 0)))), (Ka1, .inl (cI, 360, .inl (nF (u.2.1 1)))), (Lh, .inr (0, [.int (nI (LS 0 0)), .ref La1, .ref La2, .int (nI (LS 3 0)), .ref La4, .ref La5, .int (nI (LS 6 0)), .ref La7, .ref La8, .ref La9, .int (nI (LS 10 0)), .int (nI (LS 11 0))])), (La1, .inl (cI, 6, .inl (nF (LS 1)))), (La2, .inl (cI, 6, .inl (nF (LS 2)))), (La4, .inl (cI, 5, .inl (nF (LS 4)))), (La5, .inl (cI, 30, .inl (nF (LS 5)))), (La7, .inl (cI, 5, .inl (nF (LS 7)))), (La8, .inl (cI, 5, .inl (nF (LS 8)))), (La9, .inl (cI, 5, .inl (nF (LS 9)))), (Nh, .inr (1, [.ref Na0, .ref Na1, .int (nI (NS 2 0))])), (Na0, .inl (cI, 36, .inl (nF (NS 0)))), (Na1, .inl (cI, 360, .inl (nF (NS 1)))), (Yh, .inr (2, [.ref Ya0, .ref Ya1, .ref Ya2, .int (nI (u.2.2 3 0))])), (Ya0, .inl (cI, 6, .inl (nF (u.2.2 0)))), (Ya1, .inl (cI, 6, .inl (nF (u.2.2 1)))), (Ya2, .inl (cI, 427, .inl (nF (u.2.2 2))))]) := by
  refine bx_of (D := D) (cI := cI) (cB := cB) (cZ := cZ) (cN := cN) (y := yX6_order) (wd := wsX6_order) (rm := ({ frames := 10, cells := 0, slots := 0, locals := 251 } : Room)) (av := [.ref Xh, .int v_i]) (wc := [(Xh, .inr (6, [.ref Th, .int (nI (XS 1 0)), .ref Rh, .ref Lh, .ref Mh, .ref Nh, .ref Xa6, .int (nI (XS 7 0)), .ref Yh, .ref Wh, .ref Qh, .ref Xa11, .int (nI (XS 12 0)), .long Xt])), (Xa6, .inl (cN, 2, .inr (.inr (.inr (.inr (va_up (va_up (fun _ => none) 0 (some Ih)) 1 (some Jh))))))), (Xa11, .inl (cI, 6, .inl (nF (XS 11)))), (Qh, .inr (4, [.ref Kh, .ref Qa1, .ref Qa2, .int (nI (QS 3 0))])), (Qa1, .inl (cI, 5, .inl (nF (QS 1)))), (Qa2, .inl (cI, 5, .inl (nF (QS 2)))), (Kh, .inr (1, [.ref Ka0, .ref Ka1, .int (nI (KS 2 0))])), (Ka0, .inl (cI, 36, .inl (nF (KS 0)))), (Ka1, .inl (cI, 360, .inl (nF (KS 1)))), (Lh, .inr (0, [.int (nI (LS 0 0)), .ref La1, .ref La2, .int (nI (LS 3 0)), .ref La4, .ref La5, .int (nI (LS 6 0)), .ref La7, .ref La8, .ref La9, .int (nI (LS 10 0)), .int (nI (LS 11 0))])), (La1, .inl (cI, 6, .inl (nF (LS 1)))), (La2, .inl (cI, 6, .inl (nF (LS 2)))), (La4, .inl (cI, 5, .inl (nF (LS 4)))), (La5, .inl (cI, 30, .inl (nF (LS 5)))), (La7, .inl (cI, 5, .inl (nF (LS 7)))), (La8, .inl (cI, 5, .inl (nF (LS 8)))), (La9, .inl (cI, 5, .inl (nF (LS 9)))), (Nh, .inr (1, [.ref Na0, .ref Na1, .int (nI (NS 2 0))])), (Na0, .inl (cI, 36, .inl (nF (NS 0)))), (Na1, .inl (cI, 360, .inl (nF (NS 1)))), (Yh, .inr (2, [.ref Ya0, .ref Ya1, .ref Ya2, .int (nI (YS 3 0))])), (Ya0, .inl (cI, 6, .inl (nF (YS 0)))), (Ya1, .inl (cI, 6, .inl (nF (YS 1)))), (Ya2, .inl (cI, 427, .inl (nF (YS 2))))]) (cc := cX6_order) (maxL := 2) (ret := (some .int)) (Qc := fun _ A => va_Qi (S := (Nat → Nat → Nat) × (Nat → Nat → Nat) × (Nat → Nat → Nat)) (fun (r : Int32) (u : (Nat → Nat → Nat) × (Nat → Nat → Nat) × (Nat → Nat → Nat)) => RowsOk u.1 ∧ NowOk u.2.1 ∧ PayOk u.2.2) (Aft D (fun (u : (Nat → Nat → Nat) × (Nat → Nat → Nat) × (Nat → Nat → Nat)) => [(Xh, .inr (6, [.ref Th, .int (nI (XS 1 0)), .ref Rh, .ref Lh, .ref Mh, .ref Nh, .ref Xa6, .int (nI (XS 7 0)), .ref Yh, .ref Wh, .ref Qh, .ref Xa11, .int (nI (XS 12 0)), .long Xt])), (Xa6, .inl (cN, 2, .inr (.inr (.inr (.inr (va_up (va_up (fun _ => none) 0 (some Ih)) 1 (some Jh))))))), (Xa11, .inl (cI, 6, .inl (nF (XS 11)))), (Qh, .inr (4, [.ref Kh, .ref Qa1, .ref Qa2, .int (nI (u.1 3 0))])), (Qa1, .inl (cI, 5, .inl (nF (u.1 1)))), (Qa2, .inl (cI, 5, .inl (nF (u.1 2)))), (Kh, .inr (1, [.ref Ka0, .ref Ka1, .int (nI (u.2.1 2 0))])), (Ka0, .inl (cI, 36, .inl (nF (u.2.1 0)))), (Ka1, .inl (cI, 360, .inl (nF (u.2.1 1)))), (Lh, .inr (0, [.int (nI (LS 0 0)), .ref La1, .ref La2, .int (nI (LS 3 0)), .ref La4, .ref La5, .int (nI (LS 6 0)), .ref La7, .ref La8, .ref La9, .int (nI (LS 10 0)), .int (nI (LS 11 0))])), (La1, .inl (cI, 6, .inl (nF (LS 1)))), (La2, .inl (cI, 6, .inl (nF (LS 2)))), (La4, .inl (cI, 5, .inl (nF (LS 4)))), (La5, .inl (cI, 30, .inl (nF (LS 5)))), (La7, .inl (cI, 5, .inl (nF (LS 7)))), (La8, .inl (cI, 5, .inl (nF (LS 8)))), (La9, .inl (cI, 5, .inl (nF (LS 9)))), (Nh, .inr (1, [.ref Na0, .ref Na1, .int (nI (NS 2 0))])), (Na0, .inl (cI, 36, .inl (nF (NS 0)))), (Na1, .inl (cI, 360, .inl (nF (NS 1)))), (Yh, .inr (2, [.ref Ya0, .ref Ya1, .ref Ya2, .int (nI (u.2.2 3 0))])), (Ya0, .inl (cI, 6, .inl (nF (u.2.2 0)))), (Ya1, .inl (cI, 6, .inl (nF (u.2.2 1)))), (Ya2, .inl (cI, 427, .inl (nF (u.2.2 2))))]) A) A) (by decide) rfl (Nat.le_of_ble_eq_true rfl) ?_
  intro p e s m below meth c A H locs ⟨hx, hb, hr, hml, hown, hts, hlk, hnm⟩ hK hP hD hS hA ls hl
  have hl : lv_has ls 2 [(0, .ref Xh), (1, .int v_i)] := hl
  have hown : s.vm.findClass RX6 = some m.cls := hown
  have hL0 := hL
  obtain ⟨bl0, bl3, bl6, bl10, bl11, bl1, bl2, bl4, bl5, bl7, bl8, bl9⟩ := hL
  refine lv_iload_n hx hb dX6_order_0 rfl (lv_at hl 1 rfl) ?_
  refine lv_iconst (v := -1) hx hb dX6_order_1 (by decide) ?_
  refine lv_icmp_lt (tgt := 10) hx hb dX6_order_2 (by decide) (fun hq1 => ?_) (fun hq1 => ?_)
  · skip
    refine lv_iconst (v := -1) hx hb dX6_order_10 (by decide) ?_
    exact en_i hx hb hr hlk hP hD hS (QS, KS, YS) [0, 1, 2, 3, 4, 5, 6, 7, 8, 9, 10, 11, 12, 13, 14, 15, 16, 17, 18, 19, 20, 21, 22, 23] (by decide) rfl (Nat.le_of_ble_eq_true rfl) (Nat.le_of_ble_eq_true rfl) dX6_order_11 ⟨hQ, hK0, hY⟩
  · skip
    refine lv_iload_n hx hb dX6_order_5 rfl (lv_at hl 1 rfl) ?_
    refine lv_iconst (v := nI 5) hx hb dX6_order_6 (by decide) ?_
    refine lv_icmp_lt (tgt := 12) hx hb dX6_order_7 (by decide) (fun hq2 => ?_) (fun hq2 => ?_)
    · skip
      refine lv_aload_n hx hb dX6_order_12 rfl (lv_at hl 0 rfl) ?_
      refine va_get (D := D) (ci := 6) (v := .ref Qh) (C := RX6) (T := TX6) (N := 14) hx hb hts in_X6_order_6 hown hK.1 hP 0 rfl rfl 10 (by decide) (hts (.fieldLink RX6 65 "ChildCoins" "rows" "LChildCoins$Rows;") (List.mem_of_getElem? (i := 1) rfl)) (fun _ h9 => h9) rfl dX6_order_13 ?_
      refine lv_aload_n hx hb dX6_order_16 rfl (lv_at hl 0 rfl) ?_
      refine va_get (D := D) (ci := 6) (v := .ref Lh) (C := RX6) (T := TX6) (N := 14) hx hb hts in_X6_order_6 hown hK.1 hP 0 rfl rfl 3 (by decide) (hts (.fieldLink RX6 27 "ChildCoins" "ours" "LChildCoins$Land;") (List.mem_of_getElem? (i := 2) rfl)) (fun _ h9 => h9) rfl dX6_order_17 ?_
      refine lv_aload_n hx hb dX6_order_20 rfl (lv_at hl 0 rfl) ?_
      refine va_get (D := D) (ci := 6) (v := .ref Nh) (C := RX6) (T := TX6) (N := 14) hx hb hts in_X6_order_6 hown hK.1 hP 0 rfl rfl 5 (by decide) (hts (.fieldLink RX6 37 "ChildCoins" "present" "LChildCoins$Now;") (List.mem_of_getElem? (i := 3) rfl)) (fun _ h9 => h9) rfl dX6_order_21 ?_
      refine lv_aload_n hx hb dX6_order_24 rfl (lv_at hl 0 rfl) ?_
      refine va_get (D := D) (ci := 6) (v := .ref Yh) (C := RX6) (T := TX6) (N := 14) hx hb hts in_X6_order_6 hown hK.1 hP 0 rfl rfl 8 (by decide) (hts (.fieldLink RX6 51 "ChildCoins" "payment" "LChildCoins$Payment;") (List.mem_of_getElem? (i := 4) rfl)) (fun _ h9 => h9) rfl dX6_order_25 ?_
      refine be_v (free := fun _ => False) (wr := [(Xh, .inr (6, [.ref Th, .int (nI (XS 1 0)), .ref Rh, .ref Lh, .ref Mh, .ref Nh, .ref Xa6, .int (nI (XS 7 0)), .ref Yh, .ref Wh, .ref Qh, .ref Xa11, .int (nI (XS 12 0)), .long Xt])), (Xa6, .inl (cN, 2, .inr (.inr (.inr (.inr (va_up (va_up (fun _ => none) 0 (some Ih)) 1 (some Jh))))))), (Xa11, .inl (cI, 6, .inl (nF (XS 11))))]) (ru_N (C := RX4) (host := "ChildCoins") (As := [.ref Lh, .ref Nh, .ref Yh]) (rest := []) ⟨hx, hb, hml, hown, hts⟩ (g_search l D cI cB cZ cN Qh Qa1 Qa2 QS Kh Ka0 Ka1 KS Lh La1 La2 La4 La5 La7 La8 La9 LS Nh Na0 Na1 NS Yh Ya0 Ya1 Ya2 YS hL0 hN hQ hK0 hY H.size) ggX6_order_X4_search rfl (nmX6_191 hK.2) (hts (.initialized RX4) (List.mem_of_getElem? (i := 6) rfl)) (hts (.instanceMethod yX4_search) (List.mem_of_getElem? (i := 5) rfl)) (hts (.selects RX4 yX4_search yX4_search) (List.mem_of_getElem? (i := 7) rfl)) ⟨by decide, by decide, (show Option.map (fun d => d.parameters.length) (parseMethodDescriptor yX4_search.desc) = some 3 by decide +kernel)⟩ ⟨Nat.le_of_ble_eq_true rfl, Nat.le_of_ble_eq_true rfl⟩ hK hP hD 4 3 rfl rfl [3, 4, 5, 6, 7, 8, 9, 10, 11, 12, 13, 14, 15, 16, 17, 18, 19, 20, 21, 22, 23] (by decide) rfl hl.1 rfl (Nat.le_of_ble_eq_true rfl) dX6_order_28 ⟨Nat.le_of_ble_eq_true rfl, Nat.le_of_ble_eq_true rfl⟩) hP hD hS hA [3, 4, 5, 6, 7, 8, 9, 10, 11, 12, 13, 14, 15, 16, 17, 18, 19, 20, 21, 22, 23] [0, 1, 2] rfl rfl (by decide) (by decide) (fun u3 H locs w5 hP hD hS => ?_)
      obtain ⟨hq6, hq7, hq8⟩ := w5
      have hq6b := hq6.2.2
      obtain ⟨hP, hD⟩ : wPD D A [(Xh, .inr (6, [.ref Th, .int (nI (XS 1 0)), .ref Rh, .ref Lh, .ref Mh, .ref Nh, .ref Xa6, .int (nI (XS 7 0)), .ref Yh, .ref Wh, .ref Qh, .ref Xa11, .int (nI (XS 12 0)), .long Xt])), (Xa6, .inl (cN, 2, .inr (.inr (.inr (.inr (va_up (va_up (fun _ => none) 0 (some Ih)) 1 (some Jh))))))), (Xa11, .inl (cI, 6, .inl (nF (XS 11)))), (Qh, .inr (4, [.ref Kh, .ref Qa1, .ref Qa2, .int (nI (u3.1 3 0))])), (Qa1, .inl (cI, 5, .inl (nF (u3.1 1)))), (Qa2, .inl (cI, 5, .inl (nF (u3.1 2)))), (Kh, .inr (1, [.ref Ka0, .ref Ka1, .int (nI (u3.2.1 2 0))])), (Ka0, .inl (cI, 36, .inl (nF (u3.2.1 0)))), (Ka1, .inl (cI, 360, .inl (nF (u3.2.1 1)))), (Lh, .inr (0, [.int (nI (LS 0 0)), .ref La1, .ref La2, .int (nI (LS 3 0)), .ref La4, .ref La5, .int (nI (LS 6 0)), .ref La7, .ref La8, .ref La9, .int (nI (LS 10 0)), .int (nI (LS 11 0))])), (La1, .inl (cI, 6, .inl (nF (LS 1)))), (La2, .inl (cI, 6, .inl (nF (LS 2)))), (La4, .inl (cI, 5, .inl (nF (LS 4)))), (La5, .inl (cI, 30, .inl (nF (LS 5)))), (La7, .inl (cI, 5, .inl (nF (LS 7)))), (La8, .inl (cI, 5, .inl (nF (LS 8)))), (La9, .inl (cI, 5, .inl (nF (LS 9)))), (Nh, .inr (1, [.ref Na0, .ref Na1, .int (nI (NS 2 0))])), (Na0, .inl (cI, 36, .inl (nF (NS 0)))), (Na1, .inl (cI, 360, .inl (nF (NS 1)))), (Yh, .inr (2, [.ref Ya0, .ref Ya1, .ref Ya2, .int (nI (u3.2.2 3 0))])), (Ya0, .inl (cI, 6, .inl (nF (u3.2.2 0)))), (Ya1, .inl (cI, 6, .inl (nF (u3.2.2 1)))), (Ya2, .inl (cI, 427, .inl (nF (u3.2.2 2))))] H := ⟨hP, hD⟩
      refine lv_iload_n hx hb dX6_order_31 rfl (lv_at hl 1 rfl) ?_
      refine lv_if_ge (tgt := 43) hx hb dX6_order_32 (by decide) (fun hq9 => ?_) (fun hq9 => ?_)
      · skip
        obtain ⟨ki, hki, rfl⟩ := inN_lt (n := 5) (by decide) (Int32.not_lt.mpr hq9) hq2
        refine lv_iload_n hx hb dX6_order_43 rfl (lv_at hl 1 rfl) ?_
        refine lv_aload_n hx hb dX6_order_44 rfl (lv_at hl 0 rfl) ?_
        refine va_get (D := D) (ci := 6) (v := .ref Qh) (C := RX6) (T := TX6) (N := 14) hx hb hts in_X6_order_6 hown hK.1 hP 0 rfl rfl 10 (by decide) (hts (.fieldLink RX6 65 "ChildCoins" "rows" "LChildCoins$Rows;") (List.mem_of_getElem? (i := 1) rfl)) (fun _ h9 => h9) rfl dX6_order_45 ?_
        refine va_getN (D := D) (ci := 4) (v := .int (nI (u3.1 3 0))) (C := RX4) (T := TX4) (N := 4) hx hb hts in_X6_order_4 hown hK.1 hP 3 rfl rfl 3 (by decide) (nfX6_195 hK.2) (fun _ h9 => h9) rfl dX6_order_48 ?_
        refine nb_icmp_ge (tgt := 66) hx hb dX6_order_51 (by decide) (by omega) (by omega) (fun hq10 => ?_) (fun hq10 => ?_)
        · skip
          refine lv_bipush (v := -9) hx hb dX6_order_66 (by decide) ?_
          exact en_i hx hb hr hlk hP hD hS (u3.1, u3.2.1, u3.2.2) [0, 1, 2, 3, 4, 5, 6, 7, 8, 9, 10, 11, 12, 13, 14, 15, 16, 17, 18, 19, 20, 21, 22, 23] (by decide) rfl (Nat.le_of_ble_eq_true rfl) (Nat.le_of_ble_eq_true rfl) dX6_order_68 ⟨hq6, hq7, hq8⟩
        · skip
          refine lv_aload_n hx hb dX6_order_54 rfl (lv_at hl 0 rfl) ?_
          refine va_get (D := D) (ci := 6) (v := .ref Qh) (C := RX6) (T := TX6) (N := 14) hx hb hts in_X6_order_6 hown hK.1 hP 0 rfl rfl 10 (by decide) (hts (.fieldLink RX6 65 "ChildCoins" "rows" "LChildCoins$Rows;") (List.mem_of_getElem? (i := 1) rfl)) (fun _ h9 => h9) rfl dX6_order_55 ?_
          refine va_getN (D := D) (ci := 4) (v := .ref Qa2) (C := RX4) (T := TX4) (N := 4) hx hb hts in_X6_order_4 hown hK.1 hP 3 rfl rfl 2 (by decide) (nfX6_198 hK.2) (fun _ h9 => h9) rfl dX6_order_58 ?_
          refine lv_iload_n hx hb dX6_order_61 rfl (lv_at hl 1 rfl) ?_
          refine va_iald hx hb hK.1 hP 5 0 rfl rfl (vp_in_nI (n := ki) (N := 5) (by omega) (by decide)) dX6_order_62 ?_
          refine set_i (y := nI (u3.1 2 ki)) (nF_ld (by omega)) ?_
          refine lv_goto (tgt := 68) hx hb dX6_order_63 (by decide) ?_
          exact en_i hx hb hr hlk hP hD hS (u3.1, u3.2.1, u3.2.2) [0, 1, 2, 3, 4, 5, 6, 7, 8, 9, 10, 11, 12, 13, 14, 15, 16, 17, 18, 19, 20, 21, 22, 23] (by decide) rfl (Nat.le_of_ble_eq_true rfl) (Nat.le_of_ble_eq_true rfl) dX6_order_68 ⟨hq6, hq7, hq8⟩
      · skip
        refine lv_aload_n hx hb dX6_order_35 rfl (lv_at hl 0 rfl) ?_
        refine va_get (D := D) (ci := 6) (v := .ref Qh) (C := RX6) (T := TX6) (N := 14) hx hb hts in_X6_order_6 hown hK.1 hP 0 rfl rfl 10 (by decide) (hts (.fieldLink RX6 65 "ChildCoins" "rows" "LChildCoins$Rows;") (List.mem_of_getElem? (i := 1) rfl)) (fun _ h9 => h9) rfl dX6_order_36 ?_
        refine va_getN (D := D) (ci := 4) (v := .int (nI (u3.1 3 0))) (C := RX4) (T := TX4) (N := 4) hx hb hts in_X6_order_4 hown hK.1 hP 3 rfl rfl 3 (by decide) (nfX6_195 hK.2) (fun _ h9 => h9) rfl dX6_order_39 ?_
        exact en_i hx hb hr hlk hP hD hS (u3.1, u3.2.1, u3.2.2) [0, 1, 2, 3, 4, 5, 6, 7, 8, 9, 10, 11, 12, 13, 14, 15, 16, 17, 18, 19, 20, 21, 22, 23] (by decide) rfl (Nat.le_of_ble_eq_true rfl) (Nat.le_of_ble_eq_true rfl) dX6_order_42 ⟨hq6, hq7, hq8⟩
    · skip
      refine lv_iconst (v := -1) hx hb dX6_order_10 (by decide) ?_
      exact en_i hx hb hr hlk hP hD hS (QS, KS, YS) [0, 1, 2, 3, 4, 5, 6, 7, 8, 9, 10, 11, 12, 13, 14, 15, 16, 17, 18, 19, 20, 21, 22, 23] (by decide) rfl (Nat.le_of_ble_eq_true rfl) (Nat.le_of_ble_eq_true rfl) dX6_order_11 ⟨hQ, hK0, hY⟩
