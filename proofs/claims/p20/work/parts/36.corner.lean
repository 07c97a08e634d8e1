set_option maxRecDepth 20000 in
theorem dAX5_fewestKindsToCorner : decA cX5_fewestKindsToCorner [(0, .aload_n 0, 1), (1, .iconst 0, 1), (2, .invokevirtual 44, 3), (5, .ifCond .ne 5, 3), (8, .iconst 0, 1), (9, .ireturn, 1), (10, .iconst 1, 1), (11, .aload_n 0, 1), (12, .getfield 18, 3), (15, .ishl, 1), (16, .iconst 1, 1), (17, .isub, 1), (18, .istore_n 1, 1), (19, .iconst 1, 1), (20, .istore_n 2, 1), (21, .iload_n 2, 1), (22, .iconst 1, 1), (23, .aload_n 0, 1), (24, .getfield 18, 3), (27, .ishl, 1), (28, .if_icmp .ge 30, 3), (31, .iload_n 2, 1), (32, .invokestatic 48, 3), (35, .iload_n 1, 1), (36, .invokestatic 48, 3), (39, .if_icmp .ge 13, 3), (42, .aload_n 0, 1), (43, .iload_n 2, 1), (44, .invokevirtual 44, 3), (47, .ifCond .ne 5, 3), (50, .iload_n 2, 1), (51, .istore_n 1, 1), (52, .iinc 2 1, 3), (55, .goto (-34), 3), (58, .iload_n 1, 1), (59, .ireturn, 1)] = true := by decide +kernel
theorem dX5_fewestKindsToCorner_0 : decode cX5_fewestKindsToCorner 0 = .ok (.aload_n 0, 1) := decA_get dAX5_fewestKindsToCorner 0 rfl
theorem dX5_fewestKindsToCorner_1 : decode cX5_fewestKindsToCorner 1 = .ok (.iconst 0, 1) := decA_get dAX5_fewestKindsToCorner 1 rfl
theorem dX5_fewestKindsToCorner_2 : decode cX5_fewestKindsToCorner 2 = .ok (.invokevirtual 44, 3) := decA_get dAX5_fewestKindsToCorner 2 rfl
set_option maxRecDepth 20000 in
theorem ggX5_fewestKindsToCorner_X5_paysWithout : GoodIn wsX5_fewestKindsToCorner wsX5_paysWithout := gd_ids wi_X5_fewestKindsToCorner wm_X5_fewestKindsToCorner wi_X5_paysWithout (by decide +kernel)
set_option maxRecDepth 20000 in
theorem gX5_fewestKindsToCorner_X5_paysWithout : GoodIn wsX5_fewestKindsToCorner (wsV RX5 44 RX5 yX5_paysWithout wsX5_paysWithout) := goodIn_app (gd_ids wi_X5_fewestKindsToCorner wm_X5_fewestKindsToCorner (b := [280, 281, 282, 283]) rfl (by decide +kernel)) ggX5_fewestKindsToCorner_X5_paysWithout
theorem dX5_fewestKindsToCorner_5 : decode cX5_fewestKindsToCorner 5 = .ok (.ifCond .ne 5, 3) := decA_get dAX5_fewestKindsToCorner 3 rfl
theorem dX5_fewestKindsToCorner_8 : decode cX5_fewestKindsToCorner 8 = .ok (.iconst 0, 1) := decA_get dAX5_fewestKindsToCorner 4 rfl
theorem dX5_fewestKindsToCorner_9 : decode cX5_fewestKindsToCorner 9 = .ok (.ireturn, 1) := decA_get dAX5_fewestKindsToCorner 5 rfl
theorem dX5_fewestKindsToCorner_10 : decode cX5_fewestKindsToCorner 10 = .ok (.iconst 1, 1) := decA_get dAX5_fewestKindsToCorner 6 rfl
theorem dX5_fewestKindsToCorner_11 : decode cX5_fewestKindsToCorner 11 = .ok (.aload_n 0, 1) := decA_get dAX5_fewestKindsToCorner 7 rfl
theorem dX5_fewestKindsToCorner_12 : decode cX5_fewestKindsToCorner 12 = .ok (.getfield 18, 3) := decA_get dAX5_fewestKindsToCorner 8 rfl
theorem in_X5_fewestKindsToCorner_5 : ∀ w ∈ wsX50, w ∈ wsX5_fewestKindsToCorner := fun w h => (gd_ids wi_X5_fewestKindsToCorner wm_X5_fewestKindsToCorner wi_X50 (by decide +kernel) w h).1
theorem dX5_fewestKindsToCorner_15 : decode cX5_fewestKindsToCorner 15 = .ok (.ishl, 1) := decA_get dAX5_fewestKindsToCorner 9 rfl
theorem dX5_fewestKindsToCorner_16 : decode cX5_fewestKindsToCorner 16 = .ok (.iconst 1, 1) := decA_get dAX5_fewestKindsToCorner 10 rfl
theorem dX5_fewestKindsToCorner_17 : decode cX5_fewestKindsToCorner 17 = .ok (.isub, 1) := decA_get dAX5_fewestKindsToCorner 11 rfl
theorem dX5_fewestKindsToCorner_18 : decode cX5_fewestKindsToCorner 18 = .ok (.istore_n 1, 1) := decA_get dAX5_fewestKindsToCorner 12 rfl
theorem dX5_fewestKindsToCorner_19 : decode cX5_fewestKindsToCorner 19 = .ok (.iconst 1, 1) := decA_get dAX5_fewestKindsToCorner 13 rfl
theorem dX5_fewestKindsToCorner_20 : decode cX5_fewestKindsToCorner 20 = .ok (.istore_n 2, 1) := decA_get dAX5_fewestKindsToCorner 14 rfl
theorem dX5_fewestKindsToCorner_21 : decode cX5_fewestKindsToCorner 21 = .ok (.iload_n 2, 1) := decA_get dAX5_fewestKindsToCorner 15 rfl
theorem dX5_fewestKindsToCorner_22 : decode cX5_fewestKindsToCorner 22 = .ok (.iconst 1, 1) := decA_get dAX5_fewestKindsToCorner 16 rfl
theorem dX5_fewestKindsToCorner_23 : decode cX5_fewestKindsToCorner 23 = .ok (.aload_n 0, 1) := decA_get dAX5_fewestKindsToCorner 17 rfl
theorem dX5_fewestKindsToCorner_24 : decode cX5_fewestKindsToCorner 24 = .ok (.getfield 18, 3) := decA_get dAX5_fewestKindsToCorner 18 rfl
theorem dX5_fewestKindsToCorner_27 : decode cX5_fewestKindsToCorner 27 = .ok (.ishl, 1) := decA_get dAX5_fewestKindsToCorner 19 rfl
theorem dX5_fewestKindsToCorner_28 : decode cX5_fewestKindsToCorner 28 = .ok (.if_icmp .ge 30, 3) := decA_get dAX5_fewestKindsToCorner 20 rfl
theorem dX5_fewestKindsToCorner_58 : decode cX5_fewestKindsToCorner 58 = .ok (.iload_n 1, 1) := decA_get dAX5_fewestKindsToCorner 34 rfl
theorem dX5_fewestKindsToCorner_59 : decode cX5_fewestKindsToCorner 59 = .ok (.ireturn, 1) := decA_get dAX5_fewestKindsToCorner 35 rfl
theorem dX5_fewestKindsToCorner_31 : decode cX5_fewestKindsToCorner 31 = .ok (.iload_n 2, 1) := decA_get dAX5_fewestKindsToCorner 21 rfl
theorem dX5_fewestKindsToCorner_32 : decode cX5_fewestKindsToCorner 32 = .ok (.invokestatic 48, 3) := decA_get dAX5_fewestKindsToCorner 22 rfl
set_option maxRecDepth 20000 in
theorem ggX5_fewestKindsToCorner_J6_bitCount_0f7a4 : GoodIn wsX5_fewestKindsToCorner wsJ6_bitCount_0f7a4 := gd_ids wi_X5_fewestKindsToCorner wm_X5_fewestKindsToCorner wi_J6_bitCount_0f7a4 (by decide +kernel)
theorem dX5_fewestKindsToCorner_35 : decode cX5_fewestKindsToCorner 35 = .ok (.iload_n 1, 1) := decA_get dAX5_fewestKindsToCorner 23 rfl
theorem dX5_fewestKindsToCorner_36 : decode cX5_fewestKindsToCorner 36 = .ok (.invokestatic 48, 3) := decA_get dAX5_fewestKindsToCorner 24 rfl
theorem dX5_fewestKindsToCorner_39 : decode cX5_fewestKindsToCorner 39 = .ok (.if_icmp .ge 13, 3) := decA_get dAX5_fewestKindsToCorner 25 rfl
theorem dX5_fewestKindsToCorner_52 : decode cX5_fewestKindsToCorner 52 = .ok (.iinc 2 1, 3) := decA_get dAX5_fewestKindsToCorner 32 rfl
theorem dX5_fewestKindsToCorner_55 : decode cX5_fewestKindsToCorner 55 = .ok (.goto (-34), 3) := decA_get dAX5_fewestKindsToCorner 33 rfl
theorem dX5_fewestKindsToCorner_42 : decode cX5_fewestKindsToCorner 42 = .ok (.aload_n 0, 1) := decA_get dAX5_fewestKindsToCorner 26 rfl
theorem dX5_fewestKindsToCorner_43 : decode cX5_fewestKindsToCorner 43 = .ok (.iload_n 2, 1) := decA_get dAX5_fewestKindsToCorner 27 rfl
theorem dX5_fewestKindsToCorner_44 : decode cX5_fewestKindsToCorner 44 = .ok (.invokevirtual 44, 3) := decA_get dAX5_fewestKindsToCorner 28 rfl
theorem dX5_fewestKindsToCorner_47 : decode cX5_fewestKindsToCorner 47 = .ok (.ifCond .ne 5, 3) := decA_get dAX5_fewestKindsToCorner 29 rfl
theorem dX5_fewestKindsToCorner_50 : decode cX5_fewestKindsToCorner 50 = .ok (.iload_n 2, 1) := decA_get dAX5_fewestKindsToCorner 30 rfl
theorem dX5_fewestKindsToCorner_51 : decode cX5_fewestKindsToCorner 51 = .ok (.istore_n 1, 1) := decA_get dAX5_fewestKindsToCorner 31 rfl
