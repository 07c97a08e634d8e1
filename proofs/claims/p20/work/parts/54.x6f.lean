set_option maxRecDepth 20000 in
theorem dAX6_asCoin : decA cX6_asCoin [(0, .aload_n 0, 1), (1, .dup, 1), (2, .getfield 75, 3), (5, .lconst 1, 1), (6, .ladd, 1), (7, .putfield 75, 3), (10, .aload_n 0, 1), (11, .getfield 27, 3), (14, .getfield 94, 3), (17, .iload_n 1, 1), (18, .iaload, 1), (19, .ireturn, 1)] = true := by decide +kernel
theorem dX6_asCoin_0 : decode cX6_asCoin 0 = .ok (.aload_n 0, 1) := decA_get dAX6_asCoin 0 rfl
theorem dX6_asCoin_1 : decode cX6_asCoin 1 = .ok (.dup, 1) := decA_get dAX6_asCoin 1 rfl
theorem dX6_asCoin_2 : decode cX6_asCoin 2 = .ok (.getfield 75, 3) := decA_get dAX6_asCoin 2 rfl
theorem in_X6_asCoin_6 : ∀ w ∈ wsX60, w ∈ wsX6_asCoin := fun w h => (gd_ids wi_X6_asCoin wm_X6_asCoin wi_X60 (by decide +kernel) w h).1
theorem dX6_asCoin_5 : decode cX6_asCoin 5 = .ok (.lconst 1, 1) := decA_get dAX6_asCoin 3 rfl
theorem dX6_asCoin_6 : decode cX6_asCoin 6 = .ok (.ladd, 1) := decA_get dAX6_asCoin 4 rfl
theorem dX6_asCoin_7 : decode cX6_asCoin 7 = .ok (.putfield 75, 3) := decA_get dAX6_asCoin 5 rfl
theorem dX6_asCoin_10 : decode cX6_asCoin 10 = .ok (.aload_n 0, 1) := decA_get dAX6_asCoin 6 rfl
theorem dX6_asCoin_11 : decode cX6_asCoin 11 = .ok (.getfield 27, 3) := decA_get dAX6_asCoin 7 rfl
theorem dX6_asCoin_14 : decode cX6_asCoin 14 = .ok (.getfield 94, 3) := decA_get dAX6_asCoin 8 rfl
theorem in_X6_asCoin_0 : ∀ w ∈ wsX00, w ∈ wsX6_asCoin := fun w h => (gd_ids wi_X6_asCoin wm_X6_asCoin wi_X00 (by decide +kernel) w h).1
theorem dX6_asCoin_17 : decode cX6_asCoin 17 = .ok (.iload_n 1, 1) := decA_get dAX6_asCoin 9 rfl
theorem dX6_asCoin_18 : decode cX6_asCoin 18 = .ok (.iaload, 1) := decA_get dAX6_asCoin 10 rfl
theorem dX6_asCoin_19 : decode cX6_asCoin 19 = .ok (.ireturn, 1) := decA_get dAX6_asCoin 11 rfl
set_option maxRecDepth 20000 in
theorem dAX6_asGroat : decA cX6_asGroat [(0, .aload_n 0, 1), (1, .dup, 1), (2, .getfield 75, 3), (5, .ldc2_w 276, 3), (8, .ladd, 1), (9, .putfield 75, 3), (12, .aload_n 0, 1), (13, .iload_n 1, 1), (14, .invokevirtual 227, 3), (17, .aload_n 0, 1), (18, .getfield 37, 3), (21, .iload_n 1, 1), (22, .invokevirtual 101, 3), (25, .iadd, 1), (26, .ireturn, 1)] = true := by decide +kernel
theorem dX6_asGroat_0 : decode cX6_asGroat 0 = .ok (.aload_n 0, 1) := decA_get dAX6_asGroat 0 rfl
theorem dX6_asGroat_1 : decode cX6_asGroat 1 = .ok (.dup, 1) := decA_get dAX6_asGroat 1 rfl
theorem dX6_asGroat_2 : decode cX6_asGroat 2 = .ok (.getfield 75, 3) := decA_get dAX6_asGroat 2 rfl
theorem in_X6_asGroat_6 : ∀ w ∈ wsX60, w ∈ wsX6_asGroat := fun w h => (gd_ids wi_X6_asGroat wm_X6_asGroat wi_X60 (by decide +kernel) w h).1
theorem dX6_asGroat_5 : decode cX6_asGroat 5 = .ok (.ldc2_w 276, 3) := decA_get dAX6_asGroat 3 rfl
theorem dX6_asGroat_8 : decode cX6_asGroat 8 = .ok (.ladd, 1) := decA_get dAX6_asGroat 4 rfl
theorem dX6_asGroat_9 : decode cX6_asGroat 9 = .ok (.putfield 75, 3) := decA_get dAX6_asGroat 5 rfl
theorem dX6_asGroat_12 : decode cX6_asGroat 12 = .ok (.aload_n 0, 1) := decA_get dAX6_asGroat 6 rfl
theorem dX6_asGroat_13 : decode cX6_asGroat 13 = .ok (.iload_n 1, 1) := decA_get dAX6_asGroat 7 rfl
theorem dX6_asGroat_14 : decode cX6_asGroat 14 = .ok (.invokevirtual 227, 3) := decA_get dAX6_asGroat 8 rfl
set_option maxRecDepth 20000 in
theorem ggX6_asGroat_X6_asCoin : GoodIn wsX6_asGroat wsX6_asCoin := gd_ids wi_X6_asGroat wm_X6_asGroat wi_X6_asCoin (by decide +kernel)
set_option maxRecDepth 20000 in
theorem gX6_asGroat_X6_asCoin : GoodIn wsX6_asGroat (wsV RX6 227 RX6 yX6_asCoin wsX6_asCoin) := goodIn_app (gd_ids wi_X6_asGroat wm_X6_asGroat (b := [416, 417, 418, 344]) rfl (by decide +kernel)) ggX6_asGroat_X6_asCoin
theorem dX6_asGroat_17 : decode cX6_asGroat 17 = .ok (.aload_n 0, 1) := decA_get dAX6_asGroat 9 rfl
theorem dX6_asGroat_18 : decode cX6_asGroat 18 = .ok (.getfield 37, 3) := decA_get dAX6_asGroat 10 rfl
theorem dX6_asGroat_21 : decode cX6_asGroat 21 = .ok (.iload_n 1, 1) := decA_get dAX6_asGroat 11 rfl
theorem dX6_asGroat_22 : decode cX6_asGroat 22 = .ok (.invokevirtual 101, 3) := decA_get dAX6_asGroat 12 rfl
set_option maxRecDepth 20000 in
theorem ggX6_asGroat_X1_inAll : GoodIn wsX6_asGroat wsX1_inAll := gd_ids wi_X6_asGroat wm_X6_asGroat wi_X1_inAll (by decide +kernel)
theorem dX6_asGroat_25 : decode cX6_asGroat 25 = .ok (.iadd, 1) := decA_get dAX6_asGroat 13 rfl
theorem dX6_asGroat_26 : decode cX6_asGroat 26 = .ok (.ireturn, 1) := decA_get dAX6_asGroat 14 rfl
set_option maxRecDepth 20000 in
theorem dAX6_asSixpence : decA cX6_asSixpence [(0, .aload_n 0, 1), (1, .dup, 1), (2, .getfield 75, 3), (5, .ldc2_w 278, 3), (8, .ladd, 1), (9, .putfield 75, 3), (12, .aload_n 0, 1), (13, .iload_n 1, 1), (14, .invokevirtual 227, 3), (17, .aload_n 0, 1), (18, .getfield 27, 3), (21, .getfield 91, 3), (24, .iload_n 1, 1), (25, .iaload, 1), (26, .isub, 1), (27, .ireturn, 1)] = true := by decide +kernel
theorem dX6_asSixpence_0 : decode cX6_asSixpence 0 = .ok (.aload_n 0, 1) := decA_get dAX6_asSixpence 0 rfl
theorem dX6_asSixpence_1 : decode cX6_asSixpence 1 = .ok (.dup, 1) := decA_get dAX6_asSixpence 1 rfl
theorem dX6_asSixpence_2 : decode cX6_asSixpence 2 = .ok (.getfield 75, 3) := decA_get dAX6_asSixpence 2 rfl
theorem in_X6_asSixpence_6 : ∀ w ∈ wsX60, w ∈ wsX6_asSixpence := fun w h => (gd_ids wi_X6_asSixpence wm_X6_asSixpence wi_X60 (by decide +kernel) w h).1
theorem dX6_asSixpence_5 : decode cX6_asSixpence 5 = .ok (.ldc2_w 278, 3) := decA_get dAX6_asSixpence 3 rfl
theorem dX6_asSixpence_8 : decode cX6_asSixpence 8 = .ok (.ladd, 1) := decA_get dAX6_asSixpence 4 rfl
theorem dX6_asSixpence_9 : decode cX6_asSixpence 9 = .ok (.putfield 75, 3) := decA_get dAX6_asSixpence 5 rfl
theorem dX6_asSixpence_12 : decode cX6_asSixpence 12 = .ok (.aload_n 0, 1) := decA_get dAX6_asSixpence 6 rfl
theorem dX6_asSixpence_13 : decode cX6_asSixpence 13 = .ok (.iload_n 1, 1) := decA_get dAX6_asSixpence 7 rfl
theorem dX6_asSixpence_14 : decode cX6_asSixpence 14 = .ok (.invokevirtual 227, 3) := decA_get dAX6_asSixpence 8 rfl
set_option maxRecDepth 20000 in
theorem ggX6_asSixpence_X6_asCoin : GoodIn wsX6_asSixpence wsX6_asCoin := gd_ids wi_X6_asSixpence wm_X6_asSixpence wi_X6_asCoin (by decide +kernel)
set_option maxRecDepth 20000 in
theorem gX6_asSixpence_X6_asCoin : GoodIn wsX6_asSixpence (wsV RX6 227 RX6 yX6_asCoin wsX6_asCoin) := goodIn_app (gd_ids wi_X6_asSixpence wm_X6_asSixpence (b := [416, 417, 418, 344]) rfl (by decide +kernel)) ggX6_asSixpence_X6_asCoin
theorem dX6_asSixpence_17 : decode cX6_asSixpence 17 = .ok (.aload_n 0, 1) := decA_get dAX6_asSixpence 9 rfl
theorem dX6_asSixpence_18 : decode cX6_asSixpence 18 = .ok (.getfield 27, 3) := decA_get dAX6_asSixpence 10 rfl
theorem dX6_asSixpence_21 : decode cX6_asSixpence 21 = .ok (.getfield 91, 3) := decA_get dAX6_asSixpence 11 rfl
theorem in_X6_asSixpence_0 : ∀ w ∈ wsX00, w ∈ wsX6_asSixpence := fun w h => (gd_ids wi_X6_asSixpence wm_X6_asSixpence wi_X00 (by decide +kernel) w h).1
theorem dX6_asSixpence_24 : decode cX6_asSixpence 24 = .ok (.iload_n 1, 1) := decA_get dAX6_asSixpence 12 rfl
theorem dX6_asSixpence_25 : decode cX6_asSixpence 25 = .ok (.iaload, 1) := decA_get dAX6_asSixpence 13 rfl
theorem dX6_asSixpence_26 : decode cX6_asSixpence 26 = .ok (.isub, 1) := decA_get dAX6_asSixpence 14 rfl
theorem dX6_asSixpence_27 : decode cX6_asSixpence 27 = .ok (.ireturn, 1) := decA_get dAX6_asSixpence 15 rfl
set_option maxRecDepth 20000 in
theorem dAX6_asFour : decA cX6_asFour [(0, .aload_n 0, 1), (1, .dup, 1), (2, .getfield 75, 3), (5, .ldc2_w 280, 3), (8, .ladd, 1), (9, .putfield 75, 3), (12, .aload_n 0, 1), (13, .iload_n 1, 1), (14, .invokevirtual 230, 3), (17, .iconst 2, 1), (18, .imul, 1), (19, .ireturn, 1)] = true := by decide +kernel
theorem dX6_asFour_0 : decode cX6_asFour 0 = .ok (.aload_n 0, 1) := decA_get dAX6_asFour 0 rfl
theorem dX6_asFour_1 : decode cX6_asFour 1 = .ok (.dup, 1) := decA_get dAX6_asFour 1 rfl
theorem dX6_asFour_2 : decode cX6_asFour 2 = .ok (.getfield 75, 3) := decA_get dAX6_asFour 2 rfl
theorem in_X6_asFour_6 : ∀ w ∈ wsX60, w ∈ wsX6_asFour := fun w h => (gd_ids wi_X6_asFour wm_X6_asFour wi_X60 (by decide +kernel) w h).1
theorem dX6_asFour_5 : decode cX6_asFour 5 = .ok (.ldc2_w 280, 3) := decA_get dAX6_asFour 3 rfl
theorem dX6_asFour_8 : decode cX6_asFour 8 = .ok (.ladd, 1) := decA_get dAX6_asFour 4 rfl
theorem dX6_asFour_9 : decode cX6_asFour 9 = .ok (.putfield 75, 3) := decA_get dAX6_asFour 5 rfl
theorem dX6_asFour_12 : decode cX6_asFour 12 = .ok (.aload_n 0, 1) := decA_get dAX6_asFour 6 rfl
theorem dX6_asFour_13 : decode cX6_asFour 13 = .ok (.iload_n 1, 1) := decA_get dAX6_asFour 7 rfl
theorem dX6_asFour_14 : decode cX6_asFour 14 = .ok (.invokevirtual 230, 3) := decA_get dAX6_asFour 8 rfl
set_option maxRecDepth 20000 in
theorem ggX6_asFour_X6_asGroat : GoodIn wsX6_asFour wsX6_asGroat := gd_ids wi_X6_asFour wm_X6_asFour wi_X6_asGroat (by decide +kernel)
set_option maxRecDepth 20000 in
theorem gX6_asFour_X6_asGroat : GoodIn wsX6_asFour (wsV RX6 230 RX6 yX6_asGroat wsX6_asGroat) := goodIn_app (gd_ids wi_X6_asFour wm_X6_asFour (b := [423, 424, 425, 344]) rfl (by decide +kernel)) ggX6_asFour_X6_asGroat
theorem dX6_asFour_17 : decode cX6_asFour 17 = .ok (.iconst 2, 1) := decA_get dAX6_asFour 9 rfl
theorem dX6_asFour_18 : decode cX6_asFour 18 = .ok (.imul, 1) := decA_get dAX6_asFour 10 rfl
theorem dX6_asFour_19 : decode cX6_asFour 19 = .ok (.ireturn, 1) := decA_get dAX6_asFour 11 rfl
set_option maxRecDepth 20000 in
theorem dAX6_asWidow : decA cX6_asWidow [(0, .aload_n 0, 1), (1, .dup, 1), (2, .getfield 75, 3), (5, .ldc2_w 282, 3), (8, .ladd, 1), (9, .putfield 75, 3), (12, .aload_n 0, 1), (13, .iload_n 1, 1), (14, .invokevirtual 233, 3), (17, .aload_n 0, 1), (18, .getfield 27, 3), (21, .iload_n 1, 1), (22, .invokevirtual 97, 3), (25, .invokestatic 249, 3), (28, .iadd, 1), (29, .ireturn, 1)] = true := by decide +kernel
theorem dX6_asWidow_0 : decode cX6_asWidow 0 = .ok (.aload_n 0, 1) := decA_get dAX6_asWidow 0 rfl
theorem dX6_asWidow_1 : decode cX6_asWidow 1 = .ok (.dup, 1) := decA_get dAX6_asWidow 1 rfl
theorem dX6_asWidow_2 : decode cX6_asWidow 2 = .ok (.getfield 75, 3) := decA_get dAX6_asWidow 2 rfl
theorem in_X6_asWidow_6 : ∀ w ∈ wsX60, w ∈ wsX6_asWidow := fun w h => (gd_ids wi_X6_asWidow wm_X6_asWidow wi_X60 (by decide +kernel) w h).1
theorem dX6_asWidow_5 : decode cX6_asWidow 5 = .ok (.ldc2_w 282, 3) := decA_get dAX6_asWidow 3 rfl
theorem dX6_asWidow_8 : decode cX6_asWidow 8 = .ok (.ladd, 1) := decA_get dAX6_asWidow 4 rfl
theorem dX6_asWidow_9 : decode cX6_asWidow 9 = .ok (.putfield 75, 3) := decA_get dAX6_asWidow 5 rfl
theorem dX6_asWidow_12 : decode cX6_asWidow 12 = .ok (.aload_n 0, 1) := decA_get dAX6_asWidow 6 rfl
theorem dX6_asWidow_13 : decode cX6_asWidow 13 = .ok (.iload_n 1, 1) := decA_get dAX6_asWidow 7 rfl
theorem dX6_asWidow_14 : decode cX6_asWidow 14 = .ok (.invokevirtual 233, 3) := decA_get dAX6_asWidow 8 rfl
set_option maxRecDepth 20000 in
theorem ggX6_asWidow_X6_asSixpence : GoodIn wsX6_asWidow wsX6_asSixpence := gd_ids wi_X6_asWidow wm_X6_asWidow wi_X6_asSixpence (by decide +kernel)
set_option maxRecDepth 20000 in
theorem gX6_asWidow_X6_asSixpence : GoodIn wsX6_asWidow (wsV RX6 233 RX6 yX6_asSixpence wsX6_asSixpence) := goodIn_app (gd_ids wi_X6_asWidow wm_X6_asWidow (b := [427, 428, 429, 344]) rfl (by decide +kernel)) ggX6_asWidow_X6_asSixpence
theorem dX6_asWidow_17 : decode cX6_asWidow 17 = .ok (.aload_n 0, 1) := decA_get dAX6_asWidow 9 rfl
theorem dX6_asWidow_18 : decode cX6_asWidow 18 = .ok (.getfield 27, 3) := decA_get dAX6_asWidow 10 rfl
theorem dX6_asWidow_21 : decode cX6_asWidow 21 = .ok (.iload_n 1, 1) := decA_get dAX6_asWidow 11 rfl
theorem dX6_asWidow_22 : decode cX6_asWidow 22 = .ok (.invokevirtual 97, 3) := decA_get dAX6_asWidow 12 rfl
set_option maxRecDepth 20000 in
theorem ggX6_asWidow_X0_peopleFor : GoodIn wsX6_asWidow wsX0_peopleFor := gd_ids wi_X6_asWidow wm_X6_asWidow wi_X0_peopleFor (by decide +kernel)
theorem dX6_asWidow_25 : decode cX6_asWidow 25 = .ok (.invokestatic 249, 3) := decA_get dAX6_asWidow 13 rfl
set_option maxRecDepth 20000 in
theorem ggX6_asWidow_J6_bitCount_0f7a4 : GoodIn wsX6_asWidow wsJ6_bitCount_0f7a4 := gd_ids wi_X6_asWidow wm_X6_asWidow wi_J6_bitCount_0f7a4 (by decide +kernel)
theorem dX6_asWidow_28 : decode cX6_asWidow 28 = .ok (.iadd, 1) := decA_get dAX6_asWidow 14 rfl
theorem dX6_asWidow_29 : decode cX6_asWidow 29 = .ok (.ireturn, 1) := decA_get dAX6_asWidow 15 rfl
set_option maxRecDepth 20000 in
theorem dAX6_asFake : decA cX6_asFake [(0, .aload_n 0, 1), (1, .dup, 1), (2, .getfield 75, 3), (5, .ldc2_w 284, 3), (8, .ladd, 1), (9, .putfield 75, 3), (12, .aload_n 0, 1), (13, .iload_n 1, 1), (14, .invokevirtual 227, 3), (17, .aload_n 0, 1), (18, .getfield 37, 3), (21, .invokevirtual 178, 3), (24, .invokestatic 249, 3), (27, .iadd, 1), (28, .ireturn, 1)] = true := by decide +kernel
theorem dX6_asFake_0 : decode cX6_asFake 0 = .ok (.aload_n 0, 1) := decA_get dAX6_asFake 0 rfl
theorem dX6_asFake_1 : decode cX6_asFake 1 = .ok (.dup, 1) := decA_get dAX6_asFake 1 rfl
theorem dX6_asFake_2 : decode cX6_asFake 2 = .ok (.getfield 75, 3) := decA_get dAX6_asFake 2 rfl
theorem in_X6_asFake_6 : ∀ w ∈ wsX60, w ∈ wsX6_asFake := fun w h => (gd_ids wi_X6_asFake wm_X6_asFake wi_X60 (by decide +kernel) w h).1
theorem dX6_asFake_5 : decode cX6_asFake 5 = .ok (.ldc2_w 284, 3) := decA_get dAX6_asFake 3 rfl
theorem dX6_asFake_8 : decode cX6_asFake 8 = .ok (.ladd, 1) := decA_get dAX6_asFake 4 rfl
theorem dX6_asFake_9 : decode cX6_asFake 9 = .ok (.putfield 75, 3) := decA_get dAX6_asFake 5 rfl
theorem dX6_asFake_12 : decode cX6_asFake 12 = .ok (.aload_n 0, 1) := decA_get dAX6_asFake 6 rfl
theorem dX6_asFake_13 : decode cX6_asFake 13 = .ok (.iload_n 1, 1) := decA_get dAX6_asFake 7 rfl
theorem dX6_asFake_14 : decode cX6_asFake 14 = .ok (.invokevirtual 227, 3) := decA_get dAX6_asFake 8 rfl
set_option maxRecDepth 20000 in
theorem ggX6_asFake_X6_asCoin : GoodIn wsX6_asFake wsX6_asCoin := gd_ids wi_X6_asFake wm_X6_asFake wi_X6_asCoin (by decide +kernel)
set_option maxRecDepth 20000 in
theorem gX6_asFake_X6_asCoin : GoodIn wsX6_asFake (wsV RX6 227 RX6 yX6_asCoin wsX6_asCoin) := goodIn_app (gd_ids wi_X6_asFake wm_X6_asFake (b := [416, 417, 418, 344]) rfl (by decide +kernel)) ggX6_asFake_X6_asCoin
theorem dX6_asFake_17 : decode cX6_asFake 17 = .ok (.aload_n 0, 1) := decA_get dAX6_asFake 9 rfl
theorem dX6_asFake_18 : decode cX6_asFake 18 = .ok (.getfield 37, 3) := decA_get dAX6_asFake 10 rfl
theorem dX6_asFake_21 : decode cX6_asFake 21 = .ok (.invokevirtual 178, 3) := decA_get dAX6_asFake 11 rfl
set_option maxRecDepth 20000 in
theorem ggX6_asFake_X1_openBits : GoodIn wsX6_asFake wsX1_openBits := gd_ids wi_X6_asFake wm_X6_asFake wi_X1_openBits (by decide +kernel)
theorem dX6_asFake_24 : decode cX6_asFake 24 = .ok (.invokestatic 249, 3) := decA_get dAX6_asFake 12 rfl
set_option maxRecDepth 20000 in
theorem ggX6_asFake_J6_bitCount_0f7a4 : GoodIn wsX6_asFake wsJ6_bitCount_0f7a4 := gd_ids wi_X6_asFake wm_X6_asFake wi_J6_bitCount_0f7a4 (by decide +kernel)
theorem dX6_asFake_27 : decode cX6_asFake 27 = .ok (.iadd, 1) := decA_get dAX6_asFake 13 rfl
theorem dX6_asFake_28 : decode cX6_asFake 28 = .ok (.ireturn, 1) := decA_get dAX6_asFake 14 rfl
set_option maxRecDepth 20000 in
theorem dAX6_mark : decA cX6_mark [(0, .iload_n 1, 1), (1, .ifCond .lt 20, 3), (4, .iload_n 1, 1), (5, .bipush 6, 2), (7, .if_icmp .ge 14, 3), (10, .aload_n 0, 1), (11, .getfield 27, 3), (14, .iload_n 2, 1), (15, .invokevirtual 87, 3), (18, .ifCond .ne 6, 3), (21, .ldc 226, 2), (23, .ireturn, 1), (24, .iload_n 1, 1), (25, .tableswitch 65 0 4 #[35, 41, 47, 53, 59], 35), (60, .aload_n 0, 1), (61, .iload_n 2, 1), (62, .invokevirtual 227, 3), (65, .ireturn, 1), (66, .aload_n 0, 1), (67, .iload_n 2, 1), (68, .invokevirtual 230, 3), (71, .ireturn, 1), (72, .aload_n 0, 1), (73, .iload_n 2, 1), (74, .invokevirtual 233, 3), (77, .ireturn, 1), (78, .aload_n 0, 1), (79, .iload_n 2, 1), (80, .invokevirtual 236, 3), (83, .ireturn, 1), (84, .aload_n 0, 1), (85, .iload_n 2, 1), (86, .invokevirtual 239, 3), (89, .ireturn, 1), (90, .aload_n 0, 1), (91, .iload_n 2, 1), (92, .invokevirtual 242, 3), (95, .ireturn, 1)] = true := by decide +kernel
theorem dX6_mark_0 : decode cX6_mark 0 = .ok (.iload_n 1, 1) := decA_get dAX6_mark 0 rfl
theorem dX6_mark_1 : decode cX6_mark 1 = .ok (.ifCond .lt 20, 3) := decA_get dAX6_mark 1 rfl
theorem dX6_mark_21 : decode cX6_mark 21 = .ok (.ldc 226, 2) := decA_get dAX6_mark 10 rfl
theorem dX6_mark_23 : decode cX6_mark 23 = .ok (.ireturn, 1) := decA_get dAX6_mark 11 rfl
theorem dX6_mark_4 : decode cX6_mark 4 = .ok (.iload_n 1, 1) := decA_get dAX6_mark 2 rfl
theorem dX6_mark_5 : decode cX6_mark 5 = .ok (.bipush 6, 2) := decA_get dAX6_mark 3 rfl
theorem dX6_mark_7 : decode cX6_mark 7 = .ok (.if_icmp .ge 14, 3) := decA_get dAX6_mark 4 rfl
theorem dX6_mark_10 : decode cX6_mark 10 = .ok (.aload_n 0, 1) := decA_get dAX6_mark 5 rfl
theorem dX6_mark_11 : decode cX6_mark 11 = .ok (.getfield 27, 3) := decA_get dAX6_mark 6 rfl
theorem in_X6_mark_6 : ∀ w ∈ wsX60, w ∈ wsX6_mark := fun w h => (gd_ids wi_X6_mark wm_X6_mark wi_X60 (by decide +kernel) w h).1
theorem dX6_mark_14 : decode cX6_mark 14 = .ok (.iload_n 2, 1) := decA_get dAX6_mark 7 rfl
theorem dX6_mark_15 : decode cX6_mark 15 = .ok (.invokevirtual 87, 3) := decA_get dAX6_mark 8 rfl
set_option maxRecDepth 20000 in
theorem ggX6_mark_X0_hasCoin : GoodIn wsX6_mark wsX0_hasCoin := gd_ids wi_X6_mark wm_X6_mark wi_X0_hasCoin (by decide +kernel)
theorem dX6_mark_18 : decode cX6_mark 18 = .ok (.ifCond .ne 6, 3) := decA_get dAX6_mark 9 rfl
theorem dX6_mark_24 : decode cX6_mark 24 = .ok (.iload_n 1, 1) := decA_get dAX6_mark 12 rfl
theorem dX6_mark_25 : decode cX6_mark 25 = .ok (.tableswitch 65 0 4 #[35, 41, 47, 53, 59], 35) := decA_get dAX6_mark 13 rfl
theorem dX6_mark_60 : decode cX6_mark 60 = .ok (.aload_n 0, 1) := decA_get dAX6_mark 14 rfl
theorem dX6_mark_61 : decode cX6_mark 61 = .ok (.iload_n 2, 1) := decA_get dAX6_mark 15 rfl
theorem dX6_mark_62 : decode cX6_mark 62 = .ok (.invokevirtual 227, 3) := decA_get dAX6_mark 16 rfl
set_option maxRecDepth 20000 in
theorem ggX6_mark_X6_asCoin : GoodIn wsX6_mark wsX6_asCoin := gd_ids wi_X6_mark wm_X6_mark wi_X6_asCoin (by decide +kernel)
set_option maxRecDepth 20000 in
theorem gX6_mark_X6_asCoin : GoodIn wsX6_mark (wsV RX6 227 RX6 yX6_asCoin wsX6_asCoin) := goodIn_app (gd_ids wi_X6_mark wm_X6_mark (b := [416, 417, 418, 344]) rfl (by decide +kernel)) ggX6_mark_X6_asCoin
theorem dX6_mark_65 : decode cX6_mark 65 = .ok (.ireturn, 1) := decA_get dAX6_mark 17 rfl
theorem dX6_mark_66 : decode cX6_mark 66 = .ok (.aload_n 0, 1) := decA_get dAX6_mark 18 rfl
theorem dX6_mark_67 : decode cX6_mark 67 = .ok (.iload_n 2, 1) := decA_get dAX6_mark 19 rfl
theorem dX6_mark_68 : decode cX6_mark 68 = .ok (.invokevirtual 230, 3) := decA_get dAX6_mark 20 rfl
set_option maxRecDepth 20000 in
theorem ggX6_mark_X6_asGroat : GoodIn wsX6_mark wsX6_asGroat := gd_ids wi_X6_mark wm_X6_mark wi_X6_asGroat (by decide +kernel)
set_option maxRecDepth 20000 in
theorem gX6_mark_X6_asGroat : GoodIn wsX6_mark (wsV RX6 230 RX6 yX6_asGroat wsX6_asGroat) := goodIn_app (gd_ids wi_X6_mark wm_X6_mark (b := [423, 424, 425, 344]) rfl (by decide +kernel)) ggX6_mark_X6_asGroat
theorem dX6_mark_71 : decode cX6_mark 71 = .ok (.ireturn, 1) := decA_get dAX6_mark 21 rfl
theorem dX6_mark_72 : decode cX6_mark 72 = .ok (.aload_n 0, 1) := decA_get dAX6_mark 22 rfl
theorem dX6_mark_73 : decode cX6_mark 73 = .ok (.iload_n 2, 1) := decA_get dAX6_mark 23 rfl
theorem dX6_mark_74 : decode cX6_mark 74 = .ok (.invokevirtual 233, 3) := decA_get dAX6_mark 24 rfl
set_option maxRecDepth 20000 in
theorem ggX6_mark_X6_asSixpence : GoodIn wsX6_mark wsX6_asSixpence := gd_ids wi_X6_mark wm_X6_mark wi_X6_asSixpence (by decide +kernel)
set_option maxRecDepth 20000 in
theorem gX6_mark_X6_asSixpence : GoodIn wsX6_mark (wsV RX6 233 RX6 yX6_asSixpence wsX6_asSixpence) := goodIn_app (gd_ids wi_X6_mark wm_X6_mark (b := [427, 428, 429, 344]) rfl (by decide +kernel)) ggX6_mark_X6_asSixpence
theorem dX6_mark_77 : decode cX6_mark 77 = .ok (.ireturn, 1) := decA_get dAX6_mark 25 rfl
theorem dX6_mark_78 : decode cX6_mark 78 = .ok (.aload_n 0, 1) := decA_get dAX6_mark 26 rfl
theorem dX6_mark_79 : decode cX6_mark 79 = .ok (.iload_n 2, 1) := decA_get dAX6_mark 27 rfl
theorem dX6_mark_80 : decode cX6_mark 80 = .ok (.invokevirtual 236, 3) := decA_get dAX6_mark 28 rfl
set_option maxRecDepth 20000 in
theorem ggX6_mark_X6_asFour : GoodIn wsX6_mark wsX6_asFour := gd_ids wi_X6_mark wm_X6_mark wi_X6_asFour (by decide +kernel)
set_option maxRecDepth 20000 in
theorem gX6_mark_X6_asFour : GoodIn wsX6_mark (wsV RX6 236 RX6 yX6_asFour wsX6_asFour) := goodIn_app (gd_ids wi_X6_mark wm_X6_mark (b := [435, 436, 437, 344]) rfl (by decide +kernel)) ggX6_mark_X6_asFour
theorem dX6_mark_83 : decode cX6_mark 83 = .ok (.ireturn, 1) := decA_get dAX6_mark 29 rfl
theorem dX6_mark_84 : decode cX6_mark 84 = .ok (.aload_n 0, 1) := decA_get dAX6_mark 30 rfl
theorem dX6_mark_85 : decode cX6_mark 85 = .ok (.iload_n 2, 1) := decA_get dAX6_mark 31 rfl
theorem dX6_mark_86 : decode cX6_mark 86 = .ok (.invokevirtual 239, 3) := decA_get dAX6_mark 32 rfl
set_option maxRecDepth 20000 in
theorem ggX6_mark_X6_asWidow : GoodIn wsX6_mark wsX6_asWidow := gd_ids wi_X6_mark wm_X6_mark wi_X6_asWidow (by decide +kernel)
set_option maxRecDepth 20000 in
theorem gX6_mark_X6_asWidow : GoodIn wsX6_mark (wsV RX6 239 RX6 yX6_asWidow wsX6_asWidow) := goodIn_app (gd_ids wi_X6_mark wm_X6_mark (b := [438, 439, 440, 344]) rfl (by decide +kernel)) ggX6_mark_X6_asWidow
theorem dX6_mark_89 : decode cX6_mark 89 = .ok (.ireturn, 1) := decA_get dAX6_mark 33 rfl
theorem dX6_mark_90 : decode cX6_mark 90 = .ok (.aload_n 0, 1) := decA_get dAX6_mark 34 rfl
theorem dX6_mark_91 : decode cX6_mark 91 = .ok (.iload_n 2, 1) := decA_get dAX6_mark 35 rfl
theorem dX6_mark_92 : decode cX6_mark 92 = .ok (.invokevirtual 242, 3) := decA_get dAX6_mark 36 rfl
set_option maxRecDepth 20000 in
theorem ggX6_mark_X6_asFake : GoodIn wsX6_mark wsX6_asFake := gd_ids wi_X6_mark wm_X6_mark wi_X6_asFake (by decide +kernel)
set_option maxRecDepth 20000 in
theorem gX6_mark_X6_asFake : GoodIn wsX6_mark (wsV RX6 242 RX6 yX6_asFake wsX6_asFake) := goodIn_app (gd_ids wi_X6_mark wm_X6_mark (b := [441, 442, 443, 344]) rfl (by decide +kernel)) ggX6_mark_X6_asFake
theorem dX6_mark_95 : decode cX6_mark 95 = .ok (.ireturn, 1) := decA_get dAX6_mark 37 rfl
set_option maxRecDepth 20000 in
theorem dAX6_keep : decA cX6_keep [(0, .iload_n 1, 1), (1, .ifCond .lt 8, 3), (4, .iload_n 1, 1), (5, .iconst 2, 1), (6, .if_icmp .lt 5, 3), (9, .iconst (-1), 1), (10, .ireturn, 1), (11, .aload_n 0, 1), (12, .getfield 41, 3), (15, .iload_n 1, 1), (16, .aaload, 1), (17, .aload_n 0, 1), (18, .getfield 37, 3), (21, .invokevirtual 245, 3), (24, .aload_n 0, 1), (25, .dup, 1), (26, .getfield 45, 3), (29, .iconst 1, 1), (30, .iload_n 1, 1), (31, .ishl, 1), (32, .ior, 1), (33, .putfield 45, 3), (36, .aload_n 0, 1), (37, .getfield 37, 3), (40, .invokevirtual 178, 3), (43, .invokestatic 249, 3), (46, .ireturn, 1)] = true := by decide +kernel
theorem dX6_keep_0 : decode cX6_keep 0 = .ok (.iload_n 1, 1) := decA_get dAX6_keep 0 rfl
theorem dX6_keep_1 : decode cX6_keep 1 = .ok (.ifCond .lt 8, 3) := decA_get dAX6_keep 1 rfl
theorem dX6_keep_9 : decode cX6_keep 9 = .ok (.iconst (-1), 1) := decA_get dAX6_keep 5 rfl
theorem dX6_keep_10 : decode cX6_keep 10 = .ok (.ireturn, 1) := decA_get dAX6_keep 6 rfl
theorem dX6_keep_4 : decode cX6_keep 4 = .ok (.iload_n 1, 1) := decA_get dAX6_keep 2 rfl
theorem dX6_keep_5 : decode cX6_keep 5 = .ok (.iconst 2, 1) := decA_get dAX6_keep 3 rfl
theorem dX6_keep_6 : decode cX6_keep 6 = .ok (.if_icmp .lt 5, 3) := decA_get dAX6_keep 4 rfl
theorem dX6_keep_11 : decode cX6_keep 11 = .ok (.aload_n 0, 1) := decA_get dAX6_keep 7 rfl
theorem dX6_keep_12 : decode cX6_keep 12 = .ok (.getfield 41, 3) := decA_get dAX6_keep 8 rfl
theorem in_X6_keep_6 : ∀ w ∈ wsX60, w ∈ wsX6_keep := fun w h => (gd_ids wi_X6_keep wm_X6_keep wi_X60 (by decide +kernel) w h).1
theorem dX6_keep_15 : decode cX6_keep 15 = .ok (.iload_n 1, 1) := decA_get dAX6_keep 9 rfl
theorem dX6_keep_16 : decode cX6_keep 16 = .ok (.aaload, 1) := decA_get dAX6_keep 10 rfl
theorem dX6_keep_17 : decode cX6_keep 17 = .ok (.aload_n 0, 1) := decA_get dAX6_keep 11 rfl
theorem dX6_keep_18 : decode cX6_keep 18 = .ok (.getfield 37, 3) := decA_get dAX6_keep 12 rfl
theorem dX6_keep_21 : decode cX6_keep 21 = .ok (.invokevirtual 245, 3) := decA_get dAX6_keep 13 rfl
set_option maxRecDepth 20000 in
theorem ggX6_keep_X1_become : GoodIn wsX6_keep wsX1_become := gd_ids wi_X6_keep wm_X6_keep wi_X1_become (by decide +kernel)
theorem dX6_keep_24 : decode cX6_keep 24 = .ok (.aload_n 0, 1) := decA_get dAX6_keep 14 rfl
theorem dX6_keep_25 : decode cX6_keep 25 = .ok (.dup, 1) := decA_get dAX6_keep 15 rfl
theorem dX6_keep_26 : decode cX6_keep 26 = .ok (.getfield 45, 3) := decA_get dAX6_keep 16 rfl
theorem dX6_keep_29 : decode cX6_keep 29 = .ok (.iconst 1, 1) := decA_get dAX6_keep 17 rfl
theorem dX6_keep_30 : decode cX6_keep 30 = .ok (.iload_n 1, 1) := decA_get dAX6_keep 18 rfl
theorem dX6_keep_31 : decode cX6_keep 31 = .ok (.ishl, 1) := decA_get dAX6_keep 19 rfl
theorem dX6_keep_32 : decode cX6_keep 32 = .ok (.ior, 1) := decA_get dAX6_keep 20 rfl
theorem dX6_keep_33 : decode cX6_keep 33 = .ok (.putfield 45, 3) := decA_get dAX6_keep 21 rfl
theorem dX6_keep_36 : decode cX6_keep 36 = .ok (.aload_n 0, 1) := decA_get dAX6_keep 22 rfl
theorem dX6_keep_37 : decode cX6_keep 37 = .ok (.getfield 37, 3) := decA_get dAX6_keep 23 rfl
theorem dX6_keep_40 : decode cX6_keep 40 = .ok (.invokevirtual 178, 3) := decA_get dAX6_keep 24 rfl
set_option maxRecDepth 20000 in
theorem ggX6_keep_X1_openBits : GoodIn wsX6_keep wsX1_openBits := gd_ids wi_X6_keep wm_X6_keep wi_X1_openBits (by decide +kernel)
theorem dX6_keep_43 : decode cX6_keep 43 = .ok (.invokestatic 249, 3) := decA_get dAX6_keep 25 rfl
set_option maxRecDepth 20000 in
theorem ggX6_keep_J6_bitCount_0f7a4 : GoodIn wsX6_keep wsJ6_bitCount_0f7a4 := gd_ids wi_X6_keep wm_X6_keep wi_J6_bitCount_0f7a4 (by decide +kernel)
theorem dX6_keep_46 : decode cX6_keep 46 = .ok (.ireturn, 1) := decA_get dAX6_keep 26 rfl
set_option maxRecDepth 20000 in
theorem dAX6_back : decA cX6_back [(0, .iload_n 1, 1), (1, .ifCond .lt 8, 3), (4, .iload_n 1, 1), (5, .iconst 2, 1), (6, .if_icmp .lt 5, 3), (9, .iconst (-1), 1), (10, .ireturn, 1), (11, .aload_n 0, 1), (12, .getfield 45, 3), (15, .iload_n 1, 1), (16, .ishr, 1), (17, .iconst 1, 1), (18, .iand, 1), (19, .ifCond .ne 6, 3), (22, .bipush (-2), 2), (24, .ireturn, 1), (25, .aload_n 0, 1), (26, .getfield 37, 3), (29, .aload_n 0, 1), (30, .getfield 41, 3), (33, .iload_n 1, 1), (34, .aaload, 1), (35, .invokevirtual 245, 3), (38, .aload_n 0, 1), (39, .getfield 37, 3), (42, .invokevirtual 178, 3), (45, .invokestatic 249, 3), (48, .ireturn, 1)] = true := by decide +kernel
theorem dX6_back_0 : decode cX6_back 0 = .ok (.iload_n 1, 1) := decA_get dAX6_back 0 rfl
theorem dX6_back_1 : decode cX6_back 1 = .ok (.ifCond .lt 8, 3) := decA_get dAX6_back 1 rfl
theorem dX6_back_9 : decode cX6_back 9 = .ok (.iconst (-1), 1) := decA_get dAX6_back 5 rfl
theorem dX6_back_10 : decode cX6_back 10 = .ok (.ireturn, 1) := decA_get dAX6_back 6 rfl
theorem dX6_back_4 : decode cX6_back 4 = .ok (.iload_n 1, 1) := decA_get dAX6_back 2 rfl
theorem dX6_back_5 : decode cX6_back 5 = .ok (.iconst 2, 1) := decA_get dAX6_back 3 rfl
theorem dX6_back_6 : decode cX6_back 6 = .ok (.if_icmp .lt 5, 3) := decA_get dAX6_back 4 rfl
theorem dX6_back_11 : decode cX6_back 11 = .ok (.aload_n 0, 1) := decA_get dAX6_back 7 rfl
theorem dX6_back_12 : decode cX6_back 12 = .ok (.getfield 45, 3) := decA_get dAX6_back 8 rfl
theorem in_X6_back_6 : ∀ w ∈ wsX60, w ∈ wsX6_back := fun w h => (gd_ids wi_X6_back wm_X6_back wi_X60 (by decide +kernel) w h).1
theorem dX6_back_15 : decode cX6_back 15 = .ok (.iload_n 1, 1) := decA_get dAX6_back 9 rfl
theorem dX6_back_16 : decode cX6_back 16 = .ok (.ishr, 1) := decA_get dAX6_back 10 rfl
theorem dX6_back_17 : decode cX6_back 17 = .ok (.iconst 1, 1) := decA_get dAX6_back 11 rfl
theorem dX6_back_18 : decode cX6_back 18 = .ok (.iand, 1) := decA_get dAX6_back 12 rfl
theorem dX6_back_19 : decode cX6_back 19 = .ok (.ifCond .ne 6, 3) := decA_get dAX6_back 13 rfl
theorem dX6_back_25 : decode cX6_back 25 = .ok (.aload_n 0, 1) := decA_get dAX6_back 16 rfl
theorem dX6_back_26 : decode cX6_back 26 = .ok (.getfield 37, 3) := decA_get dAX6_back 17 rfl
theorem dX6_back_29 : decode cX6_back 29 = .ok (.aload_n 0, 1) := decA_get dAX6_back 18 rfl
theorem dX6_back_30 : decode cX6_back 30 = .ok (.getfield 41, 3) := decA_get dAX6_back 19 rfl
theorem dX6_back_33 : decode cX6_back 33 = .ok (.iload_n 1, 1) := decA_get dAX6_back 20 rfl
theorem dX6_back_34 : decode cX6_back 34 = .ok (.aaload, 1) := decA_get dAX6_back 21 rfl
theorem dX6_back_35 : decode cX6_back 35 = .ok (.invokevirtual 245, 3) := decA_get dAX6_back 22 rfl
set_option maxRecDepth 20000 in
theorem ggX6_back_X1_become : GoodIn wsX6_back wsX1_become := gd_ids wi_X6_back wm_X6_back wi_X1_become (by decide +kernel)
theorem dX6_back_38 : decode cX6_back 38 = .ok (.aload_n 0, 1) := decA_get dAX6_back 23 rfl
theorem dX6_back_39 : decode cX6_back 39 = .ok (.getfield 37, 3) := decA_get dAX6_back 24 rfl
theorem dX6_back_42 : decode cX6_back 42 = .ok (.invokevirtual 178, 3) := decA_get dAX6_back 25 rfl
set_option maxRecDepth 20000 in
theorem ggX6_back_X1_openBits : GoodIn wsX6_back wsX1_openBits := gd_ids wi_X6_back wm_X6_back wi_X1_openBits (by decide +kernel)
theorem dX6_back_45 : decode cX6_back 45 = .ok (.invokestatic 249, 3) := decA_get dAX6_back 26 rfl
set_option maxRecDepth 20000 in
theorem ggX6_back_J6_bitCount_0f7a4 : GoodIn wsX6_back wsJ6_bitCount_0f7a4 := gd_ids wi_X6_back wm_X6_back wi_J6_bitCount_0f7a4 (by decide +kernel)
theorem dX6_back_48 : decode cX6_back 48 = .ok (.ireturn, 1) := decA_get dAX6_back 27 rfl
theorem dX6_back_22 : decode cX6_back 22 = .ok (.bipush (-2), 2) := decA_get dAX6_back 14 rfl
theorem dX6_back_24 : decode cX6_back 24 = .ok (.ireturn, 1) := decA_get dAX6_back 15 rfl
