theorem dX7_doesGo_0 : decode cX7_doesGo 0 = .ok (.aload_n 0, 1) := by decide +kernel
theorem dX7_doesGo_1 : decode cX7_doesGo 1 = .ok (.invokevirtual 192, 3) := by decide +kernel
set_option maxRecDepth 20000 in
theorem ggX7_doesGo_X7_take : GoodIn wsX7_doesGo wsX7_take := gd_ids wi_X7_doesGo wm_X7_doesGo wi_X7_take (by decide +kernel)
set_option maxRecDepth 20000 in
theorem gX7_doesGo_X7_take : GoodIn wsX7_doesGo (wsV RX7 192 RX7 yX7_take wsX7_take) := goodIn_app (gd_ids wi_X7_doesGo wm_X7_doesGo (b := [609, 610, 611, 481]) rfl (by decide +kernel)) ggX7_doesGo_X7_take
theorem dX7_doesGo_4 : decode cX7_doesGo 4 = .ok (.iconst 0, 1) := by decide +kernel
theorem dX7_doesGo_5 : decode cX7_doesGo 5 = .ok (.istore_n 2, 1) := by decide +kernel
theorem dX7_doesGo_6 : decode cX7_doesGo 6 = .ok (.iload_n 2, 1) := by decide +kernel
theorem dX7_doesGo_7 : decode cX7_doesGo 7 = .ok (.iload_n 1, 1) := by decide +kernel
theorem dX7_doesGo_8 : decode cX7_doesGo 8 = .ok (.if_icmp .ge 42, 3) := by decide +kernel
theorem dX7_doesGo_50 : decode cX7_doesGo 50 = .ok (.iconst 1, 1) := by decide +kernel
theorem dX7_doesGo_51 : decode cX7_doesGo 51 = .ok (.ireturn, 1) := by decide +kernel
theorem dX7_doesGo_11 : decode cX7_doesGo 11 = .ok (.aload_n 0, 1) := by decide +kernel
theorem dX7_doesGo_12 : decode cX7_doesGo 12 = .ok (.aload_n 0, 1) := by decide +kernel
theorem dX7_doesGo_13 : decode cX7_doesGo 13 = .ok (.getfield 54, 3) := by decide +kernel
theorem in_X7_doesGo_7 : ∀ w ∈ wsX70, w ∈ wsX7_doesGo := fun w h => List.mem_cons_of_mem _ (List.mem_append_right _ h)
theorem dX7_doesGo_16 : decode cX7_doesGo 16 = .ok (.aload_n 0, 1) := by decide +kernel
theorem dX7_doesGo_17 : decode cX7_doesGo 17 = .ok (.getfield 66, 3) := by decide +kernel
theorem dX7_doesGo_20 : decode cX7_doesGo 20 = .ok (.iload_n 2, 1) := by decide +kernel
theorem dX7_doesGo_21 : decode cX7_doesGo 21 = .ok (.iaload, 1) := by decide +kernel
theorem dX7_doesGo_22 : decode cX7_doesGo 22 = .ok (.invokevirtual 182, 3) := by decide +kernel
set_option maxRecDepth 20000 in
theorem ggX7_doesGo_X7_canPay : GoodIn wsX7_doesGo wsX7_canPay := gd_ids wi_X7_doesGo wm_X7_doesGo wi_X7_canPay (by decide +kernel)
set_option maxRecDepth 20000 in
theorem gX7_doesGo_X7_canPay : GoodIn wsX7_doesGo (wsV RX7 182 RX7 yX7_canPay wsX7_canPay) := goodIn_app (gd_ids wi_X7_doesGo wm_X7_doesGo (b := [591, 592, 593, 481]) rfl (by decide +kernel)) ggX7_doesGo_X7_canPay
theorem dX7_doesGo_25 : decode cX7_doesGo 25 = .ok (.ifCond .ne 5, 3) := by decide +kernel
theorem dX7_doesGo_30 : decode cX7_doesGo 30 = .ok (.aload_n 0, 1) := by decide +kernel
theorem dX7_doesGo_31 : decode cX7_doesGo 31 = .ok (.aload_n 0, 1) := by decide +kernel
theorem dX7_doesGo_32 : decode cX7_doesGo 32 = .ok (.getfield 54, 3) := by decide +kernel
theorem dX7_doesGo_35 : decode cX7_doesGo 35 = .ok (.aload_n 0, 1) := by decide +kernel
theorem dX7_doesGo_36 : decode cX7_doesGo 36 = .ok (.getfield 66, 3) := by decide +kernel
theorem dX7_doesGo_39 : decode cX7_doesGo 39 = .ok (.iload_n 2, 1) := by decide +kernel
theorem dX7_doesGo_40 : decode cX7_doesGo 40 = .ok (.iaload, 1) := by decide +kernel
theorem dX7_doesGo_41 : decode cX7_doesGo 41 = .ok (.invokevirtual 188, 3) := by decide +kernel
set_option maxRecDepth 20000 in
theorem ggX7_doesGo_X7_pay : GoodIn wsX7_doesGo wsX7_pay := gd_ids wi_X7_doesGo wm_X7_doesGo wi_X7_pay (by decide +kernel)
set_option maxRecDepth 20000 in
theorem gX7_doesGo_X7_pay : GoodIn wsX7_doesGo (wsV RX7 188 RX7 yX7_pay wsX7_pay) := goodIn_app (gd_ids wi_X7_doesGo wm_X7_doesGo (b := [597, 598, 599, 481]) rfl (by decide +kernel)) ggX7_doesGo_X7_pay
theorem dX7_doesGo_44 : decode cX7_doesGo 44 = .ok (.iinc 2 1, 3) := by decide +kernel
theorem dX7_doesGo_47 : decode cX7_doesGo 47 = .ok (.goto (-41), 3) := by decide +kernel
theorem dX7_doesGo_28 : decode cX7_doesGo 28 = .ok (.iconst 0, 1) := by decide +kernel
theorem dX7_doesGo_29 : decode cX7_doesGo 29 = .ok (.ireturn, 1) := by decide +kernel
theorem dX7_findRow_0 : decode cX7_findRow 0 = .ok (.aload_n 0, 1) := by decide +kernel
theorem dX7_findRow_1 : decode cX7_findRow 1 = .ok (.getfield 47, 3) := by decide +kernel
theorem in_X7_findRow_7 : ∀ w ∈ wsX70, w ∈ wsX7_findRow := fun w h => List.mem_cons_of_mem _ (List.mem_append_right _ h)
theorem dX7_findRow_4 : decode cX7_findRow 4 = .ok (.bipush 35, 2) := by decide +kernel
theorem dX7_findRow_6 : decode cX7_findRow 6 = .ok (.iaload, 1) := by decide +kernel
theorem dX7_findRow_7 : decode cX7_findRow 7 = .ok (.invokestatic 195, 3) := by decide +kernel
set_option maxRecDepth 20000 in
theorem ggX7_findRow_X7_manyOf : GoodIn wsX7_findRow wsX7_manyOf := gd_ids wi_X7_findRow wm_X7_findRow wi_X7_manyOf (by decide +kernel)
theorem dX7_findRow_10 : decode cX7_findRow 10 = .ok (.istore_n 1, 1) := by decide +kernel
theorem dX7_findRow_11 : decode cX7_findRow 11 = .ok (.iload_n 1, 1) := by decide +kernel
theorem dX7_findRow_12 : decode cX7_findRow 12 = .ok (.ifCond .le 60, 3) := by decide +kernel
theorem dX7_findRow_72 : decode cX7_findRow 72 = .ok (.iconst 0, 1) := by decide +kernel
theorem dX7_findRow_73 : decode cX7_findRow 73 = .ok (.ireturn, 1) := by decide +kernel
theorem dX7_findRow_15 : decode cX7_findRow 15 = .ok (.iconst 1, 1) := by decide +kernel
theorem dX7_findRow_16 : decode cX7_findRow 16 = .ok (.istore_n 2, 1) := by decide +kernel
theorem dX7_findRow_17 : decode cX7_findRow 17 = .ok (.iconst 0, 1) := by decide +kernel
theorem dX7_findRow_18 : decode cX7_findRow 18 = .ok (.istore_n 3, 1) := by decide +kernel
theorem dX7_findRow_19 : decode cX7_findRow 19 = .ok (.iload_n 3, 1) := by decide +kernel
theorem dX7_findRow_20 : decode cX7_findRow 20 = .ok (.iload_n 1, 1) := by decide +kernel
theorem dX7_findRow_21 : decode cX7_findRow 21 = .ok (.if_icmp .ge 13, 3) := by decide +kernel
theorem dX7_findRow_34 : decode cX7_findRow 34 = .ok (.iconst 0, 1) := by decide +kernel
theorem dX7_findRow_35 : decode cX7_findRow 35 = .ok (.istore_n 3, 1) := by decide +kernel
theorem dX7_findRow_36 : decode cX7_findRow 36 = .ok (.iload_n 3, 1) := by decide +kernel
theorem dX7_findRow_37 : decode cX7_findRow 37 = .ok (.iload_n 2, 1) := by decide +kernel
theorem dX7_findRow_38 : decode cX7_findRow 38 = .ok (.if_icmp .ge 28, 3) := by decide +kernel
theorem dX7_findRow_66 : decode cX7_findRow 66 = .ok (.iinc 1 (-1), 3) := by decide +kernel
theorem dX7_findRow_69 : decode cX7_findRow 69 = .ok (.goto (-58), 3) := by decide +kernel
theorem dX7_findRow_41 : decode cX7_findRow 41 = .ok (.aload_n 0, 1) := by decide +kernel
theorem dX7_findRow_42 : decode cX7_findRow 42 = .ok (.iload_n 3, 1) := by decide +kernel
theorem dX7_findRow_43 : decode cX7_findRow 43 = .ok (.iload_n 1, 1) := by decide +kernel
theorem dX7_findRow_44 : decode cX7_findRow 44 = .ok (.invokevirtual 198, 3) := by decide +kernel
set_option maxRecDepth 20000 in
theorem ggX7_findRow_X7_isRow : GoodIn wsX7_findRow wsX7_isRow := gd_ids wi_X7_findRow wm_X7_findRow wi_X7_isRow (by decide +kernel)
set_option maxRecDepth 20000 in
theorem gX7_findRow_X7_isRow : GoodIn wsX7_findRow (wsV RX7 198 RX7 yX7_isRow wsX7_isRow) := goodIn_app (gd_ids wi_X7_findRow wm_X7_findRow (b := [615, 616, 617, 481]) rfl (by decide +kernel)) ggX7_findRow_X7_isRow
theorem dX7_findRow_47 : decode cX7_findRow 47 = .ok (.ifCond .eq 13, 3) := by decide +kernel
theorem dX7_findRow_60 : decode cX7_findRow 60 = .ok (.iinc 3 1, 3) := by decide +kernel
theorem dX7_findRow_63 : decode cX7_findRow 63 = .ok (.goto (-27), 3) := by decide +kernel
theorem dX7_findRow_50 : decode cX7_findRow 50 = .ok (.aload_n 0, 1) := by decide +kernel
theorem dX7_findRow_51 : decode cX7_findRow 51 = .ok (.iload_n 1, 1) := by decide +kernel
theorem dX7_findRow_52 : decode cX7_findRow 52 = .ok (.invokevirtual 201, 3) := by decide +kernel
set_option maxRecDepth 20000 in
theorem ggX7_findRow_X7_doesGo : GoodIn wsX7_findRow wsX7_doesGo := gd_ids wi_X7_findRow wm_X7_findRow wi_X7_doesGo (by decide +kernel)
set_option maxRecDepth 20000 in
theorem gX7_findRow_X7_doesGo : GoodIn wsX7_findRow (wsV RX7 201 RX7 yX7_doesGo wsX7_doesGo) := goodIn_app (gd_ids wi_X7_findRow wm_X7_findRow (b := [618, 619, 620, 481]) rfl (by decide +kernel)) ggX7_findRow_X7_doesGo
theorem dX7_findRow_55 : decode cX7_findRow 55 = .ok (.ifCond .eq 5, 3) := by decide +kernel
theorem dX7_findRow_58 : decode cX7_findRow 58 = .ok (.iload_n 1, 1) := by decide +kernel
theorem dX7_findRow_59 : decode cX7_findRow 59 = .ok (.ireturn, 1) := by decide +kernel
theorem dX7_findRow_24 : decode cX7_findRow 24 = .ok (.iload_n 2, 1) := by decide +kernel
theorem dX7_findRow_25 : decode cX7_findRow 25 = .ok (.iconst 5, 1) := by decide +kernel
theorem dX7_findRow_26 : decode cX7_findRow 26 = .ok (.imul, 1) := by decide +kernel
theorem dX7_findRow_27 : decode cX7_findRow 27 = .ok (.istore_n 2, 1) := by decide +kernel
theorem dX7_findRow_28 : decode cX7_findRow 28 = .ok (.iinc 3 1, 3) := by decide +kernel
theorem dX7_findRow_31 : decode cX7_findRow 31 = .ok (.goto (-12), 3) := by decide +kernel
theorem dX7_order_0 : decode cX7_order 0 = .ok (.iload_n 1, 1) := by decide +kernel
theorem dX7_order_1 : decode cX7_order 1 = .ok (.iconst (-1), 1) := by decide +kernel
theorem dX7_order_2 : decode cX7_order 2 = .ok (.iconst 4, 1) := by decide +kernel
theorem dX7_order_3 : decode cX7_order 3 = .ok (.invokestatic 78, 3) := by decide +kernel
set_option maxRecDepth 20000 in
theorem ggX7_order_X7_in : GoodIn wsX7_order wsX7_in := gd_ids wi_X7_order wm_X7_order wi_X7_in (by decide +kernel)
theorem dX7_order_6 : decode cX7_order 6 = .ok (.ifCond .ne 5, 3) := by decide +kernel
theorem dX7_order_11 : decode cX7_order 11 = .ok (.aload_n 0, 1) := by decide +kernel
theorem dX7_order_12 : decode cX7_order 12 = .ok (.invokevirtual 204, 3) := by decide +kernel
set_option maxRecDepth 20000 in
theorem ggX7_order_X7_findRow : GoodIn wsX7_order wsX7_findRow := gd_ids wi_X7_order wm_X7_order wi_X7_findRow (by decide +kernel)
set_option maxRecDepth 20000 in
theorem gX7_order_X7_findRow : GoodIn wsX7_order (wsV RX7 204 RX7 yX7_findRow wsX7_findRow) := goodIn_app (gd_ids wi_X7_order wm_X7_order (b := [622, 623, 624, 481]) rfl (by decide +kernel)) ggX7_order_X7_findRow
theorem dX7_order_15 : decode cX7_order 15 = .ok (.istore_n 2, 1) := by decide +kernel
theorem dX7_order_16 : decode cX7_order 16 = .ok (.iload_n 1, 1) := by decide +kernel
theorem dX7_order_17 : decode cX7_order 17 = .ok (.iconst (-1), 1) := by decide +kernel
theorem dX7_order_18 : decode cX7_order 18 = .ok (.if_icmp .ne 7, 3) := by decide +kernel
theorem dX7_order_25 : decode cX7_order 25 = .ok (.iload_n 1, 1) := by decide +kernel
theorem dX7_order_26 : decode cX7_order 26 = .ok (.iload_n 2, 1) := by decide +kernel
theorem dX7_order_27 : decode cX7_order 27 = .ok (.if_icmp .ge 12, 3) := by decide +kernel
theorem dX7_order_39 : decode cX7_order 39 = .ok (.bipush (-9), 2) := by decide +kernel
theorem dX7_order_41 : decode cX7_order 41 = .ok (.ireturn, 1) := by decide +kernel
theorem dX7_order_30 : decode cX7_order 30 = .ok (.aload_n 0, 1) := by decide +kernel
theorem dX7_order_31 : decode cX7_order 31 = .ok (.getfield 66, 3) := by decide +kernel
theorem in_X7_order_7 : ∀ w ∈ wsX70, w ∈ wsX7_order := fun w h => List.mem_cons_of_mem _ (List.mem_append_right _ h)
theorem dX7_order_34 : decode cX7_order 34 = .ok (.iload_n 1, 1) := by decide +kernel
theorem dX7_order_35 : decode cX7_order 35 = .ok (.iaload, 1) := by decide +kernel
theorem dX7_order_36 : decode cX7_order 36 = .ok (.goto 5, 3) := by decide +kernel
theorem dX7_order_21 : decode cX7_order 21 = .ok (.iload_n 2, 1) := by decide +kernel
theorem dX7_order_22 : decode cX7_order 22 = .ok (.goto 19, 3) := by decide +kernel
theorem dX7_order_9 : decode cX7_order 9 = .ok (.iconst (-1), 1) := by decide +kernel
theorem dX7_order_10 : decode cX7_order 10 = .ok (.ireturn, 1) := by decide +kernel
