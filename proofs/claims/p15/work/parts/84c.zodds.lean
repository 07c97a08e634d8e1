set_option maxRecDepth 20000 in
theorem dAX7_corner : decA cX7_corner [(0, .aload_n 0, 1), (1, .iload_n 1, 1), (2, .invokevirtual 165, 3), (5, .ifCond .ne 5, 3), (8, .iconst (-1), 1), (9, .ireturn, 1), (10, .iconst 0, 1), (11, .istore_n 2, 1), (12, .aload_n 0, 1), (13, .iload_n 1, 1), (14, .iconst 0, 1), (15, .invokevirtual 176, 3), (18, .ifCond .ne 7, 3), (21, .iconst 1, 1), (22, .goto 4, 3), (25, .iconst 0, 1), (26, .istore_n 3, 1), (27, .iconst 1, 1), (28, .istore 4, 2), (30, .iload 4, 2), (32, .iconst 1, 1), (33, .aload_n 0, 1), (34, .getfield 13, 3), (37, .iconst 0, 1), (38, .iaload, 1), (39, .ishl, 1), (40, .if_icmp .ge 48, 3), (43, .iload_n 3, 1), (44, .ifCond .eq 7, 3), (47, .iload_n 2, 1), (48, .ifCond .eq 40, 3), (51, .iload_n 3, 1), (52, .ifCond .eq 15, 3), (55, .iload 4, 2), (57, .invokestatic 195, 3), (60, .iload_n 2, 1), (61, .invokestatic 195, 3), (64, .if_icmp .ge 18, 3), (67, .aload_n 0, 1), (68, .iload_n 1, 1), (69, .iload 4, 2), (71, .invokevirtual 176, 3), (74, .ifCond .ne 8, 3), (77, .iload 4, 2), (79, .istore_n 2, 1), (80, .iconst 1, 1), (81, .istore_n 3, 1), (82, .iinc 4 1, 3), (85, .goto (-55), 3), (88, .iload_n 2, 1), (89, .ireturn, 1)] = true := by decide +kernel
theorem dX7_corner_0 : decode cX7_corner 0 = .ok (.aload_n 0, 1) := decA_get dAX7_corner 0 rfl
theorem dX7_corner_1 : decode cX7_corner 1 = .ok (.iload_n 1, 1) := decA_get dAX7_corner 1 rfl
theorem dX7_corner_2 : decode cX7_corner 2 = .ok (.invokevirtual 165, 3) := decA_get dAX7_corner 2 rfl
set_option maxRecDepth 20000 in
theorem ggX7_corner_X7_isDebt : GoodIn wsX7_corner wsX7_isDebt := gd_ids wi_X7_corner wm_X7_corner wi_X7_isDebt (by decide +kernel)
set_option maxRecDepth 20000 in
theorem gX7_corner_X7_isDebt : GoodIn wsX7_corner (wsV RX7 165 RX7 yX7_isDebt wsX7_isDebt) := goodIn_app (gd_ids wi_X7_corner wm_X7_corner (b := [572, 573, 574, 481]) rfl (by decide +kernel)) ggX7_corner_X7_isDebt
theorem dX7_corner_5 : decode cX7_corner 5 = .ok (.ifCond .ne 5, 3) := decA_get dAX7_corner 3 rfl
theorem dX7_corner_10 : decode cX7_corner 10 = .ok (.iconst 0, 1) := decA_get dAX7_corner 6 rfl
theorem dX7_corner_11 : decode cX7_corner 11 = .ok (.istore_n 2, 1) := decA_get dAX7_corner 7 rfl
theorem dX7_corner_12 : decode cX7_corner 12 = .ok (.aload_n 0, 1) := decA_get dAX7_corner 8 rfl
theorem dX7_corner_13 : decode cX7_corner 13 = .ok (.iload_n 1, 1) := decA_get dAX7_corner 9 rfl
theorem dX7_corner_14 : decode cX7_corner 14 = .ok (.iconst 0, 1) := decA_get dAX7_corner 10 rfl
theorem dX7_corner_15 : decode cX7_corner 15 = .ok (.invokevirtual 176, 3) := decA_get dAX7_corner 11 rfl
set_option maxRecDepth 20000 in
theorem ggX7_corner_X7_canWorld : GoodIn wsX7_corner wsX7_canWorld := gd_ids wi_X7_corner wm_X7_corner wi_X7_canWorld (by decide +kernel)
set_option maxRecDepth 20000 in
theorem gX7_corner_X7_canWorld : GoodIn wsX7_corner (wsV RX7 176 RX7 yX7_canWorld wsX7_canWorld) := goodIn_app (gd_ids wi_X7_corner wm_X7_corner (b := [581, 582, 583, 481]) rfl (by decide +kernel)) ggX7_corner_X7_canWorld
theorem dX7_corner_18 : decode cX7_corner 18 = .ok (.ifCond .ne 7, 3) := decA_get dAX7_corner 12 rfl
theorem dX7_corner_25 : decode cX7_corner 25 = .ok (.iconst 0, 1) := decA_get dAX7_corner 15 rfl
theorem dX7_corner_26 : decode cX7_corner 26 = .ok (.istore_n 3, 1) := decA_get dAX7_corner 16 rfl
theorem dX7_corner_27 : decode cX7_corner 27 = .ok (.iconst 1, 1) := decA_get dAX7_corner 17 rfl
theorem dX7_corner_28 : decode cX7_corner 28 = .ok (.istore 4, 2) := decA_get dAX7_corner 18 rfl
theorem dX7_corner_30 : decode cX7_corner 30 = .ok (.iload 4, 2) := decA_get dAX7_corner 19 rfl
theorem dX7_corner_32 : decode cX7_corner 32 = .ok (.iconst 1, 1) := decA_get dAX7_corner 20 rfl
theorem dX7_corner_33 : decode cX7_corner 33 = .ok (.aload_n 0, 1) := decA_get dAX7_corner 21 rfl
theorem dX7_corner_34 : decode cX7_corner 34 = .ok (.getfield 13, 3) := decA_get dAX7_corner 22 rfl
theorem in_X7_corner_7 : ∀ w ∈ wsX70, w ∈ wsX7_corner := fun w h => (gd_ids wi_X7_corner wm_X7_corner wi_X70 (by decide +kernel) w h).1
theorem dX7_corner_37 : decode cX7_corner 37 = .ok (.iconst 0, 1) := decA_get dAX7_corner 23 rfl
theorem dX7_corner_38 : decode cX7_corner 38 = .ok (.iaload, 1) := decA_get dAX7_corner 24 rfl
theorem dX7_corner_39 : decode cX7_corner 39 = .ok (.ishl, 1) := decA_get dAX7_corner 25 rfl
theorem dX7_corner_40 : decode cX7_corner 40 = .ok (.if_icmp .ge 48, 3) := decA_get dAX7_corner 26 rfl
theorem dX7_corner_88 : decode cX7_corner 88 = .ok (.iload_n 2, 1) := decA_get dAX7_corner 49 rfl
theorem dX7_corner_89 : decode cX7_corner 89 = .ok (.ireturn, 1) := decA_get dAX7_corner 50 rfl
theorem dX7_corner_43 : decode cX7_corner 43 = .ok (.iload_n 3, 1) := decA_get dAX7_corner 27 rfl
theorem dX7_corner_44 : decode cX7_corner 44 = .ok (.ifCond .eq 7, 3) := decA_get dAX7_corner 28 rfl
theorem dX7_corner_51 : decode cX7_corner 51 = .ok (.iload_n 3, 1) := decA_get dAX7_corner 31 rfl
theorem dX7_corner_52 : decode cX7_corner 52 = .ok (.ifCond .eq 15, 3) := decA_get dAX7_corner 32 rfl
theorem dX7_corner_67 : decode cX7_corner 67 = .ok (.aload_n 0, 1) := decA_get dAX7_corner 38 rfl
theorem dX7_corner_68 : decode cX7_corner 68 = .ok (.iload_n 1, 1) := decA_get dAX7_corner 39 rfl
theorem dX7_corner_69 : decode cX7_corner 69 = .ok (.iload 4, 2) := decA_get dAX7_corner 40 rfl
theorem dX7_corner_71 : decode cX7_corner 71 = .ok (.invokevirtual 176, 3) := decA_get dAX7_corner 41 rfl
theorem dX7_corner_74 : decode cX7_corner 74 = .ok (.ifCond .ne 8, 3) := decA_get dAX7_corner 42 rfl
theorem dX7_corner_82 : decode cX7_corner 82 = .ok (.iinc 4 1, 3) := decA_get dAX7_corner 47 rfl
theorem dX7_corner_85 : decode cX7_corner 85 = .ok (.goto (-55), 3) := decA_get dAX7_corner 48 rfl
theorem dX7_corner_77 : decode cX7_corner 77 = .ok (.iload 4, 2) := decA_get dAX7_corner 43 rfl
theorem dX7_corner_79 : decode cX7_corner 79 = .ok (.istore_n 2, 1) := decA_get dAX7_corner 44 rfl
theorem dX7_corner_80 : decode cX7_corner 80 = .ok (.iconst 1, 1) := decA_get dAX7_corner 45 rfl
theorem dX7_corner_81 : decode cX7_corner 81 = .ok (.istore_n 3, 1) := decA_get dAX7_corner 46 rfl
theorem dX7_corner_55 : decode cX7_corner 55 = .ok (.iload 4, 2) := decA_get dAX7_corner 33 rfl
theorem dX7_corner_57 : decode cX7_corner 57 = .ok (.invokestatic 195, 3) := decA_get dAX7_corner 34 rfl
set_option maxRecDepth 20000 in
theorem ggX7_corner_X7_manyOf : GoodIn wsX7_corner wsX7_manyOf := gd_ids wi_X7_corner wm_X7_corner wi_X7_manyOf (by decide +kernel)
theorem dX7_corner_60 : decode cX7_corner 60 = .ok (.iload_n 2, 1) := decA_get dAX7_corner 35 rfl
theorem dX7_corner_61 : decode cX7_corner 61 = .ok (.invokestatic 195, 3) := decA_get dAX7_corner 36 rfl
theorem dX7_corner_64 : decode cX7_corner 64 = .ok (.if_icmp .ge 18, 3) := decA_get dAX7_corner 37 rfl
theorem dX7_corner_47 : decode cX7_corner 47 = .ok (.iload_n 2, 1) := decA_get dAX7_corner 29 rfl
theorem dX7_corner_48 : decode cX7_corner 48 = .ok (.ifCond .eq 40, 3) := decA_get dAX7_corner 30 rfl
theorem dX7_corner_21 : decode cX7_corner 21 = .ok (.iconst 1, 1) := decA_get dAX7_corner 13 rfl
theorem dX7_corner_22 : decode cX7_corner 22 = .ok (.goto 4, 3) := decA_get dAX7_corner 14 rfl
theorem dX7_corner_8 : decode cX7_corner 8 = .ok (.iconst (-1), 1) := decA_get dAX7_corner 4 rfl
theorem dX7_corner_9 : decode cX7_corner 9 = .ok (.ireturn, 1) := decA_get dAX7_corner 5 rfl
set_option maxHeartbeats 4000000 in
set_option maxRecDepth 100000 in
theorem z_corner (l : Launch) (D : va_G) (cI cB cZ cN : ClassId) (Zh : Nat) (Za1 : Nat) (Za3 : Nat) (Za4 : Nat) (Za5 : Nat) (Za6 : Nat) (Za7 : Nat) (Za8 : Nat) (Za9 : Nat) (Za10 : Nat) (Za11 : Nat) (Za12 : Nat) (Za13 : Nat) (Za20 : Nat) (Za21 : Nat) (Za22 : Nat) (Za23 : Nat) (Za24 : Nat) (Za25 : Nat) (Za26 : Nat) (Za27 : Nat) (Zt : Int64) (ZS : Nat → Nat → Nat) (v_d : Int32) (hZ : ZOk ZS) : Ci (S := (Nat → Nat → Nat)) l D cI cB cZ cN yX7_corner wsX7_corner ({ frames := 5, cells := 0, slots := 0, locals := 112 } : Room) [.ref Zh, .int v_d] [(Zh, .inr (7, [.long Zt, .ref Za1, .int (nI (ZS 2 0)), .ref Za3, .ref Za4, .ref Za5, .ref Za6, .ref Za7, .ref Za8, .ref Za9, .ref Za10, .ref Za11, .ref Za12, .ref Za13, .int (nI (ZS 14 0)), .int (nI (ZS 15 0)), .int (nI (ZS 16 0)), .int (nI (ZS 17 0)), .int (nI (ZS 18 0)), .int (nI (ZS 19 0) - nI 9), .ref Za20, .ref Za21, .ref Za22, .ref Za23, .ref Za24, .ref Za25, .ref Za26, .ref Za27, .int (nI (ZS 28 0))])), (Za1, .inl (cB, 180, .inl (bF (ZS 1)))), (Za3, .inl (cI, 2, .inl (nF (ZS 3)))), (Za4, .inl (cI, 12, .inl (nF (ZS 4)))), (Za5, .inl (cI, 12, .inl (nF (ZS 5)))), (Za6, .inl (cI, 2, .inl (nF (ZS 6)))), (Za7, .inl (cI, 10, .inl (nF (ZS 7)))), (Za8, .inl (cI, 30, .inl (nF (ZS 8)))), (Za9, .inl (cI, 2, .inl (nF (ZS 9)))), (Za10, .inl (cI, 10, .inl (nF (ZS 10)))), (Za11, .inl (cI, 5, .inl (nF (ZS 11)))), (Za12, .inl (cI, 10, .inl (nF (ZS 12)))), (Za13, .inl (cI, 2, .inl (nF (ZS 13)))), (Za20, .inl (cI, 1191, .inl (nF (ZS 20)))), (Za21, .inl (cZ, 2, .inl (nF (ZS 21)))), (Za22, .inl (cI, 36, .inl (nF (ZS 22)))), (Za23, .inl (cI, 6, .inl (nF (ZS 23)))), (Za24, .inl (cI, 427, .inl (nF (ZS 24)))), (Za25, .inl (cI, 6, .inl (nF (ZS 25)))), (Za26, .inl (cI, 5, .inl (nF (ZS 26)))), (Za27, .inl (cI, 6, .inl (nF (ZS 27))))] (fun (r : Int32) (u : (Nat → Nat → Nat)) => ZP [23, 24, 25] u ZS) (fun u => [(Zh, .inr (7, [.long Zt, .ref Za1, .int (nI (u 2 0)), .ref Za3, .ref Za4, .ref Za5, .ref Za6, .ref Za7, .ref Za8, .ref Za9, .ref Za10, .ref Za11, .ref Za12, .ref Za13, .int (nI (u 14 0)), .int (nI (u 15 0)), .int (nI (u 16 0)), .int (nI (u 17 0)), .int (nI (u 18 0)), .int (nI (u 19 0) - nI 9), .ref Za20, .ref Za21, .ref Za22, .ref Za23, .ref Za24, .ref Za25, .ref Za26, .ref Za27, .int (nI (u 28 0))])), (Za1, .inl (cB, 180, .inl (bF (u 1)))), (Za3, .inl (cI, 2, .inl (nF (u 3)))), (Za4, .inl (cI, 12, .inl (nF (u 4)))), (Za5, .inl (cI, 12, .inl (nF (u 5)))), (Za6, .inl (cI, 2, .inl (nF (u 6)))), (Za7, .inl (cI, 10, .inl (nF (u 7)))), (Za8, .inl (cI, 30, .inl (nF (u 8)))), (Za9, .inl (cI, 2, .inl (nF (u 9)))), (Za10, .inl (cI, 10, .inl (nF (u 10)))), (Za11, .inl (cI, 5, .inl (nF (u 11)))), (Za12, .inl (cI, 10, .inl (nF (u 12)))), (Za13, .inl (cI, 2, .inl (nF (u 13)))), (Za20, .inl (cI, 1191, .inl (nF (u 20)))), (Za21, .inl (cZ, 2, .inl (nF (u 21)))), (Za22, .inl (cI, 36, .inl (nF (u 22)))), (Za23, .inl (cI, 6, .inl (nF (u 23)))), (Za24, .inl (cI, 427, .inl (nF (u 24)))), (Za25, .inl (cI, 6, .inl (nF (u 25)))), (Za26, .inl (cI, 5, .inl (nF (u 26)))), (Za27, .inl (cI, 6, .inl (nF (u 27))))]) := by
  refine bx_of (D := D) (cI := cI) (cB := cB) (cZ := cZ) (cN := cN) (y := yX7_corner) (wd := wsX7_corner) (rm := ({ frames := 5, cells := 0, slots := 0, locals := 112 } : Room)) (av := [.ref Zh, .int v_d]) (wc := [(Zh, .inr (7, [.long Zt, .ref Za1, .int (nI (ZS 2 0)), .ref Za3, .ref Za4, .ref Za5, .ref Za6, .ref Za7, .ref Za8, .ref Za9, .ref Za10, .ref Za11, .ref Za12, .ref Za13, .int (nI (ZS 14 0)), .int (nI (ZS 15 0)), .int (nI (ZS 16 0)), .int (nI (ZS 17 0)), .int (nI (ZS 18 0)), .int (nI (ZS 19 0) - nI 9), .ref Za20, .ref Za21, .ref Za22, .ref Za23, .ref Za24, .ref Za25, .ref Za26, .ref Za27, .int (nI (ZS 28 0))])), (Za1, .inl (cB, 180, .inl (bF (ZS 1)))), (Za3, .inl (cI, 2, .inl (nF (ZS 3)))), (Za4, .inl (cI, 12, .inl (nF (ZS 4)))), (Za5, .inl (cI, 12, .inl (nF (ZS 5)))), (Za6, .inl (cI, 2, .inl (nF (ZS 6)))), (Za7, .inl (cI, 10, .inl (nF (ZS 7)))), (Za8, .inl (cI, 30, .inl (nF (ZS 8)))), (Za9, .inl (cI, 2, .inl (nF (ZS 9)))), (Za10, .inl (cI, 10, .inl (nF (ZS 10)))), (Za11, .inl (cI, 5, .inl (nF (ZS 11)))), (Za12, .inl (cI, 10, .inl (nF (ZS 12)))), (Za13, .inl (cI, 2, .inl (nF (ZS 13)))), (Za20, .inl (cI, 1191, .inl (nF (ZS 20)))), (Za21, .inl (cZ, 2, .inl (nF (ZS 21)))), (Za22, .inl (cI, 36, .inl (nF (ZS 22)))), (Za23, .inl (cI, 6, .inl (nF (ZS 23)))), (Za24, .inl (cI, 427, .inl (nF (ZS 24)))), (Za25, .inl (cI, 6, .inl (nF (ZS 25)))), (Za26, .inl (cI, 5, .inl (nF (ZS 26)))), (Za27, .inl (cI, 6, .inl (nF (ZS 27))))]) (cc := cX7_corner) (maxL := 5) (ret := (some .int)) (Qc := fun _ A => va_Qi (S := (Nat → Nat → Nat)) (fun (r : Int32) (u : (Nat → Nat → Nat)) => ZP [23, 24, 25] u ZS) (Aft D (fun (u : (Nat → Nat → Nat)) => [(Zh, .inr (7, [.long Zt, .ref Za1, .int (nI (u 2 0)), .ref Za3, .ref Za4, .ref Za5, .ref Za6, .ref Za7, .ref Za8, .ref Za9, .ref Za10, .ref Za11, .ref Za12, .ref Za13, .int (nI (u 14 0)), .int (nI (u 15 0)), .int (nI (u 16 0)), .int (nI (u 17 0)), .int (nI (u 18 0)), .int (nI (u 19 0) - nI 9), .ref Za20, .ref Za21, .ref Za22, .ref Za23, .ref Za24, .ref Za25, .ref Za26, .ref Za27, .int (nI (u 28 0))])), (Za1, .inl (cB, 180, .inl (bF (u 1)))), (Za3, .inl (cI, 2, .inl (nF (u 3)))), (Za4, .inl (cI, 12, .inl (nF (u 4)))), (Za5, .inl (cI, 12, .inl (nF (u 5)))), (Za6, .inl (cI, 2, .inl (nF (u 6)))), (Za7, .inl (cI, 10, .inl (nF (u 7)))), (Za8, .inl (cI, 30, .inl (nF (u 8)))), (Za9, .inl (cI, 2, .inl (nF (u 9)))), (Za10, .inl (cI, 10, .inl (nF (u 10)))), (Za11, .inl (cI, 5, .inl (nF (u 11)))), (Za12, .inl (cI, 10, .inl (nF (u 12)))), (Za13, .inl (cI, 2, .inl (nF (u 13)))), (Za20, .inl (cI, 1191, .inl (nF (u 20)))), (Za21, .inl (cZ, 2, .inl (nF (u 21)))), (Za22, .inl (cI, 36, .inl (nF (u 22)))), (Za23, .inl (cI, 6, .inl (nF (u 23)))), (Za24, .inl (cI, 427, .inl (nF (u 24)))), (Za25, .inl (cI, 6, .inl (nF (u 25)))), (Za26, .inl (cI, 5, .inl (nF (u 26)))), (Za27, .inl (cI, 6, .inl (nF (u 27))))]) A) A) (by decide) rfl (Nat.le_of_ble_eq_true rfl) ?_
  intro p e s m below meth c A H locs ⟨hx, hb, hr, hml, hown, hts, hlk, hnm⟩ hK hP hD hS hA ls hl
  have hl : lv_has ls 5 [(0, .ref Zh), (1, .int v_d)] := hl
  have hown : s.vm.findClass RX7 = some m.cls := hown
  have bz6 : ZS 6 0 ≤ 5 := hZ 6 0
  have bz3 : ZS 3 0 ≤ 6 := hZ 3 0
  have bz9 : ZS 9 0 ≤ 5 := hZ 9 0
  have bz28 : ZS 28 0 ≤ 6 := hZ 28 0
  have bp6 := pw6 bz3
  refine lv_aload_n hx hb dX7_corner_0 rfl (lv_at hl 0 rfl) ?_
  refine lv_iload_n hx hb dX7_corner_1 rfl (lv_at hl 1 rfl) ?_
  refine be_i0 (ru_V (As := [.int v_d]) (rest := []) ⟨hx, hb, hml, hown, hts⟩ (z_isDebt l D cI cB cZ cN Zh Za1 Za3 Za4 Za5 Za6 Za7 Za8 Za9 Za10 Za11 Za12 Za13 Za20 Za21 Za22 Za23 Za24 Za25 Za26 Za27 Zt ZS v_d hZ H.size) gX7_corner_X7_isDebt rfl ⟨rfl, by decide, by decide, (show Option.map (fun d => d.parameters.length) (parseMethodDescriptor yX7_isDebt.desc) = some 1 by decide +kernel)⟩ ⟨Nat.le_of_ble_eq_true rfl, Nat.le_of_ble_eq_true rfl⟩ hK hP hD 7 0 rfl rfl [0, 1, 2, 3, 4, 5, 6, 7, 8, 9, 10, 11, 12, 13, 14, 15, 16, 17, 18, 19, 20] (by decide) rfl hl.1 rfl (Nat.le_of_ble_eq_true rfl) dX7_corner_2 ⟨Nat.le_of_ble_eq_true rfl, Nat.le_of_ble_eq_true rfl⟩) hP hD hS hA [0, 1, 2, 3, 4, 5, 6, 7, 8, 9, 10, 11, 12, 13, 14, 15, 16, 17, 18, 19, 20] rfl (fun r2 u1 H locs w3 hP hS => ?_)
  rcases w3 with ⟨rfl, hq4⟩ | ⟨rfl, hq4⟩
  · obtain ⟨k5, hq6, rfl⟩ := hq4
    refine nb_if_ne (tgt := 10) hx hb dX7_corner_5 (by decide) (by omega) (fun hq7 => ?_) (fun hq7 => absurd hq7 (by omega))
    refine lv_iconst (v := nI 0) hx hb dX7_corner_10 (by decide) ?_
    refine lv_istore_n (lv' := [(2, .int (nI 0)), (0, .ref Zh), (1, .int (nI k5))]) hx hb dX7_corner_11 rfl hl (by decide) rfl (fun ls hl => ?_)
    refine lv_aload_n hx hb dX7_corner_12 rfl (lv_at hl 1 rfl) ?_
    refine lv_iload_n hx hb dX7_corner_13 rfl (lv_at hl 2 rfl) ?_
    refine lv_iconst (v := nI 0) hx hb dX7_corner_14 (by decide) ?_
    refine be_i (free := fun _ => False) (wr := []) (ru_V (As := [.int (nI k5), .int (nI 0)]) (rest := []) ⟨hx, hb, hml, hown, hts⟩ (z_canWorld l D cI cB cZ cN Zh Za1 Za3 Za4 Za5 Za6 Za7 Za8 Za9 Za10 Za11 Za12 Za13 Za20 Za21 Za22 Za23 Za24 Za25 Za26 Za27 Zt ZS k5 0 hZ (by omega) (by omega) H.size) gX7_corner_X7_canWorld rfl ⟨rfl, by decide, by decide, (show Option.map (fun d => d.parameters.length) (parseMethodDescriptor yX7_canWorld.desc) = some 2 by decide +kernel)⟩ ⟨Nat.le_of_ble_eq_true rfl, Nat.le_of_ble_eq_true rfl⟩ hK hP hD 7 0 rfl rfl [0, 1, 2, 3, 4, 5, 6, 7, 8, 9, 10, 11, 12, 13, 14, 15, 16, 17, 18, 19, 20] (by decide) rfl hl.1 rfl (Nat.le_of_ble_eq_true rfl) dX7_corner_15 ⟨Nat.le_of_ble_eq_true rfl, Nat.le_of_ble_eq_true rfl⟩) hP hD hS hA [0, 1, 2, 3, 4, 5, 6, 7, 8, 9, 10, 11, 12, 13, 14, 15, 16, 17, 18, 19, 20] [] rfl rfl (by decide) (by decide) (fun r9 u8 H locs w10 hP hD hS => ?_)
    obtain ⟨g11, g12, g13, rfl, hq14, hq15, hq16, hq17⟩ := w10
    have hzz18 : ZOk (ua (ua (ua ZS 23 (g11)) 24 (g12)) 25 (g13)) := (zok_set (k := 25) (zok_set (k := 24) (zok_set (k := 23) hZ hq14) hq15) hq16)
    rcases hq17 with ⟨rfl, hq19⟩ | ⟨rfl, hq19⟩
    · skip
      obtain ⟨hP, hD⟩ : wPD D A [(Zh, .inr (7, [.long Zt, .ref Za1, .int (nI (ZS 2 0)), .ref Za3, .ref Za4, .ref Za5, .ref Za6, .ref Za7, .ref Za8, .ref Za9, .ref Za10, .ref Za11, .ref Za12, .ref Za13, .int (nI (ZS 14 0)), .int (nI (ZS 15 0)), .int (nI (ZS 16 0)), .int (nI (ZS 17 0)), .int (nI (ZS 18 0)), .int (nI (ZS 19 0) - nI 9), .ref Za20, .ref Za21, .ref Za22, .ref Za23, .ref Za24, .ref Za25, .ref Za26, .ref Za27, .int (nI (ZS 28 0))])), (Za1, .inl (cB, 180, .inl (bF (ZS 1)))), (Za3, .inl (cI, 2, .inl (nF (ZS 3)))), (Za4, .inl (cI, 12, .inl (nF (ZS 4)))), (Za5, .inl (cI, 12, .inl (nF (ZS 5)))), (Za6, .inl (cI, 2, .inl (nF (ZS 6)))), (Za7, .inl (cI, 10, .inl (nF (ZS 7)))), (Za8, .inl (cI, 30, .inl (nF (ZS 8)))), (Za9, .inl (cI, 2, .inl (nF (ZS 9)))), (Za10, .inl (cI, 10, .inl (nF (ZS 10)))), (Za11, .inl (cI, 5, .inl (nF (ZS 11)))), (Za12, .inl (cI, 10, .inl (nF (ZS 12)))), (Za13, .inl (cI, 2, .inl (nF (ZS 13)))), (Za20, .inl (cI, 1191, .inl (nF (ZS 20)))), (Za21, .inl (cZ, 2, .inl (nF (ZS 21)))), (Za22, .inl (cI, 36, .inl (nF (ZS 22)))), (Za23, .inl (cI, 6, .inl (nF (g11)))), (Za24, .inl (cI, 427, .inl (nF (g12)))), (Za25, .inl (cI, 6, .inl (nF (g13)))), (Za26, .inl (cI, 5, .inl (nF (ZS 26)))), (Za27, .inl (cI, 6, .inl (nF (ZS 27))))] H := ⟨hP, hD⟩
      refine nb_if_ne (tgt := 25) hx hb dX7_corner_18 (by decide) (by omega) (fun hq20 => ?_) (fun hq20 => absurd hq20 (by omega))
      refine lv_iconst (v := nI 0) hx hb dX7_corner_25 (by decide) ?_
      refine lv_istore_n (lv' := [(3, .int (nI 0)), (2, .int (nI 0)), (0, .ref Zh), (1, .int (nI k5))]) hx hb dX7_corner_26 rfl hl (by decide) rfl (fun ls hl => ?_)
      refine lv_iconst (v := nI 1) hx hb dX7_corner_27 (by decide) ?_
      refine lv_istore (lv' := [(4, .int (nI 1)), (3, .int (nI 0)), (2, .int (nI 0)), (0, .ref Zh), (1, .int (nI k5))]) hx hb dX7_corner_28 hl (by decide) rfl (fun ls hl => ?_)
      refine loopS (σ := Nat × Nat × (Nat → Nat) × (Nat → Nat) × (Nat → Nat)) (D := D) (A := A) (fun i1 z1 => z1.1 < 64 ∧ z1.2.1 ≤ 1 ∧ (∀ j, z1.2.2.1 j ≤ zb 23 j) ∧ (∀ j, z1.2.2.2.1 j ≤ zb 24 j) ∧ ∀ j, z1.2.2.2.2 j ≤ zb 25 j) (fun i1 z1 => [(Zh, .inr (7, [.long Zt, .ref Za1, .int (nI (ZS 2 0)), .ref Za3, .ref Za4, .ref Za5, .ref Za6, .ref Za7, .ref Za8, .ref Za9, .ref Za10, .ref Za11, .ref Za12, .ref Za13, .int (nI (ZS 14 0)), .int (nI (ZS 15 0)), .int (nI (ZS 16 0)), .int (nI (ZS 17 0)), .int (nI (ZS 18 0)), .int (nI (ZS 19 0) - nI 9), .ref Za20, .ref Za21, .ref Za22, .ref Za23, .ref Za24, .ref Za25, .ref Za26, .ref Za27, .int (nI (ZS 28 0))])), (Za1, .inl (cB, 180, .inl (bF (ZS 1)))), (Za3, .inl (cI, 2, .inl (nF (ZS 3)))), (Za4, .inl (cI, 12, .inl (nF (ZS 4)))), (Za5, .inl (cI, 12, .inl (nF (ZS 5)))), (Za6, .inl (cI, 2, .inl (nF (ZS 6)))), (Za7, .inl (cI, 10, .inl (nF (ZS 7)))), (Za8, .inl (cI, 30, .inl (nF (ZS 8)))), (Za9, .inl (cI, 2, .inl (nF (ZS 9)))), (Za10, .inl (cI, 10, .inl (nF (ZS 10)))), (Za11, .inl (cI, 5, .inl (nF (ZS 11)))), (Za12, .inl (cI, 10, .inl (nF (ZS 12)))), (Za13, .inl (cI, 2, .inl (nF (ZS 13)))), (Za20, .inl (cI, 1191, .inl (nF (ZS 20)))), (Za21, .inl (cZ, 2, .inl (nF (ZS 21)))), (Za22, .inl (cI, 36, .inl (nF (ZS 22)))), (Za23, .inl (cI, 6, .inl (nF (z1.2.2.1)))), (Za24, .inl (cI, 427, .inl (nF (z1.2.2.2.1)))), (Za25, .inl (cI, 6, .inl (nF (z1.2.2.2.2)))), (Za26, .inl (cI, 5, .inl (nF (ZS 26)))), (Za27, .inl (cI, 6, .inl (nF (ZS 27))))]) (fun i1 z1 => [(0, .ref Zh), (1, .int (nI k5)), (2, .int (nI z1.1)), (3, .int (nI z1.2.1)), (4, .int (nI i1))]) 30 5 (2 ^ (ZS 3 0)) 1 (pw_1 _) ?_ ?_ (0, 0, g11, g12, g13) ⟨(by first | omega | (dsimp only; omega)), (by first | omega | (dsimp only; omega)), hq14, hq15, hq16⟩ _ _ ls (by first | exact hP) (by first | exact hD) hS (lv_sub hl [3, 4, 2, 1, 0] rfl)
      · intro z1 hI1 H locs ls hP hD hS hl
        have hl : lv_has ls 5 [(0, .ref Zh), (1, .int (nI k5)), (2, .int (nI z1.1)), (3, .int (nI z1.2.1)), (4, .int (nI (2 ^ (ZS 3 0))))] := hl
        have hc1 := hI1.1
        have hc2 := hI1.2.1
        obtain ⟨hP, hD⟩ : wPD D A [(Zh, .inr (7, [.long Zt, .ref Za1, .int (nI (ZS 2 0)), .ref Za3, .ref Za4, .ref Za5, .ref Za6, .ref Za7, .ref Za8, .ref Za9, .ref Za10, .ref Za11, .ref Za12, .ref Za13, .int (nI (ZS 14 0)), .int (nI (ZS 15 0)), .int (nI (ZS 16 0)), .int (nI (ZS 17 0)), .int (nI (ZS 18 0)), .int (nI (ZS 19 0) - nI 9), .ref Za20, .ref Za21, .ref Za22, .ref Za23, .ref Za24, .ref Za25, .ref Za26, .ref Za27, .int (nI (ZS 28 0))])), (Za1, .inl (cB, 180, .inl (bF (ZS 1)))), (Za3, .inl (cI, 2, .inl (nF (ZS 3)))), (Za4, .inl (cI, 12, .inl (nF (ZS 4)))), (Za5, .inl (cI, 12, .inl (nF (ZS 5)))), (Za6, .inl (cI, 2, .inl (nF (ZS 6)))), (Za7, .inl (cI, 10, .inl (nF (ZS 7)))), (Za8, .inl (cI, 30, .inl (nF (ZS 8)))), (Za9, .inl (cI, 2, .inl (nF (ZS 9)))), (Za10, .inl (cI, 10, .inl (nF (ZS 10)))), (Za11, .inl (cI, 5, .inl (nF (ZS 11)))), (Za12, .inl (cI, 10, .inl (nF (ZS 12)))), (Za13, .inl (cI, 2, .inl (nF (ZS 13)))), (Za20, .inl (cI, 1191, .inl (nF (ZS 20)))), (Za21, .inl (cZ, 2, .inl (nF (ZS 21)))), (Za22, .inl (cI, 36, .inl (nF (ZS 22)))), (Za23, .inl (cI, 6, .inl (nF (z1.2.2.1)))), (Za24, .inl (cI, 427, .inl (nF (z1.2.2.2.1)))), (Za25, .inl (cI, 6, .inl (nF (z1.2.2.2.2)))), (Za26, .inl (cI, 5, .inl (nF (ZS 26)))), (Za27, .inl (cI, 6, .inl (nF (ZS 27))))] H := ⟨hP, hD⟩
        refine lv_iload hx hb dX7_corner_30 (lv_at hl 4 rfl) ?_
        refine lv_iconst (v := nI 1) hx hb dX7_corner_32 (by decide) ?_
        refine lv_aload_n hx hb dX7_corner_33 rfl (lv_at hl 0 rfl) ?_
        refine va_get (D := D) (ci := 7) (v := .ref Za3) (C := RX7) (T := TX7) (N := 29) hx hb hts in_X7_corner_7 hown hK.1 hP 0 rfl rfl 3 (by decide) (hts (.fieldLink RX7 13 "ChildCoinsModel" "coins" "[I") (List.mem_of_getElem? (i := 1) rfl)) (fun _ h9 => h9) rfl dX7_corner_34 ?_
        refine lv_iconst (v := nI 0) hx hb dX7_corner_37 (by decide) ?_
        refine va_iald hx hb hK.1 hP 2 0 rfl rfl (vp_in_nI (n := 0) (N := 2) (by omega) (by decide)) dX7_corner_38 ?_
        refine set_i (y := nI (ZS 3 0)) (nF_ld (by omega)) ?_
        have b21 : ZS 3 0 ≤ 6 := (zok_set (k := 25) (zok_set (k := 24) (zok_set (k := 23) hZ hI1.2.2.1) hI1.2.2.2.1) hI1.2.2.2.2) 3 0
        refine lv_ishl hx hb dX7_corner_39 ?_
        refine set_i (y := nI (2 ^ (ZS 3 0))) (shl_1 (by omega)) ?_
        refine nb_icmp_ge (tgt := 88) hx hb dX7_corner_40 (by decide) (by omega) (by omega) (fun hq22 => ?_) (fun hq22 => absurd hq22 (by omega))
        refine lv_iload_n hx hb dX7_corner_88 rfl (lv_at hl 2 rfl) ?_
        exact en_i hx hb hr hlk hP hD hS (ua (ua (ua ZS 23 (z1.2.2.1)) 24 (z1.2.2.2.1)) 25 (z1.2.2.2.2)) [0, 1, 2, 3, 4, 5, 6, 7, 8, 9, 10, 11, 12, 13, 14, 15, 16, 17, 18, 19, 20] (by decide) rfl (Nat.le_of_ble_eq_true rfl) (Nat.le_of_ble_eq_true rfl) dX7_corner_89 (ZP.set (k := 25) (ZP.set (k := 24) (ZP.set (k := 23) (ZP.rf hZ) (by decide) hI1.2.2.1) (by decide) hI1.2.2.2.1) (by decide) hI1.2.2.2.2)
      · intro i1 hi01 hi1 z1 hI1 ih1 H locs ls hP hD hS hl
        have hl : lv_has ls 5 [(0, .ref Zh), (1, .int (nI k5)), (2, .int (nI z1.1)), (3, .int (nI z1.2.1)), (4, .int (nI i1))] := hl
        have hc1 := hI1.1
        have hc2 := hI1.2.1
        obtain ⟨hP, hD⟩ : wPD D A [(Zh, .inr (7, [.long Zt, .ref Za1, .int (nI (ZS 2 0)), .ref Za3, .ref Za4, .ref Za5, .ref Za6, .ref Za7, .ref Za8, .ref Za9, .ref Za10, .ref Za11, .ref Za12, .ref Za13, .int (nI (ZS 14 0)), .int (nI (ZS 15 0)), .int (nI (ZS 16 0)), .int (nI (ZS 17 0)), .int (nI (ZS 18 0)), .int (nI (ZS 19 0) - nI 9), .ref Za20, .ref Za21, .ref Za22, .ref Za23, .ref Za24, .ref Za25, .ref Za26, .ref Za27, .int (nI (ZS 28 0))])), (Za1, .inl (cB, 180, .inl (bF (ZS 1)))), (Za3, .inl (cI, 2, .inl (nF (ZS 3)))), (Za4, .inl (cI, 12, .inl (nF (ZS 4)))), (Za5, .inl (cI, 12, .inl (nF (ZS 5)))), (Za6, .inl (cI, 2, .inl (nF (ZS 6)))), (Za7, .inl (cI, 10, .inl (nF (ZS 7)))), (Za8, .inl (cI, 30, .inl (nF (ZS 8)))), (Za9, .inl (cI, 2, .inl (nF (ZS 9)))), (Za10, .inl (cI, 10, .inl (nF (ZS 10)))), (Za11, .inl (cI, 5, .inl (nF (ZS 11)))), (Za12, .inl (cI, 10, .inl (nF (ZS 12)))), (Za13, .inl (cI, 2, .inl (nF (ZS 13)))), (Za20, .inl (cI, 1191, .inl (nF (ZS 20)))), (Za21, .inl (cZ, 2, .inl (nF (ZS 21)))), (Za22, .inl (cI, 36, .inl (nF (ZS 22)))), (Za23, .inl (cI, 6, .inl (nF (z1.2.2.1)))), (Za24, .inl (cI, 427, .inl (nF (z1.2.2.2.1)))), (Za25, .inl (cI, 6, .inl (nF (z1.2.2.2.2)))), (Za26, .inl (cI, 5, .inl (nF (ZS 26)))), (Za27, .inl (cI, 6, .inl (nF (ZS 27))))] H := ⟨hP, hD⟩
        refine lv_iload hx hb dX7_corner_30 (lv_at hl 4 rfl) ?_
        refine lv_iconst (v := nI 1) hx hb dX7_corner_32 (by decide) ?_
        refine lv_aload_n hx hb dX7_corner_33 rfl (lv_at hl 0 rfl) ?_
        refine va_get (D := D) (ci := 7) (v := .ref Za3) (C := RX7) (T := TX7) (N := 29) hx hb hts in_X7_corner_7 hown hK.1 hP 0 rfl rfl 3 (by decide) (hts (.fieldLink RX7 13 "ChildCoinsModel" "coins" "[I") (List.mem_of_getElem? (i := 1) rfl)) (fun _ h9 => h9) rfl dX7_corner_34 ?_
        refine lv_iconst (v := nI 0) hx hb dX7_corner_37 (by decide) ?_
        refine va_iald hx hb hK.1 hP 2 0 rfl rfl (vp_in_nI (n := 0) (N := 2) (by omega) (by decide)) dX7_corner_38 ?_
        refine set_i (y := nI (ZS 3 0)) (nF_ld (by omega)) ?_
        have b23 : ZS 3 0 ≤ 6 := (zok_set (k := 25) (zok_set (k := 24) (zok_set (k := 23) hZ hI1.2.2.1) hI1.2.2.2.1) hI1.2.2.2.2) 3 0
        refine lv_ishl hx hb dX7_corner_39 ?_
        refine set_i (y := nI (2 ^ (ZS 3 0))) (shl_1 (by omega)) ?_
        refine nb_icmp_ge (tgt := 88) hx hb dX7_corner_40 (by decide) (by omega) (by omega) (fun hq24 => absurd hq24 (by omega)) (fun hq24 => ?_)
        refine lv_iload_n hx hb dX7_corner_43 rfl (lv_at hl 3 rfl) ?_
        refine nb_if_eq (tgt := 51) hx hb dX7_corner_44 (by decide) (by omega) (fun hq25 => ?_) (fun hq25 => ?_)
        · skip
          refine lv_iload_n hx hb dX7_corner_51 rfl (lv_at hl 3 rfl) ?_
          refine nb_if_eq (tgt := 67) hx hb dX7_corner_52 (by decide) (by omega) (fun hq26 => ?_) (fun hq26 => ?_)
          · skip
            refine lv_aload_n hx hb dX7_corner_67 rfl (lv_at hl 0 rfl) ?_
            refine lv_iload_n hx hb dX7_corner_68 rfl (lv_at hl 1 rfl) ?_
            refine lv_iload hx hb dX7_corner_69 (lv_at hl 4 rfl) ?_
            refine be_i (free := fun _ => False) (wr := []) (ru_V (As := [.int (nI k5), .int (nI i1)]) (rest := []) ⟨hx, hb, hml, hown, hts⟩ (z_canWorld l D cI cB cZ cN Zh Za1 Za3 Za4 Za5 Za6 Za7 Za8 Za9 Za10 Za11 Za12 Za13 Za20 Za21 Za22 Za23 Za24 Za25 Za26 Za27 Zt (ua (ua (ua ZS 23 (z1.2.2.1)) 24 (z1.2.2.2.1)) 25 (z1.2.2.2.2)) k5 i1 (zok_set (k := 25) (zok_set (k := 24) (zok_set (k := 23) hZ hI1.2.2.1) hI1.2.2.2.1) hI1.2.2.2.2) (by omega) (by omega) H.size) gX7_corner_X7_canWorld rfl ⟨rfl, by decide, by decide, (show Option.map (fun d => d.parameters.length) (parseMethodDescriptor yX7_canWorld.desc) = some 2 by decide +kernel)⟩ ⟨Nat.le_of_ble_eq_true rfl, Nat.le_of_ble_eq_true rfl⟩ hK hP hD 7 0 rfl rfl [0, 1, 2, 3, 4, 5, 6, 7, 8, 9, 10, 11, 12, 13, 14, 15, 16, 17, 18, 19, 20] (by decide) rfl hl.1 rfl (Nat.le_of_ble_eq_true rfl) dX7_corner_71 ⟨Nat.le_of_ble_eq_true rfl, Nat.le_of_ble_eq_true rfl⟩) hP hD hS hA [0, 1, 2, 3, 4, 5, 6, 7, 8, 9, 10, 11, 12, 13, 14, 15, 16, 17, 18, 19, 20] [] rfl rfl (by decide) (by decide) (fun r28 u27 H locs w29 hP hD hS => ?_)
            obtain ⟨g30, g31, g32, rfl, hq33, hq34, hq35, hq36⟩ := w29
            have hzz37 : ZOk (ua (ua (ua ZS 23 (g30)) 24 (g31)) 25 (g32)) := (zok_set (k := 25) (zok_set (k := 24) (zok_set (k := 23) hZ hq33) hq34) hq35)
            rcases hq36 with ⟨rfl, hq38⟩ | ⟨rfl, hq38⟩
            · skip
              obtain ⟨hP, hD⟩ : wPD D A [(Zh, .inr (7, [.long Zt, .ref Za1, .int (nI (ZS 2 0)), .ref Za3, .ref Za4, .ref Za5, .ref Za6, .ref Za7, .ref Za8, .ref Za9, .ref Za10, .ref Za11, .ref Za12, .ref Za13, .int (nI (ZS 14 0)), .int (nI (ZS 15 0)), .int (nI (ZS 16 0)), .int (nI (ZS 17 0)), .int (nI (ZS 18 0)), .int (nI (ZS 19 0) - nI 9), .ref Za20, .ref Za21, .ref Za22, .ref Za23, .ref Za24, .ref Za25, .ref Za26, .ref Za27, .int (nI (ZS 28 0))])), (Za1, .inl (cB, 180, .inl (bF (ZS 1)))), (Za3, .inl (cI, 2, .inl (nF (ZS 3)))), (Za4, .inl (cI, 12, .inl (nF (ZS 4)))), (Za5, .inl (cI, 12, .inl (nF (ZS 5)))), (Za6, .inl (cI, 2, .inl (nF (ZS 6)))), (Za7, .inl (cI, 10, .inl (nF (ZS 7)))), (Za8, .inl (cI, 30, .inl (nF (ZS 8)))), (Za9, .inl (cI, 2, .inl (nF (ZS 9)))), (Za10, .inl (cI, 10, .inl (nF (ZS 10)))), (Za11, .inl (cI, 5, .inl (nF (ZS 11)))), (Za12, .inl (cI, 10, .inl (nF (ZS 12)))), (Za13, .inl (cI, 2, .inl (nF (ZS 13)))), (Za20, .inl (cI, 1191, .inl (nF (ZS 20)))), (Za21, .inl (cZ, 2, .inl (nF (ZS 21)))), (Za22, .inl (cI, 36, .inl (nF (ZS 22)))), (Za23, .inl (cI, 6, .inl (nF (g30)))), (Za24, .inl (cI, 427, .inl (nF (g31)))), (Za25, .inl (cI, 6, .inl (nF (g32)))), (Za26, .inl (cI, 5, .inl (nF (ZS 26)))), (Za27, .inl (cI, 6, .inl (nF (ZS 27))))] H := ⟨hP, hD⟩
              refine nb_if_ne (tgt := 82) hx hb dX7_corner_74 (by decide) (by omega) (fun hq39 => ?_) (fun hq39 => absurd hq39 (by omega))
              refine lv_iinc (v := nI (i1 + 1)) (lv' := [(4, .int (nI (i1 + 1))), (0, .ref Zh), (1, .int (nI k5)), (2, .int (nI z1.1)), (3, .int (nI z1.2.1))]) hx hb dX7_corner_82 hl (k := 4) rfl (nI_add i1 1) (by decide) rfl (fun ls hl => ?_)
              refine lv_goto (tgt := 30) hx hb dX7_corner_85 (by decide) ?_
              have hl : lv_has ls 5 [(0, .ref Zh), (1, .int (nI k5)), (2, .int (nI z1.1)), (3, .int (nI z1.2.1)), (4, .int (nI (i1 + 1)))] := lv_sub hl [1, 2, 3, 4, 0] rfl
              exact ih1 (z1.1, z1.2.1, g30, g31, g32) ⟨(by first | omega | (dsimp only; omega)), (by first | omega | (dsimp only; omega)), hq33, hq34, hq35⟩ _ _ _ hP hD hS hl
            · skip
              obtain ⟨hP, hD⟩ : wPD D A [(Zh, .inr (7, [.long Zt, .ref Za1, .int (nI (ZS 2 0)), .ref Za3, .ref Za4, .ref Za5, .ref Za6, .ref Za7, .ref Za8, .ref Za9, .ref Za10, .ref Za11, .ref Za12, .ref Za13, .int (nI (ZS 14 0)), .int (nI (ZS 15 0)), .int (nI (ZS 16 0)), .int (nI (ZS 17 0)), .int (nI (ZS 18 0)), .int (nI (ZS 19 0) - nI 9), .ref Za20, .ref Za21, .ref Za22, .ref Za23, .ref Za24, .ref Za25, .ref Za26, .ref Za27, .int (nI (ZS 28 0))])), (Za1, .inl (cB, 180, .inl (bF (ZS 1)))), (Za3, .inl (cI, 2, .inl (nF (ZS 3)))), (Za4, .inl (cI, 12, .inl (nF (ZS 4)))), (Za5, .inl (cI, 12, .inl (nF (ZS 5)))), (Za6, .inl (cI, 2, .inl (nF (ZS 6)))), (Za7, .inl (cI, 10, .inl (nF (ZS 7)))), (Za8, .inl (cI, 30, .inl (nF (ZS 8)))), (Za9, .inl (cI, 2, .inl (nF (ZS 9)))), (Za10, .inl (cI, 10, .inl (nF (ZS 10)))), (Za11, .inl (cI, 5, .inl (nF (ZS 11)))), (Za12, .inl (cI, 10, .inl (nF (ZS 12)))), (Za13, .inl (cI, 2, .inl (nF (ZS 13)))), (Za20, .inl (cI, 1191, .inl (nF (ZS 20)))), (Za21, .inl (cZ, 2, .inl (nF (ZS 21)))), (Za22, .inl (cI, 36, .inl (nF (ZS 22)))), (Za23, .inl (cI, 6, .inl (nF (g30)))), (Za24, .inl (cI, 427, .inl (nF (g31)))), (Za25, .inl (cI, 6, .inl (nF (g32)))), (Za26, .inl (cI, 5, .inl (nF (ZS 26)))), (Za27, .inl (cI, 6, .inl (nF (ZS 27))))] H := ⟨hP, hD⟩
              refine nb_if_ne (tgt := 82) hx hb dX7_corner_74 (by decide) (by omega) (fun hq40 => absurd hq40 (by omega)) (fun hq40 => ?_)
              refine lv_iload hx hb dX7_corner_77 (lv_at hl 4 rfl) ?_
              refine lv_istore_n (lv' := [(2, .int (nI i1)), (0, .ref Zh), (1, .int (nI k5)), (3, .int (nI z1.2.1)), (4, .int (nI i1))]) hx hb dX7_corner_79 rfl hl (by decide) rfl (fun ls hl => ?_)
              refine lv_iconst (v := nI 1) hx hb dX7_corner_80 (by decide) ?_
              refine lv_istore_n (lv' := [(3, .int (nI 1)), (2, .int (nI i1)), (0, .ref Zh), (1, .int (nI k5)), (4, .int (nI i1))]) hx hb dX7_corner_81 rfl hl (by decide) rfl (fun ls hl => ?_)
              refine lv_iinc (v := nI (i1 + 1)) (lv' := [(4, .int (nI (i1 + 1))), (3, .int (nI 1)), (2, .int (nI i1)), (0, .ref Zh), (1, .int (nI k5))]) hx hb dX7_corner_82 hl (k := 4) rfl (nI_add i1 1) (by decide) rfl (fun ls hl => ?_)
              refine lv_goto (tgt := 30) hx hb dX7_corner_85 (by decide) ?_
              have hl : lv_has ls 5 [(0, .ref Zh), (1, .int (nI k5)), (2, .int (nI i1)), (3, .int (nI 1)), (4, .int (nI (i1 + 1)))] := lv_sub hl [3, 4, 2, 1, 0] rfl
              exact ih1 (i1, 1, g30, g31, g32) ⟨(by first | omega | (dsimp only; omega)), (by first | omega | (dsimp only; omega)), hq33, hq34, hq35⟩ _ _ _ hP hD hS hl
          · skip
            refine lv_iload hx hb dX7_corner_55 (lv_at hl 4 rfl) ?_
            refine be_i0 (ru_S (As := [.int (nI i1)]) (rest := []) ⟨hx, hb, hml, hown, hts⟩ (z_manyOf l D cI cB cZ cN i1 (by omega) H.size) ggX7_corner_X7_manyOf rfl (hts (.initialized RX7) (List.mem_of_getElem? (i := 5) rfl)) (hts (.methodLink RX7 195 yX7_manyOf) (List.mem_of_getElem? (i := 45) rfl)) (hts (.static yX7_manyOf) (List.mem_of_getElem? (i := 46) rfl)) ⟨by decide, by decide, (show Option.map (fun d => d.parameters.length) (parseMethodDescriptor yX7_manyOf.desc) = some 1 by decide +kernel)⟩ ⟨Nat.le_of_ble_eq_true rfl, Nat.le_of_ble_eq_true rfl⟩ hK hP hD [] (by decide) rfl hl.1 rfl (Nat.le_of_ble_eq_true rfl) dX7_corner_57 ⟨Nat.le_of_ble_eq_true rfl, Nat.le_of_ble_eq_true rfl⟩) hP hD hS hA [] rfl (fun r42 u41 H locs w43 hP hS => ?_)
            obtain rfl : r42 = nI (sumN (fun k => i1 / 2 ^ k % 2) 6) := w43
            have b44 := many6 i1
            refine lv_iload_n hx hb dX7_corner_60 rfl (lv_at hl 2 rfl) ?_
            refine be_i0 (ru_S (As := [.int (nI z1.1)]) (rest := [.int (nI (sumN (fun k => i1 / 2 ^ k % 2) 6))]) ⟨hx, hb, hml, hown, hts⟩ (z_manyOf l D cI cB cZ cN z1.1 (by omega) H.size) ggX7_corner_X7_manyOf rfl (hts (.initialized RX7) (List.mem_of_getElem? (i := 5) rfl)) (hts (.methodLink RX7 195 yX7_manyOf) (List.mem_of_getElem? (i := 45) rfl)) (hts (.static yX7_manyOf) (List.mem_of_getElem? (i := 46) rfl)) ⟨by decide, by decide, (show Option.map (fun d => d.parameters.length) (parseMethodDescriptor yX7_manyOf.desc) = some 1 by decide +kernel)⟩ ⟨Nat.le_of_ble_eq_true rfl, Nat.le_of_ble_eq_true rfl⟩ hK hP hD [] (by decide) rfl hl.1 rfl (Nat.le_of_ble_eq_true rfl) dX7_corner_61 ⟨Nat.le_of_ble_eq_true rfl, Nat.le_of_ble_eq_true rfl⟩) hP hD hS hA [] rfl (fun r46 u45 H locs w47 hP hS => ?_)
            obtain rfl : r46 = nI (sumN (fun k => z1.1 / 2 ^ k % 2) 6) := w47
            have b48 := many6 z1.1
            refine nb_icmp_ge (tgt := 82) hx hb dX7_corner_64 (by decide) (by omega) (by omega) (fun hq49 => ?_) (fun hq49 => ?_)
            · skip
              refine lv_iinc (v := nI (i1 + 1)) (lv' := [(4, .int (nI (i1 + 1))), (0, .ref Zh), (1, .int (nI k5)), (2, .int (nI z1.1)), (3, .int (nI z1.2.1))]) hx hb dX7_corner_82 hl (k := 4) rfl (nI_add i1 1) (by decide) rfl (fun ls hl => ?_)
              refine lv_goto (tgt := 30) hx hb dX7_corner_85 (by decide) ?_
              have hl : lv_has ls 5 [(0, .ref Zh), (1, .int (nI k5)), (2, .int (nI z1.1)), (3, .int (nI z1.2.1)), (4, .int (nI (i1 + 1)))] := lv_sub hl [1, 2, 3, 4, 0] rfl
              exact ih1 (z1.1, z1.2.1, z1.2.2.1, z1.2.2.2.1, z1.2.2.2.2) ⟨(by first | omega | (dsimp only; omega)), (by first | omega | (dsimp only; omega)), hI1.2.2.1, hI1.2.2.2.1, hI1.2.2.2.2⟩ _ _ _ hP hD hS hl
            · skip
              refine lv_aload_n hx hb dX7_corner_67 rfl (lv_at hl 0 rfl) ?_
              refine lv_iload_n hx hb dX7_corner_68 rfl (lv_at hl 1 rfl) ?_
              refine lv_iload hx hb dX7_corner_69 (lv_at hl 4 rfl) ?_
              refine be_i (free := fun _ => False) (wr := []) (ru_V (As := [.int (nI k5), .int (nI i1)]) (rest := []) ⟨hx, hb, hml, hown, hts⟩ (z_canWorld l D cI cB cZ cN Zh Za1 Za3 Za4 Za5 Za6 Za7 Za8 Za9 Za10 Za11 Za12 Za13 Za20 Za21 Za22 Za23 Za24 Za25 Za26 Za27 Zt (ua (ua (ua ZS 23 (z1.2.2.1)) 24 (z1.2.2.2.1)) 25 (z1.2.2.2.2)) k5 i1 (zok_set (k := 25) (zok_set (k := 24) (zok_set (k := 23) hZ hI1.2.2.1) hI1.2.2.2.1) hI1.2.2.2.2) (by omega) (by omega) H.size) gX7_corner_X7_canWorld rfl ⟨rfl, by decide, by decide, (show Option.map (fun d => d.parameters.length) (parseMethodDescriptor yX7_canWorld.desc) = some 2 by decide +kernel)⟩ ⟨Nat.le_of_ble_eq_true rfl, Nat.le_of_ble_eq_true rfl⟩ hK hP hD 7 0 rfl rfl [0, 1, 2, 3, 4, 5, 6, 7, 8, 9, 10, 11, 12, 13, 14, 15, 16, 17, 18, 19, 20] (by decide) rfl hl.1 rfl (Nat.le_of_ble_eq_true rfl) dX7_corner_71 ⟨Nat.le_of_ble_eq_true rfl, Nat.le_of_ble_eq_true rfl⟩) hP hD hS hA [0, 1, 2, 3, 4, 5, 6, 7, 8, 9, 10, 11, 12, 13, 14, 15, 16, 17, 18, 19, 20] [] rfl rfl (by decide) (by decide) (fun r51 u50 H locs w52 hP hD hS => ?_)
              obtain ⟨g53, g54, g55, rfl, hq56, hq57, hq58, hq59⟩ := w52
              have hzz60 : ZOk (ua (ua (ua ZS 23 (g53)) 24 (g54)) 25 (g55)) := (zok_set (k := 25) (zok_set (k := 24) (zok_set (k := 23) hZ hq56) hq57) hq58)
              rcases hq59 with ⟨rfl, hq61⟩ | ⟨rfl, hq61⟩
              · skip
                obtain ⟨hP, hD⟩ : wPD D A [(Zh, .inr (7, [.long Zt, .ref Za1, .int (nI (ZS 2 0)), .ref Za3, .ref Za4, .ref Za5, .ref Za6, .ref Za7, .ref Za8, .ref Za9, .ref Za10, .ref Za11, .ref Za12, .ref Za13, .int (nI (ZS 14 0)), .int (nI (ZS 15 0)), .int (nI (ZS 16 0)), .int (nI (ZS 17 0)), .int (nI (ZS 18 0)), .int (nI (ZS 19 0) - nI 9), .ref Za20, .ref Za21, .ref Za22, .ref Za23, .ref Za24, .ref Za25, .ref Za26, .ref Za27, .int (nI (ZS 28 0))])), (Za1, .inl (cB, 180, .inl (bF (ZS 1)))), (Za3, .inl (cI, 2, .inl (nF (ZS 3)))), (Za4, .inl (cI, 12, .inl (nF (ZS 4)))), (Za5, .inl (cI, 12, .inl (nF (ZS 5)))), (Za6, .inl (cI, 2, .inl (nF (ZS 6)))), (Za7, .inl (cI, 10, .inl (nF (ZS 7)))), (Za8, .inl (cI, 30, .inl (nF (ZS 8)))), (Za9, .inl (cI, 2, .inl (nF (ZS 9)))), (Za10, .inl (cI, 10, .inl (nF (ZS 10)))), (Za11, .inl (cI, 5, .inl (nF (ZS 11)))), (Za12, .inl (cI, 10, .inl (nF (ZS 12)))), (Za13, .inl (cI, 2, .inl (nF (ZS 13)))), (Za20, .inl (cI, 1191, .inl (nF (ZS 20)))), (Za21, .inl (cZ, 2, .inl (nF (ZS 21)))), (Za22, .inl (cI, 36, .inl (nF (ZS 22)))), (Za23, .inl (cI, 6, .inl (nF (g53)))), (Za24, .inl (cI, 427, .inl (nF (g54)))), (Za25, .inl (cI, 6, .inl (nF (g55)))), (Za26, .inl (cI, 5, .inl (nF (ZS 26)))), (Za27, .inl (cI, 6, .inl (nF (ZS 27))))] H := ⟨hP, hD⟩
                refine nb_if_ne (tgt := 82) hx hb dX7_corner_74 (by decide) (by omega) (fun hq62 => ?_) (fun hq62 => absurd hq62 (by omega))
                refine lv_iinc (v := nI (i1 + 1)) (lv' := [(4, .int (nI (i1 + 1))), (0, .ref Zh), (1, .int (nI k5)), (2, .int (nI z1.1)), (3, .int (nI z1.2.1))]) hx hb dX7_corner_82 hl (k := 4) rfl (nI_add i1 1) (by decide) rfl (fun ls hl => ?_)
                refine lv_goto (tgt := 30) hx hb dX7_corner_85 (by decide) ?_
                have hl : lv_has ls 5 [(0, .ref Zh), (1, .int (nI k5)), (2, .int (nI z1.1)), (3, .int (nI z1.2.1)), (4, .int (nI (i1 + 1)))] := lv_sub hl [1, 2, 3, 4, 0] rfl
                exact ih1 (z1.1, z1.2.1, g53, g54, g55) ⟨(by first | omega | (dsimp only; omega)), (by first | omega | (dsimp only; omega)), hq56, hq57, hq58⟩ _ _ _ hP hD hS hl
              · skip
                obtain ⟨hP, hD⟩ : wPD D A [(Zh, .inr (7, [.long Zt, .ref Za1, .int (nI (ZS 2 0)), .ref Za3, .ref Za4, .ref Za5, .ref Za6, .ref Za7, .ref Za8, .ref Za9, .ref Za10, .ref Za11, .ref Za12, .ref Za13, .int (nI (ZS 14 0)), .int (nI (ZS 15 0)), .int (nI (ZS 16 0)), .int (nI (ZS 17 0)), .int (nI (ZS 18 0)), .int (nI (ZS 19 0) - nI 9), .ref Za20, .ref Za21, .ref Za22, .ref Za23, .ref Za24, .ref Za25, .ref Za26, .ref Za27, .int (nI (ZS 28 0))])), (Za1, .inl (cB, 180, .inl (bF (ZS 1)))), (Za3, .inl (cI, 2, .inl (nF (ZS 3)))), (Za4, .inl (cI, 12, .inl (nF (ZS 4)))), (Za5, .inl (cI, 12, .inl (nF (ZS 5)))), (Za6, .inl (cI, 2, .inl (nF (ZS 6)))), (Za7, .inl (cI, 10, .inl (nF (ZS 7)))), (Za8, .inl (cI, 30, .inl (nF (ZS 8)))), (Za9, .inl (cI, 2, .inl (nF (ZS 9)))), (Za10, .inl (cI, 10, .inl (nF (ZS 10)))), (Za11, .inl (cI, 5, .inl (nF (ZS 11)))), (Za12, .inl (cI, 10, .inl (nF (ZS 12)))), (Za13, .inl (cI, 2, .inl (nF (ZS 13)))), (Za20, .inl (cI, 1191, .inl (nF (ZS 20)))), (Za21, .inl (cZ, 2, .inl (nF (ZS 21)))), (Za22, .inl (cI, 36, .inl (nF (ZS 22)))), (Za23, .inl (cI, 6, .inl (nF (g53)))), (Za24, .inl (cI, 427, .inl (nF (g54)))), (Za25, .inl (cI, 6, .inl (nF (g55)))), (Za26, .inl (cI, 5, .inl (nF (ZS 26)))), (Za27, .inl (cI, 6, .inl (nF (ZS 27))))] H := ⟨hP, hD⟩
                refine nb_if_ne (tgt := 82) hx hb dX7_corner_74 (by decide) (by omega) (fun hq63 => absurd hq63 (by omega)) (fun hq63 => ?_)
                refine lv_iload hx hb dX7_corner_77 (lv_at hl 4 rfl) ?_
                refine lv_istore_n (lv' := [(2, .int (nI i1)), (0, .ref Zh), (1, .int (nI k5)), (3, .int (nI z1.2.1)), (4, .int (nI i1))]) hx hb dX7_corner_79 rfl hl (by decide) rfl (fun ls hl => ?_)
                refine lv_iconst (v := nI 1) hx hb dX7_corner_80 (by decide) ?_
                refine lv_istore_n (lv' := [(3, .int (nI 1)), (2, .int (nI i1)), (0, .ref Zh), (1, .int (nI k5)), (4, .int (nI i1))]) hx hb dX7_corner_81 rfl hl (by decide) rfl (fun ls hl => ?_)
                refine lv_iinc (v := nI (i1 + 1)) (lv' := [(4, .int (nI (i1 + 1))), (3, .int (nI 1)), (2, .int (nI i1)), (0, .ref Zh), (1, .int (nI k5))]) hx hb dX7_corner_82 hl (k := 4) rfl (nI_add i1 1) (by decide) rfl (fun ls hl => ?_)
                refine lv_goto (tgt := 30) hx hb dX7_corner_85 (by decide) ?_
                have hl : lv_has ls 5 [(0, .ref Zh), (1, .int (nI k5)), (2, .int (nI i1)), (3, .int (nI 1)), (4, .int (nI (i1 + 1)))] := lv_sub hl [3, 4, 2, 1, 0] rfl
                exact ih1 (i1, 1, g53, g54, g55) ⟨(by first | omega | (dsimp only; omega)), (by first | omega | (dsimp only; omega)), hq56, hq57, hq58⟩ _ _ _ hP hD hS hl
        · skip
          refine lv_iload_n hx hb dX7_corner_47 rfl (lv_at hl 2 rfl) ?_
          refine nb_if_eq (tgt := 88) hx hb dX7_corner_48 (by decide) (by omega) (fun hq64 => ?_) (fun hq64 => ?_)
          · skip
            refine lv_iload_n hx hb dX7_corner_88 rfl (lv_at hl 2 rfl) ?_
            exact en_i hx hb hr hlk hP hD hS (ua (ua (ua ZS 23 (z1.2.2.1)) 24 (z1.2.2.2.1)) 25 (z1.2.2.2.2)) [0, 1, 2, 3, 4, 5, 6, 7, 8, 9, 10, 11, 12, 13, 14, 15, 16, 17, 18, 19, 20] (by decide) rfl (Nat.le_of_ble_eq_true rfl) (Nat.le_of_ble_eq_true rfl) dX7_corner_89 (ZP.set (k := 25) (ZP.set (k := 24) (ZP.set (k := 23) (ZP.rf hZ) (by decide) hI1.2.2.1) (by decide) hI1.2.2.2.1) (by decide) hI1.2.2.2.2)
          · skip
            refine lv_iload_n hx hb dX7_corner_51 rfl (lv_at hl 3 rfl) ?_
            refine nb_if_eq (tgt := 67) hx hb dX7_corner_52 (by decide) (by omega) (fun hq65 => ?_) (fun hq65 => ?_)
            · skip
              refine lv_aload_n hx hb dX7_corner_67 rfl (lv_at hl 0 rfl) ?_
              refine lv_iload_n hx hb dX7_corner_68 rfl (lv_at hl 1 rfl) ?_
              refine lv_iload hx hb dX7_corner_69 (lv_at hl 4 rfl) ?_
              refine be_i (free := fun _ => False) (wr := []) (ru_V (As := [.int (nI k5), .int (nI i1)]) (rest := []) ⟨hx, hb, hml, hown, hts⟩ (z_canWorld l D cI cB cZ cN Zh Za1 Za3 Za4 Za5 Za6 Za7 Za8 Za9 Za10 Za11 Za12 Za13 Za20 Za21 Za22 Za23 Za24 Za25 Za26 Za27 Zt (ua (ua (ua ZS 23 (z1.2.2.1)) 24 (z1.2.2.2.1)) 25 (z1.2.2.2.2)) k5 i1 (zok_set (k := 25) (zok_set (k := 24) (zok_set (k := 23) hZ hI1.2.2.1) hI1.2.2.2.1) hI1.2.2.2.2) (by omega) (by omega) H.size) gX7_corner_X7_canWorld rfl ⟨rfl, by decide, by decide, (show Option.map (fun d => d.parameters.length) (parseMethodDescriptor yX7_canWorld.desc) = some 2 by decide +kernel)⟩ ⟨Nat.le_of_ble_eq_true rfl, Nat.le_of_ble_eq_true rfl⟩ hK hP hD 7 0 rfl rfl [0, 1, 2, 3, 4, 5, 6, 7, 8, 9, 10, 11, 12, 13, 14, 15, 16, 17, 18, 19, 20] (by decide) rfl hl.1 rfl (Nat.le_of_ble_eq_true rfl) dX7_corner_71 ⟨Nat.le_of_ble_eq_true rfl, Nat.le_of_ble_eq_true rfl⟩) hP hD hS hA [0, 1, 2, 3, 4, 5, 6, 7, 8, 9, 10, 11, 12, 13, 14, 15, 16, 17, 18, 19, 20] [] rfl rfl (by decide) (by decide) (fun r67 u66 H locs w68 hP hD hS => ?_)
              obtain ⟨g69, g70, g71, rfl, hq72, hq73, hq74, hq75⟩ := w68
              have hzz76 : ZOk (ua (ua (ua ZS 23 (g69)) 24 (g70)) 25 (g71)) := (zok_set (k := 25) (zok_set (k := 24) (zok_set (k := 23) hZ hq72) hq73) hq74)
              rcases hq75 with ⟨rfl, hq77⟩ | ⟨rfl, hq77⟩
              · skip
                obtain ⟨hP, hD⟩ : wPD D A [(Zh, .inr (7, [.long Zt, .ref Za1, .int (nI (ZS 2 0)), .ref Za3, .ref Za4, .ref Za5, .ref Za6, .ref Za7, .ref Za8, .ref Za9, .ref Za10, .ref Za11, .ref Za12, .ref Za13, .int (nI (ZS 14 0)), .int (nI (ZS 15 0)), .int (nI (ZS 16 0)), .int (nI (ZS 17 0)), .int (nI (ZS 18 0)), .int (nI (ZS 19 0) - nI 9), .ref Za20, .ref Za21, .ref Za22, .ref Za23, .ref Za24, .ref Za25, .ref Za26, .ref Za27, .int (nI (ZS 28 0))])), (Za1, .inl (cB, 180, .inl (bF (ZS 1)))), (Za3, .inl (cI, 2, .inl (nF (ZS 3)))), (Za4, .inl (cI, 12, .inl (nF (ZS 4)))), (Za5, .inl (cI, 12, .inl (nF (ZS 5)))), (Za6, .inl (cI, 2, .inl (nF (ZS 6)))), (Za7, .inl (cI, 10, .inl (nF (ZS 7)))), (Za8, .inl (cI, 30, .inl (nF (ZS 8)))), (Za9, .inl (cI, 2, .inl (nF (ZS 9)))), (Za10, .inl (cI, 10, .inl (nF (ZS 10)))), (Za11, .inl (cI, 5, .inl (nF (ZS 11)))), (Za12, .inl (cI, 10, .inl (nF (ZS 12)))), (Za13, .inl (cI, 2, .inl (nF (ZS 13)))), (Za20, .inl (cI, 1191, .inl (nF (ZS 20)))), (Za21, .inl (cZ, 2, .inl (nF (ZS 21)))), (Za22, .inl (cI, 36, .inl (nF (ZS 22)))), (Za23, .inl (cI, 6, .inl (nF (g69)))), (Za24, .inl (cI, 427, .inl (nF (g70)))), (Za25, .inl (cI, 6, .inl (nF (g71)))), (Za26, .inl (cI, 5, .inl (nF (ZS 26)))), (Za27, .inl (cI, 6, .inl (nF (ZS 27))))] H := ⟨hP, hD⟩
                refine nb_if_ne (tgt := 82) hx hb dX7_corner_74 (by decide) (by omega) (fun hq78 => ?_) (fun hq78 => absurd hq78 (by omega))
                refine lv_iinc (v := nI (i1 + 1)) (lv' := [(4, .int (nI (i1 + 1))), (0, .ref Zh), (1, .int (nI k5)), (2, .int (nI z1.1)), (3, .int (nI z1.2.1))]) hx hb dX7_corner_82 hl (k := 4) rfl (nI_add i1 1) (by decide) rfl (fun ls hl => ?_)
                refine lv_goto (tgt := 30) hx hb dX7_corner_85 (by decide) ?_
                have hl : lv_has ls 5 [(0, .ref Zh), (1, .int (nI k5)), (2, .int (nI z1.1)), (3, .int (nI z1.2.1)), (4, .int (nI (i1 + 1)))] := lv_sub hl [1, 2, 3, 4, 0] rfl
                exact ih1 (z1.1, z1.2.1, g69, g70, g71) ⟨(by first | omega | (dsimp only; omega)), (by first | omega | (dsimp only; omega)), hq72, hq73, hq74⟩ _ _ _ hP hD hS hl
              · skip
                obtain ⟨hP, hD⟩ : wPD D A [(Zh, .inr (7, [.long Zt, .ref Za1, .int (nI (ZS 2 0)), .ref Za3, .ref Za4, .ref Za5, .ref Za6, .ref Za7, .ref Za8, .ref Za9, .ref Za10, .ref Za11, .ref Za12, .ref Za13, .int (nI (ZS 14 0)), .int (nI (ZS 15 0)), .int (nI (ZS 16 0)), .int (nI (ZS 17 0)), .int (nI (ZS 18 0)), .int (nI (ZS 19 0) - nI 9), .ref Za20, .ref Za21, .ref Za22, .ref Za23, .ref Za24, .ref Za25, .ref Za26, .ref Za27, .int (nI (ZS 28 0))])), (Za1, .inl (cB, 180, .inl (bF (ZS 1)))), (Za3, .inl (cI, 2, .inl (nF (ZS 3)))), (Za4, .inl (cI, 12, .inl (nF (ZS 4)))), (Za5, .inl (cI, 12, .inl (nF (ZS 5)))), (Za6, .inl (cI, 2, .inl (nF (ZS 6)))), (Za7, .inl (cI, 10, .inl (nF (ZS 7)))), (Za8, .inl (cI, 30, .inl (nF (ZS 8)))), (Za9, .inl (cI, 2, .inl (nF (ZS 9)))), (Za10, .inl (cI, 10, .inl (nF (ZS 10)))), (Za11, .inl (cI, 5, .inl (nF (ZS 11)))), (Za12, .inl (cI, 10, .inl (nF (ZS 12)))), (Za13, .inl (cI, 2, .inl (nF (ZS 13)))), (Za20, .inl (cI, 1191, .inl (nF (ZS 20)))), (Za21, .inl (cZ, 2, .inl (nF (ZS 21)))), (Za22, .inl (cI, 36, .inl (nF (ZS 22)))), (Za23, .inl (cI, 6, .inl (nF (g69)))), (Za24, .inl (cI, 427, .inl (nF (g70)))), (Za25, .inl (cI, 6, .inl (nF (g71)))), (Za26, .inl (cI, 5, .inl (nF (ZS 26)))), (Za27, .inl (cI, 6, .inl (nF (ZS 27))))] H := ⟨hP, hD⟩
                refine nb_if_ne (tgt := 82) hx hb dX7_corner_74 (by decide) (by omega) (fun hq79 => absurd hq79 (by omega)) (fun hq79 => ?_)
                refine lv_iload hx hb dX7_corner_77 (lv_at hl 4 rfl) ?_
                refine lv_istore_n (lv' := [(2, .int (nI i1)), (0, .ref Zh), (1, .int (nI k5)), (3, .int (nI z1.2.1)), (4, .int (nI i1))]) hx hb dX7_corner_79 rfl hl (by decide) rfl (fun ls hl => ?_)
                refine lv_iconst (v := nI 1) hx hb dX7_corner_80 (by decide) ?_
                refine lv_istore_n (lv' := [(3, .int (nI 1)), (2, .int (nI i1)), (0, .ref Zh), (1, .int (nI k5)), (4, .int (nI i1))]) hx hb dX7_corner_81 rfl hl (by decide) rfl (fun ls hl => ?_)
                refine lv_iinc (v := nI (i1 + 1)) (lv' := [(4, .int (nI (i1 + 1))), (3, .int (nI 1)), (2, .int (nI i1)), (0, .ref Zh), (1, .int (nI k5))]) hx hb dX7_corner_82 hl (k := 4) rfl (nI_add i1 1) (by decide) rfl (fun ls hl => ?_)
                refine lv_goto (tgt := 30) hx hb dX7_corner_85 (by decide) ?_
                have hl : lv_has ls 5 [(0, .ref Zh), (1, .int (nI k5)), (2, .int (nI i1)), (3, .int (nI 1)), (4, .int (nI (i1 + 1)))] := lv_sub hl [3, 4, 2, 1, 0] rfl
                exact ih1 (i1, 1, g69, g70, g71) ⟨(by first | omega | (dsimp only; omega)), (by first | omega | (dsimp only; omega)), hq72, hq73, hq74⟩ _ _ _ hP hD hS hl
            · skip
              refine lv_iload hx hb dX7_corner_55 (lv_at hl 4 rfl) ?_
              refine be_i0 (ru_S (As := [.int (nI i1)]) (rest := []) ⟨hx, hb, hml, hown, hts⟩ (z_manyOf l D cI cB cZ cN i1 (by omega) H.size) ggX7_corner_X7_manyOf rfl (hts (.initialized RX7) (List.mem_of_getElem? (i := 5) rfl)) (hts (.methodLink RX7 195 yX7_manyOf) (List.mem_of_getElem? (i := 45) rfl)) (hts (.static yX7_manyOf) (List.mem_of_getElem? (i := 46) rfl)) ⟨by decide, by decide, (show Option.map (fun d => d.parameters.length) (parseMethodDescriptor yX7_manyOf.desc) = some 1 by decide +kernel)⟩ ⟨Nat.le_of_ble_eq_true rfl, Nat.le_of_ble_eq_true rfl⟩ hK hP hD [] (by decide) rfl hl.1 rfl (Nat.le_of_ble_eq_true rfl) dX7_corner_57 ⟨Nat.le_of_ble_eq_true rfl, Nat.le_of_ble_eq_true rfl⟩) hP hD hS hA [] rfl (fun r81 u80 H locs w82 hP hS => ?_)
              obtain rfl : r81 = nI (sumN (fun k => i1 / 2 ^ k % 2) 6) := w82
              have b83 := many6 i1
              refine lv_iload_n hx hb dX7_corner_60 rfl (lv_at hl 2 rfl) ?_
              refine be_i0 (ru_S (As := [.int (nI z1.1)]) (rest := [.int (nI (sumN (fun k => i1 / 2 ^ k % 2) 6))]) ⟨hx, hb, hml, hown, hts⟩ (z_manyOf l D cI cB cZ cN z1.1 (by omega) H.size) ggX7_corner_X7_manyOf rfl (hts (.initialized RX7) (List.mem_of_getElem? (i := 5) rfl)) (hts (.methodLink RX7 195 yX7_manyOf) (List.mem_of_getElem? (i := 45) rfl)) (hts (.static yX7_manyOf) (List.mem_of_getElem? (i := 46) rfl)) ⟨by decide, by decide, (show Option.map (fun d => d.parameters.length) (parseMethodDescriptor yX7_manyOf.desc) = some 1 by decide +kernel)⟩ ⟨Nat.le_of_ble_eq_true rfl, Nat.le_of_ble_eq_true rfl⟩ hK hP hD [] (by decide) rfl hl.1 rfl (Nat.le_of_ble_eq_true rfl) dX7_corner_61 ⟨Nat.le_of_ble_eq_true rfl, Nat.le_of_ble_eq_true rfl⟩) hP hD hS hA [] rfl (fun r85 u84 H locs w86 hP hS => ?_)
              obtain rfl : r85 = nI (sumN (fun k => z1.1 / 2 ^ k % 2) 6) := w86
              have b87 := many6 z1.1
              refine nb_icmp_ge (tgt := 82) hx hb dX7_corner_64 (by decide) (by omega) (by omega) (fun hq88 => ?_) (fun hq88 => ?_)
              · skip
                refine lv_iinc (v := nI (i1 + 1)) (lv' := [(4, .int (nI (i1 + 1))), (0, .ref Zh), (1, .int (nI k5)), (2, .int (nI z1.1)), (3, .int (nI z1.2.1))]) hx hb dX7_corner_82 hl (k := 4) rfl (nI_add i1 1) (by decide) rfl (fun ls hl => ?_)
                refine lv_goto (tgt := 30) hx hb dX7_corner_85 (by decide) ?_
                have hl : lv_has ls 5 [(0, .ref Zh), (1, .int (nI k5)), (2, .int (nI z1.1)), (3, .int (nI z1.2.1)), (4, .int (nI (i1 + 1)))] := lv_sub hl [1, 2, 3, 4, 0] rfl
                exact ih1 (z1.1, z1.2.1, z1.2.2.1, z1.2.2.2.1, z1.2.2.2.2) ⟨(by first | omega | (dsimp only; omega)), (by first | omega | (dsimp only; omega)), hI1.2.2.1, hI1.2.2.2.1, hI1.2.2.2.2⟩ _ _ _ hP hD hS hl
              · skip
                refine lv_aload_n hx hb dX7_corner_67 rfl (lv_at hl 0 rfl) ?_
                refine lv_iload_n hx hb dX7_corner_68 rfl (lv_at hl 1 rfl) ?_
                refine lv_iload hx hb dX7_corner_69 (lv_at hl 4 rfl) ?_
                refine be_i (free := fun _ => False) (wr := []) (ru_V (As := [.int (nI k5), .int (nI i1)]) (rest := []) ⟨hx, hb, hml, hown, hts⟩ (z_canWorld l D cI cB cZ cN Zh Za1 Za3 Za4 Za5 Za6 Za7 Za8 Za9 Za10 Za11 Za12 Za13 Za20 Za21 Za22 Za23 Za24 Za25 Za26 Za27 Zt (ua (ua (ua ZS 23 (z1.2.2.1)) 24 (z1.2.2.2.1)) 25 (z1.2.2.2.2)) k5 i1 (zok_set (k := 25) (zok_set (k := 24) (zok_set (k := 23) hZ hI1.2.2.1) hI1.2.2.2.1) hI1.2.2.2.2) (by omega) (by omega) H.size) gX7_corner_X7_canWorld rfl ⟨rfl, by decide, by decide, (show Option.map (fun d => d.parameters.length) (parseMethodDescriptor yX7_canWorld.desc) = some 2 by decide +kernel)⟩ ⟨Nat.le_of_ble_eq_true rfl, Nat.le_of_ble_eq_true rfl⟩ hK hP hD 7 0 rfl rfl [0, 1, 2, 3, 4, 5, 6, 7, 8, 9, 10, 11, 12, 13, 14, 15, 16, 17, 18, 19, 20] (by decide) rfl hl.1 rfl (Nat.le_of_ble_eq_true rfl) dX7_corner_71 ⟨Nat.le_of_ble_eq_true rfl, Nat.le_of_ble_eq_true rfl⟩) hP hD hS hA [0, 1, 2, 3, 4, 5, 6, 7, 8, 9, 10, 11, 12, 13, 14, 15, 16, 17, 18, 19, 20] [] rfl rfl (by decide) (by decide) (fun r90 u89 H locs w91 hP hD hS => ?_)
                obtain ⟨g92, g93, g94, rfl, hq95, hq96, hq97, hq98⟩ := w91
                have hzz99 : ZOk (ua (ua (ua ZS 23 (g92)) 24 (g93)) 25 (g94)) := (zok_set (k := 25) (zok_set (k := 24) (zok_set (k := 23) hZ hq95) hq96) hq97)
                rcases hq98 with ⟨rfl, hq100⟩ | ⟨rfl, hq100⟩
                · skip
                  obtain ⟨hP, hD⟩ : wPD D A [(Zh, .inr (7, [.long Zt, .ref Za1, .int (nI (ZS 2 0)), .ref Za3, .ref Za4, .ref Za5, .ref Za6, .ref Za7, .ref Za8, .ref Za9, .ref Za10, .ref Za11, .ref Za12, .ref Za13, .int (nI (ZS 14 0)), .int (nI (ZS 15 0)), .int (nI (ZS 16 0)), .int (nI (ZS 17 0)), .int (nI (ZS 18 0)), .int (nI (ZS 19 0) - nI 9), .ref Za20, .ref Za21, .ref Za22, .ref Za23, .ref Za24, .ref Za25, .ref Za26, .ref Za27, .int (nI (ZS 28 0))])), (Za1, .inl (cB, 180, .inl (bF (ZS 1)))), (Za3, .inl (cI, 2, .inl (nF (ZS 3)))), (Za4, .inl (cI, 12, .inl (nF (ZS 4)))), (Za5, .inl (cI, 12, .inl (nF (ZS 5)))), (Za6, .inl (cI, 2, .inl (nF (ZS 6)))), (Za7, .inl (cI, 10, .inl (nF (ZS 7)))), (Za8, .inl (cI, 30, .inl (nF (ZS 8)))), (Za9, .inl (cI, 2, .inl (nF (ZS 9)))), (Za10, .inl (cI, 10, .inl (nF (ZS 10)))), (Za11, .inl (cI, 5, .inl (nF (ZS 11)))), (Za12, .inl (cI, 10, .inl (nF (ZS 12)))), (Za13, .inl (cI, 2, .inl (nF (ZS 13)))), (Za20, .inl (cI, 1191, .inl (nF (ZS 20)))), (Za21, .inl (cZ, 2, .inl (nF (ZS 21)))), (Za22, .inl (cI, 36, .inl (nF (ZS 22)))), (Za23, .inl (cI, 6, .inl (nF (g92)))), (Za24, .inl (cI, 427, .inl (nF (g93)))), (Za25, .inl (cI, 6, .inl (nF (g94)))), (Za26, .inl (cI, 5, .inl (nF (ZS 26)))), (Za27, .inl (cI, 6, .inl (nF (ZS 27))))] H := ⟨hP, hD⟩
                  refine nb_if_ne (tgt := 82) hx hb dX7_corner_74 (by decide) (by omega) (fun hq101 => ?_) (fun hq101 => absurd hq101 (by omega))
                  refine lv_iinc (v := nI (i1 + 1)) (lv' := [(4, .int (nI (i1 + 1))), (0, .ref Zh), (1, .int (nI k5)), (2, .int (nI z1.1)), (3, .int (nI z1.2.1))]) hx hb dX7_corner_82 hl (k := 4) rfl (nI_add i1 1) (by decide) rfl (fun ls hl => ?_)
                  refine lv_goto (tgt := 30) hx hb dX7_corner_85 (by decide) ?_
                  have hl : lv_has ls 5 [(0, .ref Zh), (1, .int (nI k5)), (2, .int (nI z1.1)), (3, .int (nI z1.2.1)), (4, .int (nI (i1 + 1)))] := lv_sub hl [1, 2, 3, 4, 0] rfl
                  exact ih1 (z1.1, z1.2.1, g92, g93, g94) ⟨(by first | omega | (dsimp only; omega)), (by first | omega | (dsimp only; omega)), hq95, hq96, hq97⟩ _ _ _ hP hD hS hl
                · skip
                  obtain ⟨hP, hD⟩ : wPD D A [(Zh, .inr (7, [.long Zt, .ref Za1, .int (nI (ZS 2 0)), .ref Za3, .ref Za4, .ref Za5, .ref Za6, .ref Za7, .ref Za8, .ref Za9, .ref Za10, .ref Za11, .ref Za12, .ref Za13, .int (nI (ZS 14 0)), .int (nI (ZS 15 0)), .int (nI (ZS 16 0)), .int (nI (ZS 17 0)), .int (nI (ZS 18 0)), .int (nI (ZS 19 0) - nI 9), .ref Za20, .ref Za21, .ref Za22, .ref Za23, .ref Za24, .ref Za25, .ref Za26, .ref Za27, .int (nI (ZS 28 0))])), (Za1, .inl (cB, 180, .inl (bF (ZS 1)))), (Za3, .inl (cI, 2, .inl (nF (ZS 3)))), (Za4, .inl (cI, 12, .inl (nF (ZS 4)))), (Za5, .inl (cI, 12, .inl (nF (ZS 5)))), (Za6, .inl (cI, 2, .inl (nF (ZS 6)))), (Za7, .inl (cI, 10, .inl (nF (ZS 7)))), (Za8, .inl (cI, 30, .inl (nF (ZS 8)))), (Za9, .inl (cI, 2, .inl (nF (ZS 9)))), (Za10, .inl (cI, 10, .inl (nF (ZS 10)))), (Za11, .inl (cI, 5, .inl (nF (ZS 11)))), (Za12, .inl (cI, 10, .inl (nF (ZS 12)))), (Za13, .inl (cI, 2, .inl (nF (ZS 13)))), (Za20, .inl (cI, 1191, .inl (nF (ZS 20)))), (Za21, .inl (cZ, 2, .inl (nF (ZS 21)))), (Za22, .inl (cI, 36, .inl (nF (ZS 22)))), (Za23, .inl (cI, 6, .inl (nF (g92)))), (Za24, .inl (cI, 427, .inl (nF (g93)))), (Za25, .inl (cI, 6, .inl (nF (g94)))), (Za26, .inl (cI, 5, .inl (nF (ZS 26)))), (Za27, .inl (cI, 6, .inl (nF (ZS 27))))] H := ⟨hP, hD⟩
                  refine nb_if_ne (tgt := 82) hx hb dX7_corner_74 (by decide) (by omega) (fun hq102 => absurd hq102 (by omega)) (fun hq102 => ?_)
                  refine lv_iload hx hb dX7_corner_77 (lv_at hl 4 rfl) ?_
                  refine lv_istore_n (lv' := [(2, .int (nI i1)), (0, .ref Zh), (1, .int (nI k5)), (3, .int (nI z1.2.1)), (4, .int (nI i1))]) hx hb dX7_corner_79 rfl hl (by decide) rfl (fun ls hl => ?_)
                  refine lv_iconst (v := nI 1) hx hb dX7_corner_80 (by decide) ?_
                  refine lv_istore_n (lv' := [(3, .int (nI 1)), (2, .int (nI i1)), (0, .ref Zh), (1, .int (nI k5)), (4, .int (nI i1))]) hx hb dX7_corner_81 rfl hl (by decide) rfl (fun ls hl => ?_)
                  refine lv_iinc (v := nI (i1 + 1)) (lv' := [(4, .int (nI (i1 + 1))), (3, .int (nI 1)), (2, .int (nI i1)), (0, .ref Zh), (1, .int (nI k5))]) hx hb dX7_corner_82 hl (k := 4) rfl (nI_add i1 1) (by decide) rfl (fun ls hl => ?_)
                  refine lv_goto (tgt := 30) hx hb dX7_corner_85 (by decide) ?_
                  have hl : lv_has ls 5 [(0, .ref Zh), (1, .int (nI k5)), (2, .int (nI i1)), (3, .int (nI 1)), (4, .int (nI (i1 + 1)))] := lv_sub hl [3, 4, 2, 1, 0] rfl
                  exact ih1 (i1, 1, g92, g93, g94) ⟨(by first | omega | (dsimp only; omega)), (by first | omega | (dsimp only; omega)), hq95, hq96, hq97⟩ _ _ _ hP hD hS hl
    · skip
      obtain ⟨hP, hD⟩ : wPD D A [(Zh, .inr (7, [.long Zt, .ref Za1, .int (nI (ZS 2 0)), .ref Za3, .ref Za4, .ref Za5, .ref Za6, .ref Za7, .ref Za8, .ref Za9, .ref Za10, .ref Za11, .ref Za12, .ref Za13, .int (nI (ZS 14 0)), .int (nI (ZS 15 0)), .int (nI (ZS 16 0)), .int (nI (ZS 17 0)), .int (nI (ZS 18 0)), .int (nI (ZS 19 0) - nI 9), .ref Za20, .ref Za21, .ref Za22, .ref Za23, .ref Za24, .ref Za25, .ref Za26, .ref Za27, .int (nI (ZS 28 0))])), (Za1, .inl (cB, 180, .inl (bF (ZS 1)))), (Za3, .inl (cI, 2, .inl (nF (ZS 3)))), (Za4, .inl (cI, 12, .inl (nF (ZS 4)))), (Za5, .inl (cI, 12, .inl (nF (ZS 5)))), (Za6, .inl (cI, 2, .inl (nF (ZS 6)))), (Za7, .inl (cI, 10, .inl (nF (ZS 7)))), (Za8, .inl (cI, 30, .inl (nF (ZS 8)))), (Za9, .inl (cI, 2, .inl (nF (ZS 9)))), (Za10, .inl (cI, 10, .inl (nF (ZS 10)))), (Za11, .inl (cI, 5, .inl (nF (ZS 11)))), (Za12, .inl (cI, 10, .inl (nF (ZS 12)))), (Za13, .inl (cI, 2, .inl (nF (ZS 13)))), (Za20, .inl (cI, 1191, .inl (nF (ZS 20)))), (Za21, .inl (cZ, 2, .inl (nF (ZS 21)))), (Za22, .inl (cI, 36, .inl (nF (ZS 22)))), (Za23, .inl (cI, 6, .inl (nF (g11)))), (Za24, .inl (cI, 427, .inl (nF (g12)))), (Za25, .inl (cI, 6, .inl (nF (g13)))), (Za26, .inl (cI, 5, .inl (nF (ZS 26)))), (Za27, .inl (cI, 6, .inl (nF (ZS 27))))] H := ⟨hP, hD⟩
      refine nb_if_ne (tgt := 25) hx hb dX7_corner_18 (by decide) (by omega) (fun hq103 => absurd hq103 (by omega)) (fun hq103 => ?_)
      refine lv_iconst (v := nI 1) hx hb dX7_corner_21 (by decide) ?_
      refine lv_goto (tgt := 26) hx hb dX7_corner_22 (by decide) ?_
      refine lv_istore_n (lv' := [(3, .int (nI 1)), (2, .int (nI 0)), (0, .ref Zh), (1, .int (nI k5))]) hx hb dX7_corner_26 rfl hl (by decide) rfl (fun ls hl => ?_)
      refine lv_iconst (v := nI 1) hx hb dX7_corner_27 (by decide) ?_
      refine lv_istore (lv' := [(4, .int (nI 1)), (3, .int (nI 1)), (2, .int (nI 0)), (0, .ref Zh), (1, .int (nI k5))]) hx hb dX7_corner_28 hl (by decide) rfl (fun ls hl => ?_)
      refine loopS (σ := Nat × Nat × (Nat → Nat) × (Nat → Nat) × (Nat → Nat)) (D := D) (A := A) (fun i1 z1 => z1.1 < 64 ∧ z1.2.1 ≤ 1 ∧ (∀ j, z1.2.2.1 j ≤ zb 23 j) ∧ (∀ j, z1.2.2.2.1 j ≤ zb 24 j) ∧ ∀ j, z1.2.2.2.2 j ≤ zb 25 j) (fun i1 z1 => [(Zh, .inr (7, [.long Zt, .ref Za1, .int (nI (ZS 2 0)), .ref Za3, .ref Za4, .ref Za5, .ref Za6, .ref Za7, .ref Za8, .ref Za9, .ref Za10, .ref Za11, .ref Za12, .ref Za13, .int (nI (ZS 14 0)), .int (nI (ZS 15 0)), .int (nI (ZS 16 0)), .int (nI (ZS 17 0)), .int (nI (ZS 18 0)), .int (nI (ZS 19 0) - nI 9), .ref Za20, .ref Za21, .ref Za22, .ref Za23, .ref Za24, .ref Za25, .ref Za26, .ref Za27, .int (nI (ZS 28 0))])), (Za1, .inl (cB, 180, .inl (bF (ZS 1)))), (Za3, .inl (cI, 2, .inl (nF (ZS 3)))), (Za4, .inl (cI, 12, .inl (nF (ZS 4)))), (Za5, .inl (cI, 12, .inl (nF (ZS 5)))), (Za6, .inl (cI, 2, .inl (nF (ZS 6)))), (Za7, .inl (cI, 10, .inl (nF (ZS 7)))), (Za8, .inl (cI, 30, .inl (nF (ZS 8)))), (Za9, .inl (cI, 2, .inl (nF (ZS 9)))), (Za10, .inl (cI, 10, .inl (nF (ZS 10)))), (Za11, .inl (cI, 5, .inl (nF (ZS 11)))), (Za12, .inl (cI, 10, .inl (nF (ZS 12)))), (Za13, .inl (cI, 2, .inl (nF (ZS 13)))), (Za20, .inl (cI, 1191, .inl (nF (ZS 20)))), (Za21, .inl (cZ, 2, .inl (nF (ZS 21)))), (Za22, .inl (cI, 36, .inl (nF (ZS 22)))), (Za23, .inl (cI, 6, .inl (nF (z1.2.2.1)))), (Za24, .inl (cI, 427, .inl (nF (z1.2.2.2.1)))), (Za25, .inl (cI, 6, .inl (nF (z1.2.2.2.2)))), (Za26, .inl (cI, 5, .inl (nF (ZS 26)))), (Za27, .inl (cI, 6, .inl (nF (ZS 27))))]) (fun i1 z1 => [(0, .ref Zh), (1, .int (nI k5)), (2, .int (nI z1.1)), (3, .int (nI z1.2.1)), (4, .int (nI i1))]) 30 5 (2 ^ (ZS 3 0)) 1 (pw_1 _) ?_ ?_ (0, 1, g11, g12, g13) ⟨(by first | omega | (dsimp only; omega)), (by first | omega | (dsimp only; omega)), hq14, hq15, hq16⟩ _ _ ls (by first | exact hP) (by first | exact hD) hS (lv_sub hl [3, 4, 2, 1, 0] rfl)
      · intro z1 hI1 H locs ls hP hD hS hl
        have hl : lv_has ls 5 [(0, .ref Zh), (1, .int (nI k5)), (2, .int (nI z1.1)), (3, .int (nI z1.2.1)), (4, .int (nI (2 ^ (ZS 3 0))))] := hl
        have hc1 := hI1.1
        have hc2 := hI1.2.1
        obtain ⟨hP, hD⟩ : wPD D A [(Zh, .inr (7, [.long Zt, .ref Za1, .int (nI (ZS 2 0)), .ref Za3, .ref Za4, .ref Za5, .ref Za6, .ref Za7, .ref Za8, .ref Za9, .ref Za10, .ref Za11, .ref Za12, .ref Za13, .int (nI (ZS 14 0)), .int (nI (ZS 15 0)), .int (nI (ZS 16 0)), .int (nI (ZS 17 0)), .int (nI (ZS 18 0)), .int (nI (ZS 19 0) - nI 9), .ref Za20, .ref Za21, .ref Za22, .ref Za23, .ref Za24, .ref Za25, .ref Za26, .ref Za27, .int (nI (ZS 28 0))])), (Za1, .inl (cB, 180, .inl (bF (ZS 1)))), (Za3, .inl (cI, 2, .inl (nF (ZS 3)))), (Za4, .inl (cI, 12, .inl (nF (ZS 4)))), (Za5, .inl (cI, 12, .inl (nF (ZS 5)))), (Za6, .inl (cI, 2, .inl (nF (ZS 6)))), (Za7, .inl (cI, 10, .inl (nF (ZS 7)))), (Za8, .inl (cI, 30, .inl (nF (ZS 8)))), (Za9, .inl (cI, 2, .inl (nF (ZS 9)))), (Za10, .inl (cI, 10, .inl (nF (ZS 10)))), (Za11, .inl (cI, 5, .inl (nF (ZS 11)))), (Za12, .inl (cI, 10, .inl (nF (ZS 12)))), (Za13, .inl (cI, 2, .inl (nF (ZS 13)))), (Za20, .inl (cI, 1191, .inl (nF (ZS 20)))), (Za21, .inl (cZ, 2, .inl (nF (ZS 21)))), (Za22, .inl (cI, 36, .inl (nF (ZS 22)))), (Za23, .inl (cI, 6, .inl (nF (z1.2.2.1)))), (Za24, .inl (cI, 427, .inl (nF (z1.2.2.2.1)))), (Za25, .inl (cI, 6, .inl (nF (z1.2.2.2.2)))), (Za26, .inl (cI, 5, .inl (nF (ZS 26)))), (Za27, .inl (cI, 6, .inl (nF (ZS 27))))] H := ⟨hP, hD⟩
        refine lv_iload hx hb dX7_corner_30 (lv_at hl 4 rfl) ?_
        refine lv_iconst (v := nI 1) hx hb dX7_corner_32 (by decide) ?_
        refine lv_aload_n hx hb dX7_corner_33 rfl (lv_at hl 0 rfl) ?_
        refine va_get (D := D) (ci := 7) (v := .ref Za3) (C := RX7) (T := TX7) (N := 29) hx hb hts in_X7_corner_7 hown hK.1 hP 0 rfl rfl 3 (by decide) (hts (.fieldLink RX7 13 "ChildCoinsModel" "coins" "[I") (List.mem_of_getElem? (i := 1) rfl)) (fun _ h9 => h9) rfl dX7_corner_34 ?_
        refine lv_iconst (v := nI 0) hx hb dX7_corner_37 (by decide) ?_
        refine va_iald hx hb hK.1 hP 2 0 rfl rfl (vp_in_nI (n := 0) (N := 2) (by omega) (by decide)) dX7_corner_38 ?_
        refine set_i (y := nI (ZS 3 0)) (nF_ld (by omega)) ?_
        have b104 : ZS 3 0 ≤ 6 := (zok_set (k := 25) (zok_set (k := 24) (zok_set (k := 23) hZ hI1.2.2.1) hI1.2.2.2.1) hI1.2.2.2.2) 3 0
        refine lv_ishl hx hb dX7_corner_39 ?_
        refine set_i (y := nI (2 ^ (ZS 3 0))) (shl_1 (by omega)) ?_
        refine nb_icmp_ge (tgt := 88) hx hb dX7_corner_40 (by decide) (by omega) (by omega) (fun hq105 => ?_) (fun hq105 => absurd hq105 (by omega))
        refine lv_iload_n hx hb dX7_corner_88 rfl (lv_at hl 2 rfl) ?_
        exact en_i hx hb hr hlk hP hD hS (ua (ua (ua ZS 23 (z1.2.2.1)) 24 (z1.2.2.2.1)) 25 (z1.2.2.2.2)) [0, 1, 2, 3, 4, 5, 6, 7, 8, 9, 10, 11, 12, 13, 14, 15, 16, 17, 18, 19, 20] (by decide) rfl (Nat.le_of_ble_eq_true rfl) (Nat.le_of_ble_eq_true rfl) dX7_corner_89 (ZP.set (k := 25) (ZP.set (k := 24) (ZP.set (k := 23) (ZP.rf hZ) (by decide) hI1.2.2.1) (by decide) hI1.2.2.2.1) (by decide) hI1.2.2.2.2)
      · intro i1 hi01 hi1 z1 hI1 ih1 H locs ls hP hD hS hl
        have hl : lv_has ls 5 [(0, .ref Zh), (1, .int (nI k5)), (2, .int (nI z1.1)), (3, .int (nI z1.2.1)), (4, .int (nI i1))] := hl
        have hc1 := hI1.1
        have hc2 := hI1.2.1
        obtain ⟨hP, hD⟩ : wPD D A [(Zh, .inr (7, [.long Zt, .ref Za1, .int (nI (ZS 2 0)), .ref Za3, .ref Za4, .ref Za5, .ref Za6, .ref Za7, .ref Za8, .ref Za9, .ref Za10, .ref Za11, .ref Za12, .ref Za13, .int (nI (ZS 14 0)), .int (nI (ZS 15 0)), .int (nI (ZS 16 0)), .int (nI (ZS 17 0)), .int (nI (ZS 18 0)), .int (nI (ZS 19 0) - nI 9), .ref Za20, .ref Za21, .ref Za22, .ref Za23, .ref Za24, .ref Za25, .ref Za26, .ref Za27, .int (nI (ZS 28 0))])), (Za1, .inl (cB, 180, .inl (bF (ZS 1)))), (Za3, .inl (cI, 2, .inl (nF (ZS 3)))), (Za4, .inl (cI, 12, .inl (nF (ZS 4)))), (Za5, .inl (cI, 12, .inl (nF (ZS 5)))), (Za6, .inl (cI, 2, .inl (nF (ZS 6)))), (Za7, .inl (cI, 10, .inl (nF (ZS 7)))), (Za8, .inl (cI, 30, .inl (nF (ZS 8)))), (Za9, .inl (cI, 2, .inl (nF (ZS 9)))), (Za10, .inl (cI, 10, .inl (nF (ZS 10)))), (Za11, .inl (cI, 5, .inl (nF (ZS 11)))), (Za12, .inl (cI, 10, .inl (nF (ZS 12)))), (Za13, .inl (cI, 2, .inl (nF (ZS 13)))), (Za20, .inl (cI, 1191, .inl (nF (ZS 20)))), (Za21, .inl (cZ, 2, .inl (nF (ZS 21)))), (Za22, .inl (cI, 36, .inl (nF (ZS 22)))), (Za23, .inl (cI, 6, .inl (nF (z1.2.2.1)))), (Za24, .inl (cI, 427, .inl (nF (z1.2.2.2.1)))), (Za25, .inl (cI, 6, .inl (nF (z1.2.2.2.2)))), (Za26, .inl (cI, 5, .inl (nF (ZS 26)))), (Za27, .inl (cI, 6, .inl (nF (ZS 27))))] H := ⟨hP, hD⟩
        refine lv_iload hx hb dX7_corner_30 (lv_at hl 4 rfl) ?_
        refine lv_iconst (v := nI 1) hx hb dX7_corner_32 (by decide) ?_
        refine lv_aload_n hx hb dX7_corner_33 rfl (lv_at hl 0 rfl) ?_
        refine va_get (D := D) (ci := 7) (v := .ref Za3) (C := RX7) (T := TX7) (N := 29) hx hb hts in_X7_corner_7 hown hK.1 hP 0 rfl rfl 3 (by decide) (hts (.fieldLink RX7 13 "ChildCoinsModel" "coins" "[I") (List.mem_of_getElem? (i := 1) rfl)) (fun _ h9 => h9) rfl dX7_corner_34 ?_
        refine lv_iconst (v := nI 0) hx hb dX7_corner_37 (by decide) ?_
        refine va_iald hx hb hK.1 hP 2 0 rfl rfl (vp_in_nI (n := 0) (N := 2) (by omega) (by decide)) dX7_corner_38 ?_
        refine set_i (y := nI (ZS 3 0)) (nF_ld (by omega)) ?_
        have b106 : ZS 3 0 ≤ 6 := (zok_set (k := 25) (zok_set (k := 24) (zok_set (k := 23) hZ hI1.2.2.1) hI1.2.2.2.1) hI1.2.2.2.2) 3 0
        refine lv_ishl hx hb dX7_corner_39 ?_
        refine set_i (y := nI (2 ^ (ZS 3 0))) (shl_1 (by omega)) ?_
        refine nb_icmp_ge (tgt := 88) hx hb dX7_corner_40 (by decide) (by omega) (by omega) (fun hq107 => absurd hq107 (by omega)) (fun hq107 => ?_)
        refine lv_iload_n hx hb dX7_corner_43 rfl (lv_at hl 3 rfl) ?_
        refine nb_if_eq (tgt := 51) hx hb dX7_corner_44 (by decide) (by omega) (fun hq108 => ?_) (fun hq108 => ?_)
        · skip
          refine lv_iload_n hx hb dX7_corner_51 rfl (lv_at hl 3 rfl) ?_
          refine nb_if_eq (tgt := 67) hx hb dX7_corner_52 (by decide) (by omega) (fun hq109 => ?_) (fun hq109 => ?_)
          · skip
            refine lv_aload_n hx hb dX7_corner_67 rfl (lv_at hl 0 rfl) ?_
            refine lv_iload_n hx hb dX7_corner_68 rfl (lv_at hl 1 rfl) ?_
            refine lv_iload hx hb dX7_corner_69 (lv_at hl 4 rfl) ?_
            refine be_i (free := fun _ => False) (wr := []) (ru_V (As := [.int (nI k5), .int (nI i1)]) (rest := []) ⟨hx, hb, hml, hown, hts⟩ (z_canWorld l D cI cB cZ cN Zh Za1 Za3 Za4 Za5 Za6 Za7 Za8 Za9 Za10 Za11 Za12 Za13 Za20 Za21 Za22 Za23 Za24 Za25 Za26 Za27 Zt (ua (ua (ua ZS 23 (z1.2.2.1)) 24 (z1.2.2.2.1)) 25 (z1.2.2.2.2)) k5 i1 (zok_set (k := 25) (zok_set (k := 24) (zok_set (k := 23) hZ hI1.2.2.1) hI1.2.2.2.1) hI1.2.2.2.2) (by omega) (by omega) H.size) gX7_corner_X7_canWorld rfl ⟨rfl, by decide, by decide, (show Option.map (fun d => d.parameters.length) (parseMethodDescriptor yX7_canWorld.desc) = some 2 by decide +kernel)⟩ ⟨Nat.le_of_ble_eq_true rfl, Nat.le_of_ble_eq_true rfl⟩ hK hP hD 7 0 rfl rfl [0, 1, 2, 3, 4, 5, 6, 7, 8, 9, 10, 11, 12, 13, 14, 15, 16, 17, 18, 19, 20] (by decide) rfl hl.1 rfl (Nat.le_of_ble_eq_true rfl) dX7_corner_71 ⟨Nat.le_of_ble_eq_true rfl, Nat.le_of_ble_eq_true rfl⟩) hP hD hS hA [0, 1, 2, 3, 4, 5, 6, 7, 8, 9, 10, 11, 12, 13, 14, 15, 16, 17, 18, 19, 20] [] rfl rfl (by decide) (by decide) (fun r111 u110 H locs w112 hP hD hS => ?_)
            obtain ⟨g113, g114, g115, rfl, hq116, hq117, hq118, hq119⟩ := w112
            have hzz120 : ZOk (ua (ua (ua ZS 23 (g113)) 24 (g114)) 25 (g115)) := (zok_set (k := 25) (zok_set (k := 24) (zok_set (k := 23) hZ hq116) hq117) hq118)
            rcases hq119 with ⟨rfl, hq121⟩ | ⟨rfl, hq121⟩
            · skip
              obtain ⟨hP, hD⟩ : wPD D A [(Zh, .inr (7, [.long Zt, .ref Za1, .int (nI (ZS 2 0)), .ref Za3, .ref Za4, .ref Za5, .ref Za6, .ref Za7, .ref Za8, .ref Za9, .ref Za10, .ref Za11, .ref Za12, .ref Za13, .int (nI (ZS 14 0)), .int (nI (ZS 15 0)), .int (nI (ZS 16 0)), .int (nI (ZS 17 0)), .int (nI (ZS 18 0)), .int (nI (ZS 19 0) - nI 9), .ref Za20, .ref Za21, .ref Za22, .ref Za23, .ref Za24, .ref Za25, .ref Za26, .ref Za27, .int (nI (ZS 28 0))])), (Za1, .inl (cB, 180, .inl (bF (ZS 1)))), (Za3, .inl (cI, 2, .inl (nF (ZS 3)))), (Za4, .inl (cI, 12, .inl (nF (ZS 4)))), (Za5, .inl (cI, 12, .inl (nF (ZS 5)))), (Za6, .inl (cI, 2, .inl (nF (ZS 6)))), (Za7, .inl (cI, 10, .inl (nF (ZS 7)))), (Za8, .inl (cI, 30, .inl (nF (ZS 8)))), (Za9, .inl (cI, 2, .inl (nF (ZS 9)))), (Za10, .inl (cI, 10, .inl (nF (ZS 10)))), (Za11, .inl (cI, 5, .inl (nF (ZS 11)))), (Za12, .inl (cI, 10, .inl (nF (ZS 12)))), (Za13, .inl (cI, 2, .inl (nF (ZS 13)))), (Za20, .inl (cI, 1191, .inl (nF (ZS 20)))), (Za21, .inl (cZ, 2, .inl (nF (ZS 21)))), (Za22, .inl (cI, 36, .inl (nF (ZS 22)))), (Za23, .inl (cI, 6, .inl (nF (g113)))), (Za24, .inl (cI, 427, .inl (nF (g114)))), (Za25, .inl (cI, 6, .inl (nF (g115)))), (Za26, .inl (cI, 5, .inl (nF (ZS 26)))), (Za27, .inl (cI, 6, .inl (nF (ZS 27))))] H := ⟨hP, hD⟩
              refine nb_if_ne (tgt := 82) hx hb dX7_corner_74 (by decide) (by omega) (fun hq122 => ?_) (fun hq122 => absurd hq122 (by omega))
              refine lv_iinc (v := nI (i1 + 1)) (lv' := [(4, .int (nI (i1 + 1))), (0, .ref Zh), (1, .int (nI k5)), (2, .int (nI z1.1)), (3, .int (nI z1.2.1))]) hx hb dX7_corner_82 hl (k := 4) rfl (nI_add i1 1) (by decide) rfl (fun ls hl => ?_)
              refine lv_goto (tgt := 30) hx hb dX7_corner_85 (by decide) ?_
              have hl : lv_has ls 5 [(0, .ref Zh), (1, .int (nI k5)), (2, .int (nI z1.1)), (3, .int (nI z1.2.1)), (4, .int (nI (i1 + 1)))] := lv_sub hl [1, 2, 3, 4, 0] rfl
              exact ih1 (z1.1, z1.2.1, g113, g114, g115) ⟨(by first | omega | (dsimp only; omega)), (by first | omega | (dsimp only; omega)), hq116, hq117, hq118⟩ _ _ _ hP hD hS hl
            · skip
              obtain ⟨hP, hD⟩ : wPD D A [(Zh, .inr (7, [.long Zt, .ref Za1, .int (nI (ZS 2 0)), .ref Za3, .ref Za4, .ref Za5, .ref Za6, .ref Za7, .ref Za8, .ref Za9, .ref Za10, .ref Za11, .ref Za12, .ref Za13, .int (nI (ZS 14 0)), .int (nI (ZS 15 0)), .int (nI (ZS 16 0)), .int (nI (ZS 17 0)), .int (nI (ZS 18 0)), .int (nI (ZS 19 0) - nI 9), .ref Za20, .ref Za21, .ref Za22, .ref Za23, .ref Za24, .ref Za25, .ref Za26, .ref Za27, .int (nI (ZS 28 0))])), (Za1, .inl (cB, 180, .inl (bF (ZS 1)))), (Za3, .inl (cI, 2, .inl (nF (ZS 3)))), (Za4, .inl (cI, 12, .inl (nF (ZS 4)))), (Za5, .inl (cI, 12, .inl (nF (ZS 5)))), (Za6, .inl (cI, 2, .inl (nF (ZS 6)))), (Za7, .inl (cI, 10, .inl (nF (ZS 7)))), (Za8, .inl (cI, 30, .inl (nF (ZS 8)))), (Za9, .inl (cI, 2, .inl (nF (ZS 9)))), (Za10, .inl (cI, 10, .inl (nF (ZS 10)))), (Za11, .inl (cI, 5, .inl (nF (ZS 11)))), (Za12, .inl (cI, 10, .inl (nF (ZS 12)))), (Za13, .inl (cI, 2, .inl (nF (ZS 13)))), (Za20, .inl (cI, 1191, .inl (nF (ZS 20)))), (Za21, .inl (cZ, 2, .inl (nF (ZS 21)))), (Za22, .inl (cI, 36, .inl (nF (ZS 22)))), (Za23, .inl (cI, 6, .inl (nF (g113)))), (Za24, .inl (cI, 427, .inl (nF (g114)))), (Za25, .inl (cI, 6, .inl (nF (g115)))), (Za26, .inl (cI, 5, .inl (nF (ZS 26)))), (Za27, .inl (cI, 6, .inl (nF (ZS 27))))] H := ⟨hP, hD⟩
              refine nb_if_ne (tgt := 82) hx hb dX7_corner_74 (by decide) (by omega) (fun hq123 => absurd hq123 (by omega)) (fun hq123 => ?_)
              refine lv_iload hx hb dX7_corner_77 (lv_at hl 4 rfl) ?_
              refine lv_istore_n (lv' := [(2, .int (nI i1)), (0, .ref Zh), (1, .int (nI k5)), (3, .int (nI z1.2.1)), (4, .int (nI i1))]) hx hb dX7_corner_79 rfl hl (by decide) rfl (fun ls hl => ?_)
              refine lv_iconst (v := nI 1) hx hb dX7_corner_80 (by decide) ?_
              refine lv_istore_n (lv' := [(3, .int (nI 1)), (2, .int (nI i1)), (0, .ref Zh), (1, .int (nI k5)), (4, .int (nI i1))]) hx hb dX7_corner_81 rfl hl (by decide) rfl (fun ls hl => ?_)
              refine lv_iinc (v := nI (i1 + 1)) (lv' := [(4, .int (nI (i1 + 1))), (3, .int (nI 1)), (2, .int (nI i1)), (0, .ref Zh), (1, .int (nI k5))]) hx hb dX7_corner_82 hl (k := 4) rfl (nI_add i1 1) (by decide) rfl (fun ls hl => ?_)
              refine lv_goto (tgt := 30) hx hb dX7_corner_85 (by decide) ?_
              have hl : lv_has ls 5 [(0, .ref Zh), (1, .int (nI k5)), (2, .int (nI i1)), (3, .int (nI 1)), (4, .int (nI (i1 + 1)))] := lv_sub hl [3, 4, 2, 1, 0] rfl
              exact ih1 (i1, 1, g113, g114, g115) ⟨(by first | omega | (dsimp only; omega)), (by first | omega | (dsimp only; omega)), hq116, hq117, hq118⟩ _ _ _ hP hD hS hl
          · skip
            refine lv_iload hx hb dX7_corner_55 (lv_at hl 4 rfl) ?_
            refine be_i0 (ru_S (As := [.int (nI i1)]) (rest := []) ⟨hx, hb, hml, hown, hts⟩ (z_manyOf l D cI cB cZ cN i1 (by omega) H.size) ggX7_corner_X7_manyOf rfl (hts (.initialized RX7) (List.mem_of_getElem? (i := 5) rfl)) (hts (.methodLink RX7 195 yX7_manyOf) (List.mem_of_getElem? (i := 45) rfl)) (hts (.static yX7_manyOf) (List.mem_of_getElem? (i := 46) rfl)) ⟨by decide, by decide, (show Option.map (fun d => d.parameters.length) (parseMethodDescriptor yX7_manyOf.desc) = some 1 by decide +kernel)⟩ ⟨Nat.le_of_ble_eq_true rfl, Nat.le_of_ble_eq_true rfl⟩ hK hP hD [] (by decide) rfl hl.1 rfl (Nat.le_of_ble_eq_true rfl) dX7_corner_57 ⟨Nat.le_of_ble_eq_true rfl, Nat.le_of_ble_eq_true rfl⟩) hP hD hS hA [] rfl (fun r125 u124 H locs w126 hP hS => ?_)
            obtain rfl : r125 = nI (sumN (fun k => i1 / 2 ^ k % 2) 6) := w126
            have b127 := many6 i1
            refine lv_iload_n hx hb dX7_corner_60 rfl (lv_at hl 2 rfl) ?_
            refine be_i0 (ru_S (As := [.int (nI z1.1)]) (rest := [.int (nI (sumN (fun k => i1 / 2 ^ k % 2) 6))]) ⟨hx, hb, hml, hown, hts⟩ (z_manyOf l D cI cB cZ cN z1.1 (by omega) H.size) ggX7_corner_X7_manyOf rfl (hts (.initialized RX7) (List.mem_of_getElem? (i := 5) rfl)) (hts (.methodLink RX7 195 yX7_manyOf) (List.mem_of_getElem? (i := 45) rfl)) (hts (.static yX7_manyOf) (List.mem_of_getElem? (i := 46) rfl)) ⟨by decide, by decide, (show Option.map (fun d => d.parameters.length) (parseMethodDescriptor yX7_manyOf.desc) = some 1 by decide +kernel)⟩ ⟨Nat.le_of_ble_eq_true rfl, Nat.le_of_ble_eq_true rfl⟩ hK hP hD [] (by decide) rfl hl.1 rfl (Nat.le_of_ble_eq_true rfl) dX7_corner_61 ⟨Nat.le_of_ble_eq_true rfl, Nat.le_of_ble_eq_true rfl⟩) hP hD hS hA [] rfl (fun r129 u128 H locs w130 hP hS => ?_)
            obtain rfl : r129 = nI (sumN (fun k => z1.1 / 2 ^ k % 2) 6) := w130
            have b131 := many6 z1.1
            refine nb_icmp_ge (tgt := 82) hx hb dX7_corner_64 (by decide) (by omega) (by omega) (fun hq132 => ?_) (fun hq132 => ?_)
            · skip
              refine lv_iinc (v := nI (i1 + 1)) (lv' := [(4, .int (nI (i1 + 1))), (0, .ref Zh), (1, .int (nI k5)), (2, .int (nI z1.1)), (3, .int (nI z1.2.1))]) hx hb dX7_corner_82 hl (k := 4) rfl (nI_add i1 1) (by decide) rfl (fun ls hl => ?_)
              refine lv_goto (tgt := 30) hx hb dX7_corner_85 (by decide) ?_
              have hl : lv_has ls 5 [(0, .ref Zh), (1, .int (nI k5)), (2, .int (nI z1.1)), (3, .int (nI z1.2.1)), (4, .int (nI (i1 + 1)))] := lv_sub hl [1, 2, 3, 4, 0] rfl
              exact ih1 (z1.1, z1.2.1, z1.2.2.1, z1.2.2.2.1, z1.2.2.2.2) ⟨(by first | omega | (dsimp only; omega)), (by first | omega | (dsimp only; omega)), hI1.2.2.1, hI1.2.2.2.1, hI1.2.2.2.2⟩ _ _ _ hP hD hS hl
            · skip
              refine lv_aload_n hx hb dX7_corner_67 rfl (lv_at hl 0 rfl) ?_
              refine lv_iload_n hx hb dX7_corner_68 rfl (lv_at hl 1 rfl) ?_
              refine lv_iload hx hb dX7_corner_69 (lv_at hl 4 rfl) ?_
              refine be_i (free := fun _ => False) (wr := []) (ru_V (As := [.int (nI k5), .int (nI i1)]) (rest := []) ⟨hx, hb, hml, hown, hts⟩ (z_canWorld l D cI cB cZ cN Zh Za1 Za3 Za4 Za5 Za6 Za7 Za8 Za9 Za10 Za11 Za12 Za13 Za20 Za21 Za22 Za23 Za24 Za25 Za26 Za27 Zt (ua (ua (ua ZS 23 (z1.2.2.1)) 24 (z1.2.2.2.1)) 25 (z1.2.2.2.2)) k5 i1 (zok_set (k := 25) (zok_set (k := 24) (zok_set (k := 23) hZ hI1.2.2.1) hI1.2.2.2.1) hI1.2.2.2.2) (by omega) (by omega) H.size) gX7_corner_X7_canWorld rfl ⟨rfl, by decide, by decide, (show Option.map (fun d => d.parameters.length) (parseMethodDescriptor yX7_canWorld.desc) = some 2 by decide +kernel)⟩ ⟨Nat.le_of_ble_eq_true rfl, Nat.le_of_ble_eq_true rfl⟩ hK hP hD 7 0 rfl rfl [0, 1, 2, 3, 4, 5, 6, 7, 8, 9, 10, 11, 12, 13, 14, 15, 16, 17, 18, 19, 20] (by decide) rfl hl.1 rfl (Nat.le_of_ble_eq_true rfl) dX7_corner_71 ⟨Nat.le_of_ble_eq_true rfl, Nat.le_of_ble_eq_true rfl⟩) hP hD hS hA [0, 1, 2, 3, 4, 5, 6, 7, 8, 9, 10, 11, 12, 13, 14, 15, 16, 17, 18, 19, 20] [] rfl rfl (by decide) (by decide) (fun r134 u133 H locs w135 hP hD hS => ?_)
              obtain ⟨g136, g137, g138, rfl, hq139, hq140, hq141, hq142⟩ := w135
              have hzz143 : ZOk (ua (ua (ua ZS 23 (g136)) 24 (g137)) 25 (g138)) := (zok_set (k := 25) (zok_set (k := 24) (zok_set (k := 23) hZ hq139) hq140) hq141)
              rcases hq142 with ⟨rfl, hq144⟩ | ⟨rfl, hq144⟩
              · skip
                obtain ⟨hP, hD⟩ : wPD D A [(Zh, .inr (7, [.long Zt, .ref Za1, .int (nI (ZS 2 0)), .ref Za3, .ref Za4, .ref Za5, .ref Za6, .ref Za7, .ref Za8, .ref Za9, .ref Za10, .ref Za11, .ref Za12, .ref Za13, .int (nI (ZS 14 0)), .int (nI (ZS 15 0)), .int (nI (ZS 16 0)), .int (nI (ZS 17 0)), .int (nI (ZS 18 0)), .int (nI (ZS 19 0) - nI 9), .ref Za20, .ref Za21, .ref Za22, .ref Za23, .ref Za24, .ref Za25, .ref Za26, .ref Za27, .int (nI (ZS 28 0))])), (Za1, .inl (cB, 180, .inl (bF (ZS 1)))), (Za3, .inl (cI, 2, .inl (nF (ZS 3)))), (Za4, .inl (cI, 12, .inl (nF (ZS 4)))), (Za5, .inl (cI, 12, .inl (nF (ZS 5)))), (Za6, .inl (cI, 2, .inl (nF (ZS 6)))), (Za7, .inl (cI, 10, .inl (nF (ZS 7)))), (Za8, .inl (cI, 30, .inl (nF (ZS 8)))), (Za9, .inl (cI, 2, .inl (nF (ZS 9)))), (Za10, .inl (cI, 10, .inl (nF (ZS 10)))), (Za11, .inl (cI, 5, .inl (nF (ZS 11)))), (Za12, .inl (cI, 10, .inl (nF (ZS 12)))), (Za13, .inl (cI, 2, .inl (nF (ZS 13)))), (Za20, .inl (cI, 1191, .inl (nF (ZS 20)))), (Za21, .inl (cZ, 2, .inl (nF (ZS 21)))), (Za22, .inl (cI, 36, .inl (nF (ZS 22)))), (Za23, .inl (cI, 6, .inl (nF (g136)))), (Za24, .inl (cI, 427, .inl (nF (g137)))), (Za25, .inl (cI, 6, .inl (nF (g138)))), (Za26, .inl (cI, 5, .inl (nF (ZS 26)))), (Za27, .inl (cI, 6, .inl (nF (ZS 27))))] H := ⟨hP, hD⟩
                refine nb_if_ne (tgt := 82) hx hb dX7_corner_74 (by decide) (by omega) (fun hq145 => ?_) (fun hq145 => absurd hq145 (by omega))
                refine lv_iinc (v := nI (i1 + 1)) (lv' := [(4, .int (nI (i1 + 1))), (0, .ref Zh), (1, .int (nI k5)), (2, .int (nI z1.1)), (3, .int (nI z1.2.1))]) hx hb dX7_corner_82 hl (k := 4) rfl (nI_add i1 1) (by decide) rfl (fun ls hl => ?_)
                refine lv_goto (tgt := 30) hx hb dX7_corner_85 (by decide) ?_
                have hl : lv_has ls 5 [(0, .ref Zh), (1, .int (nI k5)), (2, .int (nI z1.1)), (3, .int (nI z1.2.1)), (4, .int (nI (i1 + 1)))] := lv_sub hl [1, 2, 3, 4, 0] rfl
                exact ih1 (z1.1, z1.2.1, g136, g137, g138) ⟨(by first | omega | (dsimp only; omega)), (by first | omega | (dsimp only; omega)), hq139, hq140, hq141⟩ _ _ _ hP hD hS hl
              · skip
                obtain ⟨hP, hD⟩ : wPD D A [(Zh, .inr (7, [.long Zt, .ref Za1, .int (nI (ZS 2 0)), .ref Za3, .ref Za4, .ref Za5, .ref Za6, .ref Za7, .ref Za8, .ref Za9, .ref Za10, .ref Za11, .ref Za12, .ref Za13, .int (nI (ZS 14 0)), .int (nI (ZS 15 0)), .int (nI (ZS 16 0)), .int (nI (ZS 17 0)), .int (nI (ZS 18 0)), .int (nI (ZS 19 0) - nI 9), .ref Za20, .ref Za21, .ref Za22, .ref Za23, .ref Za24, .ref Za25, .ref Za26, .ref Za27, .int (nI (ZS 28 0))])), (Za1, .inl (cB, 180, .inl (bF (ZS 1)))), (Za3, .inl (cI, 2, .inl (nF (ZS 3)))), (Za4, .inl (cI, 12, .inl (nF (ZS 4)))), (Za5, .inl (cI, 12, .inl (nF (ZS 5)))), (Za6, .inl (cI, 2, .inl (nF (ZS 6)))), (Za7, .inl (cI, 10, .inl (nF (ZS 7)))), (Za8, .inl (cI, 30, .inl (nF (ZS 8)))), (Za9, .inl (cI, 2, .inl (nF (ZS 9)))), (Za10, .inl (cI, 10, .inl (nF (ZS 10)))), (Za11, .inl (cI, 5, .inl (nF (ZS 11)))), (Za12, .inl (cI, 10, .inl (nF (ZS 12)))), (Za13, .inl (cI, 2, .inl (nF (ZS 13)))), (Za20, .inl (cI, 1191, .inl (nF (ZS 20)))), (Za21, .inl (cZ, 2, .inl (nF (ZS 21)))), (Za22, .inl (cI, 36, .inl (nF (ZS 22)))), (Za23, .inl (cI, 6, .inl (nF (g136)))), (Za24, .inl (cI, 427, .inl (nF (g137)))), (Za25, .inl (cI, 6, .inl (nF (g138)))), (Za26, .inl (cI, 5, .inl (nF (ZS 26)))), (Za27, .inl (cI, 6, .inl (nF (ZS 27))))] H := ⟨hP, hD⟩
                refine nb_if_ne (tgt := 82) hx hb dX7_corner_74 (by decide) (by omega) (fun hq146 => absurd hq146 (by omega)) (fun hq146 => ?_)
                refine lv_iload hx hb dX7_corner_77 (lv_at hl 4 rfl) ?_
                refine lv_istore_n (lv' := [(2, .int (nI i1)), (0, .ref Zh), (1, .int (nI k5)), (3, .int (nI z1.2.1)), (4, .int (nI i1))]) hx hb dX7_corner_79 rfl hl (by decide) rfl (fun ls hl => ?_)
                refine lv_iconst (v := nI 1) hx hb dX7_corner_80 (by decide) ?_
                refine lv_istore_n (lv' := [(3, .int (nI 1)), (2, .int (nI i1)), (0, .ref Zh), (1, .int (nI k5)), (4, .int (nI i1))]) hx hb dX7_corner_81 rfl hl (by decide) rfl (fun ls hl => ?_)
                refine lv_iinc (v := nI (i1 + 1)) (lv' := [(4, .int (nI (i1 + 1))), (3, .int (nI 1)), (2, .int (nI i1)), (0, .ref Zh), (1, .int (nI k5))]) hx hb dX7_corner_82 hl (k := 4) rfl (nI_add i1 1) (by decide) rfl (fun ls hl => ?_)
                refine lv_goto (tgt := 30) hx hb dX7_corner_85 (by decide) ?_
                have hl : lv_has ls 5 [(0, .ref Zh), (1, .int (nI k5)), (2, .int (nI i1)), (3, .int (nI 1)), (4, .int (nI (i1 + 1)))] := lv_sub hl [3, 4, 2, 1, 0] rfl
                exact ih1 (i1, 1, g136, g137, g138) ⟨(by first | omega | (dsimp only; omega)), (by first | omega | (dsimp only; omega)), hq139, hq140, hq141⟩ _ _ _ hP hD hS hl
        · skip
          refine lv_iload_n hx hb dX7_corner_47 rfl (lv_at hl 2 rfl) ?_
          refine nb_if_eq (tgt := 88) hx hb dX7_corner_48 (by decide) (by omega) (fun hq147 => ?_) (fun hq147 => ?_)
          · skip
            refine lv_iload_n hx hb dX7_corner_88 rfl (lv_at hl 2 rfl) ?_
            exact en_i hx hb hr hlk hP hD hS (ua (ua (ua ZS 23 (z1.2.2.1)) 24 (z1.2.2.2.1)) 25 (z1.2.2.2.2)) [0, 1, 2, 3, 4, 5, 6, 7, 8, 9, 10, 11, 12, 13, 14, 15, 16, 17, 18, 19, 20] (by decide) rfl (Nat.le_of_ble_eq_true rfl) (Nat.le_of_ble_eq_true rfl) dX7_corner_89 (ZP.set (k := 25) (ZP.set (k := 24) (ZP.set (k := 23) (ZP.rf hZ) (by decide) hI1.2.2.1) (by decide) hI1.2.2.2.1) (by decide) hI1.2.2.2.2)
          · skip
            refine lv_iload_n hx hb dX7_corner_51 rfl (lv_at hl 3 rfl) ?_
            refine nb_if_eq (tgt := 67) hx hb dX7_corner_52 (by decide) (by omega) (fun hq148 => ?_) (fun hq148 => ?_)
            · skip
              refine lv_aload_n hx hb dX7_corner_67 rfl (lv_at hl 0 rfl) ?_
              refine lv_iload_n hx hb dX7_corner_68 rfl (lv_at hl 1 rfl) ?_
              refine lv_iload hx hb dX7_corner_69 (lv_at hl 4 rfl) ?_
              refine be_i (free := fun _ => False) (wr := []) (ru_V (As := [.int (nI k5), .int (nI i1)]) (rest := []) ⟨hx, hb, hml, hown, hts⟩ (z_canWorld l D cI cB cZ cN Zh Za1 Za3 Za4 Za5 Za6 Za7 Za8 Za9 Za10 Za11 Za12 Za13 Za20 Za21 Za22 Za23 Za24 Za25 Za26 Za27 Zt (ua (ua (ua ZS 23 (z1.2.2.1)) 24 (z1.2.2.2.1)) 25 (z1.2.2.2.2)) k5 i1 (zok_set (k := 25) (zok_set (k := 24) (zok_set (k := 23) hZ hI1.2.2.1) hI1.2.2.2.1) hI1.2.2.2.2) (by omega) (by omega) H.size) gX7_corner_X7_canWorld rfl ⟨rfl, by decide, by decide, (show Option.map (fun d => d.parameters.length) (parseMethodDescriptor yX7_canWorld.desc) = some 2 by decide +kernel)⟩ ⟨Nat.le_of_ble_eq_true rfl, Nat.le_of_ble_eq_true rfl⟩ hK hP hD 7 0 rfl rfl [0, 1, 2, 3, 4, 5, 6, 7, 8, 9, 10, 11, 12, 13, 14, 15, 16, 17, 18, 19, 20] (by decide) rfl hl.1 rfl (Nat.le_of_ble_eq_true rfl) dX7_corner_71 ⟨Nat.le_of_ble_eq_true rfl, Nat.le_of_ble_eq_true rfl⟩) hP hD hS hA [0, 1, 2, 3, 4, 5, 6, 7, 8, 9, 10, 11, 12, 13, 14, 15, 16, 17, 18, 19, 20] [] rfl rfl (by decide) (by decide) (fun r150 u149 H locs w151 hP hD hS => ?_)
              obtain ⟨g152, g153, g154, rfl, hq155, hq156, hq157, hq158⟩ := w151
              have hzz159 : ZOk (ua (ua (ua ZS 23 (g152)) 24 (g153)) 25 (g154)) := (zok_set (k := 25) (zok_set (k := 24) (zok_set (k := 23) hZ hq155) hq156) hq157)
              rcases hq158 with ⟨rfl, hq160⟩ | ⟨rfl, hq160⟩
              · skip
                obtain ⟨hP, hD⟩ : wPD D A [(Zh, .inr (7, [.long Zt, .ref Za1, .int (nI (ZS 2 0)), .ref Za3, .ref Za4, .ref Za5, .ref Za6, .ref Za7, .ref Za8, .ref Za9, .ref Za10, .ref Za11, .ref Za12, .ref Za13, .int (nI (ZS 14 0)), .int (nI (ZS 15 0)), .int (nI (ZS 16 0)), .int (nI (ZS 17 0)), .int (nI (ZS 18 0)), .int (nI (ZS 19 0) - nI 9), .ref Za20, .ref Za21, .ref Za22, .ref Za23, .ref Za24, .ref Za25, .ref Za26, .ref Za27, .int (nI (ZS 28 0))])), (Za1, .inl (cB, 180, .inl (bF (ZS 1)))), (Za3, .inl (cI, 2, .inl (nF (ZS 3)))), (Za4, .inl (cI, 12, .inl (nF (ZS 4)))), (Za5, .inl (cI, 12, .inl (nF (ZS 5)))), (Za6, .inl (cI, 2, .inl (nF (ZS 6)))), (Za7, .inl (cI, 10, .inl (nF (ZS 7)))), (Za8, .inl (cI, 30, .inl (nF (ZS 8)))), (Za9, .inl (cI, 2, .inl (nF (ZS 9)))), (Za10, .inl (cI, 10, .inl (nF (ZS 10)))), (Za11, .inl (cI, 5, .inl (nF (ZS 11)))), (Za12, .inl (cI, 10, .inl (nF (ZS 12)))), (Za13, .inl (cI, 2, .inl (nF (ZS 13)))), (Za20, .inl (cI, 1191, .inl (nF (ZS 20)))), (Za21, .inl (cZ, 2, .inl (nF (ZS 21)))), (Za22, .inl (cI, 36, .inl (nF (ZS 22)))), (Za23, .inl (cI, 6, .inl (nF (g152)))), (Za24, .inl (cI, 427, .inl (nF (g153)))), (Za25, .inl (cI, 6, .inl (nF (g154)))), (Za26, .inl (cI, 5, .inl (nF (ZS 26)))), (Za27, .inl (cI, 6, .inl (nF (ZS 27))))] H := ⟨hP, hD⟩
                refine nb_if_ne (tgt := 82) hx hb dX7_corner_74 (by decide) (by omega) (fun hq161 => ?_) (fun hq161 => absurd hq161 (by omega))
                refine lv_iinc (v := nI (i1 + 1)) (lv' := [(4, .int (nI (i1 + 1))), (0, .ref Zh), (1, .int (nI k5)), (2, .int (nI z1.1)), (3, .int (nI z1.2.1))]) hx hb dX7_corner_82 hl (k := 4) rfl (nI_add i1 1) (by decide) rfl (fun ls hl => ?_)
                refine lv_goto (tgt := 30) hx hb dX7_corner_85 (by decide) ?_
                have hl : lv_has ls 5 [(0, .ref Zh), (1, .int (nI k5)), (2, .int (nI z1.1)), (3, .int (nI z1.2.1)), (4, .int (nI (i1 + 1)))] := lv_sub hl [1, 2, 3, 4, 0] rfl
                exact ih1 (z1.1, z1.2.1, g152, g153, g154) ⟨(by first | omega | (dsimp only; omega)), (by first | omega | (dsimp only; omega)), hq155, hq156, hq157⟩ _ _ _ hP hD hS hl
              · skip
                obtain ⟨hP, hD⟩ : wPD D A [(Zh, .inr (7, [.long Zt, .ref Za1, .int (nI (ZS 2 0)), .ref Za3, .ref Za4, .ref Za5, .ref Za6, .ref Za7, .ref Za8, .ref Za9, .ref Za10, .ref Za11, .ref Za12, .ref Za13, .int (nI (ZS 14 0)), .int (nI (ZS 15 0)), .int (nI (ZS 16 0)), .int (nI (ZS 17 0)), .int (nI (ZS 18 0)), .int (nI (ZS 19 0) - nI 9), .ref Za20, .ref Za21, .ref Za22, .ref Za23, .ref Za24, .ref Za25, .ref Za26, .ref Za27, .int (nI (ZS 28 0))])), (Za1, .inl (cB, 180, .inl (bF (ZS 1)))), (Za3, .inl (cI, 2, .inl (nF (ZS 3)))), (Za4, .inl (cI, 12, .inl (nF (ZS 4)))), (Za5, .inl (cI, 12, .inl (nF (ZS 5)))), (Za6, .inl (cI, 2, .inl (nF (ZS 6)))), (Za7, .inl (cI, 10, .inl (nF (ZS 7)))), (Za8, .inl (cI, 30, .inl (nF (ZS 8)))), (Za9, .inl (cI, 2, .inl (nF (ZS 9)))), (Za10, .inl (cI, 10, .inl (nF (ZS 10)))), (Za11, .inl (cI, 5, .inl (nF (ZS 11)))), (Za12, .inl (cI, 10, .inl (nF (ZS 12)))), (Za13, .inl (cI, 2, .inl (nF (ZS 13)))), (Za20, .inl (cI, 1191, .inl (nF (ZS 20)))), (Za21, .inl (cZ, 2, .inl (nF (ZS 21)))), (Za22, .inl (cI, 36, .inl (nF (ZS 22)))), (Za23, .inl (cI, 6, .inl (nF (g152)))), (Za24, .inl (cI, 427, .inl (nF (g153)))), (Za25, .inl (cI, 6, .inl (nF (g154)))), (Za26, .inl (cI, 5, .inl (nF (ZS 26)))), (Za27, .inl (cI, 6, .inl (nF (ZS 27))))] H := ⟨hP, hD⟩
                refine nb_if_ne (tgt := 82) hx hb dX7_corner_74 (by decide) (by omega) (fun hq162 => absurd hq162 (by omega)) (fun hq162 => ?_)
                refine lv_iload hx hb dX7_corner_77 (lv_at hl 4 rfl) ?_
                refine lv_istore_n (lv' := [(2, .int (nI i1)), (0, .ref Zh), (1, .int (nI k5)), (3, .int (nI z1.2.1)), (4, .int (nI i1))]) hx hb dX7_corner_79 rfl hl (by decide) rfl (fun ls hl => ?_)
                refine lv_iconst (v := nI 1) hx hb dX7_corner_80 (by decide) ?_
                refine lv_istore_n (lv' := [(3, .int (nI 1)), (2, .int (nI i1)), (0, .ref Zh), (1, .int (nI k5)), (4, .int (nI i1))]) hx hb dX7_corner_81 rfl hl (by decide) rfl (fun ls hl => ?_)
                refine lv_iinc (v := nI (i1 + 1)) (lv' := [(4, .int (nI (i1 + 1))), (3, .int (nI 1)), (2, .int (nI i1)), (0, .ref Zh), (1, .int (nI k5))]) hx hb dX7_corner_82 hl (k := 4) rfl (nI_add i1 1) (by decide) rfl (fun ls hl => ?_)
                refine lv_goto (tgt := 30) hx hb dX7_corner_85 (by decide) ?_
                have hl : lv_has ls 5 [(0, .ref Zh), (1, .int (nI k5)), (2, .int (nI i1)), (3, .int (nI 1)), (4, .int (nI (i1 + 1)))] := lv_sub hl [3, 4, 2, 1, 0] rfl
                exact ih1 (i1, 1, g152, g153, g154) ⟨(by first | omega | (dsimp only; omega)), (by first | omega | (dsimp only; omega)), hq155, hq156, hq157⟩ _ _ _ hP hD hS hl
            · skip
              refine lv_iload hx hb dX7_corner_55 (lv_at hl 4 rfl) ?_
              refine be_i0 (ru_S (As := [.int (nI i1)]) (rest := []) ⟨hx, hb, hml, hown, hts⟩ (z_manyOf l D cI cB cZ cN i1 (by omega) H.size) ggX7_corner_X7_manyOf rfl (hts (.initialized RX7) (List.mem_of_getElem? (i := 5) rfl)) (hts (.methodLink RX7 195 yX7_manyOf) (List.mem_of_getElem? (i := 45) rfl)) (hts (.static yX7_manyOf) (List.mem_of_getElem? (i := 46) rfl)) ⟨by decide, by decide, (show Option.map (fun d => d.parameters.length) (parseMethodDescriptor yX7_manyOf.desc) = some 1 by decide +kernel)⟩ ⟨Nat.le_of_ble_eq_true rfl, Nat.le_of_ble_eq_true rfl⟩ hK hP hD [] (by decide) rfl hl.1 rfl (Nat.le_of_ble_eq_true rfl) dX7_corner_57 ⟨Nat.le_of_ble_eq_true rfl, Nat.le_of_ble_eq_true rfl⟩) hP hD hS hA [] rfl (fun r164 u163 H locs w165 hP hS => ?_)
              obtain rfl : r164 = nI (sumN (fun k => i1 / 2 ^ k % 2) 6) := w165
              have b166 := many6 i1
              refine lv_iload_n hx hb dX7_corner_60 rfl (lv_at hl 2 rfl) ?_
              refine be_i0 (ru_S (As := [.int (nI z1.1)]) (rest := [.int (nI (sumN (fun k => i1 / 2 ^ k % 2) 6))]) ⟨hx, hb, hml, hown, hts⟩ (z_manyOf l D cI cB cZ cN z1.1 (by omega) H.size) ggX7_corner_X7_manyOf rfl (hts (.initialized RX7) (List.mem_of_getElem? (i := 5) rfl)) (hts (.methodLink RX7 195 yX7_manyOf) (List.mem_of_getElem? (i := 45) rfl)) (hts (.static yX7_manyOf) (List.mem_of_getElem? (i := 46) rfl)) ⟨by decide, by decide, (show Option.map (fun d => d.parameters.length) (parseMethodDescriptor yX7_manyOf.desc) = some 1 by decide +kernel)⟩ ⟨Nat.le_of_ble_eq_true rfl, Nat.le_of_ble_eq_true rfl⟩ hK hP hD [] (by decide) rfl hl.1 rfl (Nat.le_of_ble_eq_true rfl) dX7_corner_61 ⟨Nat.le_of_ble_eq_true rfl, Nat.le_of_ble_eq_true rfl⟩) hP hD hS hA [] rfl (fun r168 u167 H locs w169 hP hS => ?_)
              obtain rfl : r168 = nI (sumN (fun k => z1.1 / 2 ^ k % 2) 6) := w169
              have b170 := many6 z1.1
              refine nb_icmp_ge (tgt := 82) hx hb dX7_corner_64 (by decide) (by omega) (by omega) (fun hq171 => ?_) (fun hq171 => ?_)
              · skip
                refine lv_iinc (v := nI (i1 + 1)) (lv' := [(4, .int (nI (i1 + 1))), (0, .ref Zh), (1, .int (nI k5)), (2, .int (nI z1.1)), (3, .int (nI z1.2.1))]) hx hb dX7_corner_82 hl (k := 4) rfl (nI_add i1 1) (by decide) rfl (fun ls hl => ?_)
                refine lv_goto (tgt := 30) hx hb dX7_corner_85 (by decide) ?_
                have hl : lv_has ls 5 [(0, .ref Zh), (1, .int (nI k5)), (2, .int (nI z1.1)), (3, .int (nI z1.2.1)), (4, .int (nI (i1 + 1)))] := lv_sub hl [1, 2, 3, 4, 0] rfl
                exact ih1 (z1.1, z1.2.1, z1.2.2.1, z1.2.2.2.1, z1.2.2.2.2) ⟨(by first | omega | (dsimp only; omega)), (by first | omega | (dsimp only; omega)), hI1.2.2.1, hI1.2.2.2.1, hI1.2.2.2.2⟩ _ _ _ hP hD hS hl
              · skip
                refine lv_aload_n hx hb dX7_corner_67 rfl (lv_at hl 0 rfl) ?_
                refine lv_iload_n hx hb dX7_corner_68 rfl (lv_at hl 1 rfl) ?_
                refine lv_iload hx hb dX7_corner_69 (lv_at hl 4 rfl) ?_
                refine be_i (free := fun _ => False) (wr := []) (ru_V (As := [.int (nI k5), .int (nI i1)]) (rest := []) ⟨hx, hb, hml, hown, hts⟩ (z_canWorld l D cI cB cZ cN Zh Za1 Za3 Za4 Za5 Za6 Za7 Za8 Za9 Za10 Za11 Za12 Za13 Za20 Za21 Za22 Za23 Za24 Za25 Za26 Za27 Zt (ua (ua (ua ZS 23 (z1.2.2.1)) 24 (z1.2.2.2.1)) 25 (z1.2.2.2.2)) k5 i1 (zok_set (k := 25) (zok_set (k := 24) (zok_set (k := 23) hZ hI1.2.2.1) hI1.2.2.2.1) hI1.2.2.2.2) (by omega) (by omega) H.size) gX7_corner_X7_canWorld rfl ⟨rfl, by decide, by decide, (show Option.map (fun d => d.parameters.length) (parseMethodDescriptor yX7_canWorld.desc) = some 2 by decide +kernel)⟩ ⟨Nat.le_of_ble_eq_true rfl, Nat.le_of_ble_eq_true rfl⟩ hK hP hD 7 0 rfl rfl [0, 1, 2, 3, 4, 5, 6, 7, 8, 9, 10, 11, 12, 13, 14, 15, 16, 17, 18, 19, 20] (by decide) rfl hl.1 rfl (Nat.le_of_ble_eq_true rfl) dX7_corner_71 ⟨Nat.le_of_ble_eq_true rfl, Nat.le_of_ble_eq_true rfl⟩) hP hD hS hA [0, 1, 2, 3, 4, 5, 6, 7, 8, 9, 10, 11, 12, 13, 14, 15, 16, 17, 18, 19, 20] [] rfl rfl (by decide) (by decide) (fun r173 u172 H locs w174 hP hD hS => ?_)
                obtain ⟨g175, g176, g177, rfl, hq178, hq179, hq180, hq181⟩ := w174
                have hzz182 : ZOk (ua (ua (ua ZS 23 (g175)) 24 (g176)) 25 (g177)) := (zok_set (k := 25) (zok_set (k := 24) (zok_set (k := 23) hZ hq178) hq179) hq180)
                rcases hq181 with ⟨rfl, hq183⟩ | ⟨rfl, hq183⟩
                · skip
                  obtain ⟨hP, hD⟩ : wPD D A [(Zh, .inr (7, [.long Zt, .ref Za1, .int (nI (ZS 2 0)), .ref Za3, .ref Za4, .ref Za5, .ref Za6, .ref Za7, .ref Za8, .ref Za9, .ref Za10, .ref Za11, .ref Za12, .ref Za13, .int (nI (ZS 14 0)), .int (nI (ZS 15 0)), .int (nI (ZS 16 0)), .int (nI (ZS 17 0)), .int (nI (ZS 18 0)), .int (nI (ZS 19 0) - nI 9), .ref Za20, .ref Za21, .ref Za22, .ref Za23, .ref Za24, .ref Za25, .ref Za26, .ref Za27, .int (nI (ZS 28 0))])), (Za1, .inl (cB, 180, .inl (bF (ZS 1)))), (Za3, .inl (cI, 2, .inl (nF (ZS 3)))), (Za4, .inl (cI, 12, .inl (nF (ZS 4)))), (Za5, .inl (cI, 12, .inl (nF (ZS 5)))), (Za6, .inl (cI, 2, .inl (nF (ZS 6)))), (Za7, .inl (cI, 10, .inl (nF (ZS 7)))), (Za8, .inl (cI, 30, .inl (nF (ZS 8)))), (Za9, .inl (cI, 2, .inl (nF (ZS 9)))), (Za10, .inl (cI, 10, .inl (nF (ZS 10)))), (Za11, .inl (cI, 5, .inl (nF (ZS 11)))), (Za12, .inl (cI, 10, .inl (nF (ZS 12)))), (Za13, .inl (cI, 2, .inl (nF (ZS 13)))), (Za20, .inl (cI, 1191, .inl (nF (ZS 20)))), (Za21, .inl (cZ, 2, .inl (nF (ZS 21)))), (Za22, .inl (cI, 36, .inl (nF (ZS 22)))), (Za23, .inl (cI, 6, .inl (nF (g175)))), (Za24, .inl (cI, 427, .inl (nF (g176)))), (Za25, .inl (cI, 6, .inl (nF (g177)))), (Za26, .inl (cI, 5, .inl (nF (ZS 26)))), (Za27, .inl (cI, 6, .inl (nF (ZS 27))))] H := ⟨hP, hD⟩
                  refine nb_if_ne (tgt := 82) hx hb dX7_corner_74 (by decide) (by omega) (fun hq184 => ?_) (fun hq184 => absurd hq184 (by omega))
                  refine lv_iinc (v := nI (i1 + 1)) (lv' := [(4, .int (nI (i1 + 1))), (0, .ref Zh), (1, .int (nI k5)), (2, .int (nI z1.1)), (3, .int (nI z1.2.1))]) hx hb dX7_corner_82 hl (k := 4) rfl (nI_add i1 1) (by decide) rfl (fun ls hl => ?_)
                  refine lv_goto (tgt := 30) hx hb dX7_corner_85 (by decide) ?_
                  have hl : lv_has ls 5 [(0, .ref Zh), (1, .int (nI k5)), (2, .int (nI z1.1)), (3, .int (nI z1.2.1)), (4, .int (nI (i1 + 1)))] := lv_sub hl [1, 2, 3, 4, 0] rfl
                  exact ih1 (z1.1, z1.2.1, g175, g176, g177) ⟨(by first | omega | (dsimp only; omega)), (by first | omega | (dsimp only; omega)), hq178, hq179, hq180⟩ _ _ _ hP hD hS hl
                · skip
                  obtain ⟨hP, hD⟩ : wPD D A [(Zh, .inr (7, [.long Zt, .ref Za1, .int (nI (ZS 2 0)), .ref Za3, .ref Za4, .ref Za5, .ref Za6, .ref Za7, .ref Za8, .ref Za9, .ref Za10, .ref Za11, .ref Za12, .ref Za13, .int (nI (ZS 14 0)), .int (nI (ZS 15 0)), .int (nI (ZS 16 0)), .int (nI (ZS 17 0)), .int (nI (ZS 18 0)), .int (nI (ZS 19 0) - nI 9), .ref Za20, .ref Za21, .ref Za22, .ref Za23, .ref Za24, .ref Za25, .ref Za26, .ref Za27, .int (nI (ZS 28 0))])), (Za1, .inl (cB, 180, .inl (bF (ZS 1)))), (Za3, .inl (cI, 2, .inl (nF (ZS 3)))), (Za4, .inl (cI, 12, .inl (nF (ZS 4)))), (Za5, .inl (cI, 12, .inl (nF (ZS 5)))), (Za6, .inl (cI, 2, .inl (nF (ZS 6)))), (Za7, .inl (cI, 10, .inl (nF (ZS 7)))), (Za8, .inl (cI, 30, .inl (nF (ZS 8)))), (Za9, .inl (cI, 2, .inl (nF (ZS 9)))), (Za10, .inl (cI, 10, .inl (nF (ZS 10)))), (Za11, .inl (cI, 5, .inl (nF (ZS 11)))), (Za12, .inl (cI, 10, .inl (nF (ZS 12)))), (Za13, .inl (cI, 2, .inl (nF (ZS 13)))), (Za20, .inl (cI, 1191, .inl (nF (ZS 20)))), (Za21, .inl (cZ, 2, .inl (nF (ZS 21)))), (Za22, .inl (cI, 36, .inl (nF (ZS 22)))), (Za23, .inl (cI, 6, .inl (nF (g175)))), (Za24, .inl (cI, 427, .inl (nF (g176)))), (Za25, .inl (cI, 6, .inl (nF (g177)))), (Za26, .inl (cI, 5, .inl (nF (ZS 26)))), (Za27, .inl (cI, 6, .inl (nF (ZS 27))))] H := ⟨hP, hD⟩
                  refine nb_if_ne (tgt := 82) hx hb dX7_corner_74 (by decide) (by omega) (fun hq185 => absurd hq185 (by omega)) (fun hq185 => ?_)
                  refine lv_iload hx hb dX7_corner_77 (lv_at hl 4 rfl) ?_
                  refine lv_istore_n (lv' := [(2, .int (nI i1)), (0, .ref Zh), (1, .int (nI k5)), (3, .int (nI z1.2.1)), (4, .int (nI i1))]) hx hb dX7_corner_79 rfl hl (by decide) rfl (fun ls hl => ?_)
                  refine lv_iconst (v := nI 1) hx hb dX7_corner_80 (by decide) ?_
                  refine lv_istore_n (lv' := [(3, .int (nI 1)), (2, .int (nI i1)), (0, .ref Zh), (1, .int (nI k5)), (4, .int (nI i1))]) hx hb dX7_corner_81 rfl hl (by decide) rfl (fun ls hl => ?_)
                  refine lv_iinc (v := nI (i1 + 1)) (lv' := [(4, .int (nI (i1 + 1))), (3, .int (nI 1)), (2, .int (nI i1)), (0, .ref Zh), (1, .int (nI k5))]) hx hb dX7_corner_82 hl (k := 4) rfl (nI_add i1 1) (by decide) rfl (fun ls hl => ?_)
                  refine lv_goto (tgt := 30) hx hb dX7_corner_85 (by decide) ?_
                  have hl : lv_has ls 5 [(0, .ref Zh), (1, .int (nI k5)), (2, .int (nI i1)), (3, .int (nI 1)), (4, .int (nI (i1 + 1)))] := lv_sub hl [3, 4, 2, 1, 0] rfl
                  exact ih1 (i1, 1, g175, g176, g177) ⟨(by first | omega | (dsimp only; omega)), (by first | omega | (dsimp only; omega)), hq178, hq179, hq180⟩ _ _ _ hP hD hS hl
  · skip
    refine nb_if_ne (tgt := 10) hx hb dX7_corner_5 (by decide) (by omega) (fun hq186 => absurd hq186 (by omega)) (fun hq186 => ?_)
    refine lv_iconst (v := -1) hx hb dX7_corner_8 (by decide) ?_
    exact en_i hx hb hr hlk hP hD hS ZS [0, 1, 2, 3, 4, 5, 6, 7, 8, 9, 10, 11, 12, 13, 14, 15, 16, 17, 18, 19, 20] (by decide) rfl (Nat.le_of_ble_eq_true rfl) (Nat.le_of_ble_eq_true rfl) dX7_corner_9 (ZP.rf hZ)
set_option maxRecDepth 20000 in
theorem dAX7_odds : decA cX7_odds [(0, .aload_n 0, 1), (1, .iload_n 1, 1), (2, .invokevirtual 165, 3), (5, .ifCond .eq 22, 3), (8, .iload_n 2, 1), (9, .iconst 0, 1), (10, .bipush 10, 2), (12, .invokestatic 78, 3), (15, .ifCond .eq 12, 3), (18, .iload_n 3, 1), (19, .iconst 0, 1), (20, .iconst 1, 1), (21, .invokestatic 78, 3), (24, .ifCond .ne 5, 3), (27, .iconst (-1), 1), (28, .ireturn, 1), (29, .iconst 0, 1), (30, .istore 4, 2), (32, .iconst 1, 1), (33, .istore 5, 2), (35, .iconst 0, 1), (36, .istore 6, 2), (38, .iload 6, 2), (40, .aload_n 0, 1), (41, .getfield 13, 3), (44, .iconst 0, 1), (45, .iaload, 1), (46, .if_icmp .ge 16, 3), (49, .iload 5, 2), (51, .bipush 10, 2), (53, .imul, 1), (54, .istore 5, 2), (56, .iinc 6 1, 3), (59, .goto (-21), 3), (62, .iconst 0, 1), (63, .istore 6, 2), (65, .iload 6, 2), (67, .iconst 1, 1), (68, .aload_n 0, 1), (69, .getfield 13, 3), (72, .iconst 0, 1), (73, .iaload, 1), (74, .ishl, 1), (75, .if_icmp .ge 82, 3), (78, .iconst 1, 1), (79, .istore 7, 2), (81, .iconst 0, 1), (82, .istore 8, 2), (84, .iload 8, 2), (86, .aload_n 0, 1), (87, .getfield 13, 3), (90, .iconst 0, 1), (91, .iaload, 1), (92, .if_icmp .ge 33, 3), (95, .iload 7, 2), (97, .iload 6, 2), (99, .iload 8, 2), (101, .ishr, 1), (102, .iconst 1, 1), (103, .iand, 1), (104, .iconst 1, 1), (105, .if_icmp .ne 7, 3), (108, .iload_n 2, 1), (109, .goto 7, 3), (112, .bipush 10, 2), (114, .iload_n 2, 1), (115, .isub, 1), (116, .imul, 1), (117, .istore 7, 2), (119, .iinc 8 1, 3), (122, .goto (-38), 3), (125, .iload 4, 2), (127, .iload 7, 2), (129, .ifCond .le 18, 3), (132, .aload_n 0, 1), (133, .iload_n 1, 1), (134, .iload 6, 2), (136, .invokevirtual 176, 3), (139, .ifCond .eq 8, 3), (142, .iload 7, 2), (144, .goto 4, 3), (147, .iconst 0, 1), (148, .iadd, 1), (149, .istore 4, 2), (151, .iinc 6 1, 3), (154, .goto (-89), 3), (157, .iload 4, 2), (159, .istore 6, 2), (161, .iload 5, 2), (163, .istore 7, 2), (165, .iload 7, 2), (167, .ifCond .eq 21, 3), (170, .iload 6, 2), (172, .iload 7, 2), (174, .irem, 1), (175, .istore 8, 2), (177, .iload 7, 2), (179, .istore 6, 2), (181, .iload 8, 2), (183, .istore 7, 2), (185, .goto (-20), 3), (188, .iload_n 3, 1), (189, .ifCond .ne 11, 3), (192, .iload 4, 2), (194, .iload 6, 2), (196, .idiv, 1), (197, .goto 8, 3), (200, .iload 5, 2), (202, .iload 6, 2), (204, .idiv, 1), (205, .ireturn, 1)] = true := by decide +kernel
theorem dX7_odds_0 : decode cX7_odds 0 = .ok (.aload_n 0, 1) := decA_get dAX7_odds 0 rfl
theorem dX7_odds_1 : decode cX7_odds 1 = .ok (.iload_n 1, 1) := decA_get dAX7_odds 1 rfl
theorem dX7_odds_2 : decode cX7_odds 2 = .ok (.invokevirtual 165, 3) := decA_get dAX7_odds 2 rfl
set_option maxRecDepth 20000 in
theorem ggX7_odds_X7_isDebt : GoodIn wsX7_odds wsX7_isDebt := gd_ids wi_X7_odds wm_X7_odds wi_X7_isDebt (by decide +kernel)
set_option maxRecDepth 20000 in
theorem gX7_odds_X7_isDebt : GoodIn wsX7_odds (wsV RX7 165 RX7 yX7_isDebt wsX7_isDebt) := goodIn_app (gd_ids wi_X7_odds wm_X7_odds (b := [572, 573, 574, 481]) rfl (by decide +kernel)) ggX7_odds_X7_isDebt
theorem dX7_odds_5 : decode cX7_odds 5 = .ok (.ifCond .eq 22, 3) := decA_get dAX7_odds 3 rfl
theorem dX7_odds_8 : decode cX7_odds 8 = .ok (.iload_n 2, 1) := decA_get dAX7_odds 4 rfl
theorem dX7_odds_9 : decode cX7_odds 9 = .ok (.iconst 0, 1) := decA_get dAX7_odds 5 rfl
theorem dX7_odds_10 : decode cX7_odds 10 = .ok (.bipush 10, 2) := decA_get dAX7_odds 6 rfl
theorem dX7_odds_12 : decode cX7_odds 12 = .ok (.invokestatic 78, 3) := decA_get dAX7_odds 7 rfl
set_option maxRecDepth 20000 in
theorem ggX7_odds_X7_in : GoodIn wsX7_odds wsX7_in := gd_ids wi_X7_odds wm_X7_odds wi_X7_in (by decide +kernel)
theorem dX7_odds_15 : decode cX7_odds 15 = .ok (.ifCond .eq 12, 3) := decA_get dAX7_odds 8 rfl
theorem dX7_odds_18 : decode cX7_odds 18 = .ok (.iload_n 3, 1) := decA_get dAX7_odds 9 rfl
theorem dX7_odds_19 : decode cX7_odds 19 = .ok (.iconst 0, 1) := decA_get dAX7_odds 10 rfl
theorem dX7_odds_20 : decode cX7_odds 20 = .ok (.iconst 1, 1) := decA_get dAX7_odds 11 rfl
theorem dX7_odds_21 : decode cX7_odds 21 = .ok (.invokestatic 78, 3) := decA_get dAX7_odds 12 rfl
theorem dX7_odds_24 : decode cX7_odds 24 = .ok (.ifCond .ne 5, 3) := decA_get dAX7_odds 13 rfl
theorem dX7_odds_29 : decode cX7_odds 29 = .ok (.iconst 0, 1) := decA_get dAX7_odds 16 rfl
theorem dX7_odds_30 : decode cX7_odds 30 = .ok (.istore 4, 2) := decA_get dAX7_odds 17 rfl
theorem dX7_odds_32 : decode cX7_odds 32 = .ok (.iconst 1, 1) := decA_get dAX7_odds 18 rfl
theorem dX7_odds_33 : decode cX7_odds 33 = .ok (.istore 5, 2) := decA_get dAX7_odds 19 rfl
theorem dX7_odds_35 : decode cX7_odds 35 = .ok (.iconst 0, 1) := decA_get dAX7_odds 20 rfl
theorem dX7_odds_36 : decode cX7_odds 36 = .ok (.istore 6, 2) := decA_get dAX7_odds 21 rfl
theorem dX7_odds_38 : decode cX7_odds 38 = .ok (.iload 6, 2) := decA_get dAX7_odds 22 rfl
theorem dX7_odds_40 : decode cX7_odds 40 = .ok (.aload_n 0, 1) := decA_get dAX7_odds 23 rfl
theorem dX7_odds_41 : decode cX7_odds 41 = .ok (.getfield 13, 3) := decA_get dAX7_odds 24 rfl
theorem in_X7_odds_7 : ∀ w ∈ wsX70, w ∈ wsX7_odds := fun w h => (gd_ids wi_X7_odds wm_X7_odds wi_X70 (by decide +kernel) w h).1
theorem dX7_odds_44 : decode cX7_odds 44 = .ok (.iconst 0, 1) := decA_get dAX7_odds 25 rfl
theorem dX7_odds_45 : decode cX7_odds 45 = .ok (.iaload, 1) := decA_get dAX7_odds 26 rfl
theorem dX7_odds_46 : decode cX7_odds 46 = .ok (.if_icmp .ge 16, 3) := decA_get dAX7_odds 27 rfl
theorem dX7_odds_62 : decode cX7_odds 62 = .ok (.iconst 0, 1) := decA_get dAX7_odds 34 rfl
theorem dX7_odds_63 : decode cX7_odds 63 = .ok (.istore 6, 2) := decA_get dAX7_odds 35 rfl
theorem dX7_odds_65 : decode cX7_odds 65 = .ok (.iload 6, 2) := decA_get dAX7_odds 36 rfl
theorem dX7_odds_67 : decode cX7_odds 67 = .ok (.iconst 1, 1) := decA_get dAX7_odds 37 rfl
theorem dX7_odds_68 : decode cX7_odds 68 = .ok (.aload_n 0, 1) := decA_get dAX7_odds 38 rfl
theorem dX7_odds_69 : decode cX7_odds 69 = .ok (.getfield 13, 3) := decA_get dAX7_odds 39 rfl
theorem dX7_odds_72 : decode cX7_odds 72 = .ok (.iconst 0, 1) := decA_get dAX7_odds 40 rfl
theorem dX7_odds_73 : decode cX7_odds 73 = .ok (.iaload, 1) := decA_get dAX7_odds 41 rfl
theorem dX7_odds_74 : decode cX7_odds 74 = .ok (.ishl, 1) := decA_get dAX7_odds 42 rfl
theorem dX7_odds_75 : decode cX7_odds 75 = .ok (.if_icmp .ge 82, 3) := decA_get dAX7_odds 43 rfl
theorem dX7_odds_157 : decode cX7_odds 157 = .ok (.iload 4, 2) := decA_get dAX7_odds 86 rfl
theorem dX7_odds_159 : decode cX7_odds 159 = .ok (.istore 6, 2) := decA_get dAX7_odds 87 rfl
theorem dX7_odds_161 : decode cX7_odds 161 = .ok (.iload 5, 2) := decA_get dAX7_odds 88 rfl
theorem dX7_odds_163 : decode cX7_odds 163 = .ok (.istore 7, 2) := decA_get dAX7_odds 89 rfl
theorem dX7_odds_165 : decode cX7_odds 165 = .ok (.iload 7, 2) := decA_get dAX7_odds 90 rfl
theorem dX7_odds_167 : decode cX7_odds 167 = .ok (.ifCond .eq 21, 3) := decA_get dAX7_odds 91 rfl
theorem dX7_odds_188 : decode cX7_odds 188 = .ok (.iload_n 3, 1) := decA_get dAX7_odds 101 rfl
theorem dX7_odds_189 : decode cX7_odds 189 = .ok (.ifCond .ne 11, 3) := decA_get dAX7_odds 102 rfl
theorem dX7_odds_200 : decode cX7_odds 200 = .ok (.iload 5, 2) := decA_get dAX7_odds 107 rfl
theorem dX7_odds_202 : decode cX7_odds 202 = .ok (.iload 6, 2) := decA_get dAX7_odds 108 rfl
theorem dX7_odds_204 : decode cX7_odds 204 = .ok (.idiv, 1) := decA_get dAX7_odds 109 rfl
theorem dX7_odds_205 : decode cX7_odds 205 = .ok (.ireturn, 1) := decA_get dAX7_odds 110 rfl
theorem dX7_odds_192 : decode cX7_odds 192 = .ok (.iload 4, 2) := decA_get dAX7_odds 103 rfl
theorem dX7_odds_194 : decode cX7_odds 194 = .ok (.iload 6, 2) := decA_get dAX7_odds 104 rfl
theorem dX7_odds_196 : decode cX7_odds 196 = .ok (.idiv, 1) := decA_get dAX7_odds 105 rfl
theorem dX7_odds_197 : decode cX7_odds 197 = .ok (.goto 8, 3) := decA_get dAX7_odds 106 rfl
theorem dX7_odds_170 : decode cX7_odds 170 = .ok (.iload 6, 2) := decA_get dAX7_odds 92 rfl
theorem dX7_odds_172 : decode cX7_odds 172 = .ok (.iload 7, 2) := decA_get dAX7_odds 93 rfl
theorem dX7_odds_174 : decode cX7_odds 174 = .ok (.irem, 1) := decA_get dAX7_odds 94 rfl
theorem dX7_odds_175 : decode cX7_odds 175 = .ok (.istore 8, 2) := decA_get dAX7_odds 95 rfl
theorem dX7_odds_177 : decode cX7_odds 177 = .ok (.iload 7, 2) := decA_get dAX7_odds 96 rfl
theorem dX7_odds_179 : decode cX7_odds 179 = .ok (.istore 6, 2) := decA_get dAX7_odds 97 rfl
theorem dX7_odds_181 : decode cX7_odds 181 = .ok (.iload 8, 2) := decA_get dAX7_odds 98 rfl
theorem dX7_odds_183 : decode cX7_odds 183 = .ok (.istore 7, 2) := decA_get dAX7_odds 99 rfl
theorem dX7_odds_185 : decode cX7_odds 185 = .ok (.goto (-20), 3) := decA_get dAX7_odds 100 rfl
theorem dX7_odds_78 : decode cX7_odds 78 = .ok (.iconst 1, 1) := decA_get dAX7_odds 44 rfl
theorem dX7_odds_79 : decode cX7_odds 79 = .ok (.istore 7, 2) := decA_get dAX7_odds 45 rfl
theorem dX7_odds_81 : decode cX7_odds 81 = .ok (.iconst 0, 1) := decA_get dAX7_odds 46 rfl
theorem dX7_odds_82 : decode cX7_odds 82 = .ok (.istore 8, 2) := decA_get dAX7_odds 47 rfl
theorem dX7_odds_84 : decode cX7_odds 84 = .ok (.iload 8, 2) := decA_get dAX7_odds 48 rfl
theorem dX7_odds_86 : decode cX7_odds 86 = .ok (.aload_n 0, 1) := decA_get dAX7_odds 49 rfl
theorem dX7_odds_87 : decode cX7_odds 87 = .ok (.getfield 13, 3) := decA_get dAX7_odds 50 rfl
theorem dX7_odds_90 : decode cX7_odds 90 = .ok (.iconst 0, 1) := decA_get dAX7_odds 51 rfl
theorem dX7_odds_91 : decode cX7_odds 91 = .ok (.iaload, 1) := decA_get dAX7_odds 52 rfl
theorem dX7_odds_92 : decode cX7_odds 92 = .ok (.if_icmp .ge 33, 3) := decA_get dAX7_odds 53 rfl
theorem dX7_odds_125 : decode cX7_odds 125 = .ok (.iload 4, 2) := decA_get dAX7_odds 71 rfl
theorem dX7_odds_127 : decode cX7_odds 127 = .ok (.iload 7, 2) := decA_get dAX7_odds 72 rfl
theorem dX7_odds_129 : decode cX7_odds 129 = .ok (.ifCond .le 18, 3) := decA_get dAX7_odds 73 rfl
theorem dX7_odds_147 : decode cX7_odds 147 = .ok (.iconst 0, 1) := decA_get dAX7_odds 81 rfl
theorem dX7_odds_148 : decode cX7_odds 148 = .ok (.iadd, 1) := decA_get dAX7_odds 82 rfl
theorem dX7_odds_149 : decode cX7_odds 149 = .ok (.istore 4, 2) := decA_get dAX7_odds 83 rfl
theorem dX7_odds_151 : decode cX7_odds 151 = .ok (.iinc 6 1, 3) := decA_get dAX7_odds 84 rfl
theorem dX7_odds_154 : decode cX7_odds 154 = .ok (.goto (-89), 3) := decA_get dAX7_odds 85 rfl
theorem dX7_odds_132 : decode cX7_odds 132 = .ok (.aload_n 0, 1) := decA_get dAX7_odds 74 rfl
theorem dX7_odds_133 : decode cX7_odds 133 = .ok (.iload_n 1, 1) := decA_get dAX7_odds 75 rfl
theorem dX7_odds_134 : decode cX7_odds 134 = .ok (.iload 6, 2) := decA_get dAX7_odds 76 rfl
theorem dX7_odds_136 : decode cX7_odds 136 = .ok (.invokevirtual 176, 3) := decA_get dAX7_odds 77 rfl
set_option maxRecDepth 20000 in
theorem ggX7_odds_X7_canWorld : GoodIn wsX7_odds wsX7_canWorld := gd_ids wi_X7_odds wm_X7_odds wi_X7_canWorld (by decide +kernel)
set_option maxRecDepth 20000 in
theorem gX7_odds_X7_canWorld : GoodIn wsX7_odds (wsV RX7 176 RX7 yX7_canWorld wsX7_canWorld) := goodIn_app (gd_ids wi_X7_odds wm_X7_odds (b := [581, 582, 583, 481]) rfl (by decide +kernel)) ggX7_odds_X7_canWorld
theorem dX7_odds_139 : decode cX7_odds 139 = .ok (.ifCond .eq 8, 3) := decA_get dAX7_odds 78 rfl
theorem dX7_odds_142 : decode cX7_odds 142 = .ok (.iload 7, 2) := decA_get dAX7_odds 79 rfl
theorem dX7_odds_144 : decode cX7_odds 144 = .ok (.goto 4, 3) := decA_get dAX7_odds 80 rfl
theorem dX7_odds_95 : decode cX7_odds 95 = .ok (.iload 7, 2) := decA_get dAX7_odds 54 rfl
theorem dX7_odds_97 : decode cX7_odds 97 = .ok (.iload 6, 2) := decA_get dAX7_odds 55 rfl
theorem dX7_odds_99 : decode cX7_odds 99 = .ok (.iload 8, 2) := decA_get dAX7_odds 56 rfl
theorem dX7_odds_101 : decode cX7_odds 101 = .ok (.ishr, 1) := decA_get dAX7_odds 57 rfl
theorem dX7_odds_102 : decode cX7_odds 102 = .ok (.iconst 1, 1) := decA_get dAX7_odds 58 rfl
theorem dX7_odds_103 : decode cX7_odds 103 = .ok (.iand, 1) := decA_get dAX7_odds 59 rfl
theorem dX7_odds_104 : decode cX7_odds 104 = .ok (.iconst 1, 1) := decA_get dAX7_odds 60 rfl
theorem dX7_odds_105 : decode cX7_odds 105 = .ok (.if_icmp .ne 7, 3) := decA_get dAX7_odds 61 rfl
theorem dX7_odds_112 : decode cX7_odds 112 = .ok (.bipush 10, 2) := decA_get dAX7_odds 64 rfl
theorem dX7_odds_114 : decode cX7_odds 114 = .ok (.iload_n 2, 1) := decA_get dAX7_odds 65 rfl
theorem dX7_odds_115 : decode cX7_odds 115 = .ok (.isub, 1) := decA_get dAX7_odds 66 rfl
theorem dX7_odds_116 : decode cX7_odds 116 = .ok (.imul, 1) := decA_get dAX7_odds 67 rfl
theorem dX7_odds_117 : decode cX7_odds 117 = .ok (.istore 7, 2) := decA_get dAX7_odds 68 rfl
theorem dX7_odds_119 : decode cX7_odds 119 = .ok (.iinc 8 1, 3) := decA_get dAX7_odds 69 rfl
theorem dX7_odds_122 : decode cX7_odds 122 = .ok (.goto (-38), 3) := decA_get dAX7_odds 70 rfl
theorem dX7_odds_108 : decode cX7_odds 108 = .ok (.iload_n 2, 1) := decA_get dAX7_odds 62 rfl
theorem dX7_odds_109 : decode cX7_odds 109 = .ok (.goto 7, 3) := decA_get dAX7_odds 63 rfl
theorem dX7_odds_49 : decode cX7_odds 49 = .ok (.iload 5, 2) := decA_get dAX7_odds 28 rfl
theorem dX7_odds_51 : decode cX7_odds 51 = .ok (.bipush 10, 2) := decA_get dAX7_odds 29 rfl
theorem dX7_odds_53 : decode cX7_odds 53 = .ok (.imul, 1) := decA_get dAX7_odds 30 rfl
theorem dX7_odds_54 : decode cX7_odds 54 = .ok (.istore 5, 2) := decA_get dAX7_odds 31 rfl
theorem dX7_odds_56 : decode cX7_odds 56 = .ok (.iinc 6 1, 3) := decA_get dAX7_odds 32 rfl
theorem dX7_odds_59 : decode cX7_odds 59 = .ok (.goto (-21), 3) := decA_get dAX7_odds 33 rfl
theorem dX7_odds_27 : decode cX7_odds 27 = .ok (.iconst (-1), 1) := decA_get dAX7_odds 14 rfl
theorem dX7_odds_28 : decode cX7_odds 28 = .ok (.ireturn, 1) := decA_get dAX7_odds 15 rfl
set_option maxHeartbeats 4000000 in
set_option maxRecDepth 100000 in
theorem z_odds (l : Launch) (D : va_G) (cI cB cZ cN : ClassId) (Zh : Nat) (Za1 : Nat) (Za3 : Nat) (Za4 : Nat) (Za5 : Nat) (Za6 : Nat) (Za7 : Nat) (Za8 : Nat) (Za9 : Nat) (Za10 : Nat) (Za11 : Nat) (Za12 : Nat) (Za13 : Nat) (Za20 : Nat) (Za21 : Nat) (Za22 : Nat) (Za23 : Nat) (Za24 : Nat) (Za25 : Nat) (Za26 : Nat) (Za27 : Nat) (Zt : Int64) (ZS : Nat → Nat → Nat) (v_d : Int32) (v_x : Int32) (v_w : Int32) (hZ : ZOk ZS) : Ci (S := (Nat → Nat → Nat)) l D cI cB cZ cN yX7_odds wsX7_odds ({ frames := 5, cells := 0, slots := 0, locals := 112 } : Room) [.ref Zh, .int v_d, .int v_x, .int v_w] [(Zh, .inr (7, [.long Zt, .ref Za1, .int (nI (ZS 2 0)), .ref Za3, .ref Za4, .ref Za5, .ref Za6, .ref Za7, .ref Za8, .ref Za9, .ref Za10, .ref Za11, .ref Za12, .ref Za13, .int (nI (ZS 14 0)), .int (nI (ZS 15 0)), .int (nI (ZS 16 0)), .int (nI (ZS 17 0)), .int (nI (ZS 18 0)), .int (nI (ZS 19 0) - nI 9), .ref Za20, .ref Za21, .ref Za22, .ref Za23, .ref Za24, .ref Za25, .ref Za26, .ref Za27, .int (nI (ZS 28 0))])), (Za1, .inl (cB, 180, .inl (bF (ZS 1)))), (Za3, .inl (cI, 2, .inl (nF (ZS 3)))), (Za4, .inl (cI, 12, .inl (nF (ZS 4)))), (Za5, .inl (cI, 12, .inl (nF (ZS 5)))), (Za6, .inl (cI, 2, .inl (nF (ZS 6)))), (Za7, .inl (cI, 10, .inl (nF (ZS 7)))), (Za8, .inl (cI, 30, .inl (nF (ZS 8)))), (Za9, .inl (cI, 2, .inl (nF (ZS 9)))), (Za10, .inl (cI, 10, .inl (nF (ZS 10)))), (Za11, .inl (cI, 5, .inl (nF (ZS 11)))), (Za12, .inl (cI, 10, .inl (nF (ZS 12)))), (Za13, .inl (cI, 2, .inl (nF (ZS 13)))), (Za20, .inl (cI, 1191, .inl (nF (ZS 20)))), (Za21, .inl (cZ, 2, .inl (nF (ZS 21)))), (Za22, .inl (cI, 36, .inl (nF (ZS 22)))), (Za23, .inl (cI, 6, .inl (nF (ZS 23)))), (Za24, .inl (cI, 427, .inl (nF (ZS 24)))), (Za25, .inl (cI, 6, .inl (nF (ZS 25)))), (Za26, .inl (cI, 5, .inl (nF (ZS 26)))), (Za27, .inl (cI, 6, .inl (nF (ZS 27))))] (fun (r : Int32) (u : (Nat → Nat → Nat)) => ZP [23, 24, 25] u ZS) (fun u => [(Zh, .inr (7, [.long Zt, .ref Za1, .int (nI (u 2 0)), .ref Za3, .ref Za4, .ref Za5, .ref Za6, .ref Za7, .ref Za8, .ref Za9, .ref Za10, .ref Za11, .ref Za12, .ref Za13, .int (nI (u 14 0)), .int (nI (u 15 0)), .int (nI (u 16 0)), .int (nI (u 17 0)), .int (nI (u 18 0)), .int (nI (u 19 0) - nI 9), .ref Za20, .ref Za21, .ref Za22, .ref Za23, .ref Za24, .ref Za25, .ref Za26, .ref Za27, .int (nI (u 28 0))])), (Za1, .inl (cB, 180, .inl (bF (u 1)))), (Za3, .inl (cI, 2, .inl (nF (u 3)))), (Za4, .inl (cI, 12, .inl (nF (u 4)))), (Za5, .inl (cI, 12, .inl (nF (u 5)))), (Za6, .inl (cI, 2, .inl (nF (u 6)))), (Za7, .inl (cI, 10, .inl (nF (u 7)))), (Za8, .inl (cI, 30, .inl (nF (u 8)))), (Za9, .inl (cI, 2, .inl (nF (u 9)))), (Za10, .inl (cI, 10, .inl (nF (u 10)))), (Za11, .inl (cI, 5, .inl (nF (u 11)))), (Za12, .inl (cI, 10, .inl (nF (u 12)))), (Za13, .inl (cI, 2, .inl (nF (u 13)))), (Za20, .inl (cI, 1191, .inl (nF (u 20)))), (Za21, .inl (cZ, 2, .inl (nF (u 21)))), (Za22, .inl (cI, 36, .inl (nF (u 22)))), (Za23, .inl (cI, 6, .inl (nF (u 23)))), (Za24, .inl (cI, 427, .inl (nF (u 24)))), (Za25, .inl (cI, 6, .inl (nF (u 25)))), (Za26, .inl (cI, 5, .inl (nF (u 26)))), (Za27, .inl (cI, 6, .inl (nF (u 27))))]) := by
  refine bx_of (D := D) (cI := cI) (cB := cB) (cZ := cZ) (cN := cN) (y := yX7_odds) (wd := wsX7_odds) (rm := ({ frames := 5, cells := 0, slots := 0, locals := 112 } : Room)) (av := [.ref Zh, .int v_d, .int v_x, .int v_w]) (wc := [(Zh, .inr (7, [.long Zt, .ref Za1, .int (nI (ZS 2 0)), .ref Za3, .ref Za4, .ref Za5, .ref Za6, .ref Za7, .ref Za8, .ref Za9, .ref Za10, .ref Za11, .ref Za12, .ref Za13, .int (nI (ZS 14 0)), .int (nI (ZS 15 0)), .int (nI (ZS 16 0)), .int (nI (ZS 17 0)), .int (nI (ZS 18 0)), .int (nI (ZS 19 0) - nI 9), .ref Za20, .ref Za21, .ref Za22, .ref Za23, .ref Za24, .ref Za25, .ref Za26, .ref Za27, .int (nI (ZS 28 0))])), (Za1, .inl (cB, 180, .inl (bF (ZS 1)))), (Za3, .inl (cI, 2, .inl (nF (ZS 3)))), (Za4, .inl (cI, 12, .inl (nF (ZS 4)))), (Za5, .inl (cI, 12, .inl (nF (ZS 5)))), (Za6, .inl (cI, 2, .inl (nF (ZS 6)))), (Za7, .inl (cI, 10, .inl (nF (ZS 7)))), (Za8, .inl (cI, 30, .inl (nF (ZS 8)))), (Za9, .inl (cI, 2, .inl (nF (ZS 9)))), (Za10, .inl (cI, 10, .inl (nF (ZS 10)))), (Za11, .inl (cI, 5, .inl (nF (ZS 11)))), (Za12, .inl (cI, 10, .inl (nF (ZS 12)))), (Za13, .inl (cI, 2, .inl (nF (ZS 13)))), (Za20, .inl (cI, 1191, .inl (nF (ZS 20)))), (Za21, .inl (cZ, 2, .inl (nF (ZS 21)))), (Za22, .inl (cI, 36, .inl (nF (ZS 22)))), (Za23, .inl (cI, 6, .inl (nF (ZS 23)))), (Za24, .inl (cI, 427, .inl (nF (ZS 24)))), (Za25, .inl (cI, 6, .inl (nF (ZS 25)))), (Za26, .inl (cI, 5, .inl (nF (ZS 26)))), (Za27, .inl (cI, 6, .inl (nF (ZS 27))))]) (cc := cX7_odds) (maxL := 9) (ret := (some .int)) (Qc := fun _ A => va_Qi (S := (Nat → Nat → Nat)) (fun (r : Int32) (u : (Nat → Nat → Nat)) => ZP [23, 24, 25] u ZS) (Aft D (fun (u : (Nat → Nat → Nat)) => [(Zh, .inr (7, [.long Zt, .ref Za1, .int (nI (u 2 0)), .ref Za3, .ref Za4, .ref Za5, .ref Za6, .ref Za7, .ref Za8, .ref Za9, .ref Za10, .ref Za11, .ref Za12, .ref Za13, .int (nI (u 14 0)), .int (nI (u 15 0)), .int (nI (u 16 0)), .int (nI (u 17 0)), .int (nI (u 18 0)), .int (nI (u 19 0) - nI 9), .ref Za20, .ref Za21, .ref Za22, .ref Za23, .ref Za24, .ref Za25, .ref Za26, .ref Za27, .int (nI (u 28 0))])), (Za1, .inl (cB, 180, .inl (bF (u 1)))), (Za3, .inl (cI, 2, .inl (nF (u 3)))), (Za4, .inl (cI, 12, .inl (nF (u 4)))), (Za5, .inl (cI, 12, .inl (nF (u 5)))), (Za6, .inl (cI, 2, .inl (nF (u 6)))), (Za7, .inl (cI, 10, .inl (nF (u 7)))), (Za8, .inl (cI, 30, .inl (nF (u 8)))), (Za9, .inl (cI, 2, .inl (nF (u 9)))), (Za10, .inl (cI, 10, .inl (nF (u 10)))), (Za11, .inl (cI, 5, .inl (nF (u 11)))), (Za12, .inl (cI, 10, .inl (nF (u 12)))), (Za13, .inl (cI, 2, .inl (nF (u 13)))), (Za20, .inl (cI, 1191, .inl (nF (u 20)))), (Za21, .inl (cZ, 2, .inl (nF (u 21)))), (Za22, .inl (cI, 36, .inl (nF (u 22)))), (Za23, .inl (cI, 6, .inl (nF (u 23)))), (Za24, .inl (cI, 427, .inl (nF (u 24)))), (Za25, .inl (cI, 6, .inl (nF (u 25)))), (Za26, .inl (cI, 5, .inl (nF (u 26)))), (Za27, .inl (cI, 6, .inl (nF (u 27))))]) A) A) (by decide) rfl (Nat.le_of_ble_eq_true rfl) ?_
  intro p e s m below meth c A H locs ⟨hx, hb, hr, hml, hown, hts, hlk, hnm⟩ hK hP hD hS hA ls hl
  have hl : lv_has ls 9 [(0, .ref Zh), (1, .int v_d), (2, .int v_x), (3, .int v_w)] := hl
  have hown : s.vm.findClass RX7 = some m.cls := hown
  have bz6 : ZS 6 0 ≤ 5 := hZ 6 0
  have bz3 : ZS 3 0 ≤ 6 := hZ 3 0
  have bz9 : ZS 9 0 ≤ 5 := hZ 9 0
  have bz28 : ZS 28 0 ≤ 6 := hZ 28 0
  have bp6 := pw6 bz3
  refine lv_aload_n hx hb dX7_odds_0 rfl (lv_at hl 0 rfl) ?_
  refine lv_iload_n hx hb dX7_odds_1 rfl (lv_at hl 1 rfl) ?_
  refine be_i0 (ru_V (As := [.int v_d]) (rest := []) ⟨hx, hb, hml, hown, hts⟩ (z_isDebt l D cI cB cZ cN Zh Za1 Za3 Za4 Za5 Za6 Za7 Za8 Za9 Za10 Za11 Za12 Za13 Za20 Za21 Za22 Za23 Za24 Za25 Za26 Za27 Zt ZS v_d hZ H.size) gX7_odds_X7_isDebt rfl ⟨rfl, by decide, by decide, (show Option.map (fun d => d.parameters.length) (parseMethodDescriptor yX7_isDebt.desc) = some 1 by decide +kernel)⟩ ⟨Nat.le_of_ble_eq_true rfl, Nat.le_of_ble_eq_true rfl⟩ hK hP hD 7 0 rfl rfl [0, 1, 2, 3, 4, 5, 6, 7, 8, 9, 10, 11, 12, 13, 14, 15, 16, 17, 18, 19, 20] (by decide) rfl hl.1 rfl (Nat.le_of_ble_eq_true rfl) dX7_odds_2 ⟨Nat.le_of_ble_eq_true rfl, Nat.le_of_ble_eq_true rfl⟩) hP hD hS hA [0, 1, 2, 3, 4, 5, 6, 7, 8, 9, 10, 11, 12, 13, 14, 15, 16, 17, 18, 19, 20] rfl (fun r2 u1 H locs w3 hP hS => ?_)
  rcases w3 with ⟨rfl, hq4⟩ | ⟨rfl, hq4⟩
  · obtain ⟨k5, hq6, rfl⟩ := hq4
    refine nb_if_eq (tgt := 27) hx hb dX7_odds_5 (by decide) (by omega) (fun hq7 => absurd hq7 (by omega)) (fun hq7 => ?_)
    refine lv_iload_n hx hb dX7_odds_8 rfl (lv_at hl 2 rfl) ?_
    refine lv_iconst (v := nI 0) hx hb dX7_odds_9 (by decide) ?_
    refine lv_bipush (v := nI 10) hx hb dX7_odds_10 (by decide) ?_
    refine be_i0 (ru_S (As := [.int v_x, .int (nI 0), .int (nI 10)]) (rest := []) ⟨hx, hb, hml, hown, hts⟩ (g_inA l D cI cB cZ cN v_x 10 (by omega) H.size) ggX7_odds_X7_in rfl (hts (.initialized RX7) (List.mem_of_getElem? (i := 5) rfl)) (hts (.methodLink RX7 78 yX7_in) (List.mem_of_getElem? (i := 8) rfl)) (hts (.static yX7_in) (List.mem_of_getElem? (i := 9) rfl)) ⟨by decide, by decide, (show Option.map (fun d => d.parameters.length) (parseMethodDescriptor yX7_in.desc) = some 3 by decide +kernel)⟩ ⟨Nat.le_of_ble_eq_true rfl, Nat.le_of_ble_eq_true rfl⟩ hK hP hD [] (by decide) rfl hl.1 rfl (Nat.le_of_ble_eq_true rfl) dX7_odds_12 ⟨Nat.le_of_ble_eq_true rfl, Nat.le_of_ble_eq_true rfl⟩) hP hD hS hA [] rfl (fun r9 u8 H locs w10 hP hS => ?_)
    rcases w10 with ⟨rfl, hq11⟩ | ⟨rfl, hq11⟩
    · obtain ⟨k12, hq13, rfl⟩ := hq11
      refine nb_if_eq (tgt := 27) hx hb dX7_odds_15 (by decide) (by omega) (fun hq14 => absurd hq14 (by omega)) (fun hq14 => ?_)
      refine lv_iload_n hx hb dX7_odds_18 rfl (lv_at hl 3 rfl) ?_
      refine lv_iconst (v := nI 0) hx hb dX7_odds_19 (by decide) ?_
      refine lv_iconst (v := nI 1) hx hb dX7_odds_20 (by decide) ?_
      refine be_i0 (ru_S (As := [.int v_w, .int (nI 0), .int (nI 1)]) (rest := []) ⟨hx, hb, hml, hown, hts⟩ (g_inA l D cI cB cZ cN v_w 1 (by omega) H.size) ggX7_odds_X7_in rfl (hts (.initialized RX7) (List.mem_of_getElem? (i := 5) rfl)) (hts (.methodLink RX7 78 yX7_in) (List.mem_of_getElem? (i := 8) rfl)) (hts (.static yX7_in) (List.mem_of_getElem? (i := 9) rfl)) ⟨by decide, by decide, (show Option.map (fun d => d.parameters.length) (parseMethodDescriptor yX7_in.desc) = some 3 by decide +kernel)⟩ ⟨Nat.le_of_ble_eq_true rfl, Nat.le_of_ble_eq_true rfl⟩ hK hP hD [] (by decide) rfl hl.1 rfl (Nat.le_of_ble_eq_true rfl) dX7_odds_21 ⟨Nat.le_of_ble_eq_true rfl, Nat.le_of_ble_eq_true rfl⟩) hP hD hS hA [] rfl (fun r16 u15 H locs w17 hP hS => ?_)
      rcases w17 with ⟨rfl, hq18⟩ | ⟨rfl, hq18⟩
      · obtain ⟨k19, hq20, rfl⟩ := hq18
        refine nb_if_ne (tgt := 29) hx hb dX7_odds_24 (by decide) (by omega) (fun hq21 => ?_) (fun hq21 => absurd hq21 (by omega))
        have hk10 : k12 ≤ 10 := by omega
        refine lv_iconst (v := nI 0) hx hb dX7_odds_29 (by decide) ?_
        refine lv_istore (lv' := [(4, .int (nI 0)), (0, .ref Zh), (1, .int (nI k5)), (2, .int (nI k12)), (3, .int (nI k19))]) hx hb dX7_odds_30 hl (by decide) rfl (fun ls hl => ?_)
        refine lv_iconst (v := nI 1) hx hb dX7_odds_32 (by decide) ?_
        refine lv_istore (lv' := [(5, .int (nI 1)), (4, .int (nI 0)), (0, .ref Zh), (1, .int (nI k5)), (2, .int (nI k12)), (3, .int (nI k19))]) hx hb dX7_odds_33 hl (by decide) rfl (fun ls hl => ?_)
        refine lv_iconst (v := nI 0) hx hb dX7_odds_35 (by decide) ?_
        refine lv_istore (lv' := [(6, .int (nI 0)), (5, .int (nI 1)), (4, .int (nI 0)), (0, .ref Zh), (1, .int (nI k5)), (2, .int (nI k12)), (3, .int (nI k19))]) hx hb dX7_odds_36 hl (by decide) rfl (fun ls hl => ?_)
        refine loopS (σ := Nat) (D := D) (A := A) (fun i1 z1 => z1 = 10 ^ i1) (fun i1 z1 => [(Zh, .inr (7, [.long Zt, .ref Za1, .int (nI (ZS 2 0)), .ref Za3, .ref Za4, .ref Za5, .ref Za6, .ref Za7, .ref Za8, .ref Za9, .ref Za10, .ref Za11, .ref Za12, .ref Za13, .int (nI (ZS 14 0)), .int (nI (ZS 15 0)), .int (nI (ZS 16 0)), .int (nI (ZS 17 0)), .int (nI (ZS 18 0)), .int (nI (ZS 19 0) - nI 9), .ref Za20, .ref Za21, .ref Za22, .ref Za23, .ref Za24, .ref Za25, .ref Za26, .ref Za27, .int (nI (ZS 28 0))])), (Za1, .inl (cB, 180, .inl (bF (ZS 1)))), (Za3, .inl (cI, 2, .inl (nF (ZS 3)))), (Za4, .inl (cI, 12, .inl (nF (ZS 4)))), (Za5, .inl (cI, 12, .inl (nF (ZS 5)))), (Za6, .inl (cI, 2, .inl (nF (ZS 6)))), (Za7, .inl (cI, 10, .inl (nF (ZS 7)))), (Za8, .inl (cI, 30, .inl (nF (ZS 8)))), (Za9, .inl (cI, 2, .inl (nF (ZS 9)))), (Za10, .inl (cI, 10, .inl (nF (ZS 10)))), (Za11, .inl (cI, 5, .inl (nF (ZS 11)))), (Za12, .inl (cI, 10, .inl (nF (ZS 12)))), (Za13, .inl (cI, 2, .inl (nF (ZS 13)))), (Za20, .inl (cI, 1191, .inl (nF (ZS 20)))), (Za21, .inl (cZ, 2, .inl (nF (ZS 21)))), (Za22, .inl (cI, 36, .inl (nF (ZS 22)))), (Za23, .inl (cI, 6, .inl (nF (ZS 23)))), (Za24, .inl (cI, 427, .inl (nF (ZS 24)))), (Za25, .inl (cI, 6, .inl (nF (ZS 25)))), (Za26, .inl (cI, 5, .inl (nF (ZS 26)))), (Za27, .inl (cI, 6, .inl (nF (ZS 27))))]) (fun i1 z1 => [(0, .ref Zh), (1, .int (nI k5)), (2, .int (nI k12)), (3, .int (nI k19)), (4, .int (nI 0)), (5, .int (nI z1)), (6, .int (nI i1))]) 38 9 (ZS 3 0) 0 (Nat.zero_le _) ?_ ?_ 1 rfl _ _ ls (by first | exact hP) (by first | exact hD) hS (lv_sub hl [3, 4, 5, 6, 2, 1, 0] rfl)
        · intro z1 hI1 H locs ls hP hD hS hl
          have hl : lv_has ls 9 [(0, .ref Zh), (1, .int (nI k5)), (2, .int (nI k12)), (3, .int (nI k19)), (4, .int (nI 0)), (5, .int (nI z1)), (6, .int (nI (ZS 3 0)))] := hl
          obtain ⟨hP, hD⟩ : wPD D A [(Zh, .inr (7, [.long Zt, .ref Za1, .int (nI (ZS 2 0)), .ref Za3, .ref Za4, .ref Za5, .ref Za6, .ref Za7, .ref Za8, .ref Za9, .ref Za10, .ref Za11, .ref Za12, .ref Za13, .int (nI (ZS 14 0)), .int (nI (ZS 15 0)), .int (nI (ZS 16 0)), .int (nI (ZS 17 0)), .int (nI (ZS 18 0)), .int (nI (ZS 19 0) - nI 9), .ref Za20, .ref Za21, .ref Za22, .ref Za23, .ref Za24, .ref Za25, .ref Za26, .ref Za27, .int (nI (ZS 28 0))])), (Za1, .inl (cB, 180, .inl (bF (ZS 1)))), (Za3, .inl (cI, 2, .inl (nF (ZS 3)))), (Za4, .inl (cI, 12, .inl (nF (ZS 4)))), (Za5, .inl (cI, 12, .inl (nF (ZS 5)))), (Za6, .inl (cI, 2, .inl (nF (ZS 6)))), (Za7, .inl (cI, 10, .inl (nF (ZS 7)))), (Za8, .inl (cI, 30, .inl (nF (ZS 8)))), (Za9, .inl (cI, 2, .inl (nF (ZS 9)))), (Za10, .inl (cI, 10, .inl (nF (ZS 10)))), (Za11, .inl (cI, 5, .inl (nF (ZS 11)))), (Za12, .inl (cI, 10, .inl (nF (ZS 12)))), (Za13, .inl (cI, 2, .inl (nF (ZS 13)))), (Za20, .inl (cI, 1191, .inl (nF (ZS 20)))), (Za21, .inl (cZ, 2, .inl (nF (ZS 21)))), (Za22, .inl (cI, 36, .inl (nF (ZS 22)))), (Za23, .inl (cI, 6, .inl (nF (ZS 23)))), (Za24, .inl (cI, 427, .inl (nF (ZS 24)))), (Za25, .inl (cI, 6, .inl (nF (ZS 25)))), (Za26, .inl (cI, 5, .inl (nF (ZS 26)))), (Za27, .inl (cI, 6, .inl (nF (ZS 27))))] H := ⟨hP, hD⟩
          refine lv_iload hx hb dX7_odds_38 (lv_at hl 6 rfl) ?_
          refine lv_aload_n hx hb dX7_odds_40 rfl (lv_at hl 0 rfl) ?_
          refine va_get (D := D) (ci := 7) (v := .ref Za3) (C := RX7) (T := TX7) (N := 29) hx hb hts in_X7_odds_7 hown hK.1 hP 0 rfl rfl 3 (by decide) (hts (.fieldLink RX7 13 "ChildCoinsModel" "coins" "[I") (List.mem_of_getElem? (i := 1) rfl)) (fun _ h9 => h9) rfl dX7_odds_41 ?_
          refine lv_iconst (v := nI 0) hx hb dX7_odds_44 (by decide) ?_
          refine va_iald hx hb hK.1 hP 2 0 rfl rfl (vp_in_nI (n := 0) (N := 2) (by omega) (by decide)) dX7_odds_45 ?_
          refine set_i (y := nI (ZS 3 0)) (nF_ld (by omega)) ?_
          have b22 : ZS 3 0 ≤ 6 := hZ 3 0
          refine nb_icmp_ge (tgt := 62) hx hb dX7_odds_46 (by decide) (by omega) (by omega) (fun hq23 => ?_) (fun hq23 => absurd hq23 (by omega))
          rw [hI1] at hl
          refine lv_iconst (v := nI 0) hx hb dX7_odds_62 (by decide) ?_
          refine lv_istore (lv' := [(6, .int (nI 0)), (0, .ref Zh), (1, .int (nI k5)), (2, .int (nI k12)), (3, .int (nI k19)), (4, .int (nI 0)), (5, .int (nI (10 ^ (ZS 3 0))))]) hx hb dX7_odds_63 hl (by decide) rfl (fun ls hl => ?_)
          refine loopS (σ := Nat × (Nat → Nat) × (Nat → Nat) × (Nat → Nat)) (D := D) (A := A) (fun i2 z2 => z2.1 ≤ i2 * 1000000 ∧ (∀ j, z2.2.1 j ≤ zb 23 j) ∧ (∀ j, z2.2.2.1 j ≤ zb 24 j) ∧ ∀ j, z2.2.2.2 j ≤ zb 25 j) (fun i2 z2 => [(Zh, .inr (7, [.long Zt, .ref Za1, .int (nI (ZS 2 0)), .ref Za3, .ref Za4, .ref Za5, .ref Za6, .ref Za7, .ref Za8, .ref Za9, .ref Za10, .ref Za11, .ref Za12, .ref Za13, .int (nI (ZS 14 0)), .int (nI (ZS 15 0)), .int (nI (ZS 16 0)), .int (nI (ZS 17 0)), .int (nI (ZS 18 0)), .int (nI (ZS 19 0) - nI 9), .ref Za20, .ref Za21, .ref Za22, .ref Za23, .ref Za24, .ref Za25, .ref Za26, .ref Za27, .int (nI (ZS 28 0))])), (Za1, .inl (cB, 180, .inl (bF (ZS 1)))), (Za3, .inl (cI, 2, .inl (nF (ZS 3)))), (Za4, .inl (cI, 12, .inl (nF (ZS 4)))), (Za5, .inl (cI, 12, .inl (nF (ZS 5)))), (Za6, .inl (cI, 2, .inl (nF (ZS 6)))), (Za7, .inl (cI, 10, .inl (nF (ZS 7)))), (Za8, .inl (cI, 30, .inl (nF (ZS 8)))), (Za9, .inl (cI, 2, .inl (nF (ZS 9)))), (Za10, .inl (cI, 10, .inl (nF (ZS 10)))), (Za11, .inl (cI, 5, .inl (nF (ZS 11)))), (Za12, .inl (cI, 10, .inl (nF (ZS 12)))), (Za13, .inl (cI, 2, .inl (nF (ZS 13)))), (Za20, .inl (cI, 1191, .inl (nF (ZS 20)))), (Za21, .inl (cZ, 2, .inl (nF (ZS 21)))), (Za22, .inl (cI, 36, .inl (nF (ZS 22)))), (Za23, .inl (cI, 6, .inl (nF (z2.2.1)))), (Za24, .inl (cI, 427, .inl (nF (z2.2.2.1)))), (Za25, .inl (cI, 6, .inl (nF (z2.2.2.2)))), (Za26, .inl (cI, 5, .inl (nF (ZS 26)))), (Za27, .inl (cI, 6, .inl (nF (ZS 27))))]) (fun i2 z2 => [(0, .ref Zh), (1, .int (nI k5)), (2, .int (nI k12)), (3, .int (nI k19)), (4, .int (nI z2.1)), (5, .int (nI (10 ^ (ZS 3 0)))), (6, .int (nI i2))]) 65 9 (2 ^ (ZS 3 0)) 0 (Nat.zero_le _) ?_ ?_ (0, ZS 23, ZS 24, ZS 25) ⟨Nat.zero_le _, hZ 23, hZ 24, hZ 25⟩ _ _ ls (by first | exact hP) (by first | exact hD) hS (lv_sub hl [1, 2, 3, 4, 5, 6, 0] rfl)
          · intro z2 hI2 H locs ls hP hD hS hl
            have hl : lv_has ls 9 [(0, .ref Zh), (1, .int (nI k5)), (2, .int (nI k12)), (3, .int (nI k19)), (4, .int (nI z2.1)), (5, .int (nI (10 ^ (ZS 3 0)))), (6, .int (nI (2 ^ (ZS 3 0))))] := hl
            obtain ⟨hP, hD⟩ : wPD D A [(Zh, .inr (7, [.long Zt, .ref Za1, .int (nI (ZS 2 0)), .ref Za3, .ref Za4, .ref Za5, .ref Za6, .ref Za7, .ref Za8, .ref Za9, .ref Za10, .ref Za11, .ref Za12, .ref Za13, .int (nI (ZS 14 0)), .int (nI (ZS 15 0)), .int (nI (ZS 16 0)), .int (nI (ZS 17 0)), .int (nI (ZS 18 0)), .int (nI (ZS 19 0) - nI 9), .ref Za20, .ref Za21, .ref Za22, .ref Za23, .ref Za24, .ref Za25, .ref Za26, .ref Za27, .int (nI (ZS 28 0))])), (Za1, .inl (cB, 180, .inl (bF (ZS 1)))), (Za3, .inl (cI, 2, .inl (nF (ZS 3)))), (Za4, .inl (cI, 12, .inl (nF (ZS 4)))), (Za5, .inl (cI, 12, .inl (nF (ZS 5)))), (Za6, .inl (cI, 2, .inl (nF (ZS 6)))), (Za7, .inl (cI, 10, .inl (nF (ZS 7)))), (Za8, .inl (cI, 30, .inl (nF (ZS 8)))), (Za9, .inl (cI, 2, .inl (nF (ZS 9)))), (Za10, .inl (cI, 10, .inl (nF (ZS 10)))), (Za11, .inl (cI, 5, .inl (nF (ZS 11)))), (Za12, .inl (cI, 10, .inl (nF (ZS 12)))), (Za13, .inl (cI, 2, .inl (nF (ZS 13)))), (Za20, .inl (cI, 1191, .inl (nF (ZS 20)))), (Za21, .inl (cZ, 2, .inl (nF (ZS 21)))), (Za22, .inl (cI, 36, .inl (nF (ZS 22)))), (Za23, .inl (cI, 6, .inl (nF (z2.2.1)))), (Za24, .inl (cI, 427, .inl (nF (z2.2.2.1)))), (Za25, .inl (cI, 6, .inl (nF (z2.2.2.2)))), (Za26, .inl (cI, 5, .inl (nF (ZS 26)))), (Za27, .inl (cI, 6, .inl (nF (ZS 27))))] H := ⟨hP, hD⟩
            refine lv_iload hx hb dX7_odds_65 (lv_at hl 6 rfl) ?_
            refine lv_iconst (v := nI 1) hx hb dX7_odds_67 (by decide) ?_
            refine lv_aload_n hx hb dX7_odds_68 rfl (lv_at hl 0 rfl) ?_
            refine va_get (D := D) (ci := 7) (v := .ref Za3) (C := RX7) (T := TX7) (N := 29) hx hb hts in_X7_odds_7 hown hK.1 hP 0 rfl rfl 3 (by decide) (hts (.fieldLink RX7 13 "ChildCoinsModel" "coins" "[I") (List.mem_of_getElem? (i := 1) rfl)) (fun _ h9 => h9) rfl dX7_odds_69 ?_
            refine lv_iconst (v := nI 0) hx hb dX7_odds_72 (by decide) ?_
            refine va_iald hx hb hK.1 hP 2 0 rfl rfl (vp_in_nI (n := 0) (N := 2) (by omega) (by decide)) dX7_odds_73 ?_
            refine set_i (y := nI (ZS 3 0)) (nF_ld (by omega)) ?_
            have b24 : ZS 3 0 ≤ 6 := (zok_set (k := 25) (zok_set (k := 24) (zok_set (k := 23) hZ hI2.2.1) hI2.2.2.1) hI2.2.2.2) 3 0
            refine lv_ishl hx hb dX7_odds_74 ?_
            refine set_i (y := nI (2 ^ (ZS 3 0))) (shl_1 (by omega)) ?_
            refine nb_icmp_ge (tgt := 157) hx hb dX7_odds_75 (by decide) (by omega) (by omega) (fun hq25 => ?_) (fun hq25 => absurd hq25 (by omega))
            have hu2 := hI2.1
            have q3 := p10 bz3
            have q4 : 0 < 10 ^ (ZS 3 0) := Nat.pow_pos (by decide)
            refine lv_iload hx hb dX7_odds_157 (lv_at hl 4 rfl) ?_
            refine lv_istore (lv' := [(6, .int (nI z2.1)), (0, .ref Zh), (1, .int (nI k5)), (2, .int (nI k12)), (3, .int (nI k19)), (4, .int (nI z2.1)), (5, .int (nI (10 ^ (ZS 3 0))))]) hx hb dX7_odds_159 hl (by decide) rfl (fun ls hl => ?_)
            refine lv_iload hx hb dX7_odds_161 (lv_at hl 6 rfl) ?_
            refine lv_istore (lv' := [(7, .int (nI (10 ^ (ZS 3 0)))), (6, .int (nI z2.1)), (0, .ref Zh), (1, .int (nI k5)), (2, .int (nI k12)), (3, .int (nI k19)), (4, .int (nI z2.1)), (5, .int (nI (10 ^ (ZS 3 0))))]) hx hb dX7_odds_163 hl (by decide) rfl (fun ls hl => ?_)
            refine whileS (σ := Nat × Nat) (D := D) (A := A) (fun z4 => z4.1 ≤ 64000000 ∧ z4.2 ≤ 64000000 ∧ 0 < z4.1 + z4.2) (fun z4 => z4.2) (fun z4 => [(Zh, .inr (7, [.long Zt, .ref Za1, .int (nI (ZS 2 0)), .ref Za3, .ref Za4, .ref Za5, .ref Za6, .ref Za7, .ref Za8, .ref Za9, .ref Za10, .ref Za11, .ref Za12, .ref Za13, .int (nI (ZS 14 0)), .int (nI (ZS 15 0)), .int (nI (ZS 16 0)), .int (nI (ZS 17 0)), .int (nI (ZS 18 0)), .int (nI (ZS 19 0) - nI 9), .ref Za20, .ref Za21, .ref Za22, .ref Za23, .ref Za24, .ref Za25, .ref Za26, .ref Za27, .int (nI (ZS 28 0))])), (Za1, .inl (cB, 180, .inl (bF (ZS 1)))), (Za3, .inl (cI, 2, .inl (nF (ZS 3)))), (Za4, .inl (cI, 12, .inl (nF (ZS 4)))), (Za5, .inl (cI, 12, .inl (nF (ZS 5)))), (Za6, .inl (cI, 2, .inl (nF (ZS 6)))), (Za7, .inl (cI, 10, .inl (nF (ZS 7)))), (Za8, .inl (cI, 30, .inl (nF (ZS 8)))), (Za9, .inl (cI, 2, .inl (nF (ZS 9)))), (Za10, .inl (cI, 10, .inl (nF (ZS 10)))), (Za11, .inl (cI, 5, .inl (nF (ZS 11)))), (Za12, .inl (cI, 10, .inl (nF (ZS 12)))), (Za13, .inl (cI, 2, .inl (nF (ZS 13)))), (Za20, .inl (cI, 1191, .inl (nF (ZS 20)))), (Za21, .inl (cZ, 2, .inl (nF (ZS 21)))), (Za22, .inl (cI, 36, .inl (nF (ZS 22)))), (Za23, .inl (cI, 6, .inl (nF (z2.2.1)))), (Za24, .inl (cI, 427, .inl (nF (z2.2.2.1)))), (Za25, .inl (cI, 6, .inl (nF (z2.2.2.2)))), (Za26, .inl (cI, 5, .inl (nF (ZS 26)))), (Za27, .inl (cI, 6, .inl (nF (ZS 27))))]) (fun z4 => [(0, .ref Zh), (1, .int (nI k5)), (2, .int (nI k12)), (3, .int (nI k19)), (4, .int (nI z2.1)), (5, .int (nI (10 ^ (ZS 3 0)))), (6, .int (nI z4.1)), (7, .int (nI z4.2))]) 165 9 ?_ (z2.1, 10 ^ (ZS 3 0)) ⟨by first | omega | (dsimp only; omega), by first | omega | (dsimp only; omega), by first | omega | (dsimp only; omega)⟩ _ _ ls hP hD hS (lv_sub hl [2, 3, 4, 5, 6, 7, 1, 0] rfl)
            intro z4 hI4 ih4 H locs ls hP hD hS hl
            have hl : lv_has ls 9 [(0, .ref Zh), (1, .int (nI k5)), (2, .int (nI k12)), (3, .int (nI k19)), (4, .int (nI z2.1)), (5, .int (nI (10 ^ (ZS 3 0)))), (6, .int (nI z4.1)), (7, .int (nI z4.2))] := hl
            have hg1 := hI4.1
            have hg2 := hI4.2.1
            have hg3 := hI4.2.2
            refine lv_iload hx hb dX7_odds_165 (lv_at hl 7 rfl) ?_
            obtain ⟨hP, hD⟩ : wPD D A [(Zh, .inr (7, [.long Zt, .ref Za1, .int (nI (ZS 2 0)), .ref Za3, .ref Za4, .ref Za5, .ref Za6, .ref Za7, .ref Za8, .ref Za9, .ref Za10, .ref Za11, .ref Za12, .ref Za13, .int (nI (ZS 14 0)), .int (nI (ZS 15 0)), .int (nI (ZS 16 0)), .int (nI (ZS 17 0)), .int (nI (ZS 18 0)), .int (nI (ZS 19 0) - nI 9), .ref Za20, .ref Za21, .ref Za22, .ref Za23, .ref Za24, .ref Za25, .ref Za26, .ref Za27, .int (nI (ZS 28 0))])), (Za1, .inl (cB, 180, .inl (bF (ZS 1)))), (Za3, .inl (cI, 2, .inl (nF (ZS 3)))), (Za4, .inl (cI, 12, .inl (nF (ZS 4)))), (Za5, .inl (cI, 12, .inl (nF (ZS 5)))), (Za6, .inl (cI, 2, .inl (nF (ZS 6)))), (Za7, .inl (cI, 10, .inl (nF (ZS 7)))), (Za8, .inl (cI, 30, .inl (nF (ZS 8)))), (Za9, .inl (cI, 2, .inl (nF (ZS 9)))), (Za10, .inl (cI, 10, .inl (nF (ZS 10)))), (Za11, .inl (cI, 5, .inl (nF (ZS 11)))), (Za12, .inl (cI, 10, .inl (nF (ZS 12)))), (Za13, .inl (cI, 2, .inl (nF (ZS 13)))), (Za20, .inl (cI, 1191, .inl (nF (ZS 20)))), (Za21, .inl (cZ, 2, .inl (nF (ZS 21)))), (Za22, .inl (cI, 36, .inl (nF (ZS 22)))), (Za23, .inl (cI, 6, .inl (nF (z2.2.1)))), (Za24, .inl (cI, 427, .inl (nF (z2.2.2.1)))), (Za25, .inl (cI, 6, .inl (nF (z2.2.2.2)))), (Za26, .inl (cI, 5, .inl (nF (ZS 26)))), (Za27, .inl (cI, 6, .inl (nF (ZS 27))))] H := ⟨hP, hD⟩
            refine nb_if_eq (tgt := 188) hx hb dX7_odds_167 (by decide) (by omega) (fun hq26 => ?_) (fun hq26 => ?_)
            · skip
              refine lv_iload_n hx hb dX7_odds_188 rfl (lv_at hl 3 rfl) ?_
              refine nb_if_ne (tgt := 200) hx hb dX7_odds_189 (by decide) (by omega) (fun hq27 => ?_) (fun hq27 => ?_)
              · skip
                refine lv_iload hx hb dX7_odds_200 (lv_at hl 5 rfl) ?_
                refine lv_iload hx hb dX7_odds_202 (lv_at hl 6 rfl) ?_
                refine lv_idiv hx hb dX7_odds_204 (nI_ne0 (by omega) (by omega)) ?_
                refine set_i (y := nI ((10 ^ (ZS 3 0)) / z4.1)) (pk_div (by omega) (by omega) (by omega)) ?_
                exact en_i hx hb hr hlk hP hD hS (ua (ua (ua ZS 23 (z2.2.1)) 24 (z2.2.2.1)) 25 (z2.2.2.2)) [0, 1, 2, 3, 4, 5, 6, 7, 8, 9, 10, 11, 12, 13, 14, 15, 16, 17, 18, 19, 20] (by decide) rfl (Nat.le_of_ble_eq_true rfl) (Nat.le_of_ble_eq_true rfl) dX7_odds_205 (ZP.set (k := 25) (ZP.set (k := 24) (ZP.set (k := 23) (ZP.rf hZ) (by decide) hI2.2.1) (by decide) hI2.2.2.1) (by decide) hI2.2.2.2)
              · skip
                refine lv_iload hx hb dX7_odds_192 (lv_at hl 4 rfl) ?_
                refine lv_iload hx hb dX7_odds_194 (lv_at hl 6 rfl) ?_
                refine lv_idiv hx hb dX7_odds_196 (nI_ne0 (by omega) (by omega)) ?_
                refine set_i (y := nI (z2.1 / z4.1)) (pk_div (by omega) (by omega) (by omega)) ?_
                refine lv_goto (tgt := 205) hx hb dX7_odds_197 (by decide) ?_
                exact en_i hx hb hr hlk hP hD hS (ua (ua (ua ZS 23 (z2.2.1)) 24 (z2.2.2.1)) 25 (z2.2.2.2)) [0, 1, 2, 3, 4, 5, 6, 7, 8, 9, 10, 11, 12, 13, 14, 15, 16, 17, 18, 19, 20] (by decide) rfl (Nat.le_of_ble_eq_true rfl) (Nat.le_of_ble_eq_true rfl) dX7_odds_205 (ZP.set (k := 25) (ZP.set (k := 24) (ZP.set (k := 23) (ZP.rf hZ) (by decide) hI2.2.1) (by decide) hI2.2.2.1) (by decide) hI2.2.2.2)
            · skip
              refine lv_iload hx hb dX7_odds_170 (lv_at hl 6 rfl) ?_
              refine lv_iload hx hb dX7_odds_172 (lv_at hl 7 rfl) ?_
              refine lv_irem hx hb dX7_odds_174 (nI_ne0 (by omega) (by omega)) ?_
              refine set_i (y := nI (z4.1 % z4.2)) (pk_rem (by omega) (by omega) (by omega)) ?_
              refine lv_istore (lv' := [(8, .int (nI (z4.1 % z4.2))), (0, .ref Zh), (1, .int (nI k5)), (2, .int (nI k12)), (3, .int (nI k19)), (4, .int (nI z2.1)), (5, .int (nI (10 ^ (ZS 3 0)))), (6, .int (nI z4.1)), (7, .int (nI z4.2))]) hx hb dX7_odds_175 hl (by decide) rfl (fun ls hl => ?_)
              refine lv_iload hx hb dX7_odds_177 (lv_at hl 8 rfl) ?_
              refine lv_istore (lv' := [(6, .int (nI z4.2)), (8, .int (nI (z4.1 % z4.2))), (0, .ref Zh), (1, .int (nI k5)), (2, .int (nI k12)), (3, .int (nI k19)), (4, .int (nI z2.1)), (5, .int (nI (10 ^ (ZS 3 0)))), (7, .int (nI z4.2))]) hx hb dX7_odds_179 hl (by decide) rfl (fun ls hl => ?_)
              refine lv_iload hx hb dX7_odds_181 (lv_at hl 1 rfl) ?_
              refine lv_istore (lv' := [(7, .int (nI (z4.1 % z4.2))), (6, .int (nI z4.2)), (8, .int (nI (z4.1 % z4.2))), (0, .ref Zh), (1, .int (nI k5)), (2, .int (nI k12)), (3, .int (nI k19)), (4, .int (nI z2.1)), (5, .int (nI (10 ^ (ZS 3 0))))]) hx hb dX7_odds_183 hl (by decide) rfl (fun ls hl => ?_)
              refine lv_goto (tgt := 165) hx hb dX7_odds_185 (by decide) ?_
              have hdec : z4.1 % z4.2 < z4.2 := Nat.mod_lt _ (by omega)
              have hmle := Nat.mod_le z4.1 z4.2
              have hl : lv_has ls 9 [(0, .ref Zh), (1, .int (nI k5)), (2, .int (nI k12)), (3, .int (nI k19)), (4, .int (nI z2.1)), (5, .int (nI (10 ^ (ZS 3 0)))), (6, .int (nI z4.2)), (7, .int (nI (z4.1 % z4.2)))] := lv_sub hl [3, 4, 5, 6, 7, 8, 1, 0] rfl
              exact ih4 (z4.2, z4.1 % z4.2) ⟨hI4.2.1, by first | omega | (dsimp only; omega), by first | omega | (dsimp only; omega)⟩ hdec _ _ _ hP hD hS hl
          · intro i2 hi02 hi2 z2 hI2 ih2 H locs ls hP hD hS hl
            have hl : lv_has ls 9 [(0, .ref Zh), (1, .int (nI k5)), (2, .int (nI k12)), (3, .int (nI k19)), (4, .int (nI z2.1)), (5, .int (nI (10 ^ (ZS 3 0)))), (6, .int (nI i2))] := hl
            obtain ⟨hP, hD⟩ : wPD D A [(Zh, .inr (7, [.long Zt, .ref Za1, .int (nI (ZS 2 0)), .ref Za3, .ref Za4, .ref Za5, .ref Za6, .ref Za7, .ref Za8, .ref Za9, .ref Za10, .ref Za11, .ref Za12, .ref Za13, .int (nI (ZS 14 0)), .int (nI (ZS 15 0)), .int (nI (ZS 16 0)), .int (nI (ZS 17 0)), .int (nI (ZS 18 0)), .int (nI (ZS 19 0) - nI 9), .ref Za20, .ref Za21, .ref Za22, .ref Za23, .ref Za24, .ref Za25, .ref Za26, .ref Za27, .int (nI (ZS 28 0))])), (Za1, .inl (cB, 180, .inl (bF (ZS 1)))), (Za3, .inl (cI, 2, .inl (nF (ZS 3)))), (Za4, .inl (cI, 12, .inl (nF (ZS 4)))), (Za5, .inl (cI, 12, .inl (nF (ZS 5)))), (Za6, .inl (cI, 2, .inl (nF (ZS 6)))), (Za7, .inl (cI, 10, .inl (nF (ZS 7)))), (Za8, .inl (cI, 30, .inl (nF (ZS 8)))), (Za9, .inl (cI, 2, .inl (nF (ZS 9)))), (Za10, .inl (cI, 10, .inl (nF (ZS 10)))), (Za11, .inl (cI, 5, .inl (nF (ZS 11)))), (Za12, .inl (cI, 10, .inl (nF (ZS 12)))), (Za13, .inl (cI, 2, .inl (nF (ZS 13)))), (Za20, .inl (cI, 1191, .inl (nF (ZS 20)))), (Za21, .inl (cZ, 2, .inl (nF (ZS 21)))), (Za22, .inl (cI, 36, .inl (nF (ZS 22)))), (Za23, .inl (cI, 6, .inl (nF (z2.2.1)))), (Za24, .inl (cI, 427, .inl (nF (z2.2.2.1)))), (Za25, .inl (cI, 6, .inl (nF (z2.2.2.2)))), (Za26, .inl (cI, 5, .inl (nF (ZS 26)))), (Za27, .inl (cI, 6, .inl (nF (ZS 27))))] H := ⟨hP, hD⟩
            refine lv_iload hx hb dX7_odds_65 (lv_at hl 6 rfl) ?_
            refine lv_iconst (v := nI 1) hx hb dX7_odds_67 (by decide) ?_
            refine lv_aload_n hx hb dX7_odds_68 rfl (lv_at hl 0 rfl) ?_
            refine va_get (D := D) (ci := 7) (v := .ref Za3) (C := RX7) (T := TX7) (N := 29) hx hb hts in_X7_odds_7 hown hK.1 hP 0 rfl rfl 3 (by decide) (hts (.fieldLink RX7 13 "ChildCoinsModel" "coins" "[I") (List.mem_of_getElem? (i := 1) rfl)) (fun _ h9 => h9) rfl dX7_odds_69 ?_
            refine lv_iconst (v := nI 0) hx hb dX7_odds_72 (by decide) ?_
            refine va_iald hx hb hK.1 hP 2 0 rfl rfl (vp_in_nI (n := 0) (N := 2) (by omega) (by decide)) dX7_odds_73 ?_
            refine set_i (y := nI (ZS 3 0)) (nF_ld (by omega)) ?_
            have b28 : ZS 3 0 ≤ 6 := (zok_set (k := 25) (zok_set (k := 24) (zok_set (k := 23) hZ hI2.2.1) hI2.2.2.1) hI2.2.2.2) 3 0
            refine lv_ishl hx hb dX7_odds_74 ?_
            refine set_i (y := nI (2 ^ (ZS 3 0))) (shl_1 (by omega)) ?_
            refine nb_icmp_ge (tgt := 157) hx hb dX7_odds_75 (by decide) (by omega) (by omega) (fun hq29 => absurd hq29 (by omega)) (fun hq29 => ?_)
            refine lv_iconst (v := nI 1) hx hb dX7_odds_78 (by decide) ?_
            refine lv_istore (lv' := [(7, .int (nI 1)), (0, .ref Zh), (1, .int (nI k5)), (2, .int (nI k12)), (3, .int (nI k19)), (4, .int (nI z2.1)), (5, .int (nI (10 ^ (ZS 3 0)))), (6, .int (nI i2))]) hx hb dX7_odds_79 hl (by decide) rfl (fun ls hl => ?_)
            refine lv_iconst (v := nI 0) hx hb dX7_odds_81 (by decide) ?_
            refine lv_istore (lv' := [(8, .int (nI 0)), (7, .int (nI 1)), (0, .ref Zh), (1, .int (nI k5)), (2, .int (nI k12)), (3, .int (nI k19)), (4, .int (nI z2.1)), (5, .int (nI (10 ^ (ZS 3 0)))), (6, .int (nI i2))]) hx hb dX7_odds_82 hl (by decide) rfl (fun ls hl => ?_)
            refine loopS (σ := Nat) (D := D) (A := A) (fun i3 z3 => z3 = chN i2 k12 i3) (fun i3 z3 => [(Zh, .inr (7, [.long Zt, .ref Za1, .int (nI (ZS 2 0)), .ref Za3, .ref Za4, .ref Za5, .ref Za6, .ref Za7, .ref Za8, .ref Za9, .ref Za10, .ref Za11, .ref Za12, .ref Za13, .int (nI (ZS 14 0)), .int (nI (ZS 15 0)), .int (nI (ZS 16 0)), .int (nI (ZS 17 0)), .int (nI (ZS 18 0)), .int (nI (ZS 19 0) - nI 9), .ref Za20, .ref Za21, .ref Za22, .ref Za23, .ref Za24, .ref Za25, .ref Za26, .ref Za27, .int (nI (ZS 28 0))])), (Za1, .inl (cB, 180, .inl (bF (ZS 1)))), (Za3, .inl (cI, 2, .inl (nF (ZS 3)))), (Za4, .inl (cI, 12, .inl (nF (ZS 4)))), (Za5, .inl (cI, 12, .inl (nF (ZS 5)))), (Za6, .inl (cI, 2, .inl (nF (ZS 6)))), (Za7, .inl (cI, 10, .inl (nF (ZS 7)))), (Za8, .inl (cI, 30, .inl (nF (ZS 8)))), (Za9, .inl (cI, 2, .inl (nF (ZS 9)))), (Za10, .inl (cI, 10, .inl (nF (ZS 10)))), (Za11, .inl (cI, 5, .inl (nF (ZS 11)))), (Za12, .inl (cI, 10, .inl (nF (ZS 12)))), (Za13, .inl (cI, 2, .inl (nF (ZS 13)))), (Za20, .inl (cI, 1191, .inl (nF (ZS 20)))), (Za21, .inl (cZ, 2, .inl (nF (ZS 21)))), (Za22, .inl (cI, 36, .inl (nF (ZS 22)))), (Za23, .inl (cI, 6, .inl (nF (z2.2.1)))), (Za24, .inl (cI, 427, .inl (nF (z2.2.2.1)))), (Za25, .inl (cI, 6, .inl (nF (z2.2.2.2)))), (Za26, .inl (cI, 5, .inl (nF (ZS 26)))), (Za27, .inl (cI, 6, .inl (nF (ZS 27))))]) (fun i3 z3 => [(0, .ref Zh), (1, .int (nI k5)), (2, .int (nI k12)), (3, .int (nI k19)), (4, .int (nI z2.1)), (5, .int (nI (10 ^ (ZS 3 0)))), (6, .int (nI i2)), (7, .int (nI z3)), (8, .int (nI i3))]) 84 9 (ZS 3 0) 0 (Nat.zero_le _) ?_ ?_ 1 rfl _ _ ls (by first | exact hP) (by first | exact hD) hS (lv_sub hl [2, 3, 4, 5, 6, 7, 8, 1, 0] rfl)
            · intro z3 hI3 H locs ls hP hD hS hl
              have hl : lv_has ls 9 [(0, .ref Zh), (1, .int (nI k5)), (2, .int (nI k12)), (3, .int (nI k19)), (4, .int (nI z2.1)), (5, .int (nI (10 ^ (ZS 3 0)))), (6, .int (nI i2)), (7, .int (nI z3)), (8, .int (nI (ZS 3 0)))] := hl
              obtain ⟨hP, hD⟩ : wPD D A [(Zh, .inr (7, [.long Zt, .ref Za1, .int (nI (ZS 2 0)), .ref Za3, .ref Za4, .ref Za5, .ref Za6, .ref Za7, .ref Za8, .ref Za9, .ref Za10, .ref Za11, .ref Za12, .ref Za13, .int (nI (ZS 14 0)), .int (nI (ZS 15 0)), .int (nI (ZS 16 0)), .int (nI (ZS 17 0)), .int (nI (ZS 18 0)), .int (nI (ZS 19 0) - nI 9), .ref Za20, .ref Za21, .ref Za22, .ref Za23, .ref Za24, .ref Za25, .ref Za26, .ref Za27, .int (nI (ZS 28 0))])), (Za1, .inl (cB, 180, .inl (bF (ZS 1)))), (Za3, .inl (cI, 2, .inl (nF (ZS 3)))), (Za4, .inl (cI, 12, .inl (nF (ZS 4)))), (Za5, .inl (cI, 12, .inl (nF (ZS 5)))), (Za6, .inl (cI, 2, .inl (nF (ZS 6)))), (Za7, .inl (cI, 10, .inl (nF (ZS 7)))), (Za8, .inl (cI, 30, .inl (nF (ZS 8)))), (Za9, .inl (cI, 2, .inl (nF (ZS 9)))), (Za10, .inl (cI, 10, .inl (nF (ZS 10)))), (Za11, .inl (cI, 5, .inl (nF (ZS 11)))), (Za12, .inl (cI, 10, .inl (nF (ZS 12)))), (Za13, .inl (cI, 2, .inl (nF (ZS 13)))), (Za20, .inl (cI, 1191, .inl (nF (ZS 20)))), (Za21, .inl (cZ, 2, .inl (nF (ZS 21)))), (Za22, .inl (cI, 36, .inl (nF (ZS 22)))), (Za23, .inl (cI, 6, .inl (nF (z2.2.1)))), (Za24, .inl (cI, 427, .inl (nF (z2.2.2.1)))), (Za25, .inl (cI, 6, .inl (nF (z2.2.2.2)))), (Za26, .inl (cI, 5, .inl (nF (ZS 26)))), (Za27, .inl (cI, 6, .inl (nF (ZS 27))))] H := ⟨hP, hD⟩
              refine lv_iload hx hb dX7_odds_84 (lv_at hl 8 rfl) ?_
              refine lv_aload_n hx hb dX7_odds_86 rfl (lv_at hl 0 rfl) ?_
              refine va_get (D := D) (ci := 7) (v := .ref Za3) (C := RX7) (T := TX7) (N := 29) hx hb hts in_X7_odds_7 hown hK.1 hP 0 rfl rfl 3 (by decide) (hts (.fieldLink RX7 13 "ChildCoinsModel" "coins" "[I") (List.mem_of_getElem? (i := 1) rfl)) (fun _ h9 => h9) rfl dX7_odds_87 ?_
              refine lv_iconst (v := nI 0) hx hb dX7_odds_90 (by decide) ?_
              refine va_iald hx hb hK.1 hP 2 0 rfl rfl (vp_in_nI (n := 0) (N := 2) (by omega) (by decide)) dX7_odds_91 ?_
              refine set_i (y := nI (ZS 3 0)) (nF_ld (by omega)) ?_
              have b30 : ZS 3 0 ≤ 6 := (zok_set (k := 25) (zok_set (k := 24) (zok_set (k := 23) hZ hI2.2.1) hI2.2.2.1) hI2.2.2.2) 3 0
              refine nb_icmp_ge (tgt := 125) hx hb dX7_odds_92 (by decide) (by omega) (by omega) (fun hq31 => ?_) (fun hq31 => absurd hq31 (by omega))
              have hch : z3 ≤ 1000000 := by rw [hI3]; exact Nat.le_trans (chN_le hk10 _) (p10 bz3)
              have hu2 := hI2.1
              refine lv_iload hx hb dX7_odds_125 (lv_at hl 4 rfl) ?_
              refine lv_iload hx hb dX7_odds_127 (lv_at hl 7 rfl) ?_
              refine nb_if_le (tgt := 147) hx hb dX7_odds_129 (by decide) (by omega) (fun hq32 => ?_) (fun hq32 => ?_)
              · skip
                refine lv_iconst (v := nI 0) hx hb dX7_odds_147 (by decide) ?_
                refine lv_iadd hx hb dX7_odds_148 ?_
                refine set_i (y := nI (z2.1 + 0)) (nI_add z2.1 0) ?_
                refine lv_istore (lv' := [(4, .int (nI (z2.1 + 0))), (0, .ref Zh), (1, .int (nI k5)), (2, .int (nI k12)), (3, .int (nI k19)), (5, .int (nI (10 ^ (ZS 3 0)))), (6, .int (nI i2)), (7, .int (nI z3)), (8, .int (nI (ZS 3 0)))]) hx hb dX7_odds_149 hl (by decide) rfl (fun ls hl => ?_)
                refine lv_iinc (v := nI (i2 + 1)) (lv' := [(6, .int (nI (i2 + 1))), (4, .int (nI (z2.1 + 0))), (0, .ref Zh), (1, .int (nI k5)), (2, .int (nI k12)), (3, .int (nI k19)), (5, .int (nI (10 ^ (ZS 3 0)))), (7, .int (nI z3)), (8, .int (nI (ZS 3 0)))]) hx hb dX7_odds_151 hl (k := 6) rfl (nI_add i2 1) (by decide) rfl (fun ls hl => ?_)
                refine lv_goto (tgt := 65) hx hb dX7_odds_154 (by decide) ?_
                have hl : lv_has ls 9 [(0, .ref Zh), (1, .int (nI k5)), (2, .int (nI k12)), (3, .int (nI k19)), (4, .int (nI (z2.1 + 0))), (5, .int (nI (10 ^ (ZS 3 0)))), (6, .int (nI (i2 + 1)))] := lv_sub hl [2, 3, 4, 5, 1, 6, 0] rfl
                exact ih2 (z2.1 + 0, z2.2.1, z2.2.2.1, z2.2.2.2) ⟨(Nat.le_trans hI2.1 (Nat.mul_le_mul_right 1000000 (Nat.le_succ i2))), hI2.2.1, hI2.2.2.1, hI2.2.2.2⟩ _ _ _ hP hD hS hl
              · skip
                refine lv_aload_n hx hb dX7_odds_132 rfl (lv_at hl 0 rfl) ?_
                refine lv_iload_n hx hb dX7_odds_133 rfl (lv_at hl 1 rfl) ?_
                refine lv_iload hx hb dX7_odds_134 (lv_at hl 6 rfl) ?_
                refine be_i (free := fun _ => False) (wr := []) (ru_V (As := [.int (nI k5), .int (nI i2)]) (rest := [.int (nI z2.1)]) ⟨hx, hb, hml, hown, hts⟩ (z_canWorld l D cI cB cZ cN Zh Za1 Za3 Za4 Za5 Za6 Za7 Za8 Za9 Za10 Za11 Za12 Za13 Za20 Za21 Za22 Za23 Za24 Za25 Za26 Za27 Zt (ua (ua (ua ZS 23 (z2.2.1)) 24 (z2.2.2.1)) 25 (z2.2.2.2)) k5 i2 (zok_set (k := 25) (zok_set (k := 24) (zok_set (k := 23) hZ hI2.2.1) hI2.2.2.1) hI2.2.2.2) (by omega) (by omega) H.size) gX7_odds_X7_canWorld rfl ⟨rfl, by decide, by decide, (show Option.map (fun d => d.parameters.length) (parseMethodDescriptor yX7_canWorld.desc) = some 2 by decide +kernel)⟩ ⟨Nat.le_of_ble_eq_true rfl, Nat.le_of_ble_eq_true rfl⟩ hK hP hD 7 0 rfl rfl [0, 1, 2, 3, 4, 5, 6, 7, 8, 9, 10, 11, 12, 13, 14, 15, 16, 17, 18, 19, 20] (by decide) rfl hl.1 rfl (Nat.le_of_ble_eq_true rfl) dX7_odds_136 ⟨Nat.le_of_ble_eq_true rfl, Nat.le_of_ble_eq_true rfl⟩) hP hD hS hA [0, 1, 2, 3, 4, 5, 6, 7, 8, 9, 10, 11, 12, 13, 14, 15, 16, 17, 18, 19, 20] [] rfl rfl (by decide) (by decide) (fun r34 u33 H locs w35 hP hD hS => ?_)
                obtain ⟨g36, g37, g38, rfl, hq39, hq40, hq41, hq42⟩ := w35
                have hzz43 : ZOk (ua (ua (ua ZS 23 (g36)) 24 (g37)) 25 (g38)) := (zok_set (k := 25) (zok_set (k := 24) (zok_set (k := 23) hZ hq39) hq40) hq41)
                rcases hq42 with ⟨rfl, hq44⟩ | ⟨rfl, hq44⟩
                · skip
                  obtain ⟨hP, hD⟩ : wPD D A [(Zh, .inr (7, [.long Zt, .ref Za1, .int (nI (ZS 2 0)), .ref Za3, .ref Za4, .ref Za5, .ref Za6, .ref Za7, .ref Za8, .ref Za9, .ref Za10, .ref Za11, .ref Za12, .ref Za13, .int (nI (ZS 14 0)), .int (nI (ZS 15 0)), .int (nI (ZS 16 0)), .int (nI (ZS 17 0)), .int (nI (ZS 18 0)), .int (nI (ZS 19 0) - nI 9), .ref Za20, .ref Za21, .ref Za22, .ref Za23, .ref Za24, .ref Za25, .ref Za26, .ref Za27, .int (nI (ZS 28 0))])), (Za1, .inl (cB, 180, .inl (bF (ZS 1)))), (Za3, .inl (cI, 2, .inl (nF (ZS 3)))), (Za4, .inl (cI, 12, .inl (nF (ZS 4)))), (Za5, .inl (cI, 12, .inl (nF (ZS 5)))), (Za6, .inl (cI, 2, .inl (nF (ZS 6)))), (Za7, .inl (cI, 10, .inl (nF (ZS 7)))), (Za8, .inl (cI, 30, .inl (nF (ZS 8)))), (Za9, .inl (cI, 2, .inl (nF (ZS 9)))), (Za10, .inl (cI, 10, .inl (nF (ZS 10)))), (Za11, .inl (cI, 5, .inl (nF (ZS 11)))), (Za12, .inl (cI, 10, .inl (nF (ZS 12)))), (Za13, .inl (cI, 2, .inl (nF (ZS 13)))), (Za20, .inl (cI, 1191, .inl (nF (ZS 20)))), (Za21, .inl (cZ, 2, .inl (nF (ZS 21)))), (Za22, .inl (cI, 36, .inl (nF (ZS 22)))), (Za23, .inl (cI, 6, .inl (nF (g36)))), (Za24, .inl (cI, 427, .inl (nF (g37)))), (Za25, .inl (cI, 6, .inl (nF (g38)))), (Za26, .inl (cI, 5, .inl (nF (ZS 26)))), (Za27, .inl (cI, 6, .inl (nF (ZS 27))))] H := ⟨hP, hD⟩
                  refine nb_if_eq (tgt := 147) hx hb dX7_odds_139 (by decide) (by omega) (fun hq45 => absurd hq45 (by omega)) (fun hq45 => ?_)
                  refine lv_iload hx hb dX7_odds_142 (lv_at hl 7 rfl) ?_
                  refine lv_goto (tgt := 148) hx hb dX7_odds_144 (by decide) ?_
                  refine lv_iadd hx hb dX7_odds_148 ?_
                  refine set_i (y := nI (z2.1 + z3)) (nI_add z2.1 z3) ?_
                  refine lv_istore (lv' := [(4, .int (nI (z2.1 + z3))), (0, .ref Zh), (1, .int (nI k5)), (2, .int (nI k12)), (3, .int (nI k19)), (5, .int (nI (10 ^ (ZS 3 0)))), (6, .int (nI i2)), (7, .int (nI z3)), (8, .int (nI (ZS 3 0)))]) hx hb dX7_odds_149 hl (by decide) rfl (fun ls hl => ?_)
                  refine lv_iinc (v := nI (i2 + 1)) (lv' := [(6, .int (nI (i2 + 1))), (4, .int (nI (z2.1 + z3))), (0, .ref Zh), (1, .int (nI k5)), (2, .int (nI k12)), (3, .int (nI k19)), (5, .int (nI (10 ^ (ZS 3 0)))), (7, .int (nI z3)), (8, .int (nI (ZS 3 0)))]) hx hb dX7_odds_151 hl (k := 6) rfl (nI_add i2 1) (by decide) rfl (fun ls hl => ?_)
                  refine lv_goto (tgt := 65) hx hb dX7_odds_154 (by decide) ?_
                  have hl : lv_has ls 9 [(0, .ref Zh), (1, .int (nI k5)), (2, .int (nI k12)), (3, .int (nI k19)), (4, .int (nI (z2.1 + z3))), (5, .int (nI (10 ^ (ZS 3 0)))), (6, .int (nI (i2 + 1)))] := lv_sub hl [2, 3, 4, 5, 1, 6, 0] rfl
                  exact ih2 (z2.1 + z3, g36, g37, g38) ⟨(by have q1 := hI2.1; first | omega | (dsimp only; omega)), hq39, hq40, hq41⟩ _ _ _ hP hD hS hl
                · skip
                  obtain ⟨hP, hD⟩ : wPD D A [(Zh, .inr (7, [.long Zt, .ref Za1, .int (nI (ZS 2 0)), .ref Za3, .ref Za4, .ref Za5, .ref Za6, .ref Za7, .ref Za8, .ref Za9, .ref Za10, .ref Za11, .ref Za12, .ref Za13, .int (nI (ZS 14 0)), .int (nI (ZS 15 0)), .int (nI (ZS 16 0)), .int (nI (ZS 17 0)), .int (nI (ZS 18 0)), .int (nI (ZS 19 0) - nI 9), .ref Za20, .ref Za21, .ref Za22, .ref Za23, .ref Za24, .ref Za25, .ref Za26, .ref Za27, .int (nI (ZS 28 0))])), (Za1, .inl (cB, 180, .inl (bF (ZS 1)))), (Za3, .inl (cI, 2, .inl (nF (ZS 3)))), (Za4, .inl (cI, 12, .inl (nF (ZS 4)))), (Za5, .inl (cI, 12, .inl (nF (ZS 5)))), (Za6, .inl (cI, 2, .inl (nF (ZS 6)))), (Za7, .inl (cI, 10, .inl (nF (ZS 7)))), (Za8, .inl (cI, 30, .inl (nF (ZS 8)))), (Za9, .inl (cI, 2, .inl (nF (ZS 9)))), (Za10, .inl (cI, 10, .inl (nF (ZS 10)))), (Za11, .inl (cI, 5, .inl (nF (ZS 11)))), (Za12, .inl (cI, 10, .inl (nF (ZS 12)))), (Za13, .inl (cI, 2, .inl (nF (ZS 13)))), (Za20, .inl (cI, 1191, .inl (nF (ZS 20)))), (Za21, .inl (cZ, 2, .inl (nF (ZS 21)))), (Za22, .inl (cI, 36, .inl (nF (ZS 22)))), (Za23, .inl (cI, 6, .inl (nF (g36)))), (Za24, .inl (cI, 427, .inl (nF (g37)))), (Za25, .inl (cI, 6, .inl (nF (g38)))), (Za26, .inl (cI, 5, .inl (nF (ZS 26)))), (Za27, .inl (cI, 6, .inl (nF (ZS 27))))] H := ⟨hP, hD⟩
                  refine nb_if_eq (tgt := 147) hx hb dX7_odds_139 (by decide) (by omega) (fun hq46 => ?_) (fun hq46 => absurd hq46 (by omega))
                  refine lv_iconst (v := nI 0) hx hb dX7_odds_147 (by decide) ?_
                  refine lv_iadd hx hb dX7_odds_148 ?_
                  refine set_i (y := nI (z2.1 + 0)) (nI_add z2.1 0) ?_
                  refine lv_istore (lv' := [(4, .int (nI (z2.1 + 0))), (0, .ref Zh), (1, .int (nI k5)), (2, .int (nI k12)), (3, .int (nI k19)), (5, .int (nI (10 ^ (ZS 3 0)))), (6, .int (nI i2)), (7, .int (nI z3)), (8, .int (nI (ZS 3 0)))]) hx hb dX7_odds_149 hl (by decide) rfl (fun ls hl => ?_)
                  refine lv_iinc (v := nI (i2 + 1)) (lv' := [(6, .int (nI (i2 + 1))), (4, .int (nI (z2.1 + 0))), (0, .ref Zh), (1, .int (nI k5)), (2, .int (nI k12)), (3, .int (nI k19)), (5, .int (nI (10 ^ (ZS 3 0)))), (7, .int (nI z3)), (8, .int (nI (ZS 3 0)))]) hx hb dX7_odds_151 hl (k := 6) rfl (nI_add i2 1) (by decide) rfl (fun ls hl => ?_)
                  refine lv_goto (tgt := 65) hx hb dX7_odds_154 (by decide) ?_
                  have hl : lv_has ls 9 [(0, .ref Zh), (1, .int (nI k5)), (2, .int (nI k12)), (3, .int (nI k19)), (4, .int (nI (z2.1 + 0))), (5, .int (nI (10 ^ (ZS 3 0)))), (6, .int (nI (i2 + 1)))] := lv_sub hl [2, 3, 4, 5, 1, 6, 0] rfl
                  exact ih2 (z2.1 + 0, g36, g37, g38) ⟨(Nat.le_trans hI2.1 (Nat.mul_le_mul_right 1000000 (Nat.le_succ i2))), hq39, hq40, hq41⟩ _ _ _ hP hD hS hl
            · intro i3 hi03 hi3 z3 hI3 ih3 H locs ls hP hD hS hl
              have hl : lv_has ls 9 [(0, .ref Zh), (1, .int (nI k5)), (2, .int (nI k12)), (3, .int (nI k19)), (4, .int (nI z2.1)), (5, .int (nI (10 ^ (ZS 3 0)))), (6, .int (nI i2)), (7, .int (nI z3)), (8, .int (nI i3))] := hl
              obtain ⟨hP, hD⟩ : wPD D A [(Zh, .inr (7, [.long Zt, .ref Za1, .int (nI (ZS 2 0)), .ref Za3, .ref Za4, .ref Za5, .ref Za6, .ref Za7, .ref Za8, .ref Za9, .ref Za10, .ref Za11, .ref Za12, .ref Za13, .int (nI (ZS 14 0)), .int (nI (ZS 15 0)), .int (nI (ZS 16 0)), .int (nI (ZS 17 0)), .int (nI (ZS 18 0)), .int (nI (ZS 19 0) - nI 9), .ref Za20, .ref Za21, .ref Za22, .ref Za23, .ref Za24, .ref Za25, .ref Za26, .ref Za27, .int (nI (ZS 28 0))])), (Za1, .inl (cB, 180, .inl (bF (ZS 1)))), (Za3, .inl (cI, 2, .inl (nF (ZS 3)))), (Za4, .inl (cI, 12, .inl (nF (ZS 4)))), (Za5, .inl (cI, 12, .inl (nF (ZS 5)))), (Za6, .inl (cI, 2, .inl (nF (ZS 6)))), (Za7, .inl (cI, 10, .inl (nF (ZS 7)))), (Za8, .inl (cI, 30, .inl (nF (ZS 8)))), (Za9, .inl (cI, 2, .inl (nF (ZS 9)))), (Za10, .inl (cI, 10, .inl (nF (ZS 10)))), (Za11, .inl (cI, 5, .inl (nF (ZS 11)))), (Za12, .inl (cI, 10, .inl (nF (ZS 12)))), (Za13, .inl (cI, 2, .inl (nF (ZS 13)))), (Za20, .inl (cI, 1191, .inl (nF (ZS 20)))), (Za21, .inl (cZ, 2, .inl (nF (ZS 21)))), (Za22, .inl (cI, 36, .inl (nF (ZS 22)))), (Za23, .inl (cI, 6, .inl (nF (z2.2.1)))), (Za24, .inl (cI, 427, .inl (nF (z2.2.2.1)))), (Za25, .inl (cI, 6, .inl (nF (z2.2.2.2)))), (Za26, .inl (cI, 5, .inl (nF (ZS 26)))), (Za27, .inl (cI, 6, .inl (nF (ZS 27))))] H := ⟨hP, hD⟩
              refine lv_iload hx hb dX7_odds_84 (lv_at hl 8 rfl) ?_
              refine lv_aload_n hx hb dX7_odds_86 rfl (lv_at hl 0 rfl) ?_
              refine va_get (D := D) (ci := 7) (v := .ref Za3) (C := RX7) (T := TX7) (N := 29) hx hb hts in_X7_odds_7 hown hK.1 hP 0 rfl rfl 3 (by decide) (hts (.fieldLink RX7 13 "ChildCoinsModel" "coins" "[I") (List.mem_of_getElem? (i := 1) rfl)) (fun _ h9 => h9) rfl dX7_odds_87 ?_
              refine lv_iconst (v := nI 0) hx hb dX7_odds_90 (by decide) ?_
              refine va_iald hx hb hK.1 hP 2 0 rfl rfl (vp_in_nI (n := 0) (N := 2) (by omega) (by decide)) dX7_odds_91 ?_
              refine set_i (y := nI (ZS 3 0)) (nF_ld (by omega)) ?_
              have b47 : ZS 3 0 ≤ 6 := (zok_set (k := 25) (zok_set (k := 24) (zok_set (k := 23) hZ hI2.2.1) hI2.2.2.1) hI2.2.2.2) 3 0
              refine nb_icmp_ge (tgt := 125) hx hb dX7_odds_92 (by decide) (by omega) (by omega) (fun hq48 => absurd hq48 (by omega)) (fun hq48 => ?_)
              refine lv_iload hx hb dX7_odds_95 (lv_at hl 7 rfl) ?_
              have bdl := Nat.div_le_self i2 (2 ^ i3)
              refine lv_iload hx hb dX7_odds_97 (lv_at hl 6 rfl) ?_
              refine lv_iload hx hb dX7_odds_99 (lv_at hl 8 rfl) ?_
              refine lv_ishr hx hb dX7_odds_101 ?_
              refine set_i (y := nI (i2 / 2 ^ i3)) (nI_shr (by omega) (by omega)) ?_
              refine lv_iconst (v := nI 1) hx hb dX7_odds_102 (by decide) ?_
              refine lv_iand hx hb dX7_odds_103 ?_
              refine set_i (y := nI ((i2 / 2 ^ i3) % 2)) (nI_and1 (by omega)) ?_
              refine lv_iconst (v := nI 1) hx hb dX7_odds_104 (by decide) ?_
              refine nb_icmp_ne (tgt := 112) hx hb dX7_odds_105 (by decide) (by omega) (by omega) (fun hq49 => ?_) (fun hq49 => ?_)
              · skip
                refine lv_bipush (v := nI 10) hx hb dX7_odds_112 (by decide) ?_
                refine lv_iload_n hx hb dX7_odds_114 rfl (lv_at hl 2 rfl) ?_
                refine lv_isub hx hb dX7_odds_115 ?_
                refine set_i (y := nI (10 - k12)) (pk_sub (by omega)) ?_
                refine lv_imul hx hb dX7_odds_116 ?_
                refine set_i (y := nI (z3 * (10 - k12))) (pk_mul z3 (10 - k12)) ?_
                refine lv_istore (lv' := [(7, .int (nI (z3 * (10 - k12)))), (0, .ref Zh), (1, .int (nI k5)), (2, .int (nI k12)), (3, .int (nI k19)), (4, .int (nI z2.1)), (5, .int (nI (10 ^ (ZS 3 0)))), (6, .int (nI i2)), (8, .int (nI i3))]) hx hb dX7_odds_117 hl (by decide) rfl (fun ls hl => ?_)
                refine lv_iinc (v := nI (i3 + 1)) (lv' := [(8, .int (nI (i3 + 1))), (7, .int (nI (z3 * (10 - k12)))), (0, .ref Zh), (1, .int (nI k5)), (2, .int (nI k12)), (3, .int (nI k19)), (4, .int (nI z2.1)), (5, .int (nI (10 ^ (ZS 3 0)))), (6, .int (nI i2))]) hx hb dX7_odds_119 hl (k := 8) rfl (nI_add i3 1) (by decide) rfl (fun ls hl => ?_)
                refine lv_goto (tgt := 84) hx hb dX7_odds_122 (by decide) ?_
                have hl : lv_has ls 9 [(0, .ref Zh), (1, .int (nI k5)), (2, .int (nI k12)), (3, .int (nI k19)), (4, .int (nI z2.1)), (5, .int (nI (10 ^ (ZS 3 0)))), (6, .int (nI i2)), (7, .int (nI (z3 * (10 - k12)))), (8, .int (nI (i3 + 1)))] := lv_sub hl [2, 3, 4, 5, 6, 7, 8, 1, 0] rfl
                exact ih3 (z3 * (10 - k12)) (by rw [hI3]; exact chN_f hq49) _ _ _ hP hD hS hl
              · skip
                refine lv_iload_n hx hb dX7_odds_108 rfl (lv_at hl 2 rfl) ?_
                refine lv_goto (tgt := 116) hx hb dX7_odds_109 (by decide) ?_
                refine lv_imul hx hb dX7_odds_116 ?_
                refine set_i (y := nI (z3 * k12)) (pk_mul z3 k12) ?_
                refine lv_istore (lv' := [(7, .int (nI (z3 * k12))), (0, .ref Zh), (1, .int (nI k5)), (2, .int (nI k12)), (3, .int (nI k19)), (4, .int (nI z2.1)), (5, .int (nI (10 ^ (ZS 3 0)))), (6, .int (nI i2)), (8, .int (nI i3))]) hx hb dX7_odds_117 hl (by decide) rfl (fun ls hl => ?_)
                refine lv_iinc (v := nI (i3 + 1)) (lv' := [(8, .int (nI (i3 + 1))), (7, .int (nI (z3 * k12))), (0, .ref Zh), (1, .int (nI k5)), (2, .int (nI k12)), (3, .int (nI k19)), (4, .int (nI z2.1)), (5, .int (nI (10 ^ (ZS 3 0)))), (6, .int (nI i2))]) hx hb dX7_odds_119 hl (k := 8) rfl (nI_add i3 1) (by decide) rfl (fun ls hl => ?_)
                refine lv_goto (tgt := 84) hx hb dX7_odds_122 (by decide) ?_
                have hl : lv_has ls 9 [(0, .ref Zh), (1, .int (nI k5)), (2, .int (nI k12)), (3, .int (nI k19)), (4, .int (nI z2.1)), (5, .int (nI (10 ^ (ZS 3 0)))), (6, .int (nI i2)), (7, .int (nI (z3 * k12))), (8, .int (nI (i3 + 1)))] := lv_sub hl [2, 3, 4, 5, 6, 7, 8, 1, 0] rfl
                exact ih3 (z3 * k12) (by rw [hI3]; exact chN_t hq49) _ _ _ hP hD hS hl
        · intro i1 hi01 hi1 z1 hI1 ih1 H locs ls hP hD hS hl
          have hl : lv_has ls 9 [(0, .ref Zh), (1, .int (nI k5)), (2, .int (nI k12)), (3, .int (nI k19)), (4, .int (nI 0)), (5, .int (nI z1)), (6, .int (nI i1))] := hl
          obtain ⟨hP, hD⟩ : wPD D A [(Zh, .inr (7, [.long Zt, .ref Za1, .int (nI (ZS 2 0)), .ref Za3, .ref Za4, .ref Za5, .ref Za6, .ref Za7, .ref Za8, .ref Za9, .ref Za10, .ref Za11, .ref Za12, .ref Za13, .int (nI (ZS 14 0)), .int (nI (ZS 15 0)), .int (nI (ZS 16 0)), .int (nI (ZS 17 0)), .int (nI (ZS 18 0)), .int (nI (ZS 19 0) - nI 9), .ref Za20, .ref Za21, .ref Za22, .ref Za23, .ref Za24, .ref Za25, .ref Za26, .ref Za27, .int (nI (ZS 28 0))])), (Za1, .inl (cB, 180, .inl (bF (ZS 1)))), (Za3, .inl (cI, 2, .inl (nF (ZS 3)))), (Za4, .inl (cI, 12, .inl (nF (ZS 4)))), (Za5, .inl (cI, 12, .inl (nF (ZS 5)))), (Za6, .inl (cI, 2, .inl (nF (ZS 6)))), (Za7, .inl (cI, 10, .inl (nF (ZS 7)))), (Za8, .inl (cI, 30, .inl (nF (ZS 8)))), (Za9, .inl (cI, 2, .inl (nF (ZS 9)))), (Za10, .inl (cI, 10, .inl (nF (ZS 10)))), (Za11, .inl (cI, 5, .inl (nF (ZS 11)))), (Za12, .inl (cI, 10, .inl (nF (ZS 12)))), (Za13, .inl (cI, 2, .inl (nF (ZS 13)))), (Za20, .inl (cI, 1191, .inl (nF (ZS 20)))), (Za21, .inl (cZ, 2, .inl (nF (ZS 21)))), (Za22, .inl (cI, 36, .inl (nF (ZS 22)))), (Za23, .inl (cI, 6, .inl (nF (ZS 23)))), (Za24, .inl (cI, 427, .inl (nF (ZS 24)))), (Za25, .inl (cI, 6, .inl (nF (ZS 25)))), (Za26, .inl (cI, 5, .inl (nF (ZS 26)))), (Za27, .inl (cI, 6, .inl (nF (ZS 27))))] H := ⟨hP, hD⟩
          refine lv_iload hx hb dX7_odds_38 (lv_at hl 6 rfl) ?_
          refine lv_aload_n hx hb dX7_odds_40 rfl (lv_at hl 0 rfl) ?_
          refine va_get (D := D) (ci := 7) (v := .ref Za3) (C := RX7) (T := TX7) (N := 29) hx hb hts in_X7_odds_7 hown hK.1 hP 0 rfl rfl 3 (by decide) (hts (.fieldLink RX7 13 "ChildCoinsModel" "coins" "[I") (List.mem_of_getElem? (i := 1) rfl)) (fun _ h9 => h9) rfl dX7_odds_41 ?_
          refine lv_iconst (v := nI 0) hx hb dX7_odds_44 (by decide) ?_
          refine va_iald hx hb hK.1 hP 2 0 rfl rfl (vp_in_nI (n := 0) (N := 2) (by omega) (by decide)) dX7_odds_45 ?_
          refine set_i (y := nI (ZS 3 0)) (nF_ld (by omega)) ?_
          have b50 : ZS 3 0 ≤ 6 := hZ 3 0
          refine nb_icmp_ge (tgt := 62) hx hb dX7_odds_46 (by decide) (by omega) (by omega) (fun hq51 => absurd hq51 (by omega)) (fun hq51 => ?_)
          refine lv_iload hx hb dX7_odds_49 (lv_at hl 5 rfl) ?_
          refine lv_bipush (v := nI 10) hx hb dX7_odds_51 (by decide) ?_
          refine lv_imul hx hb dX7_odds_53 ?_
          refine set_i (y := nI (z1 * 10)) (pk_mul z1 10) ?_
          refine lv_istore (lv' := [(5, .int (nI (z1 * 10))), (0, .ref Zh), (1, .int (nI k5)), (2, .int (nI k12)), (3, .int (nI k19)), (4, .int (nI 0)), (6, .int (nI i1))]) hx hb dX7_odds_54 hl (by decide) rfl (fun ls hl => ?_)
          refine lv_iinc (v := nI (i1 + 1)) (lv' := [(6, .int (nI (i1 + 1))), (5, .int (nI (z1 * 10))), (0, .ref Zh), (1, .int (nI k5)), (2, .int (nI k12)), (3, .int (nI k19)), (4, .int (nI 0))]) hx hb dX7_odds_56 hl (k := 6) rfl (nI_add i1 1) (by decide) rfl (fun ls hl => ?_)
          refine lv_goto (tgt := 38) hx hb dX7_odds_59 (by decide) ?_
          have hl : lv_has ls 9 [(0, .ref Zh), (1, .int (nI k5)), (2, .int (nI k12)), (3, .int (nI k19)), (4, .int (nI 0)), (5, .int (nI (z1 * 10))), (6, .int (nI (i1 + 1)))] := lv_sub hl [2, 3, 4, 5, 6, 1, 0] rfl
          exact ih1 (z1 * 10) (by rw [hI1]; exact (Nat.pow_succ _ _).symm) _ _ _ hP hD hS hl
      · skip
        refine nb_if_ne (tgt := 29) hx hb dX7_odds_24 (by decide) (by omega) (fun hq52 => absurd hq52 (by omega)) (fun hq52 => ?_)
        refine lv_iconst (v := -1) hx hb dX7_odds_27 (by decide) ?_
        exact en_i hx hb hr hlk hP hD hS ZS [0, 1, 2, 3, 4, 5, 6, 7, 8, 9, 10, 11, 12, 13, 14, 15, 16, 17, 18, 19, 20] (by decide) rfl (Nat.le_of_ble_eq_true rfl) (Nat.le_of_ble_eq_true rfl) dX7_odds_28 (ZP.rf hZ)
    · skip
      refine nb_if_eq (tgt := 27) hx hb dX7_odds_15 (by decide) (by omega) (fun hq53 => ?_) (fun hq53 => absurd hq53 (by omega))
      refine lv_iconst (v := -1) hx hb dX7_odds_27 (by decide) ?_
      exact en_i hx hb hr hlk hP hD hS ZS [0, 1, 2, 3, 4, 5, 6, 7, 8, 9, 10, 11, 12, 13, 14, 15, 16, 17, 18, 19, 20] (by decide) rfl (Nat.le_of_ble_eq_true rfl) (Nat.le_of_ble_eq_true rfl) dX7_odds_28 (ZP.rf hZ)
  · skip
    refine nb_if_eq (tgt := 27) hx hb dX7_odds_5 (by decide) (by omega) (fun hq54 => ?_) (fun hq54 => absurd hq54 (by omega))
    refine lv_iconst (v := -1) hx hb dX7_odds_27 (by decide) ?_
    exact en_i hx hb hr hlk hP hD hS ZS [0, 1, 2, 3, 4, 5, 6, 7, 8, 9, 10, 11, 12, 13, 14, 15, 16, 17, 18, 19, 20] (by decide) rfl (Nat.le_of_ble_eq_true rfl) (Nat.le_of_ble_eq_true rfl) dX7_odds_28 (ZP.rf hZ)
