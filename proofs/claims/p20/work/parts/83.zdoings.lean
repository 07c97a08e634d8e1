set_option maxRecDepth 20000 in
theorem dAX7_loses : decA cX7_loses [(0, .aload_n 0, 1), (1, .iload_n 1, 1), (2, .invokevirtual 145, 3), (5, .ifCond .eq 11, 3), (8, .aload_n 0, 1), (9, .iload_n 2, 1), (10, .invokevirtual 142, 3), (13, .ifCond .ne 5, 3), (16, .iconst (-1), 1), (17, .ireturn, 1), (18, .aload_n 0, 1), (19, .getfield 47, 3), (22, .bipush 6, 2), (24, .iload_n 1, 1), (25, .imul, 1), (26, .iload_n 2, 1), (27, .iadd, 1), (28, .iaload, 1), (29, .ifCond .ne 6, 3), (32, .bipush (-2), 2), (34, .ireturn, 1), (35, .aload_n 0, 1), (36, .invokevirtual 185, 3), (39, .aload_n 0, 1), (40, .getfield 47, 3), (43, .bipush 6, 2), (45, .iload_n 1, 1), (46, .imul, 1), (47, .iload_n 2, 1), (48, .iadd, 1), (49, .dup2, 1), (50, .iaload, 1), (51, .iconst 1, 1), (52, .isub, 1), (53, .iastore, 1), (54, .aload_n 0, 1), (55, .getfield 47, 3), (58, .bipush 6, 2), (60, .iload_n 1, 1), (61, .imul, 1), (62, .iload_n 2, 1), (63, .iadd, 1), (64, .iaload, 1), (65, .ireturn, 1)] = true := by decide +kernel
theorem dX7_loses_0 : decode cX7_loses 0 = .ok (.aload_n 0, 1) := decA_get dAX7_loses 0 rfl
theorem dX7_loses_1 : decode cX7_loses 1 = .ok (.iload_n 1, 1) := decA_get dAX7_loses 1 rfl
theorem dX7_loses_2 : decode cX7_loses 2 = .ok (.invokevirtual 145, 3) := decA_get dAX7_loses 2 rfl
set_option maxRecDepth 20000 in
theorem ggX7_loses_X7_isPerson : GoodIn wsX7_loses wsX7_isPerson := gd_ids wi_X7_loses wm_X7_loses wi_X7_isPerson (by decide +kernel)
set_option maxRecDepth 20000 in
theorem gX7_loses_X7_isPerson : GoodIn wsX7_loses (wsV RX7 145 RX7 yX7_isPerson wsX7_isPerson) := goodIn_app (gd_ids wi_X7_loses wm_X7_loses (b := [546, 547, 548, 481]) rfl (by decide +kernel)) ggX7_loses_X7_isPerson
theorem dX7_loses_5 : decode cX7_loses 5 = .ok (.ifCond .eq 11, 3) := decA_get dAX7_loses 3 rfl
theorem dX7_loses_8 : decode cX7_loses 8 = .ok (.aload_n 0, 1) := decA_get dAX7_loses 4 rfl
theorem dX7_loses_9 : decode cX7_loses 9 = .ok (.iload_n 2, 1) := decA_get dAX7_loses 5 rfl
theorem dX7_loses_10 : decode cX7_loses 10 = .ok (.invokevirtual 142, 3) := decA_get dAX7_loses 6 rfl
set_option maxRecDepth 20000 in
theorem ggX7_loses_X7_isCoin : GoodIn wsX7_loses wsX7_isCoin := gd_ids wi_X7_loses wm_X7_loses wi_X7_isCoin (by decide +kernel)
set_option maxRecDepth 20000 in
theorem gX7_loses_X7_isCoin : GoodIn wsX7_loses (wsV RX7 142 RX7 yX7_isCoin wsX7_isCoin) := goodIn_app (gd_ids wi_X7_loses wm_X7_loses (b := [542, 543, 544, 481]) rfl (by decide +kernel)) ggX7_loses_X7_isCoin
theorem dX7_loses_13 : decode cX7_loses 13 = .ok (.ifCond .ne 5, 3) := decA_get dAX7_loses 7 rfl
theorem dX7_loses_18 : decode cX7_loses 18 = .ok (.aload_n 0, 1) := decA_get dAX7_loses 10 rfl
theorem dX7_loses_19 : decode cX7_loses 19 = .ok (.getfield 47, 3) := decA_get dAX7_loses 11 rfl
theorem in_X7_loses_7 : ∀ w ∈ wsX70, w ∈ wsX7_loses := fun w h => (gd_ids wi_X7_loses wm_X7_loses wi_X70 (by decide +kernel) w h).1
theorem dX7_loses_22 : decode cX7_loses 22 = .ok (.bipush 6, 2) := decA_get dAX7_loses 12 rfl
theorem dX7_loses_24 : decode cX7_loses 24 = .ok (.iload_n 1, 1) := decA_get dAX7_loses 13 rfl
theorem dX7_loses_25 : decode cX7_loses 25 = .ok (.imul, 1) := decA_get dAX7_loses 14 rfl
theorem dX7_loses_26 : decode cX7_loses 26 = .ok (.iload_n 2, 1) := decA_get dAX7_loses 15 rfl
theorem dX7_loses_27 : decode cX7_loses 27 = .ok (.iadd, 1) := decA_get dAX7_loses 16 rfl
theorem dX7_loses_28 : decode cX7_loses 28 = .ok (.iaload, 1) := decA_get dAX7_loses 17 rfl
theorem dX7_loses_29 : decode cX7_loses 29 = .ok (.ifCond .ne 6, 3) := decA_get dAX7_loses 18 rfl
theorem dX7_loses_35 : decode cX7_loses 35 = .ok (.aload_n 0, 1) := decA_get dAX7_loses 21 rfl
theorem dX7_loses_36 : decode cX7_loses 36 = .ok (.invokevirtual 185, 3) := decA_get dAX7_loses 22 rfl
set_option maxRecDepth 20000 in
theorem ggX7_loses_X7_know : GoodIn wsX7_loses wsX7_know := gd_ids wi_X7_loses wm_X7_loses wi_X7_know (by decide +kernel)
set_option maxRecDepth 20000 in
theorem gX7_loses_X7_know : GoodIn wsX7_loses (wsV RX7 185 RX7 yX7_know wsX7_know) := goodIn_app (gd_ids wi_X7_loses wm_X7_loses (b := [594, 595, 596, 481]) rfl (by decide +kernel)) ggX7_loses_X7_know
theorem dX7_loses_39 : decode cX7_loses 39 = .ok (.aload_n 0, 1) := decA_get dAX7_loses 23 rfl
theorem dX7_loses_40 : decode cX7_loses 40 = .ok (.getfield 47, 3) := decA_get dAX7_loses 24 rfl
theorem dX7_loses_43 : decode cX7_loses 43 = .ok (.bipush 6, 2) := decA_get dAX7_loses 25 rfl
theorem dX7_loses_45 : decode cX7_loses 45 = .ok (.iload_n 1, 1) := decA_get dAX7_loses 26 rfl
theorem dX7_loses_46 : decode cX7_loses 46 = .ok (.imul, 1) := decA_get dAX7_loses 27 rfl
theorem dX7_loses_47 : decode cX7_loses 47 = .ok (.iload_n 2, 1) := decA_get dAX7_loses 28 rfl
theorem dX7_loses_48 : decode cX7_loses 48 = .ok (.iadd, 1) := decA_get dAX7_loses 29 rfl
theorem dX7_loses_49 : decode cX7_loses 49 = .ok (.dup2, 1) := decA_get dAX7_loses 30 rfl
theorem dX7_loses_50 : decode cX7_loses 50 = .ok (.iaload, 1) := decA_get dAX7_loses 31 rfl
theorem dX7_loses_51 : decode cX7_loses 51 = .ok (.iconst 1, 1) := decA_get dAX7_loses 32 rfl
theorem dX7_loses_52 : decode cX7_loses 52 = .ok (.isub, 1) := decA_get dAX7_loses 33 rfl
theorem dX7_loses_53 : decode cX7_loses 53 = .ok (.iastore, 1) := decA_get dAX7_loses 34 rfl
theorem dX7_loses_54 : decode cX7_loses 54 = .ok (.aload_n 0, 1) := decA_get dAX7_loses 35 rfl
theorem dX7_loses_55 : decode cX7_loses 55 = .ok (.getfield 47, 3) := decA_get dAX7_loses 36 rfl
theorem dX7_loses_58 : decode cX7_loses 58 = .ok (.bipush 6, 2) := decA_get dAX7_loses 37 rfl
theorem dX7_loses_60 : decode cX7_loses 60 = .ok (.iload_n 1, 1) := decA_get dAX7_loses 38 rfl
theorem dX7_loses_61 : decode cX7_loses 61 = .ok (.imul, 1) := decA_get dAX7_loses 39 rfl
theorem dX7_loses_62 : decode cX7_loses 62 = .ok (.iload_n 2, 1) := decA_get dAX7_loses 40 rfl
theorem dX7_loses_63 : decode cX7_loses 63 = .ok (.iadd, 1) := decA_get dAX7_loses 41 rfl
theorem dX7_loses_64 : decode cX7_loses 64 = .ok (.iaload, 1) := decA_get dAX7_loses 42 rfl
theorem dX7_loses_65 : decode cX7_loses 65 = .ok (.ireturn, 1) := decA_get dAX7_loses 43 rfl
theorem dX7_loses_32 : decode cX7_loses 32 = .ok (.bipush (-2), 2) := decA_get dAX7_loses 19 rfl
theorem dX7_loses_34 : decode cX7_loses 34 = .ok (.ireturn, 1) := decA_get dAX7_loses 20 rfl
theorem dX7_loses_16 : decode cX7_loses 16 = .ok (.iconst (-1), 1) := decA_get dAX7_loses 8 rfl
theorem dX7_loses_17 : decode cX7_loses 17 = .ok (.ireturn, 1) := decA_get dAX7_loses 9 rfl
set_option maxHeartbeats 4000000 in
set_option maxRecDepth 100000 in
theorem z_loses (l : Launch) (D : va_G) (cI cB cZ cN : ClassId) (Zh : Nat) (Za1 : Nat) (Za3 : Nat) (Za4 : Nat) (Za5 : Nat) (Za6 : Nat) (Za7 : Nat) (Za8 : Nat) (Za9 : Nat) (Za10 : Nat) (Za11 : Nat) (Za12 : Nat) (Za13 : Nat) (Za20 : Nat) (Za21 : Nat) (Za22 : Nat) (Za23 : Nat) (Za24 : Nat) (Za25 : Nat) (Za26 : Nat) (Za27 : Nat) (Zt : Int64) (ZS : Nat → Nat → Nat) (v_p : Int32) (v_c : Int32) (hZ : ZOk ZS) : Ci (S := (Nat → Nat → Nat)) l D cI cB cZ cN yX7_loses wsX7_loses ({ frames := 2, cells := 0, slots := 0, locals := 43 } : Room) [.ref Zh, .int v_p, .int v_c] [(Zh, .inr (7, [.long Zt, .ref Za1, .int (nI (ZS 2 0)), .ref Za3, .ref Za4, .ref Za5, .ref Za6, .ref Za7, .ref Za8, .ref Za9, .ref Za10, .ref Za11, .ref Za12, .ref Za13, .int (nI (ZS 14 0)), .int (nI (ZS 15 0)), .int (nI (ZS 16 0)), .int (nI (ZS 17 0)), .int (nI (ZS 18 0)), .int (nI (ZS 19 0) - nI 9), .ref Za20, .ref Za21, .ref Za22, .ref Za23, .ref Za24, .ref Za25, .ref Za26, .ref Za27, .int (nI (ZS 28 0))])), (Za1, .inl (cB, 180, .inl (bF (ZS 1)))), (Za3, .inl (cI, 2, .inl (nF (ZS 3)))), (Za4, .inl (cI, 12, .inl (nF (ZS 4)))), (Za5, .inl (cI, 12, .inl (nF (ZS 5)))), (Za6, .inl (cI, 2, .inl (nF (ZS 6)))), (Za7, .inl (cI, 10, .inl (nF (ZS 7)))), (Za8, .inl (cI, 30, .inl (nF (ZS 8)))), (Za9, .inl (cI, 2, .inl (nF (ZS 9)))), (Za10, .inl (cI, 10, .inl (nF (ZS 10)))), (Za11, .inl (cI, 5, .inl (nF (ZS 11)))), (Za12, .inl (cI, 10, .inl (nF (ZS 12)))), (Za13, .inl (cI, 2, .inl (nF (ZS 13)))), (Za20, .inl (cI, 1191, .inl (nF (ZS 20)))), (Za21, .inl (cZ, 2, .inl (nF (ZS 21)))), (Za22, .inl (cI, 36, .inl (nF (ZS 22)))), (Za23, .inl (cI, 6, .inl (nF (ZS 23)))), (Za24, .inl (cI, 427, .inl (nF (ZS 24)))), (Za25, .inl (cI, 6, .inl (nF (ZS 25)))), (Za26, .inl (cI, 5, .inl (nF (ZS 26)))), (Za27, .inl (cI, 6, .inl (nF (ZS 27))))] (fun (r : Int32) (u : (Nat → Nat → Nat)) => ZP [20, 21, 22, 23, 24, 25, 26] u ZS ∧ ((¬ (inN v_p (ZS 6 0) ∧ inN v_c (ZS 3 0)) ∧ r = -1 ∧ u = ZS) ∨ (∃ p c, p < ZS 6 0 ∧ c < ZS 3 0 ∧ v_p = nI p ∧ v_c = nI c ∧ ((ZS 20 (6 * p + c) = 0 ∧ r = -2 ∧ u = ZS) ∨ (ZS 20 (6 * p + c) ≠ 0 ∧ r = nI (ZS 20 (6 * p + c) - 1) ∧ u = ua ZS 20 (un (knN (ZS 20)) (6 * p + c) (ZS 20 (6 * p + c) - 1))))))) (fun u => [(Zh, .inr (7, [.long Zt, .ref Za1, .int (nI (u 2 0)), .ref Za3, .ref Za4, .ref Za5, .ref Za6, .ref Za7, .ref Za8, .ref Za9, .ref Za10, .ref Za11, .ref Za12, .ref Za13, .int (nI (u 14 0)), .int (nI (u 15 0)), .int (nI (u 16 0)), .int (nI (u 17 0)), .int (nI (u 18 0)), .int (nI (u 19 0) - nI 9), .ref Za20, .ref Za21, .ref Za22, .ref Za23, .ref Za24, .ref Za25, .ref Za26, .ref Za27, .int (nI (u 28 0))])), (Za1, .inl (cB, 180, .inl (bF (u 1)))), (Za3, .inl (cI, 2, .inl (nF (u 3)))), (Za4, .inl (cI, 12, .inl (nF (u 4)))), (Za5, .inl (cI, 12, .inl (nF (u 5)))), (Za6, .inl (cI, 2, .inl (nF (u 6)))), (Za7, .inl (cI, 10, .inl (nF (u 7)))), (Za8, .inl (cI, 30, .inl (nF (u 8)))), (Za9, .inl (cI, 2, .inl (nF (u 9)))), (Za10, .inl (cI, 10, .inl (nF (u 10)))), (Za11, .inl (cI, 5, .inl (nF (u 11)))), (Za12, .inl (cI, 10, .inl (nF (u 12)))), (Za13, .inl (cI, 2, .inl (nF (u 13)))), (Za20, .inl (cI, 1191, .inl (nF (u 20)))), (Za21, .inl (cZ, 2, .inl (nF (u 21)))), (Za22, .inl (cI, 36, .inl (nF (u 22)))), (Za23, .inl (cI, 6, .inl (nF (u 23)))), (Za24, .inl (cI, 427, .inl (nF (u 24)))), (Za25, .inl (cI, 6, .inl (nF (u 25)))), (Za26, .inl (cI, 5, .inl (nF (u 26)))), (Za27, .inl (cI, 6, .inl (nF (u 27))))]) := by
  refine bx_of (D := D) (cI := cI) (cB := cB) (cZ := cZ) (cN := cN) (y := yX7_loses) (wd := wsX7_loses) (rm := ({ frames := 2, cells := 0, slots := 0, locals := 43 } : Room)) (av := [.ref Zh, .int v_p, .int v_c]) (wc := [(Zh, .inr (7, [.long Zt, .ref Za1, .int (nI (ZS 2 0)), .ref Za3, .ref Za4, .ref Za5, .ref Za6, .ref Za7, .ref Za8, .ref Za9, .ref Za10, .ref Za11, .ref Za12, .ref Za13, .int (nI (ZS 14 0)), .int (nI (ZS 15 0)), .int (nI (ZS 16 0)), .int (nI (ZS 17 0)), .int (nI (ZS 18 0)), .int (nI (ZS 19 0) - nI 9), .ref Za20, .ref Za21, .ref Za22, .ref Za23, .ref Za24, .ref Za25, .ref Za26, .ref Za27, .int (nI (ZS 28 0))])), (Za1, .inl (cB, 180, .inl (bF (ZS 1)))), (Za3, .inl (cI, 2, .inl (nF (ZS 3)))), (Za4, .inl (cI, 12, .inl (nF (ZS 4)))), (Za5, .inl (cI, 12, .inl (nF (ZS 5)))), (Za6, .inl (cI, 2, .inl (nF (ZS 6)))), (Za7, .inl (cI, 10, .inl (nF (ZS 7)))), (Za8, .inl (cI, 30, .inl (nF (ZS 8)))), (Za9, .inl (cI, 2, .inl (nF (ZS 9)))), (Za10, .inl (cI, 10, .inl (nF (ZS 10)))), (Za11, .inl (cI, 5, .inl (nF (ZS 11)))), (Za12, .inl (cI, 10, .inl (nF (ZS 12)))), (Za13, .inl (cI, 2, .inl (nF (ZS 13)))), (Za20, .inl (cI, 1191, .inl (nF (ZS 20)))), (Za21, .inl (cZ, 2, .inl (nF (ZS 21)))), (Za22, .inl (cI, 36, .inl (nF (ZS 22)))), (Za23, .inl (cI, 6, .inl (nF (ZS 23)))), (Za24, .inl (cI, 427, .inl (nF (ZS 24)))), (Za25, .inl (cI, 6, .inl (nF (ZS 25)))), (Za26, .inl (cI, 5, .inl (nF (ZS 26)))), (Za27, .inl (cI, 6, .inl (nF (ZS 27))))]) (cc := cX7_loses) (maxL := 3) (ret := (some .int)) (Qc := fun _ A => va_Qi (S := (Nat → Nat → Nat)) (fun (r : Int32) (u : (Nat → Nat → Nat)) => ZP [20, 21, 22, 23, 24, 25, 26] u ZS ∧ ((¬ (inN v_p (ZS 6 0) ∧ inN v_c (ZS 3 0)) ∧ r = -1 ∧ u = ZS) ∨ (∃ p c, p < ZS 6 0 ∧ c < ZS 3 0 ∧ v_p = nI p ∧ v_c = nI c ∧ ((ZS 20 (6 * p + c) = 0 ∧ r = -2 ∧ u = ZS) ∨ (ZS 20 (6 * p + c) ≠ 0 ∧ r = nI (ZS 20 (6 * p + c) - 1) ∧ u = ua ZS 20 (un (knN (ZS 20)) (6 * p + c) (ZS 20 (6 * p + c) - 1))))))) (Aft D (fun (u : (Nat → Nat → Nat)) => [(Zh, .inr (7, [.long Zt, .ref Za1, .int (nI (u 2 0)), .ref Za3, .ref Za4, .ref Za5, .ref Za6, .ref Za7, .ref Za8, .ref Za9, .ref Za10, .ref Za11, .ref Za12, .ref Za13, .int (nI (u 14 0)), .int (nI (u 15 0)), .int (nI (u 16 0)), .int (nI (u 17 0)), .int (nI (u 18 0)), .int (nI (u 19 0) - nI 9), .ref Za20, .ref Za21, .ref Za22, .ref Za23, .ref Za24, .ref Za25, .ref Za26, .ref Za27, .int (nI (u 28 0))])), (Za1, .inl (cB, 180, .inl (bF (u 1)))), (Za3, .inl (cI, 2, .inl (nF (u 3)))), (Za4, .inl (cI, 12, .inl (nF (u 4)))), (Za5, .inl (cI, 12, .inl (nF (u 5)))), (Za6, .inl (cI, 2, .inl (nF (u 6)))), (Za7, .inl (cI, 10, .inl (nF (u 7)))), (Za8, .inl (cI, 30, .inl (nF (u 8)))), (Za9, .inl (cI, 2, .inl (nF (u 9)))), (Za10, .inl (cI, 10, .inl (nF (u 10)))), (Za11, .inl (cI, 5, .inl (nF (u 11)))), (Za12, .inl (cI, 10, .inl (nF (u 12)))), (Za13, .inl (cI, 2, .inl (nF (u 13)))), (Za20, .inl (cI, 1191, .inl (nF (u 20)))), (Za21, .inl (cZ, 2, .inl (nF (u 21)))), (Za22, .inl (cI, 36, .inl (nF (u 22)))), (Za23, .inl (cI, 6, .inl (nF (u 23)))), (Za24, .inl (cI, 427, .inl (nF (u 24)))), (Za25, .inl (cI, 6, .inl (nF (u 25)))), (Za26, .inl (cI, 5, .inl (nF (u 26)))), (Za27, .inl (cI, 6, .inl (nF (u 27))))]) A) A) (by decide) rfl (Nat.le_of_ble_eq_true rfl) ?_
  intro p e s m below meth c A H locs ⟨hx, hb, hr, hml, hown, hts, hlk, hnm⟩ hK hP hD hS hA ls hl
  have hl : lv_has ls 3 [(0, .ref Zh), (1, .int v_p), (2, .int v_c)] := hl
  have hown : s.vm.findClass RX7 = some m.cls := hown
  have bz6 : ZS 6 0 ≤ 5 := hZ 6 0
  have bz3 : ZS 3 0 ≤ 6 := hZ 3 0
  have bz9 : ZS 9 0 ≤ 5 := hZ 9 0
  have bz28 : ZS 28 0 ≤ 6 := hZ 28 0
  refine lv_aload_n hx hb dX7_loses_0 rfl (lv_at hl 0 rfl) ?_
  refine lv_iload_n hx hb dX7_loses_1 rfl (lv_at hl 1 rfl) ?_
  refine be_i0 (ru_V (As := [.int v_p]) (rest := []) ⟨hx, hb, hml, hown, hts⟩ (z_isPerson l D cI cB cZ cN Zh Za1 Za3 Za4 Za5 Za6 Za7 Za8 Za9 Za10 Za11 Za12 Za13 Za20 Za21 Za22 Za23 Za24 Za25 Za26 Za27 Zt ZS v_p hZ H.size) gX7_loses_X7_isPerson rfl ⟨rfl, by decide, by decide, (show Option.map (fun d => d.parameters.length) (parseMethodDescriptor yX7_isPerson.desc) = some 1 by decide +kernel)⟩ ⟨Nat.le_of_ble_eq_true rfl, Nat.le_of_ble_eq_true rfl⟩ hK hP hD 7 0 rfl rfl [0, 1, 2, 3, 4, 5, 6, 7, 8, 9, 10, 11, 12, 13, 14, 15, 16, 17, 18, 19, 20] (by decide) rfl hl.1 rfl (Nat.le_of_ble_eq_true rfl) dX7_loses_2 ⟨Nat.le_of_ble_eq_true rfl, Nat.le_of_ble_eq_true rfl⟩) hP hD hS hA [0, 1, 2, 3, 4, 5, 6, 7, 8, 9, 10, 11, 12, 13, 14, 15, 16, 17, 18, 19, 20] rfl (fun r2 u1 H locs w3 hP hS => ?_)
  rcases w3 with ⟨rfl, hq4⟩ | ⟨rfl, hq4⟩
  · obtain ⟨k5, hq6, rfl⟩ := hq4
    refine nb_if_eq (tgt := 16) hx hb dX7_loses_5 (by decide) (by omega) (fun hq7 => absurd hq7 (by omega)) (fun hq7 => ?_)
    refine lv_aload_n hx hb dX7_loses_8 rfl (lv_at hl 0 rfl) ?_
    refine lv_iload_n hx hb dX7_loses_9 rfl (lv_at hl 2 rfl) ?_
    refine be_i0 (ru_V (As := [.int v_c]) (rest := []) ⟨hx, hb, hml, hown, hts⟩ (z_isCoin l D cI cB cZ cN Zh Za1 Za3 Za4 Za5 Za6 Za7 Za8 Za9 Za10 Za11 Za12 Za13 Za20 Za21 Za22 Za23 Za24 Za25 Za26 Za27 Zt ZS v_c hZ H.size) gX7_loses_X7_isCoin rfl ⟨rfl, by decide, by decide, (show Option.map (fun d => d.parameters.length) (parseMethodDescriptor yX7_isCoin.desc) = some 1 by decide +kernel)⟩ ⟨Nat.le_of_ble_eq_true rfl, Nat.le_of_ble_eq_true rfl⟩ hK hP hD 7 0 rfl rfl [0, 1, 2, 3, 4, 5, 6, 7, 8, 9, 10, 11, 12, 13, 14, 15, 16, 17, 18, 19, 20] (by decide) rfl hl.1 rfl (Nat.le_of_ble_eq_true rfl) dX7_loses_10 ⟨Nat.le_of_ble_eq_true rfl, Nat.le_of_ble_eq_true rfl⟩) hP hD hS hA [0, 1, 2, 3, 4, 5, 6, 7, 8, 9, 10, 11, 12, 13, 14, 15, 16, 17, 18, 19, 20] rfl (fun r9 u8 H locs w10 hP hS => ?_)
    rcases w10 with ⟨rfl, hq11⟩ | ⟨rfl, hq11⟩
    · obtain ⟨k12, hq13, rfl⟩ := hq11
      refine nb_if_ne (tgt := 18) hx hb dX7_loses_13 (by decide) (by omega) (fun hq14 => ?_) (fun hq14 => absurd hq14 (by omega))
      refine lv_aload_n hx hb dX7_loses_18 rfl (lv_at hl 0 rfl) ?_
      refine va_get (D := D) (ci := 7) (v := .ref Za20) (C := RX7) (T := TX7) (N := 29) hx hb hts in_X7_loses_7 hown hK.1 hP 0 rfl rfl 20 (by decide) (hts (.fieldLink RX7 47 "ChildCoinsModel" "now" "[I") (List.mem_of_getElem? (i := 1) rfl)) (fun _ h9 => h9) rfl dX7_loses_19 ?_
      refine lv_bipush (v := nI 6) hx hb dX7_loses_22 (by decide) ?_
      refine lv_iload_n hx hb dX7_loses_24 rfl (lv_at hl 1 rfl) ?_
      refine lv_imul hx hb dX7_loses_25 ?_
      refine set_i (y := nI (6 * k5)) (pk_mul 6 k5) ?_
      refine lv_iload_n hx hb dX7_loses_26 rfl (lv_at hl 2 rfl) ?_
      refine lv_iadd hx hb dX7_loses_27 ?_
      refine set_i (y := nI ((6 * k5) + k12)) (nI_add (6 * k5) k12) ?_
      refine va_iald hx hb hK.1 hP 13 0 rfl rfl (vp_in_nI (n := (6 * k5) + k12) (N := 1191) (by omega) (by decide)) dX7_loses_28 ?_
      refine set_i (y := nI (ZS 20 ((6 * k5) + k12))) (nF_ld (by omega)) ?_
      have b15 : ZS 20 ((6 * k5) + k12) ≤ 99 := Nat.le_trans (hZ 20 ((6 * k5) + k12)) (nbd_99 ((6 * k5) + k12))
      refine nb_if_ne (tgt := 35) hx hb dX7_loses_29 (by decide) (by omega) (fun hq16 => ?_) (fun hq16 => ?_)
      · skip
        refine lv_aload_n hx hb dX7_loses_35 rfl (lv_at hl 0 rfl) ?_
        refine be_v (free := fun _ => False) (wr := []) (ru_V (As := []) (rest := []) ⟨hx, hb, hml, hown, hts⟩ (z_know l D cI cB cZ cN Zh Za1 Za3 Za4 Za5 Za6 Za7 Za8 Za9 Za10 Za11 Za12 Za13 Za20 Za21 Za22 Za23 Za24 Za25 Za26 Za27 Zt ZS hZ H.size) gX7_loses_X7_know rfl ⟨rfl, by decide, by decide, (show Option.map (fun d => d.parameters.length) (parseMethodDescriptor yX7_know.desc) = some 0 by decide +kernel)⟩ ⟨Nat.le_of_ble_eq_true rfl, Nat.le_of_ble_eq_true rfl⟩ hK hP hD 7 0 rfl rfl [0, 1, 2, 3, 4, 5, 6, 7, 8, 9, 10, 11, 12, 13, 14, 15, 16, 17, 18, 19, 20] (by decide) rfl hl.1 rfl (Nat.le_of_ble_eq_true rfl) dX7_loses_36 ⟨Nat.le_of_ble_eq_true rfl, Nat.le_of_ble_eq_true rfl⟩) hP hD hS hA [0, 1, 2, 3, 4, 5, 6, 7, 8, 9, 10, 11, 12, 13, 14, 15, 16, 17, 18, 19, 20] [] rfl rfl (by decide) (by decide) (fun u17 H locs w19 hP hD hS => ?_)
        subst w19
        have hzz20 : ZOk (ua ZS 20 (knN (ZS 20))) := (zok_set (k := 20) hZ (kn_b (hZ 20)))
        obtain ⟨hP, hD⟩ : wPD D A [(Zh, .inr (7, [.long Zt, .ref Za1, .int (nI (ZS 2 0)), .ref Za3, .ref Za4, .ref Za5, .ref Za6, .ref Za7, .ref Za8, .ref Za9, .ref Za10, .ref Za11, .ref Za12, .ref Za13, .int (nI (ZS 14 0)), .int (nI (ZS 15 0)), .int (nI (ZS 16 0)), .int (nI (ZS 17 0)), .int (nI (ZS 18 0)), .int (nI (ZS 19 0) - nI 9), .ref Za20, .ref Za21, .ref Za22, .ref Za23, .ref Za24, .ref Za25, .ref Za26, .ref Za27, .int (nI (ZS 28 0))])), (Za1, .inl (cB, 180, .inl (bF (ZS 1)))), (Za3, .inl (cI, 2, .inl (nF (ZS 3)))), (Za4, .inl (cI, 12, .inl (nF (ZS 4)))), (Za5, .inl (cI, 12, .inl (nF (ZS 5)))), (Za6, .inl (cI, 2, .inl (nF (ZS 6)))), (Za7, .inl (cI, 10, .inl (nF (ZS 7)))), (Za8, .inl (cI, 30, .inl (nF (ZS 8)))), (Za9, .inl (cI, 2, .inl (nF (ZS 9)))), (Za10, .inl (cI, 10, .inl (nF (ZS 10)))), (Za11, .inl (cI, 5, .inl (nF (ZS 11)))), (Za12, .inl (cI, 10, .inl (nF (ZS 12)))), (Za13, .inl (cI, 2, .inl (nF (ZS 13)))), (Za20, .inl (cI, 1191, .inl (nF (knN (ZS 20))))), (Za21, .inl (cZ, 2, .inl (nF (ZS 21)))), (Za22, .inl (cI, 36, .inl (nF (ZS 22)))), (Za23, .inl (cI, 6, .inl (nF (ZS 23)))), (Za24, .inl (cI, 427, .inl (nF (ZS 24)))), (Za25, .inl (cI, 6, .inl (nF (ZS 25)))), (Za26, .inl (cI, 5, .inl (nF (ZS 26)))), (Za27, .inl (cI, 6, .inl (nF (ZS 27))))] H := ⟨hP, hD⟩
        refine lv_aload_n hx hb dX7_loses_39 rfl (lv_at hl 0 rfl) ?_
        refine va_get (D := D) (ci := 7) (v := .ref Za20) (C := RX7) (T := TX7) (N := 29) hx hb hts in_X7_loses_7 hown hK.1 hP 0 rfl rfl 20 (by decide) (hts (.fieldLink RX7 47 "ChildCoinsModel" "now" "[I") (List.mem_of_getElem? (i := 1) rfl)) (fun _ h9 => h9) rfl dX7_loses_40 ?_
        refine lv_bipush (v := nI 6) hx hb dX7_loses_43 (by decide) ?_
        refine lv_iload_n hx hb dX7_loses_45 rfl (lv_at hl 1 rfl) ?_
        refine lv_imul hx hb dX7_loses_46 ?_
        refine set_i (y := nI (6 * k5)) (pk_mul 6 k5) ?_
        refine lv_iload_n hx hb dX7_loses_47 rfl (lv_at hl 2 rfl) ?_
        refine lv_iadd hx hb dX7_loses_48 ?_
        refine set_i (y := nI ((6 * k5) + k12)) (nI_add (6 * k5) k12) ?_
        refine lv_dup2_11 hx hb dX7_loses_49 rfl rfl ?_
        refine va_iald hx hb hK.1 hP 13 0 rfl rfl (vp_in_nI (n := (6 * k5) + k12) (N := 1191) (by omega) (by decide)) dX7_loses_50 ?_
        refine set_i (y := nI ((knN (ZS 20)) ((6 * k5) + k12))) (nF_ld (by omega)) ?_
        refine set_i (y := nI (ZS 20 ((6 * k5) + k12))) (congrArg nI (by rw [kn_lo (by omega)])) ?_
        have b21 : ZS 20 ((6 * k5) + k12) ≤ 99 := Nat.le_trans (hZ 20 ((6 * k5) + k12)) (nbd_99 ((6 * k5) + k12))
        refine lv_iconst (v := nI 1) hx hb dX7_loses_51 (by decide) ?_
        refine lv_isub hx hb dX7_loses_52 ?_
        refine set_i (y := nI ((ZS 20 ((6 * k5) + k12)) - 1)) (pk_sub (by omega)) ?_
        refine va_iast hx hb hK.1 hP hD hS 13 0 rfl rfl (vp_in_nI (n := (6 * k5) + k12) (N := 1191) (by omega) (by decide)) dX7_loses_53 (fun H locs hP hD hS => ?_)
        obtain ⟨hP, hD⟩ : wPD D A [(Zh, .inr (7, [.long Zt, .ref Za1, .int (nI (ZS 2 0)), .ref Za3, .ref Za4, .ref Za5, .ref Za6, .ref Za7, .ref Za8, .ref Za9, .ref Za10, .ref Za11, .ref Za12, .ref Za13, .int (nI (ZS 14 0)), .int (nI (ZS 15 0)), .int (nI (ZS 16 0)), .int (nI (ZS 17 0)), .int (nI (ZS 18 0)), .int (nI (ZS 19 0) - nI 9), .ref Za20, .ref Za21, .ref Za22, .ref Za23, .ref Za24, .ref Za25, .ref Za26, .ref Za27, .int (nI (ZS 28 0))])), (Za1, .inl (cB, 180, .inl (bF (ZS 1)))), (Za3, .inl (cI, 2, .inl (nF (ZS 3)))), (Za4, .inl (cI, 12, .inl (nF (ZS 4)))), (Za5, .inl (cI, 12, .inl (nF (ZS 5)))), (Za6, .inl (cI, 2, .inl (nF (ZS 6)))), (Za7, .inl (cI, 10, .inl (nF (ZS 7)))), (Za8, .inl (cI, 30, .inl (nF (ZS 8)))), (Za9, .inl (cI, 2, .inl (nF (ZS 9)))), (Za10, .inl (cI, 10, .inl (nF (ZS 10)))), (Za11, .inl (cI, 5, .inl (nF (ZS 11)))), (Za12, .inl (cI, 10, .inl (nF (ZS 12)))), (Za13, .inl (cI, 2, .inl (nF (ZS 13)))), (Za20, .inl (cI, 1191, .inl (upd (nF (knN (ZS 20))) (nI ((6 * k5) + k12)).toNatClampNeg (nI ((ZS 20 ((6 * k5) + k12)) - 1))))), (Za21, .inl (cZ, 2, .inl (nF (ZS 21)))), (Za22, .inl (cI, 36, .inl (nF (ZS 22)))), (Za23, .inl (cI, 6, .inl (nF (ZS 23)))), (Za24, .inl (cI, 427, .inl (nF (ZS 24)))), (Za25, .inl (cI, 6, .inl (nF (ZS 25)))), (Za26, .inl (cI, 5, .inl (nF (ZS 26)))), (Za27, .inl (cI, 6, .inl (nF (ZS 27))))] H := ⟨hP, hD⟩
        rw [nF_st (by omega)] at hP hD
        have hzz22 : ZOk (ua ZS 20 (un (knN (ZS 20)) ((6 * k5) + k12) ((ZS 20 ((6 * k5) + k12)) - 1))) := (zok_set (k := 20) hZ (un_zb (f := zb 20) (kn_b (hZ 20)) (Nat.le_trans (show (ZS 20 ((6 * k5) + k12)) - 1 ≤ 99 by omega) (Nat.le_of_eq (nbd_h (j := (6 * k5) + k12) (by omega)).symm))))
        refine lv_aload_n hx hb dX7_loses_54 rfl (lv_at hl 0 rfl) ?_
        refine va_get (D := D) (ci := 7) (v := .ref Za20) (C := RX7) (T := TX7) (N := 29) hx hb hts in_X7_loses_7 hown hK.1 hP 0 rfl rfl 20 (by decide) (hts (.fieldLink RX7 47 "ChildCoinsModel" "now" "[I") (List.mem_of_getElem? (i := 1) rfl)) (fun _ h9 => h9) rfl dX7_loses_55 ?_
        refine lv_bipush (v := nI 6) hx hb dX7_loses_58 (by decide) ?_
        refine lv_iload_n hx hb dX7_loses_60 rfl (lv_at hl 1 rfl) ?_
        refine lv_imul hx hb dX7_loses_61 ?_
        refine set_i (y := nI (6 * k5)) (pk_mul 6 k5) ?_
        refine lv_iload_n hx hb dX7_loses_62 rfl (lv_at hl 2 rfl) ?_
        refine lv_iadd hx hb dX7_loses_63 ?_
        refine set_i (y := nI ((6 * k5) + k12)) (nI_add (6 * k5) k12) ?_
        refine va_iald hx hb hK.1 hP 13 0 rfl rfl (vp_in_nI (n := (6 * k5) + k12) (N := 1191) (by omega) (by decide)) dX7_loses_64 ?_
        refine set_i (y := nI ((un (knN (ZS 20)) ((6 * k5) + k12) ((ZS 20 ((6 * k5) + k12)) - 1)) ((6 * k5) + k12))) (nF_ld (by omega)) ?_
        refine set_i (y := nI ((ZS 20 ((6 * k5) + k12)) - 1)) (congrArg nI un_s) ?_
        exact en_i hx hb hr hlk hP hD hS (ua ZS 20 (un (knN (ZS 20)) ((6 * k5) + k12) ((ZS 20 ((6 * k5) + k12)) - 1))) [0, 1, 2, 3, 4, 5, 6, 7, 8, 9, 10, 11, 12, 13, 14, 15, 16, 17, 18, 19, 20] (by decide) rfl (Nat.le_of_ble_eq_true rfl) (Nat.le_of_ble_eq_true rfl) dX7_loses_65 ⟨(ZP.set (k := 20) (ZP.rf hZ) (by decide) (hzz22 20)), (Or.inr ⟨k5, k12, hq6, hq13, rfl, rfl, Or.inr ⟨by omega, rfl, rfl⟩⟩)⟩
      · skip
        refine lv_bipush (v := -2) hx hb dX7_loses_32 (by decide) ?_
        exact en_i hx hb hr hlk hP hD hS ZS [0, 1, 2, 3, 4, 5, 6, 7, 8, 9, 10, 11, 12, 13, 14, 15, 16, 17, 18, 19, 20] (by decide) rfl (Nat.le_of_ble_eq_true rfl) (Nat.le_of_ble_eq_true rfl) dX7_loses_34 ⟨(ZP.rf hZ), (Or.inr ⟨k5, k12, hq6, hq13, rfl, rfl, Or.inl ⟨by omega, rfl, rfl⟩⟩)⟩
    · skip
      refine nb_if_ne (tgt := 18) hx hb dX7_loses_13 (by decide) (by omega) (fun hq23 => absurd hq23 (by omega)) (fun hq23 => ?_)
      refine lv_iconst (v := -1) hx hb dX7_loses_16 (by decide) ?_
      exact en_i hx hb hr hlk hP hD hS ZS [0, 1, 2, 3, 4, 5, 6, 7, 8, 9, 10, 11, 12, 13, 14, 15, 16, 17, 18, 19, 20] (by decide) rfl (Nat.le_of_ble_eq_true rfl) (Nat.le_of_ble_eq_true rfl) dX7_loses_17 ⟨(ZP.rf hZ), (Or.inl ⟨fun q => hq11 q.2, rfl, rfl⟩)⟩
  · skip
    refine nb_if_eq (tgt := 16) hx hb dX7_loses_5 (by decide) (by omega) (fun hq24 => ?_) (fun hq24 => absurd hq24 (by omega))
    refine lv_iconst (v := -1) hx hb dX7_loses_16 (by decide) ?_
    exact en_i hx hb hr hlk hP hD hS ZS [0, 1, 2, 3, 4, 5, 6, 7, 8, 9, 10, 11, 12, 13, 14, 15, 16, 17, 18, 19, 20] (by decide) rfl (Nat.le_of_ble_eq_true rfl) (Nat.le_of_ble_eq_true rfl) dX7_loses_17 ⟨(ZP.rf hZ), (Or.inl ⟨fun q => hq4 q.1, rfl, rfl⟩)⟩
set_option maxRecDepth 20000 in
theorem dAX7_finds : decA cX7_finds [(0, .aload_n 0, 1), (1, .iload_n 1, 1), (2, .invokevirtual 145, 3), (5, .ifCond .eq 11, 3), (8, .aload_n 0, 1), (9, .iload_n 2, 1), (10, .invokevirtual 142, 3), (13, .ifCond .ne 5, 3), (16, .iconst (-1), 1), (17, .ireturn, 1), (18, .aload_n 0, 1), (19, .getfield 47, 3), (22, .bipush 6, 2), (24, .iload_n 1, 1), (25, .imul, 1), (26, .iload_n 2, 1), (27, .iadd, 1), (28, .iaload, 1), (29, .bipush 99, 2), (31, .if_icmp .ne 6, 3), (34, .bipush (-2), 2), (36, .ireturn, 1), (37, .aload_n 0, 1), (38, .invokevirtual 185, 3), (41, .aload_n 0, 1), (42, .getfield 47, 3), (45, .bipush 6, 2), (47, .iload_n 1, 1), (48, .imul, 1), (49, .iload_n 2, 1), (50, .iadd, 1), (51, .dup2, 1), (52, .iaload, 1), (53, .iconst 1, 1), (54, .iadd, 1), (55, .iastore, 1), (56, .aload_n 0, 1), (57, .getfield 47, 3), (60, .bipush 6, 2), (62, .iload_n 1, 1), (63, .imul, 1), (64, .iload_n 2, 1), (65, .iadd, 1), (66, .iaload, 1), (67, .ireturn, 1)] = true := by decide +kernel
theorem dX7_finds_0 : decode cX7_finds 0 = .ok (.aload_n 0, 1) := decA_get dAX7_finds 0 rfl
theorem dX7_finds_1 : decode cX7_finds 1 = .ok (.iload_n 1, 1) := decA_get dAX7_finds 1 rfl
theorem dX7_finds_2 : decode cX7_finds 2 = .ok (.invokevirtual 145, 3) := decA_get dAX7_finds 2 rfl
set_option maxRecDepth 20000 in
theorem ggX7_finds_X7_isPerson : GoodIn wsX7_finds wsX7_isPerson := gd_ids wi_X7_finds wm_X7_finds wi_X7_isPerson (by decide +kernel)
set_option maxRecDepth 20000 in
theorem gX7_finds_X7_isPerson : GoodIn wsX7_finds (wsV RX7 145 RX7 yX7_isPerson wsX7_isPerson) := goodIn_app (gd_ids wi_X7_finds wm_X7_finds (b := [546, 547, 548, 481]) rfl (by decide +kernel)) ggX7_finds_X7_isPerson
theorem dX7_finds_5 : decode cX7_finds 5 = .ok (.ifCond .eq 11, 3) := decA_get dAX7_finds 3 rfl
theorem dX7_finds_8 : decode cX7_finds 8 = .ok (.aload_n 0, 1) := decA_get dAX7_finds 4 rfl
theorem dX7_finds_9 : decode cX7_finds 9 = .ok (.iload_n 2, 1) := decA_get dAX7_finds 5 rfl
theorem dX7_finds_10 : decode cX7_finds 10 = .ok (.invokevirtual 142, 3) := decA_get dAX7_finds 6 rfl
set_option maxRecDepth 20000 in
theorem ggX7_finds_X7_isCoin : GoodIn wsX7_finds wsX7_isCoin := gd_ids wi_X7_finds wm_X7_finds wi_X7_isCoin (by decide +kernel)
set_option maxRecDepth 20000 in
theorem gX7_finds_X7_isCoin : GoodIn wsX7_finds (wsV RX7 142 RX7 yX7_isCoin wsX7_isCoin) := goodIn_app (gd_ids wi_X7_finds wm_X7_finds (b := [542, 543, 544, 481]) rfl (by decide +kernel)) ggX7_finds_X7_isCoin
theorem dX7_finds_13 : decode cX7_finds 13 = .ok (.ifCond .ne 5, 3) := decA_get dAX7_finds 7 rfl
theorem dX7_finds_18 : decode cX7_finds 18 = .ok (.aload_n 0, 1) := decA_get dAX7_finds 10 rfl
theorem dX7_finds_19 : decode cX7_finds 19 = .ok (.getfield 47, 3) := decA_get dAX7_finds 11 rfl
theorem in_X7_finds_7 : ∀ w ∈ wsX70, w ∈ wsX7_finds := fun w h => (gd_ids wi_X7_finds wm_X7_finds wi_X70 (by decide +kernel) w h).1
theorem dX7_finds_22 : decode cX7_finds 22 = .ok (.bipush 6, 2) := decA_get dAX7_finds 12 rfl
theorem dX7_finds_24 : decode cX7_finds 24 = .ok (.iload_n 1, 1) := decA_get dAX7_finds 13 rfl
theorem dX7_finds_25 : decode cX7_finds 25 = .ok (.imul, 1) := decA_get dAX7_finds 14 rfl
theorem dX7_finds_26 : decode cX7_finds 26 = .ok (.iload_n 2, 1) := decA_get dAX7_finds 15 rfl
theorem dX7_finds_27 : decode cX7_finds 27 = .ok (.iadd, 1) := decA_get dAX7_finds 16 rfl
theorem dX7_finds_28 : decode cX7_finds 28 = .ok (.iaload, 1) := decA_get dAX7_finds 17 rfl
theorem dX7_finds_29 : decode cX7_finds 29 = .ok (.bipush 99, 2) := decA_get dAX7_finds 18 rfl
theorem dX7_finds_31 : decode cX7_finds 31 = .ok (.if_icmp .ne 6, 3) := decA_get dAX7_finds 19 rfl
theorem dX7_finds_37 : decode cX7_finds 37 = .ok (.aload_n 0, 1) := decA_get dAX7_finds 22 rfl
theorem dX7_finds_38 : decode cX7_finds 38 = .ok (.invokevirtual 185, 3) := decA_get dAX7_finds 23 rfl
set_option maxRecDepth 20000 in
theorem ggX7_finds_X7_know : GoodIn wsX7_finds wsX7_know := gd_ids wi_X7_finds wm_X7_finds wi_X7_know (by decide +kernel)
set_option maxRecDepth 20000 in
theorem gX7_finds_X7_know : GoodIn wsX7_finds (wsV RX7 185 RX7 yX7_know wsX7_know) := goodIn_app (gd_ids wi_X7_finds wm_X7_finds (b := [594, 595, 596, 481]) rfl (by decide +kernel)) ggX7_finds_X7_know
theorem dX7_finds_41 : decode cX7_finds 41 = .ok (.aload_n 0, 1) := decA_get dAX7_finds 24 rfl
theorem dX7_finds_42 : decode cX7_finds 42 = .ok (.getfield 47, 3) := decA_get dAX7_finds 25 rfl
theorem dX7_finds_45 : decode cX7_finds 45 = .ok (.bipush 6, 2) := decA_get dAX7_finds 26 rfl
theorem dX7_finds_47 : decode cX7_finds 47 = .ok (.iload_n 1, 1) := decA_get dAX7_finds 27 rfl
theorem dX7_finds_48 : decode cX7_finds 48 = .ok (.imul, 1) := decA_get dAX7_finds 28 rfl
theorem dX7_finds_49 : decode cX7_finds 49 = .ok (.iload_n 2, 1) := decA_get dAX7_finds 29 rfl
theorem dX7_finds_50 : decode cX7_finds 50 = .ok (.iadd, 1) := decA_get dAX7_finds 30 rfl
theorem dX7_finds_51 : decode cX7_finds 51 = .ok (.dup2, 1) := decA_get dAX7_finds 31 rfl
theorem dX7_finds_52 : decode cX7_finds 52 = .ok (.iaload, 1) := decA_get dAX7_finds 32 rfl
theorem dX7_finds_53 : decode cX7_finds 53 = .ok (.iconst 1, 1) := decA_get dAX7_finds 33 rfl
theorem dX7_finds_54 : decode cX7_finds 54 = .ok (.iadd, 1) := decA_get dAX7_finds 34 rfl
theorem dX7_finds_55 : decode cX7_finds 55 = .ok (.iastore, 1) := decA_get dAX7_finds 35 rfl
theorem dX7_finds_56 : decode cX7_finds 56 = .ok (.aload_n 0, 1) := decA_get dAX7_finds 36 rfl
theorem dX7_finds_57 : decode cX7_finds 57 = .ok (.getfield 47, 3) := decA_get dAX7_finds 37 rfl
theorem dX7_finds_60 : decode cX7_finds 60 = .ok (.bipush 6, 2) := decA_get dAX7_finds 38 rfl
theorem dX7_finds_62 : decode cX7_finds 62 = .ok (.iload_n 1, 1) := decA_get dAX7_finds 39 rfl
theorem dX7_finds_63 : decode cX7_finds 63 = .ok (.imul, 1) := decA_get dAX7_finds 40 rfl
theorem dX7_finds_64 : decode cX7_finds 64 = .ok (.iload_n 2, 1) := decA_get dAX7_finds 41 rfl
theorem dX7_finds_65 : decode cX7_finds 65 = .ok (.iadd, 1) := decA_get dAX7_finds 42 rfl
theorem dX7_finds_66 : decode cX7_finds 66 = .ok (.iaload, 1) := decA_get dAX7_finds 43 rfl
theorem dX7_finds_67 : decode cX7_finds 67 = .ok (.ireturn, 1) := decA_get dAX7_finds 44 rfl
theorem dX7_finds_34 : decode cX7_finds 34 = .ok (.bipush (-2), 2) := decA_get dAX7_finds 20 rfl
theorem dX7_finds_36 : decode cX7_finds 36 = .ok (.ireturn, 1) := decA_get dAX7_finds 21 rfl
theorem dX7_finds_16 : decode cX7_finds 16 = .ok (.iconst (-1), 1) := decA_get dAX7_finds 8 rfl
theorem dX7_finds_17 : decode cX7_finds 17 = .ok (.ireturn, 1) := decA_get dAX7_finds 9 rfl
set_option maxHeartbeats 4000000 in
set_option maxRecDepth 100000 in
theorem z_finds (l : Launch) (D : va_G) (cI cB cZ cN : ClassId) (Zh : Nat) (Za1 : Nat) (Za3 : Nat) (Za4 : Nat) (Za5 : Nat) (Za6 : Nat) (Za7 : Nat) (Za8 : Nat) (Za9 : Nat) (Za10 : Nat) (Za11 : Nat) (Za12 : Nat) (Za13 : Nat) (Za20 : Nat) (Za21 : Nat) (Za22 : Nat) (Za23 : Nat) (Za24 : Nat) (Za25 : Nat) (Za26 : Nat) (Za27 : Nat) (Zt : Int64) (ZS : Nat → Nat → Nat) (v_p : Int32) (v_c : Int32) (hZ : ZOk ZS) : Ci (S := (Nat → Nat → Nat)) l D cI cB cZ cN yX7_finds wsX7_finds ({ frames := 2, cells := 0, slots := 0, locals := 43 } : Room) [.ref Zh, .int v_p, .int v_c] [(Zh, .inr (7, [.long Zt, .ref Za1, .int (nI (ZS 2 0)), .ref Za3, .ref Za4, .ref Za5, .ref Za6, .ref Za7, .ref Za8, .ref Za9, .ref Za10, .ref Za11, .ref Za12, .ref Za13, .int (nI (ZS 14 0)), .int (nI (ZS 15 0)), .int (nI (ZS 16 0)), .int (nI (ZS 17 0)), .int (nI (ZS 18 0)), .int (nI (ZS 19 0) - nI 9), .ref Za20, .ref Za21, .ref Za22, .ref Za23, .ref Za24, .ref Za25, .ref Za26, .ref Za27, .int (nI (ZS 28 0))])), (Za1, .inl (cB, 180, .inl (bF (ZS 1)))), (Za3, .inl (cI, 2, .inl (nF (ZS 3)))), (Za4, .inl (cI, 12, .inl (nF (ZS 4)))), (Za5, .inl (cI, 12, .inl (nF (ZS 5)))), (Za6, .inl (cI, 2, .inl (nF (ZS 6)))), (Za7, .inl (cI, 10, .inl (nF (ZS 7)))), (Za8, .inl (cI, 30, .inl (nF (ZS 8)))), (Za9, .inl (cI, 2, .inl (nF (ZS 9)))), (Za10, .inl (cI, 10, .inl (nF (ZS 10)))), (Za11, .inl (cI, 5, .inl (nF (ZS 11)))), (Za12, .inl (cI, 10, .inl (nF (ZS 12)))), (Za13, .inl (cI, 2, .inl (nF (ZS 13)))), (Za20, .inl (cI, 1191, .inl (nF (ZS 20)))), (Za21, .inl (cZ, 2, .inl (nF (ZS 21)))), (Za22, .inl (cI, 36, .inl (nF (ZS 22)))), (Za23, .inl (cI, 6, .inl (nF (ZS 23)))), (Za24, .inl (cI, 427, .inl (nF (ZS 24)))), (Za25, .inl (cI, 6, .inl (nF (ZS 25)))), (Za26, .inl (cI, 5, .inl (nF (ZS 26)))), (Za27, .inl (cI, 6, .inl (nF (ZS 27))))] (fun (r : Int32) (u : (Nat → Nat → Nat)) => ZP [20, 21, 22, 23, 24, 25, 26] u ZS ∧ ((¬ (inN v_p (ZS 6 0) ∧ inN v_c (ZS 3 0)) ∧ r = -1 ∧ u = ZS) ∨ (∃ p c, p < ZS 6 0 ∧ c < ZS 3 0 ∧ v_p = nI p ∧ v_c = nI c ∧ ((ZS 20 (6 * p + c) = 99 ∧ r = -2 ∧ u = ZS) ∨ (ZS 20 (6 * p + c) ≠ 99 ∧ r = nI (ZS 20 (6 * p + c) + 1) ∧ u = ua ZS 20 (un (knN (ZS 20)) (6 * p + c) (ZS 20 (6 * p + c) + 1))))))) (fun u => [(Zh, .inr (7, [.long Zt, .ref Za1, .int (nI (u 2 0)), .ref Za3, .ref Za4, .ref Za5, .ref Za6, .ref Za7, .ref Za8, .ref Za9, .ref Za10, .ref Za11, .ref Za12, .ref Za13, .int (nI (u 14 0)), .int (nI (u 15 0)), .int (nI (u 16 0)), .int (nI (u 17 0)), .int (nI (u 18 0)), .int (nI (u 19 0) - nI 9), .ref Za20, .ref Za21, .ref Za22, .ref Za23, .ref Za24, .ref Za25, .ref Za26, .ref Za27, .int (nI (u 28 0))])), (Za1, .inl (cB, 180, .inl (bF (u 1)))), (Za3, .inl (cI, 2, .inl (nF (u 3)))), (Za4, .inl (cI, 12, .inl (nF (u 4)))), (Za5, .inl (cI, 12, .inl (nF (u 5)))), (Za6, .inl (cI, 2, .inl (nF (u 6)))), (Za7, .inl (cI, 10, .inl (nF (u 7)))), (Za8, .inl (cI, 30, .inl (nF (u 8)))), (Za9, .inl (cI, 2, .inl (nF (u 9)))), (Za10, .inl (cI, 10, .inl (nF (u 10)))), (Za11, .inl (cI, 5, .inl (nF (u 11)))), (Za12, .inl (cI, 10, .inl (nF (u 12)))), (Za13, .inl (cI, 2, .inl (nF (u 13)))), (Za20, .inl (cI, 1191, .inl (nF (u 20)))), (Za21, .inl (cZ, 2, .inl (nF (u 21)))), (Za22, .inl (cI, 36, .inl (nF (u 22)))), (Za23, .inl (cI, 6, .inl (nF (u 23)))), (Za24, .inl (cI, 427, .inl (nF (u 24)))), (Za25, .inl (cI, 6, .inl (nF (u 25)))), (Za26, .inl (cI, 5, .inl (nF (u 26)))), (Za27, .inl (cI, 6, .inl (nF (u 27))))]) := by
  refine bx_of (D := D) (cI := cI) (cB := cB) (cZ := cZ) (cN := cN) (y := yX7_finds) (wd := wsX7_finds) (rm := ({ frames := 2, cells := 0, slots := 0, locals := 43 } : Room)) (av := [.ref Zh, .int v_p, .int v_c]) (wc := [(Zh, .inr (7, [.long Zt, .ref Za1, .int (nI (ZS 2 0)), .ref Za3, .ref Za4, .ref Za5, .ref Za6, .ref Za7, .ref Za8, .ref Za9, .ref Za10, .ref Za11, .ref Za12, .ref Za13, .int (nI (ZS 14 0)), .int (nI (ZS 15 0)), .int (nI (ZS 16 0)), .int (nI (ZS 17 0)), .int (nI (ZS 18 0)), .int (nI (ZS 19 0) - nI 9), .ref Za20, .ref Za21, .ref Za22, .ref Za23, .ref Za24, .ref Za25, .ref Za26, .ref Za27, .int (nI (ZS 28 0))])), (Za1, .inl (cB, 180, .inl (bF (ZS 1)))), (Za3, .inl (cI, 2, .inl (nF (ZS 3)))), (Za4, .inl (cI, 12, .inl (nF (ZS 4)))), (Za5, .inl (cI, 12, .inl (nF (ZS 5)))), (Za6, .inl (cI, 2, .inl (nF (ZS 6)))), (Za7, .inl (cI, 10, .inl (nF (ZS 7)))), (Za8, .inl (cI, 30, .inl (nF (ZS 8)))), (Za9, .inl (cI, 2, .inl (nF (ZS 9)))), (Za10, .inl (cI, 10, .inl (nF (ZS 10)))), (Za11, .inl (cI, 5, .inl (nF (ZS 11)))), (Za12, .inl (cI, 10, .inl (nF (ZS 12)))), (Za13, .inl (cI, 2, .inl (nF (ZS 13)))), (Za20, .inl (cI, 1191, .inl (nF (ZS 20)))), (Za21, .inl (cZ, 2, .inl (nF (ZS 21)))), (Za22, .inl (cI, 36, .inl (nF (ZS 22)))), (Za23, .inl (cI, 6, .inl (nF (ZS 23)))), (Za24, .inl (cI, 427, .inl (nF (ZS 24)))), (Za25, .inl (cI, 6, .inl (nF (ZS 25)))), (Za26, .inl (cI, 5, .inl (nF (ZS 26)))), (Za27, .inl (cI, 6, .inl (nF (ZS 27))))]) (cc := cX7_finds) (maxL := 3) (ret := (some .int)) (Qc := fun _ A => va_Qi (S := (Nat → Nat → Nat)) (fun (r : Int32) (u : (Nat → Nat → Nat)) => ZP [20, 21, 22, 23, 24, 25, 26] u ZS ∧ ((¬ (inN v_p (ZS 6 0) ∧ inN v_c (ZS 3 0)) ∧ r = -1 ∧ u = ZS) ∨ (∃ p c, p < ZS 6 0 ∧ c < ZS 3 0 ∧ v_p = nI p ∧ v_c = nI c ∧ ((ZS 20 (6 * p + c) = 99 ∧ r = -2 ∧ u = ZS) ∨ (ZS 20 (6 * p + c) ≠ 99 ∧ r = nI (ZS 20 (6 * p + c) + 1) ∧ u = ua ZS 20 (un (knN (ZS 20)) (6 * p + c) (ZS 20 (6 * p + c) + 1))))))) (Aft D (fun (u : (Nat → Nat → Nat)) => [(Zh, .inr (7, [.long Zt, .ref Za1, .int (nI (u 2 0)), .ref Za3, .ref Za4, .ref Za5, .ref Za6, .ref Za7, .ref Za8, .ref Za9, .ref Za10, .ref Za11, .ref Za12, .ref Za13, .int (nI (u 14 0)), .int (nI (u 15 0)), .int (nI (u 16 0)), .int (nI (u 17 0)), .int (nI (u 18 0)), .int (nI (u 19 0) - nI 9), .ref Za20, .ref Za21, .ref Za22, .ref Za23, .ref Za24, .ref Za25, .ref Za26, .ref Za27, .int (nI (u 28 0))])), (Za1, .inl (cB, 180, .inl (bF (u 1)))), (Za3, .inl (cI, 2, .inl (nF (u 3)))), (Za4, .inl (cI, 12, .inl (nF (u 4)))), (Za5, .inl (cI, 12, .inl (nF (u 5)))), (Za6, .inl (cI, 2, .inl (nF (u 6)))), (Za7, .inl (cI, 10, .inl (nF (u 7)))), (Za8, .inl (cI, 30, .inl (nF (u 8)))), (Za9, .inl (cI, 2, .inl (nF (u 9)))), (Za10, .inl (cI, 10, .inl (nF (u 10)))), (Za11, .inl (cI, 5, .inl (nF (u 11)))), (Za12, .inl (cI, 10, .inl (nF (u 12)))), (Za13, .inl (cI, 2, .inl (nF (u 13)))), (Za20, .inl (cI, 1191, .inl (nF (u 20)))), (Za21, .inl (cZ, 2, .inl (nF (u 21)))), (Za22, .inl (cI, 36, .inl (nF (u 22)))), (Za23, .inl (cI, 6, .inl (nF (u 23)))), (Za24, .inl (cI, 427, .inl (nF (u 24)))), (Za25, .inl (cI, 6, .inl (nF (u 25)))), (Za26, .inl (cI, 5, .inl (nF (u 26)))), (Za27, .inl (cI, 6, .inl (nF (u 27))))]) A) A) (by decide) rfl (Nat.le_of_ble_eq_true rfl) ?_
  intro p e s m below meth c A H locs ⟨hx, hb, hr, hml, hown, hts, hlk, hnm⟩ hK hP hD hS hA ls hl
  have hl : lv_has ls 3 [(0, .ref Zh), (1, .int v_p), (2, .int v_c)] := hl
  have hown : s.vm.findClass RX7 = some m.cls := hown
  have bz6 : ZS 6 0 ≤ 5 := hZ 6 0
  have bz3 : ZS 3 0 ≤ 6 := hZ 3 0
  have bz9 : ZS 9 0 ≤ 5 := hZ 9 0
  have bz28 : ZS 28 0 ≤ 6 := hZ 28 0
  refine lv_aload_n hx hb dX7_finds_0 rfl (lv_at hl 0 rfl) ?_
  refine lv_iload_n hx hb dX7_finds_1 rfl (lv_at hl 1 rfl) ?_
  refine be_i0 (ru_V (As := [.int v_p]) (rest := []) ⟨hx, hb, hml, hown, hts⟩ (z_isPerson l D cI cB cZ cN Zh Za1 Za3 Za4 Za5 Za6 Za7 Za8 Za9 Za10 Za11 Za12 Za13 Za20 Za21 Za22 Za23 Za24 Za25 Za26 Za27 Zt ZS v_p hZ H.size) gX7_finds_X7_isPerson rfl ⟨rfl, by decide, by decide, (show Option.map (fun d => d.parameters.length) (parseMethodDescriptor yX7_isPerson.desc) = some 1 by decide +kernel)⟩ ⟨Nat.le_of_ble_eq_true rfl, Nat.le_of_ble_eq_true rfl⟩ hK hP hD 7 0 rfl rfl [0, 1, 2, 3, 4, 5, 6, 7, 8, 9, 10, 11, 12, 13, 14, 15, 16, 17, 18, 19, 20] (by decide) rfl hl.1 rfl (Nat.le_of_ble_eq_true rfl) dX7_finds_2 ⟨Nat.le_of_ble_eq_true rfl, Nat.le_of_ble_eq_true rfl⟩) hP hD hS hA [0, 1, 2, 3, 4, 5, 6, 7, 8, 9, 10, 11, 12, 13, 14, 15, 16, 17, 18, 19, 20] rfl (fun r2 u1 H locs w3 hP hS => ?_)
  rcases w3 with ⟨rfl, hq4⟩ | ⟨rfl, hq4⟩
  · obtain ⟨k5, hq6, rfl⟩ := hq4
    refine nb_if_eq (tgt := 16) hx hb dX7_finds_5 (by decide) (by omega) (fun hq7 => absurd hq7 (by omega)) (fun hq7 => ?_)
    refine lv_aload_n hx hb dX7_finds_8 rfl (lv_at hl 0 rfl) ?_
    refine lv_iload_n hx hb dX7_finds_9 rfl (lv_at hl 2 rfl) ?_
    refine be_i0 (ru_V (As := [.int v_c]) (rest := []) ⟨hx, hb, hml, hown, hts⟩ (z_isCoin l D cI cB cZ cN Zh Za1 Za3 Za4 Za5 Za6 Za7 Za8 Za9 Za10 Za11 Za12 Za13 Za20 Za21 Za22 Za23 Za24 Za25 Za26 Za27 Zt ZS v_c hZ H.size) gX7_finds_X7_isCoin rfl ⟨rfl, by decide, by decide, (show Option.map (fun d => d.parameters.length) (parseMethodDescriptor yX7_isCoin.desc) = some 1 by decide +kernel)⟩ ⟨Nat.le_of_ble_eq_true rfl, Nat.le_of_ble_eq_true rfl⟩ hK hP hD 7 0 rfl rfl [0, 1, 2, 3, 4, 5, 6, 7, 8, 9, 10, 11, 12, 13, 14, 15, 16, 17, 18, 19, 20] (by decide) rfl hl.1 rfl (Nat.le_of_ble_eq_true rfl) dX7_finds_10 ⟨Nat.le_of_ble_eq_true rfl, Nat.le_of_ble_eq_true rfl⟩) hP hD hS hA [0, 1, 2, 3, 4, 5, 6, 7, 8, 9, 10, 11, 12, 13, 14, 15, 16, 17, 18, 19, 20] rfl (fun r9 u8 H locs w10 hP hS => ?_)
    rcases w10 with ⟨rfl, hq11⟩ | ⟨rfl, hq11⟩
    · obtain ⟨k12, hq13, rfl⟩ := hq11
      refine nb_if_ne (tgt := 18) hx hb dX7_finds_13 (by decide) (by omega) (fun hq14 => ?_) (fun hq14 => absurd hq14 (by omega))
      refine lv_aload_n hx hb dX7_finds_18 rfl (lv_at hl 0 rfl) ?_
      refine va_get (D := D) (ci := 7) (v := .ref Za20) (C := RX7) (T := TX7) (N := 29) hx hb hts in_X7_finds_7 hown hK.1 hP 0 rfl rfl 20 (by decide) (hts (.fieldLink RX7 47 "ChildCoinsModel" "now" "[I") (List.mem_of_getElem? (i := 1) rfl)) (fun _ h9 => h9) rfl dX7_finds_19 ?_
      refine lv_bipush (v := nI 6) hx hb dX7_finds_22 (by decide) ?_
      refine lv_iload_n hx hb dX7_finds_24 rfl (lv_at hl 1 rfl) ?_
      refine lv_imul hx hb dX7_finds_25 ?_
      refine set_i (y := nI (6 * k5)) (pk_mul 6 k5) ?_
      refine lv_iload_n hx hb dX7_finds_26 rfl (lv_at hl 2 rfl) ?_
      refine lv_iadd hx hb dX7_finds_27 ?_
      refine set_i (y := nI ((6 * k5) + k12)) (nI_add (6 * k5) k12) ?_
      refine va_iald hx hb hK.1 hP 13 0 rfl rfl (vp_in_nI (n := (6 * k5) + k12) (N := 1191) (by omega) (by decide)) dX7_finds_28 ?_
      refine set_i (y := nI (ZS 20 ((6 * k5) + k12))) (nF_ld (by omega)) ?_
      have b15 : ZS 20 ((6 * k5) + k12) ≤ 99 := Nat.le_trans (hZ 20 ((6 * k5) + k12)) (nbd_99 ((6 * k5) + k12))
      refine lv_bipush (v := nI 99) hx hb dX7_finds_29 (by decide) ?_
      refine nb_icmp_ne (tgt := 37) hx hb dX7_finds_31 (by decide) (by omega) (by omega) (fun hq16 => ?_) (fun hq16 => ?_)
      · skip
        refine lv_aload_n hx hb dX7_finds_37 rfl (lv_at hl 0 rfl) ?_
        refine be_v (free := fun _ => False) (wr := []) (ru_V (As := []) (rest := []) ⟨hx, hb, hml, hown, hts⟩ (z_know l D cI cB cZ cN Zh Za1 Za3 Za4 Za5 Za6 Za7 Za8 Za9 Za10 Za11 Za12 Za13 Za20 Za21 Za22 Za23 Za24 Za25 Za26 Za27 Zt ZS hZ H.size) gX7_finds_X7_know rfl ⟨rfl, by decide, by decide, (show Option.map (fun d => d.parameters.length) (parseMethodDescriptor yX7_know.desc) = some 0 by decide +kernel)⟩ ⟨Nat.le_of_ble_eq_true rfl, Nat.le_of_ble_eq_true rfl⟩ hK hP hD 7 0 rfl rfl [0, 1, 2, 3, 4, 5, 6, 7, 8, 9, 10, 11, 12, 13, 14, 15, 16, 17, 18, 19, 20] (by decide) rfl hl.1 rfl (Nat.le_of_ble_eq_true rfl) dX7_finds_38 ⟨Nat.le_of_ble_eq_true rfl, Nat.le_of_ble_eq_true rfl⟩) hP hD hS hA [0, 1, 2, 3, 4, 5, 6, 7, 8, 9, 10, 11, 12, 13, 14, 15, 16, 17, 18, 19, 20] [] rfl rfl (by decide) (by decide) (fun u17 H locs w19 hP hD hS => ?_)
        subst w19
        have hzz20 : ZOk (ua ZS 20 (knN (ZS 20))) := (zok_set (k := 20) hZ (kn_b (hZ 20)))
        obtain ⟨hP, hD⟩ : wPD D A [(Zh, .inr (7, [.long Zt, .ref Za1, .int (nI (ZS 2 0)), .ref Za3, .ref Za4, .ref Za5, .ref Za6, .ref Za7, .ref Za8, .ref Za9, .ref Za10, .ref Za11, .ref Za12, .ref Za13, .int (nI (ZS 14 0)), .int (nI (ZS 15 0)), .int (nI (ZS 16 0)), .int (nI (ZS 17 0)), .int (nI (ZS 18 0)), .int (nI (ZS 19 0) - nI 9), .ref Za20, .ref Za21, .ref Za22, .ref Za23, .ref Za24, .ref Za25, .ref Za26, .ref Za27, .int (nI (ZS 28 0))])), (Za1, .inl (cB, 180, .inl (bF (ZS 1)))), (Za3, .inl (cI, 2, .inl (nF (ZS 3)))), (Za4, .inl (cI, 12, .inl (nF (ZS 4)))), (Za5, .inl (cI, 12, .inl (nF (ZS 5)))), (Za6, .inl (cI, 2, .inl (nF (ZS 6)))), (Za7, .inl (cI, 10, .inl (nF (ZS 7)))), (Za8, .inl (cI, 30, .inl (nF (ZS 8)))), (Za9, .inl (cI, 2, .inl (nF (ZS 9)))), (Za10, .inl (cI, 10, .inl (nF (ZS 10)))), (Za11, .inl (cI, 5, .inl (nF (ZS 11)))), (Za12, .inl (cI, 10, .inl (nF (ZS 12)))), (Za13, .inl (cI, 2, .inl (nF (ZS 13)))), (Za20, .inl (cI, 1191, .inl (nF (knN (ZS 20))))), (Za21, .inl (cZ, 2, .inl (nF (ZS 21)))), (Za22, .inl (cI, 36, .inl (nF (ZS 22)))), (Za23, .inl (cI, 6, .inl (nF (ZS 23)))), (Za24, .inl (cI, 427, .inl (nF (ZS 24)))), (Za25, .inl (cI, 6, .inl (nF (ZS 25)))), (Za26, .inl (cI, 5, .inl (nF (ZS 26)))), (Za27, .inl (cI, 6, .inl (nF (ZS 27))))] H := ⟨hP, hD⟩
        refine lv_aload_n hx hb dX7_finds_41 rfl (lv_at hl 0 rfl) ?_
        refine va_get (D := D) (ci := 7) (v := .ref Za20) (C := RX7) (T := TX7) (N := 29) hx hb hts in_X7_finds_7 hown hK.1 hP 0 rfl rfl 20 (by decide) (hts (.fieldLink RX7 47 "ChildCoinsModel" "now" "[I") (List.mem_of_getElem? (i := 1) rfl)) (fun _ h9 => h9) rfl dX7_finds_42 ?_
        refine lv_bipush (v := nI 6) hx hb dX7_finds_45 (by decide) ?_
        refine lv_iload_n hx hb dX7_finds_47 rfl (lv_at hl 1 rfl) ?_
        refine lv_imul hx hb dX7_finds_48 ?_
        refine set_i (y := nI (6 * k5)) (pk_mul 6 k5) ?_
        refine lv_iload_n hx hb dX7_finds_49 rfl (lv_at hl 2 rfl) ?_
        refine lv_iadd hx hb dX7_finds_50 ?_
        refine set_i (y := nI ((6 * k5) + k12)) (nI_add (6 * k5) k12) ?_
        refine lv_dup2_11 hx hb dX7_finds_51 rfl rfl ?_
        refine va_iald hx hb hK.1 hP 13 0 rfl rfl (vp_in_nI (n := (6 * k5) + k12) (N := 1191) (by omega) (by decide)) dX7_finds_52 ?_
        refine set_i (y := nI ((knN (ZS 20)) ((6 * k5) + k12))) (nF_ld (by omega)) ?_
        refine set_i (y := nI (ZS 20 ((6 * k5) + k12))) (congrArg nI (by rw [kn_lo (by omega)])) ?_
        have b21 : ZS 20 ((6 * k5) + k12) ≤ 99 := Nat.le_trans (hZ 20 ((6 * k5) + k12)) (nbd_99 ((6 * k5) + k12))
        refine lv_iconst (v := nI 1) hx hb dX7_finds_53 (by decide) ?_
        refine lv_iadd hx hb dX7_finds_54 ?_
        refine set_i (y := nI ((ZS 20 ((6 * k5) + k12)) + 1)) (nI_add (ZS 20 ((6 * k5) + k12)) 1) ?_
        refine va_iast hx hb hK.1 hP hD hS 13 0 rfl rfl (vp_in_nI (n := (6 * k5) + k12) (N := 1191) (by omega) (by decide)) dX7_finds_55 (fun H locs hP hD hS => ?_)
        obtain ⟨hP, hD⟩ : wPD D A [(Zh, .inr (7, [.long Zt, .ref Za1, .int (nI (ZS 2 0)), .ref Za3, .ref Za4, .ref Za5, .ref Za6, .ref Za7, .ref Za8, .ref Za9, .ref Za10, .ref Za11, .ref Za12, .ref Za13, .int (nI (ZS 14 0)), .int (nI (ZS 15 0)), .int (nI (ZS 16 0)), .int (nI (ZS 17 0)), .int (nI (ZS 18 0)), .int (nI (ZS 19 0) - nI 9), .ref Za20, .ref Za21, .ref Za22, .ref Za23, .ref Za24, .ref Za25, .ref Za26, .ref Za27, .int (nI (ZS 28 0))])), (Za1, .inl (cB, 180, .inl (bF (ZS 1)))), (Za3, .inl (cI, 2, .inl (nF (ZS 3)))), (Za4, .inl (cI, 12, .inl (nF (ZS 4)))), (Za5, .inl (cI, 12, .inl (nF (ZS 5)))), (Za6, .inl (cI, 2, .inl (nF (ZS 6)))), (Za7, .inl (cI, 10, .inl (nF (ZS 7)))), (Za8, .inl (cI, 30, .inl (nF (ZS 8)))), (Za9, .inl (cI, 2, .inl (nF (ZS 9)))), (Za10, .inl (cI, 10, .inl (nF (ZS 10)))), (Za11, .inl (cI, 5, .inl (nF (ZS 11)))), (Za12, .inl (cI, 10, .inl (nF (ZS 12)))), (Za13, .inl (cI, 2, .inl (nF (ZS 13)))), (Za20, .inl (cI, 1191, .inl (upd (nF (knN (ZS 20))) (nI ((6 * k5) + k12)).toNatClampNeg (nI ((ZS 20 ((6 * k5) + k12)) + 1))))), (Za21, .inl (cZ, 2, .inl (nF (ZS 21)))), (Za22, .inl (cI, 36, .inl (nF (ZS 22)))), (Za23, .inl (cI, 6, .inl (nF (ZS 23)))), (Za24, .inl (cI, 427, .inl (nF (ZS 24)))), (Za25, .inl (cI, 6, .inl (nF (ZS 25)))), (Za26, .inl (cI, 5, .inl (nF (ZS 26)))), (Za27, .inl (cI, 6, .inl (nF (ZS 27))))] H := ⟨hP, hD⟩
        rw [nF_st (by omega)] at hP hD
        have hzz22 : ZOk (ua ZS 20 (un (knN (ZS 20)) ((6 * k5) + k12) ((ZS 20 ((6 * k5) + k12)) + 1))) := (zok_set (k := 20) hZ (un_zb (f := zb 20) (kn_b (hZ 20)) (Nat.le_trans (show (ZS 20 ((6 * k5) + k12)) + 1 ≤ 99 by omega) (Nat.le_of_eq (nbd_h (j := (6 * k5) + k12) (by omega)).symm))))
        refine lv_aload_n hx hb dX7_finds_56 rfl (lv_at hl 0 rfl) ?_
        refine va_get (D := D) (ci := 7) (v := .ref Za20) (C := RX7) (T := TX7) (N := 29) hx hb hts in_X7_finds_7 hown hK.1 hP 0 rfl rfl 20 (by decide) (hts (.fieldLink RX7 47 "ChildCoinsModel" "now" "[I") (List.mem_of_getElem? (i := 1) rfl)) (fun _ h9 => h9) rfl dX7_finds_57 ?_
        refine lv_bipush (v := nI 6) hx hb dX7_finds_60 (by decide) ?_
        refine lv_iload_n hx hb dX7_finds_62 rfl (lv_at hl 1 rfl) ?_
        refine lv_imul hx hb dX7_finds_63 ?_
        refine set_i (y := nI (6 * k5)) (pk_mul 6 k5) ?_
        refine lv_iload_n hx hb dX7_finds_64 rfl (lv_at hl 2 rfl) ?_
        refine lv_iadd hx hb dX7_finds_65 ?_
        refine set_i (y := nI ((6 * k5) + k12)) (nI_add (6 * k5) k12) ?_
        refine va_iald hx hb hK.1 hP 13 0 rfl rfl (vp_in_nI (n := (6 * k5) + k12) (N := 1191) (by omega) (by decide)) dX7_finds_66 ?_
        refine set_i (y := nI ((un (knN (ZS 20)) ((6 * k5) + k12) ((ZS 20 ((6 * k5) + k12)) + 1)) ((6 * k5) + k12))) (nF_ld (by omega)) ?_
        refine set_i (y := nI ((ZS 20 ((6 * k5) + k12)) + 1)) (congrArg nI un_s) ?_
        exact en_i hx hb hr hlk hP hD hS (ua ZS 20 (un (knN (ZS 20)) ((6 * k5) + k12) ((ZS 20 ((6 * k5) + k12)) + 1))) [0, 1, 2, 3, 4, 5, 6, 7, 8, 9, 10, 11, 12, 13, 14, 15, 16, 17, 18, 19, 20] (by decide) rfl (Nat.le_of_ble_eq_true rfl) (Nat.le_of_ble_eq_true rfl) dX7_finds_67 ⟨(ZP.set (k := 20) (ZP.rf hZ) (by decide) (hzz22 20)), (Or.inr ⟨k5, k12, hq6, hq13, rfl, rfl, Or.inr ⟨by omega, rfl, rfl⟩⟩)⟩
      · skip
        refine lv_bipush (v := -2) hx hb dX7_finds_34 (by decide) ?_
        exact en_i hx hb hr hlk hP hD hS ZS [0, 1, 2, 3, 4, 5, 6, 7, 8, 9, 10, 11, 12, 13, 14, 15, 16, 17, 18, 19, 20] (by decide) rfl (Nat.le_of_ble_eq_true rfl) (Nat.le_of_ble_eq_true rfl) dX7_finds_36 ⟨(ZP.rf hZ), (Or.inr ⟨k5, k12, hq6, hq13, rfl, rfl, Or.inl ⟨by omega, rfl, rfl⟩⟩)⟩
    · skip
      refine nb_if_ne (tgt := 18) hx hb dX7_finds_13 (by decide) (by omega) (fun hq23 => absurd hq23 (by omega)) (fun hq23 => ?_)
      refine lv_iconst (v := -1) hx hb dX7_finds_16 (by decide) ?_
      exact en_i hx hb hr hlk hP hD hS ZS [0, 1, 2, 3, 4, 5, 6, 7, 8, 9, 10, 11, 12, 13, 14, 15, 16, 17, 18, 19, 20] (by decide) rfl (Nat.le_of_ble_eq_true rfl) (Nat.le_of_ble_eq_true rfl) dX7_finds_17 ⟨(ZP.rf hZ), (Or.inl ⟨fun q => hq11 q.2, rfl, rfl⟩)⟩
  · skip
    refine nb_if_eq (tgt := 16) hx hb dX7_finds_5 (by decide) (by omega) (fun hq24 => ?_) (fun hq24 => absurd hq24 (by omega))
    refine lv_iconst (v := -1) hx hb dX7_finds_16 (by decide) ?_
    exact en_i hx hb hr hlk hP hD hS ZS [0, 1, 2, 3, 4, 5, 6, 7, 8, 9, 10, 11, 12, 13, 14, 15, 16, 17, 18, 19, 20] (by decide) rfl (Nat.le_of_ble_eq_true rfl) (Nat.le_of_ble_eq_true rfl) dX7_finds_17 ⟨(ZP.rf hZ), (Or.inl ⟨fun q => hq4 q.1, rfl, rfl⟩)⟩
set_option maxRecDepth 20000 in
theorem dAX7_passes : decA cX7_passes [(0, .aload_n 0, 1), (1, .iload_n 1, 1), (2, .invokevirtual 165, 3), (5, .ifCond .eq 11, 3), (8, .aload_n 0, 1), (9, .iload_n 2, 1), (10, .invokevirtual 145, 3), (13, .ifCond .ne 5, 3), (16, .iconst (-1), 1), (17, .ireturn, 1), (18, .aload_n 0, 1), (19, .getfield 47, 3), (22, .bipush 30, 2), (24, .iload_n 1, 1), (25, .iadd, 1), (26, .iaload, 1), (27, .istore_n 3, 1), (28, .aload_n 0, 1), (29, .aload_n 0, 1), (30, .getfield 47, 3), (33, .iload_n 1, 1), (34, .invokevirtual 168, 3), (37, .ifCond .eq 18, 3), (40, .iload_n 2, 1), (41, .aload_n 0, 1), (42, .getfield 35, 3), (45, .iload_n 1, 1), (46, .iaload, 1), (47, .if_icmp .eq 8, 3), (50, .iload_n 2, 1), (51, .iload_n 3, 1), (52, .if_icmp .ne 6, 3), (55, .bipush (-2), 2), (57, .ireturn, 1), (58, .aload_n 0, 1), (59, .invokevirtual 185, 3), (62, .aload_n 0, 1), (63, .getfield 47, 3), (66, .bipush 30, 2), (68, .iload_n 1, 1), (69, .iadd, 1), (70, .iload_n 2, 1), (71, .iastore, 1), (72, .iload_n 3, 1), (73, .ireturn, 1)] = true := by decide +kernel
theorem dX7_passes_0 : decode cX7_passes 0 = .ok (.aload_n 0, 1) := decA_get dAX7_passes 0 rfl
theorem dX7_passes_1 : decode cX7_passes 1 = .ok (.iload_n 1, 1) := decA_get dAX7_passes 1 rfl
theorem dX7_passes_2 : decode cX7_passes 2 = .ok (.invokevirtual 165, 3) := decA_get dAX7_passes 2 rfl
set_option maxRecDepth 20000 in
theorem ggX7_passes_X7_isDebt : GoodIn wsX7_passes wsX7_isDebt := gd_ids wi_X7_passes wm_X7_passes wi_X7_isDebt (by decide +kernel)
set_option maxRecDepth 20000 in
theorem gX7_passes_X7_isDebt : GoodIn wsX7_passes (wsV RX7 165 RX7 yX7_isDebt wsX7_isDebt) := goodIn_app (gd_ids wi_X7_passes wm_X7_passes (b := [572, 573, 574, 481]) rfl (by decide +kernel)) ggX7_passes_X7_isDebt
theorem dX7_passes_5 : decode cX7_passes 5 = .ok (.ifCond .eq 11, 3) := decA_get dAX7_passes 3 rfl
theorem dX7_passes_8 : decode cX7_passes 8 = .ok (.aload_n 0, 1) := decA_get dAX7_passes 4 rfl
theorem dX7_passes_9 : decode cX7_passes 9 = .ok (.iload_n 2, 1) := decA_get dAX7_passes 5 rfl
theorem dX7_passes_10 : decode cX7_passes 10 = .ok (.invokevirtual 145, 3) := decA_get dAX7_passes 6 rfl
set_option maxRecDepth 20000 in
theorem ggX7_passes_X7_isPerson : GoodIn wsX7_passes wsX7_isPerson := gd_ids wi_X7_passes wm_X7_passes wi_X7_isPerson (by decide +kernel)
set_option maxRecDepth 20000 in
theorem gX7_passes_X7_isPerson : GoodIn wsX7_passes (wsV RX7 145 RX7 yX7_isPerson wsX7_isPerson) := goodIn_app (gd_ids wi_X7_passes wm_X7_passes (b := [546, 547, 548, 481]) rfl (by decide +kernel)) ggX7_passes_X7_isPerson
theorem dX7_passes_13 : decode cX7_passes 13 = .ok (.ifCond .ne 5, 3) := decA_get dAX7_passes 7 rfl
theorem dX7_passes_18 : decode cX7_passes 18 = .ok (.aload_n 0, 1) := decA_get dAX7_passes 10 rfl
theorem dX7_passes_19 : decode cX7_passes 19 = .ok (.getfield 47, 3) := decA_get dAX7_passes 11 rfl
theorem in_X7_passes_7 : ∀ w ∈ wsX70, w ∈ wsX7_passes := fun w h => (gd_ids wi_X7_passes wm_X7_passes wi_X70 (by decide +kernel) w h).1
theorem dX7_passes_22 : decode cX7_passes 22 = .ok (.bipush 30, 2) := decA_get dAX7_passes 12 rfl
theorem dX7_passes_24 : decode cX7_passes 24 = .ok (.iload_n 1, 1) := decA_get dAX7_passes 13 rfl
theorem dX7_passes_25 : decode cX7_passes 25 = .ok (.iadd, 1) := decA_get dAX7_passes 14 rfl
theorem dX7_passes_26 : decode cX7_passes 26 = .ok (.iaload, 1) := decA_get dAX7_passes 15 rfl
theorem dX7_passes_27 : decode cX7_passes 27 = .ok (.istore_n 3, 1) := decA_get dAX7_passes 16 rfl
theorem dX7_passes_28 : decode cX7_passes 28 = .ok (.aload_n 0, 1) := decA_get dAX7_passes 17 rfl
theorem dX7_passes_29 : decode cX7_passes 29 = .ok (.aload_n 0, 1) := decA_get dAX7_passes 18 rfl
theorem dX7_passes_30 : decode cX7_passes 30 = .ok (.getfield 47, 3) := decA_get dAX7_passes 19 rfl
theorem dX7_passes_33 : decode cX7_passes 33 = .ok (.iload_n 1, 1) := decA_get dAX7_passes 20 rfl
theorem dX7_passes_34 : decode cX7_passes 34 = .ok (.invokevirtual 168, 3) := decA_get dAX7_passes 21 rfl
set_option maxRecDepth 20000 in
theorem ggX7_passes_X7_isOpen : GoodIn wsX7_passes wsX7_isOpen := gd_ids wi_X7_passes wm_X7_passes wi_X7_isOpen (by decide +kernel)
set_option maxRecDepth 20000 in
theorem gX7_passes_X7_isOpen : GoodIn wsX7_passes (wsV RX7 168 RX7 yX7_isOpen wsX7_isOpen) := goodIn_app (gd_ids wi_X7_passes wm_X7_passes (b := [575, 576, 577, 481]) rfl (by decide +kernel)) ggX7_passes_X7_isOpen
theorem dX7_passes_37 : decode cX7_passes 37 = .ok (.ifCond .eq 18, 3) := decA_get dAX7_passes 22 rfl
theorem dX7_passes_55 : decode cX7_passes 55 = .ok (.bipush (-2), 2) := decA_get dAX7_passes 32 rfl
theorem dX7_passes_57 : decode cX7_passes 57 = .ok (.ireturn, 1) := decA_get dAX7_passes 33 rfl
theorem dX7_passes_40 : decode cX7_passes 40 = .ok (.iload_n 2, 1) := decA_get dAX7_passes 23 rfl
theorem dX7_passes_41 : decode cX7_passes 41 = .ok (.aload_n 0, 1) := decA_get dAX7_passes 24 rfl
theorem dX7_passes_42 : decode cX7_passes 42 = .ok (.getfield 35, 3) := decA_get dAX7_passes 25 rfl
theorem dX7_passes_45 : decode cX7_passes 45 = .ok (.iload_n 1, 1) := decA_get dAX7_passes 26 rfl
theorem dX7_passes_46 : decode cX7_passes 46 = .ok (.iaload, 1) := decA_get dAX7_passes 27 rfl
theorem dX7_passes_47 : decode cX7_passes 47 = .ok (.if_icmp .eq 8, 3) := decA_get dAX7_passes 28 rfl
theorem dX7_passes_50 : decode cX7_passes 50 = .ok (.iload_n 2, 1) := decA_get dAX7_passes 29 rfl
theorem dX7_passes_51 : decode cX7_passes 51 = .ok (.iload_n 3, 1) := decA_get dAX7_passes 30 rfl
theorem dX7_passes_52 : decode cX7_passes 52 = .ok (.if_icmp .ne 6, 3) := decA_get dAX7_passes 31 rfl
theorem dX7_passes_58 : decode cX7_passes 58 = .ok (.aload_n 0, 1) := decA_get dAX7_passes 34 rfl
theorem dX7_passes_59 : decode cX7_passes 59 = .ok (.invokevirtual 185, 3) := decA_get dAX7_passes 35 rfl
set_option maxRecDepth 20000 in
theorem ggX7_passes_X7_know : GoodIn wsX7_passes wsX7_know := gd_ids wi_X7_passes wm_X7_passes wi_X7_know (by decide +kernel)
set_option maxRecDepth 20000 in
theorem gX7_passes_X7_know : GoodIn wsX7_passes (wsV RX7 185 RX7 yX7_know wsX7_know) := goodIn_app (gd_ids wi_X7_passes wm_X7_passes (b := [594, 595, 596, 481]) rfl (by decide +kernel)) ggX7_passes_X7_know
theorem dX7_passes_62 : decode cX7_passes 62 = .ok (.aload_n 0, 1) := decA_get dAX7_passes 36 rfl
theorem dX7_passes_63 : decode cX7_passes 63 = .ok (.getfield 47, 3) := decA_get dAX7_passes 37 rfl
theorem dX7_passes_66 : decode cX7_passes 66 = .ok (.bipush 30, 2) := decA_get dAX7_passes 38 rfl
theorem dX7_passes_68 : decode cX7_passes 68 = .ok (.iload_n 1, 1) := decA_get dAX7_passes 39 rfl
theorem dX7_passes_69 : decode cX7_passes 69 = .ok (.iadd, 1) := decA_get dAX7_passes 40 rfl
theorem dX7_passes_70 : decode cX7_passes 70 = .ok (.iload_n 2, 1) := decA_get dAX7_passes 41 rfl
theorem dX7_passes_71 : decode cX7_passes 71 = .ok (.iastore, 1) := decA_get dAX7_passes 42 rfl
theorem dX7_passes_72 : decode cX7_passes 72 = .ok (.iload_n 3, 1) := decA_get dAX7_passes 43 rfl
theorem dX7_passes_73 : decode cX7_passes 73 = .ok (.ireturn, 1) := decA_get dAX7_passes 44 rfl
theorem dX7_passes_16 : decode cX7_passes 16 = .ok (.iconst (-1), 1) := decA_get dAX7_passes 8 rfl
theorem dX7_passes_17 : decode cX7_passes 17 = .ok (.ireturn, 1) := decA_get dAX7_passes 9 rfl
set_option maxHeartbeats 4000000 in
set_option maxRecDepth 100000 in
theorem z_passes (l : Launch) (D : va_G) (cI cB cZ cN : ClassId) (Zh : Nat) (Za1 : Nat) (Za3 : Nat) (Za4 : Nat) (Za5 : Nat) (Za6 : Nat) (Za7 : Nat) (Za8 : Nat) (Za9 : Nat) (Za10 : Nat) (Za11 : Nat) (Za12 : Nat) (Za13 : Nat) (Za20 : Nat) (Za21 : Nat) (Za22 : Nat) (Za23 : Nat) (Za24 : Nat) (Za25 : Nat) (Za26 : Nat) (Za27 : Nat) (Zt : Int64) (ZS : Nat → Nat → Nat) (v_d : Int32) (v_p : Int32) (hZ : ZOk ZS) : Ci (S := (Nat → Nat → Nat)) l D cI cB cZ cN yX7_passes wsX7_passes ({ frames := 2, cells := 0, slots := 0, locals := 43 } : Room) [.ref Zh, .int v_d, .int v_p] [(Zh, .inr (7, [.long Zt, .ref Za1, .int (nI (ZS 2 0)), .ref Za3, .ref Za4, .ref Za5, .ref Za6, .ref Za7, .ref Za8, .ref Za9, .ref Za10, .ref Za11, .ref Za12, .ref Za13, .int (nI (ZS 14 0)), .int (nI (ZS 15 0)), .int (nI (ZS 16 0)), .int (nI (ZS 17 0)), .int (nI (ZS 18 0)), .int (nI (ZS 19 0) - nI 9), .ref Za20, .ref Za21, .ref Za22, .ref Za23, .ref Za24, .ref Za25, .ref Za26, .ref Za27, .int (nI (ZS 28 0))])), (Za1, .inl (cB, 180, .inl (bF (ZS 1)))), (Za3, .inl (cI, 2, .inl (nF (ZS 3)))), (Za4, .inl (cI, 12, .inl (nF (ZS 4)))), (Za5, .inl (cI, 12, .inl (nF (ZS 5)))), (Za6, .inl (cI, 2, .inl (nF (ZS 6)))), (Za7, .inl (cI, 10, .inl (nF (ZS 7)))), (Za8, .inl (cI, 30, .inl (nF (ZS 8)))), (Za9, .inl (cI, 2, .inl (nF (ZS 9)))), (Za10, .inl (cI, 10, .inl (nF (ZS 10)))), (Za11, .inl (cI, 5, .inl (nF (ZS 11)))), (Za12, .inl (cI, 10, .inl (nF (ZS 12)))), (Za13, .inl (cI, 2, .inl (nF (ZS 13)))), (Za20, .inl (cI, 1191, .inl (nF (ZS 20)))), (Za21, .inl (cZ, 2, .inl (nF (ZS 21)))), (Za22, .inl (cI, 36, .inl (nF (ZS 22)))), (Za23, .inl (cI, 6, .inl (nF (ZS 23)))), (Za24, .inl (cI, 427, .inl (nF (ZS 24)))), (Za25, .inl (cI, 6, .inl (nF (ZS 25)))), (Za26, .inl (cI, 5, .inl (nF (ZS 26)))), (Za27, .inl (cI, 6, .inl (nF (ZS 27))))] (fun (r : Int32) (u : (Nat → Nat → Nat)) => ZP [20, 21, 22, 23, 24, 25, 26] u ZS ∧ ((¬ (inN v_d (ZS 9 0) ∧ inN v_p (ZS 6 0)) ∧ r = -1 ∧ u = ZS) ∨ (∃ d p, d < ZS 9 0 ∧ p < ZS 6 0 ∧ v_d = nI d ∧ v_p = nI p ∧ ((¬ (ZS 20 35 / 2 ^ d % 2 = 1 ∧ p ≠ ZS 10 d ∧ p ≠ ZS 20 (30 + d)) ∧ r = -2 ∧ u = ZS) ∨ ((ZS 20 35 / 2 ^ d % 2 = 1 ∧ p ≠ ZS 10 d ∧ p ≠ ZS 20 (30 + d)) ∧ r = nI (ZS 20 (30 + d)) ∧ u = ua ZS 20 (un (knN (ZS 20)) (30 + d) p)))))) (fun u => [(Zh, .inr (7, [.long Zt, .ref Za1, .int (nI (u 2 0)), .ref Za3, .ref Za4, .ref Za5, .ref Za6, .ref Za7, .ref Za8, .ref Za9, .ref Za10, .ref Za11, .ref Za12, .ref Za13, .int (nI (u 14 0)), .int (nI (u 15 0)), .int (nI (u 16 0)), .int (nI (u 17 0)), .int (nI (u 18 0)), .int (nI (u 19 0) - nI 9), .ref Za20, .ref Za21, .ref Za22, .ref Za23, .ref Za24, .ref Za25, .ref Za26, .ref Za27, .int (nI (u 28 0))])), (Za1, .inl (cB, 180, .inl (bF (u 1)))), (Za3, .inl (cI, 2, .inl (nF (u 3)))), (Za4, .inl (cI, 12, .inl (nF (u 4)))), (Za5, .inl (cI, 12, .inl (nF (u 5)))), (Za6, .inl (cI, 2, .inl (nF (u 6)))), (Za7, .inl (cI, 10, .inl (nF (u 7)))), (Za8, .inl (cI, 30, .inl (nF (u 8)))), (Za9, .inl (cI, 2, .inl (nF (u 9)))), (Za10, .inl (cI, 10, .inl (nF (u 10)))), (Za11, .inl (cI, 5, .inl (nF (u 11)))), (Za12, .inl (cI, 10, .inl (nF (u 12)))), (Za13, .inl (cI, 2, .inl (nF (u 13)))), (Za20, .inl (cI, 1191, .inl (nF (u 20)))), (Za21, .inl (cZ, 2, .inl (nF (u 21)))), (Za22, .inl (cI, 36, .inl (nF (u 22)))), (Za23, .inl (cI, 6, .inl (nF (u 23)))), (Za24, .inl (cI, 427, .inl (nF (u 24)))), (Za25, .inl (cI, 6, .inl (nF (u 25)))), (Za26, .inl (cI, 5, .inl (nF (u 26)))), (Za27, .inl (cI, 6, .inl (nF (u 27))))]) := by
  refine bx_of (D := D) (cI := cI) (cB := cB) (cZ := cZ) (cN := cN) (y := yX7_passes) (wd := wsX7_passes) (rm := ({ frames := 2, cells := 0, slots := 0, locals := 43 } : Room)) (av := [.ref Zh, .int v_d, .int v_p]) (wc := [(Zh, .inr (7, [.long Zt, .ref Za1, .int (nI (ZS 2 0)), .ref Za3, .ref Za4, .ref Za5, .ref Za6, .ref Za7, .ref Za8, .ref Za9, .ref Za10, .ref Za11, .ref Za12, .ref Za13, .int (nI (ZS 14 0)), .int (nI (ZS 15 0)), .int (nI (ZS 16 0)), .int (nI (ZS 17 0)), .int (nI (ZS 18 0)), .int (nI (ZS 19 0) - nI 9), .ref Za20, .ref Za21, .ref Za22, .ref Za23, .ref Za24, .ref Za25, .ref Za26, .ref Za27, .int (nI (ZS 28 0))])), (Za1, .inl (cB, 180, .inl (bF (ZS 1)))), (Za3, .inl (cI, 2, .inl (nF (ZS 3)))), (Za4, .inl (cI, 12, .inl (nF (ZS 4)))), (Za5, .inl (cI, 12, .inl (nF (ZS 5)))), (Za6, .inl (cI, 2, .inl (nF (ZS 6)))), (Za7, .inl (cI, 10, .inl (nF (ZS 7)))), (Za8, .inl (cI, 30, .inl (nF (ZS 8)))), (Za9, .inl (cI, 2, .inl (nF (ZS 9)))), (Za10, .inl (cI, 10, .inl (nF (ZS 10)))), (Za11, .inl (cI, 5, .inl (nF (ZS 11)))), (Za12, .inl (cI, 10, .inl (nF (ZS 12)))), (Za13, .inl (cI, 2, .inl (nF (ZS 13)))), (Za20, .inl (cI, 1191, .inl (nF (ZS 20)))), (Za21, .inl (cZ, 2, .inl (nF (ZS 21)))), (Za22, .inl (cI, 36, .inl (nF (ZS 22)))), (Za23, .inl (cI, 6, .inl (nF (ZS 23)))), (Za24, .inl (cI, 427, .inl (nF (ZS 24)))), (Za25, .inl (cI, 6, .inl (nF (ZS 25)))), (Za26, .inl (cI, 5, .inl (nF (ZS 26)))), (Za27, .inl (cI, 6, .inl (nF (ZS 27))))]) (cc := cX7_passes) (maxL := 4) (ret := (some .int)) (Qc := fun _ A => va_Qi (S := (Nat → Nat → Nat)) (fun (r : Int32) (u : (Nat → Nat → Nat)) => ZP [20, 21, 22, 23, 24, 25, 26] u ZS ∧ ((¬ (inN v_d (ZS 9 0) ∧ inN v_p (ZS 6 0)) ∧ r = -1 ∧ u = ZS) ∨ (∃ d p, d < ZS 9 0 ∧ p < ZS 6 0 ∧ v_d = nI d ∧ v_p = nI p ∧ ((¬ (ZS 20 35 / 2 ^ d % 2 = 1 ∧ p ≠ ZS 10 d ∧ p ≠ ZS 20 (30 + d)) ∧ r = -2 ∧ u = ZS) ∨ ((ZS 20 35 / 2 ^ d % 2 = 1 ∧ p ≠ ZS 10 d ∧ p ≠ ZS 20 (30 + d)) ∧ r = nI (ZS 20 (30 + d)) ∧ u = ua ZS 20 (un (knN (ZS 20)) (30 + d) p)))))) (Aft D (fun (u : (Nat → Nat → Nat)) => [(Zh, .inr (7, [.long Zt, .ref Za1, .int (nI (u 2 0)), .ref Za3, .ref Za4, .ref Za5, .ref Za6, .ref Za7, .ref Za8, .ref Za9, .ref Za10, .ref Za11, .ref Za12, .ref Za13, .int (nI (u 14 0)), .int (nI (u 15 0)), .int (nI (u 16 0)), .int (nI (u 17 0)), .int (nI (u 18 0)), .int (nI (u 19 0) - nI 9), .ref Za20, .ref Za21, .ref Za22, .ref Za23, .ref Za24, .ref Za25, .ref Za26, .ref Za27, .int (nI (u 28 0))])), (Za1, .inl (cB, 180, .inl (bF (u 1)))), (Za3, .inl (cI, 2, .inl (nF (u 3)))), (Za4, .inl (cI, 12, .inl (nF (u 4)))), (Za5, .inl (cI, 12, .inl (nF (u 5)))), (Za6, .inl (cI, 2, .inl (nF (u 6)))), (Za7, .inl (cI, 10, .inl (nF (u 7)))), (Za8, .inl (cI, 30, .inl (nF (u 8)))), (Za9, .inl (cI, 2, .inl (nF (u 9)))), (Za10, .inl (cI, 10, .inl (nF (u 10)))), (Za11, .inl (cI, 5, .inl (nF (u 11)))), (Za12, .inl (cI, 10, .inl (nF (u 12)))), (Za13, .inl (cI, 2, .inl (nF (u 13)))), (Za20, .inl (cI, 1191, .inl (nF (u 20)))), (Za21, .inl (cZ, 2, .inl (nF (u 21)))), (Za22, .inl (cI, 36, .inl (nF (u 22)))), (Za23, .inl (cI, 6, .inl (nF (u 23)))), (Za24, .inl (cI, 427, .inl (nF (u 24)))), (Za25, .inl (cI, 6, .inl (nF (u 25)))), (Za26, .inl (cI, 5, .inl (nF (u 26)))), (Za27, .inl (cI, 6, .inl (nF (u 27))))]) A) A) (by decide) rfl (Nat.le_of_ble_eq_true rfl) ?_
  intro p e s m below meth c A H locs ⟨hx, hb, hr, hml, hown, hts, hlk, hnm⟩ hK hP hD hS hA ls hl
  have hl : lv_has ls 4 [(0, .ref Zh), (1, .int v_d), (2, .int v_p)] := hl
  have hown : s.vm.findClass RX7 = some m.cls := hown
  have bz6 : ZS 6 0 ≤ 5 := hZ 6 0
  have bz3 : ZS 3 0 ≤ 6 := hZ 3 0
  have bz9 : ZS 9 0 ≤ 5 := hZ 9 0
  have bz28 : ZS 28 0 ≤ 6 := hZ 28 0
  refine lv_aload_n hx hb dX7_passes_0 rfl (lv_at hl 0 rfl) ?_
  refine lv_iload_n hx hb dX7_passes_1 rfl (lv_at hl 1 rfl) ?_
  refine be_i0 (ru_V (As := [.int v_d]) (rest := []) ⟨hx, hb, hml, hown, hts⟩ (z_isDebt l D cI cB cZ cN Zh Za1 Za3 Za4 Za5 Za6 Za7 Za8 Za9 Za10 Za11 Za12 Za13 Za20 Za21 Za22 Za23 Za24 Za25 Za26 Za27 Zt ZS v_d hZ H.size) gX7_passes_X7_isDebt rfl ⟨rfl, by decide, by decide, (show Option.map (fun d => d.parameters.length) (parseMethodDescriptor yX7_isDebt.desc) = some 1 by decide +kernel)⟩ ⟨Nat.le_of_ble_eq_true rfl, Nat.le_of_ble_eq_true rfl⟩ hK hP hD 7 0 rfl rfl [0, 1, 2, 3, 4, 5, 6, 7, 8, 9, 10, 11, 12, 13, 14, 15, 16, 17, 18, 19, 20] (by decide) rfl hl.1 rfl (Nat.le_of_ble_eq_true rfl) dX7_passes_2 ⟨Nat.le_of_ble_eq_true rfl, Nat.le_of_ble_eq_true rfl⟩) hP hD hS hA [0, 1, 2, 3, 4, 5, 6, 7, 8, 9, 10, 11, 12, 13, 14, 15, 16, 17, 18, 19, 20] rfl (fun r2 u1 H locs w3 hP hS => ?_)
  rcases w3 with ⟨rfl, hq4⟩ | ⟨rfl, hq4⟩
  · obtain ⟨k5, hq6, rfl⟩ := hq4
    refine nb_if_eq (tgt := 16) hx hb dX7_passes_5 (by decide) (by omega) (fun hq7 => absurd hq7 (by omega)) (fun hq7 => ?_)
    refine lv_aload_n hx hb dX7_passes_8 rfl (lv_at hl 0 rfl) ?_
    refine lv_iload_n hx hb dX7_passes_9 rfl (lv_at hl 2 rfl) ?_
    refine be_i0 (ru_V (As := [.int v_p]) (rest := []) ⟨hx, hb, hml, hown, hts⟩ (z_isPerson l D cI cB cZ cN Zh Za1 Za3 Za4 Za5 Za6 Za7 Za8 Za9 Za10 Za11 Za12 Za13 Za20 Za21 Za22 Za23 Za24 Za25 Za26 Za27 Zt ZS v_p hZ H.size) gX7_passes_X7_isPerson rfl ⟨rfl, by decide, by decide, (show Option.map (fun d => d.parameters.length) (parseMethodDescriptor yX7_isPerson.desc) = some 1 by decide +kernel)⟩ ⟨Nat.le_of_ble_eq_true rfl, Nat.le_of_ble_eq_true rfl⟩ hK hP hD 7 0 rfl rfl [0, 1, 2, 3, 4, 5, 6, 7, 8, 9, 10, 11, 12, 13, 14, 15, 16, 17, 18, 19, 20] (by decide) rfl hl.1 rfl (Nat.le_of_ble_eq_true rfl) dX7_passes_10 ⟨Nat.le_of_ble_eq_true rfl, Nat.le_of_ble_eq_true rfl⟩) hP hD hS hA [0, 1, 2, 3, 4, 5, 6, 7, 8, 9, 10, 11, 12, 13, 14, 15, 16, 17, 18, 19, 20] rfl (fun r9 u8 H locs w10 hP hS => ?_)
    rcases w10 with ⟨rfl, hq11⟩ | ⟨rfl, hq11⟩
    · obtain ⟨k12, hq13, rfl⟩ := hq11
      refine nb_if_ne (tgt := 18) hx hb dX7_passes_13 (by decide) (by omega) (fun hq14 => ?_) (fun hq14 => absurd hq14 (by omega))
      refine lv_aload_n hx hb dX7_passes_18 rfl (lv_at hl 0 rfl) ?_
      refine va_get (D := D) (ci := 7) (v := .ref Za20) (C := RX7) (T := TX7) (N := 29) hx hb hts in_X7_passes_7 hown hK.1 hP 0 rfl rfl 20 (by decide) (hts (.fieldLink RX7 47 "ChildCoinsModel" "now" "[I") (List.mem_of_getElem? (i := 1) rfl)) (fun _ h9 => h9) rfl dX7_passes_19 ?_
      refine lv_bipush (v := nI 30) hx hb dX7_passes_22 (by decide) ?_
      refine lv_iload_n hx hb dX7_passes_24 rfl (lv_at hl 1 rfl) ?_
      refine lv_iadd hx hb dX7_passes_25 ?_
      refine set_i (y := nI (30 + k5)) (nI_add 30 k5) ?_
      refine va_iald hx hb hK.1 hP 13 0 rfl rfl (vp_in_nI (n := 30 + k5) (N := 1191) (by omega) (by decide)) dX7_passes_26 ?_
      refine set_i (y := nI (ZS 20 (30 + k5))) (nF_ld (by omega)) ?_
      have b15 : ZS 20 (30 + k5) ≤ 4 := Nat.le_trans (hZ 20 (30 + k5)) (Nat.le_of_eq (nbd_c (by omega)))
      refine lv_istore_n (lv' := [(3, .int (nI (ZS 20 (30 + k5)))), (0, .ref Zh), (1, .int (nI k5)), (2, .int (nI k12))]) hx hb dX7_passes_27 rfl hl (by decide) rfl (fun ls hl => ?_)
      refine lv_aload_n hx hb dX7_passes_28 rfl (lv_at hl 1 rfl) ?_
      refine lv_aload_n hx hb dX7_passes_29 rfl (lv_at hl 1 rfl) ?_
      refine va_get (D := D) (ci := 7) (v := .ref Za20) (C := RX7) (T := TX7) (N := 29) hx hb hts in_X7_passes_7 hown hK.1 hP 0 rfl rfl 20 (by decide) (hts (.fieldLink RX7 47 "ChildCoinsModel" "now" "[I") (List.mem_of_getElem? (i := 1) rfl)) (fun _ h9 => h9) rfl dX7_passes_30 ?_
      refine lv_iload_n hx hb dX7_passes_33 rfl (lv_at hl 2 rfl) ?_
      refine be_i0 (ru_V (As := [.ref Za20, .int (nI k5)]) (rest := []) ⟨hx, hb, hml, hown, hts⟩ (z_isOpenN l D cI cB cZ cN Zh Za1 Za3 Za4 Za5 Za6 Za7 Za8 Za9 Za10 Za11 Za12 Za13 Za20 Za21 Za22 Za23 Za24 Za25 Za26 Za27 Zt ZS k5 hZ (by omega) H.size) gX7_passes_X7_isOpen rfl ⟨rfl, by decide, by decide, (show Option.map (fun d => d.parameters.length) (parseMethodDescriptor yX7_isOpen.desc) = some 2 by decide +kernel)⟩ ⟨Nat.le_of_ble_eq_true rfl, Nat.le_of_ble_eq_true rfl⟩ hK hP hD 7 0 rfl rfl [0, 1, 2, 3, 4, 5, 6, 7, 8, 9, 10, 11, 12, 13, 14, 15, 16, 17, 18, 19, 20] (by decide) rfl hl.1 rfl (Nat.le_of_ble_eq_true rfl) dX7_passes_34 ⟨Nat.le_of_ble_eq_true rfl, Nat.le_of_ble_eq_true rfl⟩) hP hD hS hA [0, 1, 2, 3, 4, 5, 6, 7, 8, 9, 10, 11, 12, 13, 14, 15, 16, 17, 18, 19, 20] rfl (fun r17 u16 H locs w18 hP hS => ?_)
      obtain rfl : r17 = nI (ZS 20 35 / 2 ^ k5 % 2) := w18
      have b19 := bit_le (ZS 20 35) k5
      refine nb_if_eq (tgt := 55) hx hb dX7_passes_37 (by decide) (by omega) (fun hq20 => ?_) (fun hq20 => ?_)
      · skip
        refine lv_bipush (v := -2) hx hb dX7_passes_55 (by decide) ?_
        exact en_i hx hb hr hlk hP hD hS ZS [0, 1, 2, 3, 4, 5, 6, 7, 8, 9, 10, 11, 12, 13, 14, 15, 16, 17, 18, 19, 20] (by decide) rfl (Nat.le_of_ble_eq_true rfl) (Nat.le_of_ble_eq_true rfl) dX7_passes_57 ⟨(ZP.rf hZ), (Or.inr ⟨k5, k12, hq6, hq13, rfl, rfl, Or.inl ⟨by omega, rfl, rfl⟩⟩)⟩
      · skip
        refine lv_iload_n hx hb dX7_passes_40 rfl (lv_at hl 3 rfl) ?_
        refine lv_aload_n hx hb dX7_passes_41 rfl (lv_at hl 1 rfl) ?_
        refine va_get (D := D) (ci := 7) (v := .ref Za10) (C := RX7) (T := TX7) (N := 29) hx hb hts in_X7_passes_7 hown hK.1 hP 0 rfl rfl 10 (by decide) (hts (.fieldLink RX7 35 "ChildCoinsModel" "debtor" "[I") (List.mem_of_getElem? (i := 2) rfl)) (fun _ h9 => h9) rfl dX7_passes_42 ?_
        refine lv_iload_n hx hb dX7_passes_45 rfl (lv_at hl 2 rfl) ?_
        refine va_iald hx hb hK.1 hP 9 0 rfl rfl (vp_in_nI (n := k5) (N := 10) (by omega) (by decide)) dX7_passes_46 ?_
        refine set_i (y := nI (ZS 10 k5)) (nF_ld (by omega)) ?_
        have b21 : ZS 10 k5 ≤ 4 := hZ 10 k5
        refine nb_icmp_eq (tgt := 55) hx hb dX7_passes_47 (by decide) (by omega) (by omega) (fun hq22 => ?_) (fun hq22 => ?_)
        · skip
          refine lv_bipush (v := -2) hx hb dX7_passes_55 (by decide) ?_
          exact en_i hx hb hr hlk hP hD hS ZS [0, 1, 2, 3, 4, 5, 6, 7, 8, 9, 10, 11, 12, 13, 14, 15, 16, 17, 18, 19, 20] (by decide) rfl (Nat.le_of_ble_eq_true rfl) (Nat.le_of_ble_eq_true rfl) dX7_passes_57 ⟨(ZP.rf hZ), (Or.inr ⟨k5, k12, hq6, hq13, rfl, rfl, Or.inl ⟨by omega, rfl, rfl⟩⟩)⟩
        · skip
          refine lv_iload_n hx hb dX7_passes_50 rfl (lv_at hl 3 rfl) ?_
          refine lv_iload_n hx hb dX7_passes_51 rfl (lv_at hl 0 rfl) ?_
          refine nb_icmp_ne (tgt := 58) hx hb dX7_passes_52 (by decide) (by omega) (by omega) (fun hq23 => ?_) (fun hq23 => ?_)
          · skip
            refine lv_aload_n hx hb dX7_passes_58 rfl (lv_at hl 1 rfl) ?_
            refine be_v (free := fun _ => False) (wr := []) (ru_V (As := []) (rest := []) ⟨hx, hb, hml, hown, hts⟩ (z_know l D cI cB cZ cN Zh Za1 Za3 Za4 Za5 Za6 Za7 Za8 Za9 Za10 Za11 Za12 Za13 Za20 Za21 Za22 Za23 Za24 Za25 Za26 Za27 Zt ZS hZ H.size) gX7_passes_X7_know rfl ⟨rfl, by decide, by decide, (show Option.map (fun d => d.parameters.length) (parseMethodDescriptor yX7_know.desc) = some 0 by decide +kernel)⟩ ⟨Nat.le_of_ble_eq_true rfl, Nat.le_of_ble_eq_true rfl⟩ hK hP hD 7 0 rfl rfl [0, 1, 2, 3, 4, 5, 6, 7, 8, 9, 10, 11, 12, 13, 14, 15, 16, 17, 18, 19, 20] (by decide) rfl hl.1 rfl (Nat.le_of_ble_eq_true rfl) dX7_passes_59 ⟨Nat.le_of_ble_eq_true rfl, Nat.le_of_ble_eq_true rfl⟩) hP hD hS hA [0, 1, 2, 3, 4, 5, 6, 7, 8, 9, 10, 11, 12, 13, 14, 15, 16, 17, 18, 19, 20] [] rfl rfl (by decide) (by decide) (fun u24 H locs w26 hP hD hS => ?_)
            subst w26
            have hzz27 : ZOk (ua ZS 20 (knN (ZS 20))) := (zok_set (k := 20) hZ (kn_b (hZ 20)))
            obtain ⟨hP, hD⟩ : wPD D A [(Zh, .inr (7, [.long Zt, .ref Za1, .int (nI (ZS 2 0)), .ref Za3, .ref Za4, .ref Za5, .ref Za6, .ref Za7, .ref Za8, .ref Za9, .ref Za10, .ref Za11, .ref Za12, .ref Za13, .int (nI (ZS 14 0)), .int (nI (ZS 15 0)), .int (nI (ZS 16 0)), .int (nI (ZS 17 0)), .int (nI (ZS 18 0)), .int (nI (ZS 19 0) - nI 9), .ref Za20, .ref Za21, .ref Za22, .ref Za23, .ref Za24, .ref Za25, .ref Za26, .ref Za27, .int (nI (ZS 28 0))])), (Za1, .inl (cB, 180, .inl (bF (ZS 1)))), (Za3, .inl (cI, 2, .inl (nF (ZS 3)))), (Za4, .inl (cI, 12, .inl (nF (ZS 4)))), (Za5, .inl (cI, 12, .inl (nF (ZS 5)))), (Za6, .inl (cI, 2, .inl (nF (ZS 6)))), (Za7, .inl (cI, 10, .inl (nF (ZS 7)))), (Za8, .inl (cI, 30, .inl (nF (ZS 8)))), (Za9, .inl (cI, 2, .inl (nF (ZS 9)))), (Za10, .inl (cI, 10, .inl (nF (ZS 10)))), (Za11, .inl (cI, 5, .inl (nF (ZS 11)))), (Za12, .inl (cI, 10, .inl (nF (ZS 12)))), (Za13, .inl (cI, 2, .inl (nF (ZS 13)))), (Za20, .inl (cI, 1191, .inl (nF (knN (ZS 20))))), (Za21, .inl (cZ, 2, .inl (nF (ZS 21)))), (Za22, .inl (cI, 36, .inl (nF (ZS 22)))), (Za23, .inl (cI, 6, .inl (nF (ZS 23)))), (Za24, .inl (cI, 427, .inl (nF (ZS 24)))), (Za25, .inl (cI, 6, .inl (nF (ZS 25)))), (Za26, .inl (cI, 5, .inl (nF (ZS 26)))), (Za27, .inl (cI, 6, .inl (nF (ZS 27))))] H := ⟨hP, hD⟩
            refine lv_aload_n hx hb dX7_passes_62 rfl (lv_at hl 1 rfl) ?_
            refine va_get (D := D) (ci := 7) (v := .ref Za20) (C := RX7) (T := TX7) (N := 29) hx hb hts in_X7_passes_7 hown hK.1 hP 0 rfl rfl 20 (by decide) (hts (.fieldLink RX7 47 "ChildCoinsModel" "now" "[I") (List.mem_of_getElem? (i := 1) rfl)) (fun _ h9 => h9) rfl dX7_passes_63 ?_
            refine lv_bipush (v := nI 30) hx hb dX7_passes_66 (by decide) ?_
            refine lv_iload_n hx hb dX7_passes_68 rfl (lv_at hl 2 rfl) ?_
            refine lv_iadd hx hb dX7_passes_69 ?_
            refine set_i (y := nI (30 + k5)) (nI_add 30 k5) ?_
            refine lv_iload_n hx hb dX7_passes_70 rfl (lv_at hl 3 rfl) ?_
            refine va_iast hx hb hK.1 hP hD hS 13 0 rfl rfl (vp_in_nI (n := 30 + k5) (N := 1191) (by omega) (by decide)) dX7_passes_71 (fun H locs hP hD hS => ?_)
            obtain ⟨hP, hD⟩ : wPD D A [(Zh, .inr (7, [.long Zt, .ref Za1, .int (nI (ZS 2 0)), .ref Za3, .ref Za4, .ref Za5, .ref Za6, .ref Za7, .ref Za8, .ref Za9, .ref Za10, .ref Za11, .ref Za12, .ref Za13, .int (nI (ZS 14 0)), .int (nI (ZS 15 0)), .int (nI (ZS 16 0)), .int (nI (ZS 17 0)), .int (nI (ZS 18 0)), .int (nI (ZS 19 0) - nI 9), .ref Za20, .ref Za21, .ref Za22, .ref Za23, .ref Za24, .ref Za25, .ref Za26, .ref Za27, .int (nI (ZS 28 0))])), (Za1, .inl (cB, 180, .inl (bF (ZS 1)))), (Za3, .inl (cI, 2, .inl (nF (ZS 3)))), (Za4, .inl (cI, 12, .inl (nF (ZS 4)))), (Za5, .inl (cI, 12, .inl (nF (ZS 5)))), (Za6, .inl (cI, 2, .inl (nF (ZS 6)))), (Za7, .inl (cI, 10, .inl (nF (ZS 7)))), (Za8, .inl (cI, 30, .inl (nF (ZS 8)))), (Za9, .inl (cI, 2, .inl (nF (ZS 9)))), (Za10, .inl (cI, 10, .inl (nF (ZS 10)))), (Za11, .inl (cI, 5, .inl (nF (ZS 11)))), (Za12, .inl (cI, 10, .inl (nF (ZS 12)))), (Za13, .inl (cI, 2, .inl (nF (ZS 13)))), (Za20, .inl (cI, 1191, .inl (upd (nF (knN (ZS 20))) (nI (30 + k5)).toNatClampNeg (nI k12)))), (Za21, .inl (cZ, 2, .inl (nF (ZS 21)))), (Za22, .inl (cI, 36, .inl (nF (ZS 22)))), (Za23, .inl (cI, 6, .inl (nF (ZS 23)))), (Za24, .inl (cI, 427, .inl (nF (ZS 24)))), (Za25, .inl (cI, 6, .inl (nF (ZS 25)))), (Za26, .inl (cI, 5, .inl (nF (ZS 26)))), (Za27, .inl (cI, 6, .inl (nF (ZS 27))))] H := ⟨hP, hD⟩
            rw [nF_st (by omega)] at hP hD
            have hzz28 : ZOk (ua ZS 20 (un (knN (ZS 20)) (30 + k5) k12)) := (zok_set (k := 20) hZ (un_zb (f := zb 20) (kn_b (hZ 20)) (Nat.le_trans (show k12 ≤ 4 by omega) (Nat.le_of_eq (nbd_c (by omega)).symm))))
            refine lv_iload_n hx hb dX7_passes_72 rfl (lv_at hl 0 rfl) ?_
            exact en_i hx hb hr hlk hP hD hS (ua ZS 20 (un (knN (ZS 20)) (30 + k5) k12)) [0, 1, 2, 3, 4, 5, 6, 7, 8, 9, 10, 11, 12, 13, 14, 15, 16, 17, 18, 19, 20] (by decide) rfl (Nat.le_of_ble_eq_true rfl) (Nat.le_of_ble_eq_true rfl) dX7_passes_73 ⟨(ZP.set (k := 20) (ZP.rf hZ) (by decide) (hzz28 20)), (Or.inr ⟨k5, k12, hq6, hq13, rfl, rfl, Or.inr ⟨⟨by omega, by omega, by omega⟩, rfl, rfl⟩⟩)⟩
          · skip
            refine lv_bipush (v := -2) hx hb dX7_passes_55 (by decide) ?_
            exact en_i hx hb hr hlk hP hD hS ZS [0, 1, 2, 3, 4, 5, 6, 7, 8, 9, 10, 11, 12, 13, 14, 15, 16, 17, 18, 19, 20] (by decide) rfl (Nat.le_of_ble_eq_true rfl) (Nat.le_of_ble_eq_true rfl) dX7_passes_57 ⟨(ZP.rf hZ), (Or.inr ⟨k5, k12, hq6, hq13, rfl, rfl, Or.inl ⟨by omega, rfl, rfl⟩⟩)⟩
    · skip
      refine nb_if_ne (tgt := 18) hx hb dX7_passes_13 (by decide) (by omega) (fun hq29 => absurd hq29 (by omega)) (fun hq29 => ?_)
      refine lv_iconst (v := -1) hx hb dX7_passes_16 (by decide) ?_
      exact en_i hx hb hr hlk hP hD hS ZS [0, 1, 2, 3, 4, 5, 6, 7, 8, 9, 10, 11, 12, 13, 14, 15, 16, 17, 18, 19, 20] (by decide) rfl (Nat.le_of_ble_eq_true rfl) (Nat.le_of_ble_eq_true rfl) dX7_passes_17 ⟨(ZP.rf hZ), (Or.inl ⟨fun q => hq11 q.2, rfl, rfl⟩)⟩
  · skip
    refine nb_if_eq (tgt := 16) hx hb dX7_passes_5 (by decide) (by omega) (fun hq30 => ?_) (fun hq30 => absurd hq30 (by omega))
    refine lv_iconst (v := -1) hx hb dX7_passes_16 (by decide) ?_
    exact en_i hx hb hr hlk hP hD hS ZS [0, 1, 2, 3, 4, 5, 6, 7, 8, 9, 10, 11, 12, 13, 14, 15, 16, 17, 18, 19, 20] (by decide) rfl (Nat.le_of_ble_eq_true rfl) (Nat.le_of_ble_eq_true rfl) dX7_passes_17 ⟨(ZP.rf hZ), (Or.inl ⟨fun q => hq4 q.1, rfl, rfl⟩)⟩
set_option maxRecDepth 20000 in
theorem dAX7_trades : decA cX7_trades [(0, .aload_n 0, 1), (1, .iload_n 1, 1), (2, .invokevirtual 145, 3), (5, .ifCond .eq 39, 3), (8, .aload_n 0, 1), (9, .iload_n 2, 1), (10, .invokevirtual 142, 3), (13, .ifCond .eq 31, 3), (16, .aload_n 0, 1), (17, .iload_n 3, 1), (18, .invokevirtual 145, 3), (21, .ifCond .eq 23, 3), (24, .aload_n 0, 1), (25, .iload 4, 2), (27, .invokevirtual 142, 3), (30, .ifCond .eq 14, 3), (33, .iload_n 1, 1), (34, .iload_n 3, 1), (35, .if_icmp .eq 9, 3), (38, .iload_n 2, 1), (39, .iload 4, 2), (41, .if_icmp .ne 5, 3), (44, .iconst (-1), 1), (45, .ireturn, 1), (46, .aload_n 0, 1), (47, .getfield 47, 3), (50, .bipush 6, 2), (52, .iload_n 1, 1), (53, .imul, 1), (54, .iload_n 2, 1), (55, .iadd, 1), (56, .iaload, 1), (57, .ifCond .le 71, 3), (60, .aload_n 0, 1), (61, .getfield 47, 3), (64, .bipush 6, 2), (66, .iload_n 3, 1), (67, .imul, 1), (68, .iload 4, 2), (70, .iadd, 1), (71, .iaload, 1), (72, .ifCond .le 56, 3), (75, .aload_n 0, 1), (76, .getfield 20, 3), (79, .iload_n 2, 1), (80, .iaload, 1), (81, .aload_n 0, 1), (82, .getfield 20, 3), (85, .iload 4, 2), (87, .iaload, 1), (88, .if_icmp .ne 40, 3), (91, .aload_n 0, 1), (92, .getfield 47, 3), (95, .bipush 6, 2), (97, .iload_n 1, 1), (98, .imul, 1), (99, .iload 4, 2), (101, .iadd, 1), (102, .iaload, 1), (103, .bipush 99, 2), (105, .if_icmp .ge 23, 3), (108, .aload_n 0, 1), (109, .getfield 47, 3), (112, .bipush 6, 2), (114, .iload_n 3, 1), (115, .imul, 1), (116, .iload_n 2, 1), (117, .iadd, 1), (118, .iaload, 1), (119, .bipush 99, 2), (121, .if_icmp .ge 7, 3), (124, .iconst 1, 1), (125, .goto 4, 3), (128, .iconst 0, 1), (129, .istore 5, 2), (131, .iload 5, 2), (133, .ifCond .ne 6, 3), (136, .bipush (-2), 2), (138, .ireturn, 1), (139, .aload_n 0, 1), (140, .invokevirtual 185, 3), (143, .aload_n 0, 1), (144, .getfield 47, 3), (147, .bipush 6, 2), (149, .iload_n 1, 1), (150, .imul, 1), (151, .iload_n 2, 1), (152, .iadd, 1), (153, .dup2, 1), (154, .iaload, 1), (155, .iconst 1, 1), (156, .isub, 1), (157, .iastore, 1), (158, .aload_n 0, 1), (159, .getfield 47, 3), (162, .bipush 6, 2), (164, .iload_n 3, 1), (165, .imul, 1), (166, .iload_n 2, 1), (167, .iadd, 1), (168, .dup2, 1), (169, .iaload, 1), (170, .iconst 1, 1), (171, .iadd, 1), (172, .iastore, 1), (173, .aload_n 0, 1), (174, .getfield 47, 3), (177, .bipush 6, 2), (179, .iload_n 3, 1), (180, .imul, 1), (181, .iload 4, 2), (183, .iadd, 1), (184, .dup2, 1), (185, .iaload, 1), (186, .iconst 1, 1), (187, .isub, 1), (188, .iastore, 1), (189, .aload_n 0, 1), (190, .getfield 47, 3), (193, .bipush 6, 2), (195, .iload_n 1, 1), (196, .imul, 1), (197, .iload 4, 2), (199, .iadd, 1), (200, .dup2, 1), (201, .iaload, 1), (202, .iconst 1, 1), (203, .iadd, 1), (204, .iastore, 1), (205, .aload_n 0, 1), (206, .getfield 47, 3), (209, .bipush 6, 2), (211, .iload_n 1, 1), (212, .imul, 1), (213, .iload 4, 2), (215, .iadd, 1), (216, .iaload, 1), (217, .ireturn, 1)] = true := by decide +kernel
theorem dX7_trades_0 : decode cX7_trades 0 = .ok (.aload_n 0, 1) := decA_get dAX7_trades 0 rfl
theorem dX7_trades_1 : decode cX7_trades 1 = .ok (.iload_n 1, 1) := decA_get dAX7_trades 1 rfl
theorem dX7_trades_2 : decode cX7_trades 2 = .ok (.invokevirtual 145, 3) := decA_get dAX7_trades 2 rfl
set_option maxRecDepth 20000 in
theorem ggX7_trades_X7_isPerson : GoodIn wsX7_trades wsX7_isPerson := gd_ids wi_X7_trades wm_X7_trades wi_X7_isPerson (by decide +kernel)
set_option maxRecDepth 20000 in
theorem gX7_trades_X7_isPerson : GoodIn wsX7_trades (wsV RX7 145 RX7 yX7_isPerson wsX7_isPerson) := goodIn_app (gd_ids wi_X7_trades wm_X7_trades (b := [546, 547, 548, 481]) rfl (by decide +kernel)) ggX7_trades_X7_isPerson
theorem dX7_trades_5 : decode cX7_trades 5 = .ok (.ifCond .eq 39, 3) := decA_get dAX7_trades 3 rfl
theorem dX7_trades_8 : decode cX7_trades 8 = .ok (.aload_n 0, 1) := decA_get dAX7_trades 4 rfl
theorem dX7_trades_9 : decode cX7_trades 9 = .ok (.iload_n 2, 1) := decA_get dAX7_trades 5 rfl
theorem dX7_trades_10 : decode cX7_trades 10 = .ok (.invokevirtual 142, 3) := decA_get dAX7_trades 6 rfl
set_option maxRecDepth 20000 in
theorem ggX7_trades_X7_isCoin : GoodIn wsX7_trades wsX7_isCoin := gd_ids wi_X7_trades wm_X7_trades wi_X7_isCoin (by decide +kernel)
set_option maxRecDepth 20000 in
theorem gX7_trades_X7_isCoin : GoodIn wsX7_trades (wsV RX7 142 RX7 yX7_isCoin wsX7_isCoin) := goodIn_app (gd_ids wi_X7_trades wm_X7_trades (b := [542, 543, 544, 481]) rfl (by decide +kernel)) ggX7_trades_X7_isCoin
theorem dX7_trades_13 : decode cX7_trades 13 = .ok (.ifCond .eq 31, 3) := decA_get dAX7_trades 7 rfl
theorem dX7_trades_16 : decode cX7_trades 16 = .ok (.aload_n 0, 1) := decA_get dAX7_trades 8 rfl
theorem dX7_trades_17 : decode cX7_trades 17 = .ok (.iload_n 3, 1) := decA_get dAX7_trades 9 rfl
theorem dX7_trades_18 : decode cX7_trades 18 = .ok (.invokevirtual 145, 3) := decA_get dAX7_trades 10 rfl
theorem dX7_trades_21 : decode cX7_trades 21 = .ok (.ifCond .eq 23, 3) := decA_get dAX7_trades 11 rfl
theorem dX7_trades_24 : decode cX7_trades 24 = .ok (.aload_n 0, 1) := decA_get dAX7_trades 12 rfl
theorem dX7_trades_25 : decode cX7_trades 25 = .ok (.iload 4, 2) := decA_get dAX7_trades 13 rfl
theorem dX7_trades_27 : decode cX7_trades 27 = .ok (.invokevirtual 142, 3) := decA_get dAX7_trades 14 rfl
theorem dX7_trades_30 : decode cX7_trades 30 = .ok (.ifCond .eq 14, 3) := decA_get dAX7_trades 15 rfl
theorem dX7_trades_33 : decode cX7_trades 33 = .ok (.iload_n 1, 1) := decA_get dAX7_trades 16 rfl
theorem dX7_trades_34 : decode cX7_trades 34 = .ok (.iload_n 3, 1) := decA_get dAX7_trades 17 rfl
theorem dX7_trades_35 : decode cX7_trades 35 = .ok (.if_icmp .eq 9, 3) := decA_get dAX7_trades 18 rfl
theorem dX7_trades_44 : decode cX7_trades 44 = .ok (.iconst (-1), 1) := decA_get dAX7_trades 22 rfl
theorem dX7_trades_45 : decode cX7_trades 45 = .ok (.ireturn, 1) := decA_get dAX7_trades 23 rfl
theorem dX7_trades_38 : decode cX7_trades 38 = .ok (.iload_n 2, 1) := decA_get dAX7_trades 19 rfl
theorem dX7_trades_39 : decode cX7_trades 39 = .ok (.iload 4, 2) := decA_get dAX7_trades 20 rfl
theorem dX7_trades_41 : decode cX7_trades 41 = .ok (.if_icmp .ne 5, 3) := decA_get dAX7_trades 21 rfl
theorem dX7_trades_46 : decode cX7_trades 46 = .ok (.aload_n 0, 1) := decA_get dAX7_trades 24 rfl
theorem dX7_trades_47 : decode cX7_trades 47 = .ok (.getfield 47, 3) := decA_get dAX7_trades 25 rfl
theorem in_X7_trades_7 : ∀ w ∈ wsX70, w ∈ wsX7_trades := fun w h => (gd_ids wi_X7_trades wm_X7_trades wi_X70 (by decide +kernel) w h).1
theorem dX7_trades_50 : decode cX7_trades 50 = .ok (.bipush 6, 2) := decA_get dAX7_trades 26 rfl
theorem dX7_trades_52 : decode cX7_trades 52 = .ok (.iload_n 1, 1) := decA_get dAX7_trades 27 rfl
theorem dX7_trades_53 : decode cX7_trades 53 = .ok (.imul, 1) := decA_get dAX7_trades 28 rfl
theorem dX7_trades_54 : decode cX7_trades 54 = .ok (.iload_n 2, 1) := decA_get dAX7_trades 29 rfl
theorem dX7_trades_55 : decode cX7_trades 55 = .ok (.iadd, 1) := decA_get dAX7_trades 30 rfl
theorem dX7_trades_56 : decode cX7_trades 56 = .ok (.iaload, 1) := decA_get dAX7_trades 31 rfl
theorem dX7_trades_57 : decode cX7_trades 57 = .ok (.ifCond .le 71, 3) := decA_get dAX7_trades 32 rfl
theorem dX7_trades_128 : decode cX7_trades 128 = .ok (.iconst 0, 1) := decA_get dAX7_trades 73 rfl
theorem dX7_trades_129 : decode cX7_trades 129 = .ok (.istore 5, 2) := decA_get dAX7_trades 74 rfl
theorem dX7_trades_131 : decode cX7_trades 131 = .ok (.iload 5, 2) := decA_get dAX7_trades 75 rfl
theorem dX7_trades_133 : decode cX7_trades 133 = .ok (.ifCond .ne 6, 3) := decA_get dAX7_trades 76 rfl
theorem dX7_trades_136 : decode cX7_trades 136 = .ok (.bipush (-2), 2) := decA_get dAX7_trades 77 rfl
theorem dX7_trades_138 : decode cX7_trades 138 = .ok (.ireturn, 1) := decA_get dAX7_trades 78 rfl
theorem dX7_trades_60 : decode cX7_trades 60 = .ok (.aload_n 0, 1) := decA_get dAX7_trades 33 rfl
theorem dX7_trades_61 : decode cX7_trades 61 = .ok (.getfield 47, 3) := decA_get dAX7_trades 34 rfl
theorem dX7_trades_64 : decode cX7_trades 64 = .ok (.bipush 6, 2) := decA_get dAX7_trades 35 rfl
theorem dX7_trades_66 : decode cX7_trades 66 = .ok (.iload_n 3, 1) := decA_get dAX7_trades 36 rfl
theorem dX7_trades_67 : decode cX7_trades 67 = .ok (.imul, 1) := decA_get dAX7_trades 37 rfl
theorem dX7_trades_68 : decode cX7_trades 68 = .ok (.iload 4, 2) := decA_get dAX7_trades 38 rfl
theorem dX7_trades_70 : decode cX7_trades 70 = .ok (.iadd, 1) := decA_get dAX7_trades 39 rfl
theorem dX7_trades_71 : decode cX7_trades 71 = .ok (.iaload, 1) := decA_get dAX7_trades 40 rfl
theorem dX7_trades_72 : decode cX7_trades 72 = .ok (.ifCond .le 56, 3) := decA_get dAX7_trades 41 rfl
theorem dX7_trades_75 : decode cX7_trades 75 = .ok (.aload_n 0, 1) := decA_get dAX7_trades 42 rfl
theorem dX7_trades_76 : decode cX7_trades 76 = .ok (.getfield 20, 3) := decA_get dAX7_trades 43 rfl
theorem dX7_trades_79 : decode cX7_trades 79 = .ok (.iload_n 2, 1) := decA_get dAX7_trades 44 rfl
theorem dX7_trades_80 : decode cX7_trades 80 = .ok (.iaload, 1) := decA_get dAX7_trades 45 rfl
theorem dX7_trades_81 : decode cX7_trades 81 = .ok (.aload_n 0, 1) := decA_get dAX7_trades 46 rfl
theorem dX7_trades_82 : decode cX7_trades 82 = .ok (.getfield 20, 3) := decA_get dAX7_trades 47 rfl
theorem dX7_trades_85 : decode cX7_trades 85 = .ok (.iload 4, 2) := decA_get dAX7_trades 48 rfl
theorem dX7_trades_87 : decode cX7_trades 87 = .ok (.iaload, 1) := decA_get dAX7_trades 49 rfl
theorem dX7_trades_88 : decode cX7_trades 88 = .ok (.if_icmp .ne 40, 3) := decA_get dAX7_trades 50 rfl
theorem dX7_trades_91 : decode cX7_trades 91 = .ok (.aload_n 0, 1) := decA_get dAX7_trades 51 rfl
theorem dX7_trades_92 : decode cX7_trades 92 = .ok (.getfield 47, 3) := decA_get dAX7_trades 52 rfl
theorem dX7_trades_95 : decode cX7_trades 95 = .ok (.bipush 6, 2) := decA_get dAX7_trades 53 rfl
theorem dX7_trades_97 : decode cX7_trades 97 = .ok (.iload_n 1, 1) := decA_get dAX7_trades 54 rfl
theorem dX7_trades_98 : decode cX7_trades 98 = .ok (.imul, 1) := decA_get dAX7_trades 55 rfl
theorem dX7_trades_99 : decode cX7_trades 99 = .ok (.iload 4, 2) := decA_get dAX7_trades 56 rfl
theorem dX7_trades_101 : decode cX7_trades 101 = .ok (.iadd, 1) := decA_get dAX7_trades 57 rfl
theorem dX7_trades_102 : decode cX7_trades 102 = .ok (.iaload, 1) := decA_get dAX7_trades 58 rfl
theorem dX7_trades_103 : decode cX7_trades 103 = .ok (.bipush 99, 2) := decA_get dAX7_trades 59 rfl
theorem dX7_trades_105 : decode cX7_trades 105 = .ok (.if_icmp .ge 23, 3) := decA_get dAX7_trades 60 rfl
theorem dX7_trades_108 : decode cX7_trades 108 = .ok (.aload_n 0, 1) := decA_get dAX7_trades 61 rfl
theorem dX7_trades_109 : decode cX7_trades 109 = .ok (.getfield 47, 3) := decA_get dAX7_trades 62 rfl
theorem dX7_trades_112 : decode cX7_trades 112 = .ok (.bipush 6, 2) := decA_get dAX7_trades 63 rfl
theorem dX7_trades_114 : decode cX7_trades 114 = .ok (.iload_n 3, 1) := decA_get dAX7_trades 64 rfl
theorem dX7_trades_115 : decode cX7_trades 115 = .ok (.imul, 1) := decA_get dAX7_trades 65 rfl
theorem dX7_trades_116 : decode cX7_trades 116 = .ok (.iload_n 2, 1) := decA_get dAX7_trades 66 rfl
theorem dX7_trades_117 : decode cX7_trades 117 = .ok (.iadd, 1) := decA_get dAX7_trades 67 rfl
theorem dX7_trades_118 : decode cX7_trades 118 = .ok (.iaload, 1) := decA_get dAX7_trades 68 rfl
theorem dX7_trades_119 : decode cX7_trades 119 = .ok (.bipush 99, 2) := decA_get dAX7_trades 69 rfl
theorem dX7_trades_121 : decode cX7_trades 121 = .ok (.if_icmp .ge 7, 3) := decA_get dAX7_trades 70 rfl
theorem dX7_trades_124 : decode cX7_trades 124 = .ok (.iconst 1, 1) := decA_get dAX7_trades 71 rfl
theorem dX7_trades_125 : decode cX7_trades 125 = .ok (.goto 4, 3) := decA_get dAX7_trades 72 rfl
theorem dX7_trades_139 : decode cX7_trades 139 = .ok (.aload_n 0, 1) := decA_get dAX7_trades 79 rfl
theorem dX7_trades_140 : decode cX7_trades 140 = .ok (.invokevirtual 185, 3) := decA_get dAX7_trades 80 rfl
set_option maxRecDepth 20000 in
theorem ggX7_trades_X7_know : GoodIn wsX7_trades wsX7_know := gd_ids wi_X7_trades wm_X7_trades wi_X7_know (by decide +kernel)
set_option maxRecDepth 20000 in
theorem gX7_trades_X7_know : GoodIn wsX7_trades (wsV RX7 185 RX7 yX7_know wsX7_know) := goodIn_app (gd_ids wi_X7_trades wm_X7_trades (b := [594, 595, 596, 481]) rfl (by decide +kernel)) ggX7_trades_X7_know
theorem dX7_trades_143 : decode cX7_trades 143 = .ok (.aload_n 0, 1) := decA_get dAX7_trades 81 rfl
theorem dX7_trades_144 : decode cX7_trades 144 = .ok (.getfield 47, 3) := decA_get dAX7_trades 82 rfl
theorem dX7_trades_147 : decode cX7_trades 147 = .ok (.bipush 6, 2) := decA_get dAX7_trades 83 rfl
theorem dX7_trades_149 : decode cX7_trades 149 = .ok (.iload_n 1, 1) := decA_get dAX7_trades 84 rfl
theorem dX7_trades_150 : decode cX7_trades 150 = .ok (.imul, 1) := decA_get dAX7_trades 85 rfl
theorem dX7_trades_151 : decode cX7_trades 151 = .ok (.iload_n 2, 1) := decA_get dAX7_trades 86 rfl
theorem dX7_trades_152 : decode cX7_trades 152 = .ok (.iadd, 1) := decA_get dAX7_trades 87 rfl
theorem dX7_trades_153 : decode cX7_trades 153 = .ok (.dup2, 1) := decA_get dAX7_trades 88 rfl
theorem dX7_trades_154 : decode cX7_trades 154 = .ok (.iaload, 1) := decA_get dAX7_trades 89 rfl
theorem dX7_trades_155 : decode cX7_trades 155 = .ok (.iconst 1, 1) := decA_get dAX7_trades 90 rfl
theorem dX7_trades_156 : decode cX7_trades 156 = .ok (.isub, 1) := decA_get dAX7_trades 91 rfl
theorem dX7_trades_157 : decode cX7_trades 157 = .ok (.iastore, 1) := decA_get dAX7_trades 92 rfl
theorem dX7_trades_158 : decode cX7_trades 158 = .ok (.aload_n 0, 1) := decA_get dAX7_trades 93 rfl
theorem dX7_trades_159 : decode cX7_trades 159 = .ok (.getfield 47, 3) := decA_get dAX7_trades 94 rfl
theorem dX7_trades_162 : decode cX7_trades 162 = .ok (.bipush 6, 2) := decA_get dAX7_trades 95 rfl
theorem dX7_trades_164 : decode cX7_trades 164 = .ok (.iload_n 3, 1) := decA_get dAX7_trades 96 rfl
theorem dX7_trades_165 : decode cX7_trades 165 = .ok (.imul, 1) := decA_get dAX7_trades 97 rfl
theorem dX7_trades_166 : decode cX7_trades 166 = .ok (.iload_n 2, 1) := decA_get dAX7_trades 98 rfl
theorem dX7_trades_167 : decode cX7_trades 167 = .ok (.iadd, 1) := decA_get dAX7_trades 99 rfl
theorem dX7_trades_168 : decode cX7_trades 168 = .ok (.dup2, 1) := decA_get dAX7_trades 100 rfl
theorem dX7_trades_169 : decode cX7_trades 169 = .ok (.iaload, 1) := decA_get dAX7_trades 101 rfl
theorem dX7_trades_170 : decode cX7_trades 170 = .ok (.iconst 1, 1) := decA_get dAX7_trades 102 rfl
theorem dX7_trades_171 : decode cX7_trades 171 = .ok (.iadd, 1) := decA_get dAX7_trades 103 rfl
theorem dX7_trades_172 : decode cX7_trades 172 = .ok (.iastore, 1) := decA_get dAX7_trades 104 rfl
theorem dX7_trades_173 : decode cX7_trades 173 = .ok (.aload_n 0, 1) := decA_get dAX7_trades 105 rfl
theorem dX7_trades_174 : decode cX7_trades 174 = .ok (.getfield 47, 3) := decA_get dAX7_trades 106 rfl
theorem dX7_trades_177 : decode cX7_trades 177 = .ok (.bipush 6, 2) := decA_get dAX7_trades 107 rfl
theorem dX7_trades_179 : decode cX7_trades 179 = .ok (.iload_n 3, 1) := decA_get dAX7_trades 108 rfl
theorem dX7_trades_180 : decode cX7_trades 180 = .ok (.imul, 1) := decA_get dAX7_trades 109 rfl
theorem dX7_trades_181 : decode cX7_trades 181 = .ok (.iload 4, 2) := decA_get dAX7_trades 110 rfl
theorem dX7_trades_183 : decode cX7_trades 183 = .ok (.iadd, 1) := decA_get dAX7_trades 111 rfl
theorem dX7_trades_184 : decode cX7_trades 184 = .ok (.dup2, 1) := decA_get dAX7_trades 112 rfl
theorem dX7_trades_185 : decode cX7_trades 185 = .ok (.iaload, 1) := decA_get dAX7_trades 113 rfl
theorem dX7_trades_186 : decode cX7_trades 186 = .ok (.iconst 1, 1) := decA_get dAX7_trades 114 rfl
theorem dX7_trades_187 : decode cX7_trades 187 = .ok (.isub, 1) := decA_get dAX7_trades 115 rfl
theorem dX7_trades_188 : decode cX7_trades 188 = .ok (.iastore, 1) := decA_get dAX7_trades 116 rfl
theorem dX7_trades_189 : decode cX7_trades 189 = .ok (.aload_n 0, 1) := decA_get dAX7_trades 117 rfl
theorem dX7_trades_190 : decode cX7_trades 190 = .ok (.getfield 47, 3) := decA_get dAX7_trades 118 rfl
theorem dX7_trades_193 : decode cX7_trades 193 = .ok (.bipush 6, 2) := decA_get dAX7_trades 119 rfl
theorem dX7_trades_195 : decode cX7_trades 195 = .ok (.iload_n 1, 1) := decA_get dAX7_trades 120 rfl
theorem dX7_trades_196 : decode cX7_trades 196 = .ok (.imul, 1) := decA_get dAX7_trades 121 rfl
theorem dX7_trades_197 : decode cX7_trades 197 = .ok (.iload 4, 2) := decA_get dAX7_trades 122 rfl
theorem dX7_trades_199 : decode cX7_trades 199 = .ok (.iadd, 1) := decA_get dAX7_trades 123 rfl
theorem dX7_trades_200 : decode cX7_trades 200 = .ok (.dup2, 1) := decA_get dAX7_trades 124 rfl
theorem dX7_trades_201 : decode cX7_trades 201 = .ok (.iaload, 1) := decA_get dAX7_trades 125 rfl
theorem dX7_trades_202 : decode cX7_trades 202 = .ok (.iconst 1, 1) := decA_get dAX7_trades 126 rfl
theorem dX7_trades_203 : decode cX7_trades 203 = .ok (.iadd, 1) := decA_get dAX7_trades 127 rfl
theorem dX7_trades_204 : decode cX7_trades 204 = .ok (.iastore, 1) := decA_get dAX7_trades 128 rfl
theorem dX7_trades_205 : decode cX7_trades 205 = .ok (.aload_n 0, 1) := decA_get dAX7_trades 129 rfl
theorem dX7_trades_206 : decode cX7_trades 206 = .ok (.getfield 47, 3) := decA_get dAX7_trades 130 rfl
theorem dX7_trades_209 : decode cX7_trades 209 = .ok (.bipush 6, 2) := decA_get dAX7_trades 131 rfl
theorem dX7_trades_211 : decode cX7_trades 211 = .ok (.iload_n 1, 1) := decA_get dAX7_trades 132 rfl
theorem dX7_trades_212 : decode cX7_trades 212 = .ok (.imul, 1) := decA_get dAX7_trades 133 rfl
theorem dX7_trades_213 : decode cX7_trades 213 = .ok (.iload 4, 2) := decA_get dAX7_trades 134 rfl
theorem dX7_trades_215 : decode cX7_trades 215 = .ok (.iadd, 1) := decA_get dAX7_trades 135 rfl
theorem dX7_trades_216 : decode cX7_trades 216 = .ok (.iaload, 1) := decA_get dAX7_trades 136 rfl
theorem dX7_trades_217 : decode cX7_trades 217 = .ok (.ireturn, 1) := decA_get dAX7_trades 137 rfl
set_option maxHeartbeats 4000000 in
set_option maxRecDepth 100000 in
theorem z_trades (l : Launch) (D : va_G) (cI cB cZ cN : ClassId) (Zh : Nat) (Za1 : Nat) (Za3 : Nat) (Za4 : Nat) (Za5 : Nat) (Za6 : Nat) (Za7 : Nat) (Za8 : Nat) (Za9 : Nat) (Za10 : Nat) (Za11 : Nat) (Za12 : Nat) (Za13 : Nat) (Za20 : Nat) (Za21 : Nat) (Za22 : Nat) (Za23 : Nat) (Za24 : Nat) (Za25 : Nat) (Za26 : Nat) (Za27 : Nat) (Zt : Int64) (ZS : Nat → Nat → Nat) (v_p : Int32) (v_c : Int32) (v_q : Int32) (v_e : Int32) (hZ : ZOk ZS) : Ci (S := (Nat → Nat → Nat)) l D cI cB cZ cN yX7_trades wsX7_trades ({ frames := 2, cells := 0, slots := 0, locals := 43 } : Room) [.ref Zh, .int v_p, .int v_c, .int v_q, .int v_e] [(Zh, .inr (7, [.long Zt, .ref Za1, .int (nI (ZS 2 0)), .ref Za3, .ref Za4, .ref Za5, .ref Za6, .ref Za7, .ref Za8, .ref Za9, .ref Za10, .ref Za11, .ref Za12, .ref Za13, .int (nI (ZS 14 0)), .int (nI (ZS 15 0)), .int (nI (ZS 16 0)), .int (nI (ZS 17 0)), .int (nI (ZS 18 0)), .int (nI (ZS 19 0) - nI 9), .ref Za20, .ref Za21, .ref Za22, .ref Za23, .ref Za24, .ref Za25, .ref Za26, .ref Za27, .int (nI (ZS 28 0))])), (Za1, .inl (cB, 180, .inl (bF (ZS 1)))), (Za3, .inl (cI, 2, .inl (nF (ZS 3)))), (Za4, .inl (cI, 12, .inl (nF (ZS 4)))), (Za5, .inl (cI, 12, .inl (nF (ZS 5)))), (Za6, .inl (cI, 2, .inl (nF (ZS 6)))), (Za7, .inl (cI, 10, .inl (nF (ZS 7)))), (Za8, .inl (cI, 30, .inl (nF (ZS 8)))), (Za9, .inl (cI, 2, .inl (nF (ZS 9)))), (Za10, .inl (cI, 10, .inl (nF (ZS 10)))), (Za11, .inl (cI, 5, .inl (nF (ZS 11)))), (Za12, .inl (cI, 10, .inl (nF (ZS 12)))), (Za13, .inl (cI, 2, .inl (nF (ZS 13)))), (Za20, .inl (cI, 1191, .inl (nF (ZS 20)))), (Za21, .inl (cZ, 2, .inl (nF (ZS 21)))), (Za22, .inl (cI, 36, .inl (nF (ZS 22)))), (Za23, .inl (cI, 6, .inl (nF (ZS 23)))), (Za24, .inl (cI, 427, .inl (nF (ZS 24)))), (Za25, .inl (cI, 6, .inl (nF (ZS 25)))), (Za26, .inl (cI, 5, .inl (nF (ZS 26)))), (Za27, .inl (cI, 6, .inl (nF (ZS 27))))] (fun (r : Int32) (u : (Nat → Nat → Nat)) => ZP [20, 21, 22, 23, 24, 25, 26] u ZS ∧ ((¬ (inN v_p (ZS 6 0) ∧ inN v_c (ZS 3 0) ∧ inN v_q (ZS 6 0) ∧ inN v_e (ZS 3 0) ∧ v_p ≠ v_q ∧ v_c ≠ v_e) ∧ r = -1 ∧ u = ZS) ∨ (∃ p c q e, p < ZS 6 0 ∧ c < ZS 3 0 ∧ q < ZS 6 0 ∧ e < ZS 3 0 ∧ (v_p = nI p ∧ v_c = nI c ∧ v_q = nI q ∧ v_e = nI e) ∧ (p ≠ q ∧ c ≠ e) ∧ ((¬ (0 < ZS 20 (6 * p + c) ∧ 0 < ZS 20 (6 * q + e) ∧ ZS 5 c = ZS 5 e ∧ ZS 20 (6 * p + e) < 99 ∧ ZS 20 (6 * q + c) < 99) ∧ r = -2 ∧ u = ZS) ∨ ((0 < ZS 20 (6 * p + c) ∧ 0 < ZS 20 (6 * q + e) ∧ ZS 5 c = ZS 5 e ∧ ZS 20 (6 * p + e) < 99 ∧ ZS 20 (6 * q + c) < 99) ∧ r = nI (ZS 20 (6 * p + e) + 1) ∧ u = ua ZS 20 (un (un (un (un (knN (ZS 20)) (6 * p + c) (ZS 20 (6 * p + c) - 1)) (6 * q + c) (ZS 20 (6 * q + c) + 1)) (6 * q + e) (ZS 20 (6 * q + e) - 1)) (6 * p + e) (ZS 20 (6 * p + e) + 1))))))) (fun u => [(Zh, .inr (7, [.long Zt, .ref Za1, .int (nI (u 2 0)), .ref Za3, .ref Za4, .ref Za5, .ref Za6, .ref Za7, .ref Za8, .ref Za9, .ref Za10, .ref Za11, .ref Za12, .ref Za13, .int (nI (u 14 0)), .int (nI (u 15 0)), .int (nI (u 16 0)), .int (nI (u 17 0)), .int (nI (u 18 0)), .int (nI (u 19 0) - nI 9), .ref Za20, .ref Za21, .ref Za22, .ref Za23, .ref Za24, .ref Za25, .ref Za26, .ref Za27, .int (nI (u 28 0))])), (Za1, .inl (cB, 180, .inl (bF (u 1)))), (Za3, .inl (cI, 2, .inl (nF (u 3)))), (Za4, .inl (cI, 12, .inl (nF (u 4)))), (Za5, .inl (cI, 12, .inl (nF (u 5)))), (Za6, .inl (cI, 2, .inl (nF (u 6)))), (Za7, .inl (cI, 10, .inl (nF (u 7)))), (Za8, .inl (cI, 30, .inl (nF (u 8)))), (Za9, .inl (cI, 2, .inl (nF (u 9)))), (Za10, .inl (cI, 10, .inl (nF (u 10)))), (Za11, .inl (cI, 5, .inl (nF (u 11)))), (Za12, .inl (cI, 10, .inl (nF (u 12)))), (Za13, .inl (cI, 2, .inl (nF (u 13)))), (Za20, .inl (cI, 1191, .inl (nF (u 20)))), (Za21, .inl (cZ, 2, .inl (nF (u 21)))), (Za22, .inl (cI, 36, .inl (nF (u 22)))), (Za23, .inl (cI, 6, .inl (nF (u 23)))), (Za24, .inl (cI, 427, .inl (nF (u 24)))), (Za25, .inl (cI, 6, .inl (nF (u 25)))), (Za26, .inl (cI, 5, .inl (nF (u 26)))), (Za27, .inl (cI, 6, .inl (nF (u 27))))]) := by
  refine bx_of (D := D) (cI := cI) (cB := cB) (cZ := cZ) (cN := cN) (y := yX7_trades) (wd := wsX7_trades) (rm := ({ frames := 2, cells := 0, slots := 0, locals := 43 } : Room)) (av := [.ref Zh, .int v_p, .int v_c, .int v_q, .int v_e]) (wc := [(Zh, .inr (7, [.long Zt, .ref Za1, .int (nI (ZS 2 0)), .ref Za3, .ref Za4, .ref Za5, .ref Za6, .ref Za7, .ref Za8, .ref Za9, .ref Za10, .ref Za11, .ref Za12, .ref Za13, .int (nI (ZS 14 0)), .int (nI (ZS 15 0)), .int (nI (ZS 16 0)), .int (nI (ZS 17 0)), .int (nI (ZS 18 0)), .int (nI (ZS 19 0) - nI 9), .ref Za20, .ref Za21, .ref Za22, .ref Za23, .ref Za24, .ref Za25, .ref Za26, .ref Za27, .int (nI (ZS 28 0))])), (Za1, .inl (cB, 180, .inl (bF (ZS 1)))), (Za3, .inl (cI, 2, .inl (nF (ZS 3)))), (Za4, .inl (cI, 12, .inl (nF (ZS 4)))), (Za5, .inl (cI, 12, .inl (nF (ZS 5)))), (Za6, .inl (cI, 2, .inl (nF (ZS 6)))), (Za7, .inl (cI, 10, .inl (nF (ZS 7)))), (Za8, .inl (cI, 30, .inl (nF (ZS 8)))), (Za9, .inl (cI, 2, .inl (nF (ZS 9)))), (Za10, .inl (cI, 10, .inl (nF (ZS 10)))), (Za11, .inl (cI, 5, .inl (nF (ZS 11)))), (Za12, .inl (cI, 10, .inl (nF (ZS 12)))), (Za13, .inl (cI, 2, .inl (nF (ZS 13)))), (Za20, .inl (cI, 1191, .inl (nF (ZS 20)))), (Za21, .inl (cZ, 2, .inl (nF (ZS 21)))), (Za22, .inl (cI, 36, .inl (nF (ZS 22)))), (Za23, .inl (cI, 6, .inl (nF (ZS 23)))), (Za24, .inl (cI, 427, .inl (nF (ZS 24)))), (Za25, .inl (cI, 6, .inl (nF (ZS 25)))), (Za26, .inl (cI, 5, .inl (nF (ZS 26)))), (Za27, .inl (cI, 6, .inl (nF (ZS 27))))]) (cc := cX7_trades) (maxL := 6) (ret := (some .int)) (Qc := fun _ A => va_Qi (S := (Nat → Nat → Nat)) (fun (r : Int32) (u : (Nat → Nat → Nat)) => ZP [20, 21, 22, 23, 24, 25, 26] u ZS ∧ ((¬ (inN v_p (ZS 6 0) ∧ inN v_c (ZS 3 0) ∧ inN v_q (ZS 6 0) ∧ inN v_e (ZS 3 0) ∧ v_p ≠ v_q ∧ v_c ≠ v_e) ∧ r = -1 ∧ u = ZS) ∨ (∃ p c q e, p < ZS 6 0 ∧ c < ZS 3 0 ∧ q < ZS 6 0 ∧ e < ZS 3 0 ∧ (v_p = nI p ∧ v_c = nI c ∧ v_q = nI q ∧ v_e = nI e) ∧ (p ≠ q ∧ c ≠ e) ∧ ((¬ (0 < ZS 20 (6 * p + c) ∧ 0 < ZS 20 (6 * q + e) ∧ ZS 5 c = ZS 5 e ∧ ZS 20 (6 * p + e) < 99 ∧ ZS 20 (6 * q + c) < 99) ∧ r = -2 ∧ u = ZS) ∨ ((0 < ZS 20 (6 * p + c) ∧ 0 < ZS 20 (6 * q + e) ∧ ZS 5 c = ZS 5 e ∧ ZS 20 (6 * p + e) < 99 ∧ ZS 20 (6 * q + c) < 99) ∧ r = nI (ZS 20 (6 * p + e) + 1) ∧ u = ua ZS 20 (un (un (un (un (knN (ZS 20)) (6 * p + c) (ZS 20 (6 * p + c) - 1)) (6 * q + c) (ZS 20 (6 * q + c) + 1)) (6 * q + e) (ZS 20 (6 * q + e) - 1)) (6 * p + e) (ZS 20 (6 * p + e) + 1))))))) (Aft D (fun (u : (Nat → Nat → Nat)) => [(Zh, .inr (7, [.long Zt, .ref Za1, .int (nI (u 2 0)), .ref Za3, .ref Za4, .ref Za5, .ref Za6, .ref Za7, .ref Za8, .ref Za9, .ref Za10, .ref Za11, .ref Za12, .ref Za13, .int (nI (u 14 0)), .int (nI (u 15 0)), .int (nI (u 16 0)), .int (nI (u 17 0)), .int (nI (u 18 0)), .int (nI (u 19 0) - nI 9), .ref Za20, .ref Za21, .ref Za22, .ref Za23, .ref Za24, .ref Za25, .ref Za26, .ref Za27, .int (nI (u 28 0))])), (Za1, .inl (cB, 180, .inl (bF (u 1)))), (Za3, .inl (cI, 2, .inl (nF (u 3)))), (Za4, .inl (cI, 12, .inl (nF (u 4)))), (Za5, .inl (cI, 12, .inl (nF (u 5)))), (Za6, .inl (cI, 2, .inl (nF (u 6)))), (Za7, .inl (cI, 10, .inl (nF (u 7)))), (Za8, .inl (cI, 30, .inl (nF (u 8)))), (Za9, .inl (cI, 2, .inl (nF (u 9)))), (Za10, .inl (cI, 10, .inl (nF (u 10)))), (Za11, .inl (cI, 5, .inl (nF (u 11)))), (Za12, .inl (cI, 10, .inl (nF (u 12)))), (Za13, .inl (cI, 2, .inl (nF (u 13)))), (Za20, .inl (cI, 1191, .inl (nF (u 20)))), (Za21, .inl (cZ, 2, .inl (nF (u 21)))), (Za22, .inl (cI, 36, .inl (nF (u 22)))), (Za23, .inl (cI, 6, .inl (nF (u 23)))), (Za24, .inl (cI, 427, .inl (nF (u 24)))), (Za25, .inl (cI, 6, .inl (nF (u 25)))), (Za26, .inl (cI, 5, .inl (nF (u 26)))), (Za27, .inl (cI, 6, .inl (nF (u 27))))]) A) A) (by decide) rfl (Nat.le_of_ble_eq_true rfl) ?_
  intro p e s m below meth c A H locs ⟨hx, hb, hr, hml, hown, hts, hlk, hnm⟩ hK hP hD hS hA ls hl
  have hl : lv_has ls 6 [(0, .ref Zh), (1, .int v_p), (2, .int v_c), (3, .int v_q), (4, .int v_e)] := hl
  have hown : s.vm.findClass RX7 = some m.cls := hown
  have bz6 : ZS 6 0 ≤ 5 := hZ 6 0
  have bz3 : ZS 3 0 ≤ 6 := hZ 3 0
  have bz9 : ZS 9 0 ≤ 5 := hZ 9 0
  have bz28 : ZS 28 0 ≤ 6 := hZ 28 0
  refine lv_aload_n hx hb dX7_trades_0 rfl (lv_at hl 0 rfl) ?_
  refine lv_iload_n hx hb dX7_trades_1 rfl (lv_at hl 1 rfl) ?_
  refine be_i0 (ru_V (As := [.int v_p]) (rest := []) ⟨hx, hb, hml, hown, hts⟩ (z_isPerson l D cI cB cZ cN Zh Za1 Za3 Za4 Za5 Za6 Za7 Za8 Za9 Za10 Za11 Za12 Za13 Za20 Za21 Za22 Za23 Za24 Za25 Za26 Za27 Zt ZS v_p hZ H.size) gX7_trades_X7_isPerson rfl ⟨rfl, by decide, by decide, (show Option.map (fun d => d.parameters.length) (parseMethodDescriptor yX7_isPerson.desc) = some 1 by decide +kernel)⟩ ⟨Nat.le_of_ble_eq_true rfl, Nat.le_of_ble_eq_true rfl⟩ hK hP hD 7 0 rfl rfl [0, 1, 2, 3, 4, 5, 6, 7, 8, 9, 10, 11, 12, 13, 14, 15, 16, 17, 18, 19, 20] (by decide) rfl hl.1 rfl (Nat.le_of_ble_eq_true rfl) dX7_trades_2 ⟨Nat.le_of_ble_eq_true rfl, Nat.le_of_ble_eq_true rfl⟩) hP hD hS hA [0, 1, 2, 3, 4, 5, 6, 7, 8, 9, 10, 11, 12, 13, 14, 15, 16, 17, 18, 19, 20] rfl (fun r2 u1 H locs w3 hP hS => ?_)
  rcases w3 with ⟨rfl, hq4⟩ | ⟨rfl, hq4⟩
  · obtain ⟨k5, hq6, rfl⟩ := hq4
    refine nb_if_eq (tgt := 44) hx hb dX7_trades_5 (by decide) (by omega) (fun hq7 => absurd hq7 (by omega)) (fun hq7 => ?_)
    refine lv_aload_n hx hb dX7_trades_8 rfl (lv_at hl 0 rfl) ?_
    refine lv_iload_n hx hb dX7_trades_9 rfl (lv_at hl 2 rfl) ?_
    refine be_i0 (ru_V (As := [.int v_c]) (rest := []) ⟨hx, hb, hml, hown, hts⟩ (z_isCoin l D cI cB cZ cN Zh Za1 Za3 Za4 Za5 Za6 Za7 Za8 Za9 Za10 Za11 Za12 Za13 Za20 Za21 Za22 Za23 Za24 Za25 Za26 Za27 Zt ZS v_c hZ H.size) gX7_trades_X7_isCoin rfl ⟨rfl, by decide, by decide, (show Option.map (fun d => d.parameters.length) (parseMethodDescriptor yX7_isCoin.desc) = some 1 by decide +kernel)⟩ ⟨Nat.le_of_ble_eq_true rfl, Nat.le_of_ble_eq_true rfl⟩ hK hP hD 7 0 rfl rfl [0, 1, 2, 3, 4, 5, 6, 7, 8, 9, 10, 11, 12, 13, 14, 15, 16, 17, 18, 19, 20] (by decide) rfl hl.1 rfl (Nat.le_of_ble_eq_true rfl) dX7_trades_10 ⟨Nat.le_of_ble_eq_true rfl, Nat.le_of_ble_eq_true rfl⟩) hP hD hS hA [0, 1, 2, 3, 4, 5, 6, 7, 8, 9, 10, 11, 12, 13, 14, 15, 16, 17, 18, 19, 20] rfl (fun r9 u8 H locs w10 hP hS => ?_)
    rcases w10 with ⟨rfl, hq11⟩ | ⟨rfl, hq11⟩
    · obtain ⟨k12, hq13, rfl⟩ := hq11
      refine nb_if_eq (tgt := 44) hx hb dX7_trades_13 (by decide) (by omega) (fun hq14 => absurd hq14 (by omega)) (fun hq14 => ?_)
      refine lv_aload_n hx hb dX7_trades_16 rfl (lv_at hl 0 rfl) ?_
      refine lv_iload_n hx hb dX7_trades_17 rfl (lv_at hl 3 rfl) ?_
      refine be_i0 (ru_V (As := [.int v_q]) (rest := []) ⟨hx, hb, hml, hown, hts⟩ (z_isPerson l D cI cB cZ cN Zh Za1 Za3 Za4 Za5 Za6 Za7 Za8 Za9 Za10 Za11 Za12 Za13 Za20 Za21 Za22 Za23 Za24 Za25 Za26 Za27 Zt ZS v_q hZ H.size) gX7_trades_X7_isPerson rfl ⟨rfl, by decide, by decide, (show Option.map (fun d => d.parameters.length) (parseMethodDescriptor yX7_isPerson.desc) = some 1 by decide +kernel)⟩ ⟨Nat.le_of_ble_eq_true rfl, Nat.le_of_ble_eq_true rfl⟩ hK hP hD 7 0 rfl rfl [0, 1, 2, 3, 4, 5, 6, 7, 8, 9, 10, 11, 12, 13, 14, 15, 16, 17, 18, 19, 20] (by decide) rfl hl.1 rfl (Nat.le_of_ble_eq_true rfl) dX7_trades_18 ⟨Nat.le_of_ble_eq_true rfl, Nat.le_of_ble_eq_true rfl⟩) hP hD hS hA [0, 1, 2, 3, 4, 5, 6, 7, 8, 9, 10, 11, 12, 13, 14, 15, 16, 17, 18, 19, 20] rfl (fun r16 u15 H locs w17 hP hS => ?_)
      rcases w17 with ⟨rfl, hq18⟩ | ⟨rfl, hq18⟩
      · obtain ⟨k19, hq20, rfl⟩ := hq18
        refine nb_if_eq (tgt := 44) hx hb dX7_trades_21 (by decide) (by omega) (fun hq21 => absurd hq21 (by omega)) (fun hq21 => ?_)
        refine lv_aload_n hx hb dX7_trades_24 rfl (lv_at hl 0 rfl) ?_
        refine lv_iload hx hb dX7_trades_25 (lv_at hl 4 rfl) ?_
        refine be_i0 (ru_V (As := [.int v_e]) (rest := []) ⟨hx, hb, hml, hown, hts⟩ (z_isCoin l D cI cB cZ cN Zh Za1 Za3 Za4 Za5 Za6 Za7 Za8 Za9 Za10 Za11 Za12 Za13 Za20 Za21 Za22 Za23 Za24 Za25 Za26 Za27 Zt ZS v_e hZ H.size) gX7_trades_X7_isCoin rfl ⟨rfl, by decide, by decide, (show Option.map (fun d => d.parameters.length) (parseMethodDescriptor yX7_isCoin.desc) = some 1 by decide +kernel)⟩ ⟨Nat.le_of_ble_eq_true rfl, Nat.le_of_ble_eq_true rfl⟩ hK hP hD 7 0 rfl rfl [0, 1, 2, 3, 4, 5, 6, 7, 8, 9, 10, 11, 12, 13, 14, 15, 16, 17, 18, 19, 20] (by decide) rfl hl.1 rfl (Nat.le_of_ble_eq_true rfl) dX7_trades_27 ⟨Nat.le_of_ble_eq_true rfl, Nat.le_of_ble_eq_true rfl⟩) hP hD hS hA [0, 1, 2, 3, 4, 5, 6, 7, 8, 9, 10, 11, 12, 13, 14, 15, 16, 17, 18, 19, 20] rfl (fun r23 u22 H locs w24 hP hS => ?_)
        rcases w24 with ⟨rfl, hq25⟩ | ⟨rfl, hq25⟩
        · obtain ⟨k26, hq27, rfl⟩ := hq25
          refine nb_if_eq (tgt := 44) hx hb dX7_trades_30 (by decide) (by omega) (fun hq28 => absurd hq28 (by omega)) (fun hq28 => ?_)
          refine lv_iload_n hx hb dX7_trades_33 rfl (lv_at hl 1 rfl) ?_
          refine lv_iload_n hx hb dX7_trades_34 rfl (lv_at hl 3 rfl) ?_
          refine nb_icmp_eq (tgt := 44) hx hb dX7_trades_35 (by decide) (by omega) (by omega) (fun hq29 => ?_) (fun hq29 => ?_)
          · skip
            refine lv_iconst (v := -1) hx hb dX7_trades_44 (by decide) ?_
            exact en_i hx hb hr hlk hP hD hS ZS [0, 1, 2, 3, 4, 5, 6, 7, 8, 9, 10, 11, 12, 13, 14, 15, 16, 17, 18, 19, 20] (by decide) rfl (Nat.le_of_ble_eq_true rfl) (Nat.le_of_ble_eq_true rfl) dX7_trades_45 ⟨(ZP.rf hZ), (Or.inl ⟨fun q => q.2.2.2.2.1 (congrArg nI hq29), rfl, rfl⟩)⟩
          · skip
            refine lv_iload_n hx hb dX7_trades_38 rfl (lv_at hl 2 rfl) ?_
            refine lv_iload hx hb dX7_trades_39 (lv_at hl 4 rfl) ?_
            refine nb_icmp_ne (tgt := 46) hx hb dX7_trades_41 (by decide) (by omega) (by omega) (fun hq30 => ?_) (fun hq30 => ?_)
            · skip
              refine lv_aload_n hx hb dX7_trades_46 rfl (lv_at hl 0 rfl) ?_
              refine va_get (D := D) (ci := 7) (v := .ref Za20) (C := RX7) (T := TX7) (N := 29) hx hb hts in_X7_trades_7 hown hK.1 hP 0 rfl rfl 20 (by decide) (hts (.fieldLink RX7 47 "ChildCoinsModel" "now" "[I") (List.mem_of_getElem? (i := 1) rfl)) (fun _ h9 => h9) rfl dX7_trades_47 ?_
              refine lv_bipush (v := nI 6) hx hb dX7_trades_50 (by decide) ?_
              refine lv_iload_n hx hb dX7_trades_52 rfl (lv_at hl 1 rfl) ?_
              refine lv_imul hx hb dX7_trades_53 ?_
              refine set_i (y := nI (6 * k5)) (pk_mul 6 k5) ?_
              refine lv_iload_n hx hb dX7_trades_54 rfl (lv_at hl 2 rfl) ?_
              refine lv_iadd hx hb dX7_trades_55 ?_
              refine set_i (y := nI ((6 * k5) + k12)) (nI_add (6 * k5) k12) ?_
              refine va_iald hx hb hK.1 hP 13 0 rfl rfl (vp_in_nI (n := (6 * k5) + k12) (N := 1191) (by omega) (by decide)) dX7_trades_56 ?_
              refine set_i (y := nI (ZS 20 ((6 * k5) + k12))) (nF_ld (by omega)) ?_
              have b31 : ZS 20 ((6 * k5) + k12) ≤ 99 := Nat.le_trans (hZ 20 ((6 * k5) + k12)) (nbd_99 ((6 * k5) + k12))
              refine nb_if_le (tgt := 128) hx hb dX7_trades_57 (by decide) (by omega) (fun hq32 => ?_) (fun hq32 => ?_)
              · skip
                refine lv_iconst (v := nI 0) hx hb dX7_trades_128 (by decide) ?_
                refine lv_istore (lv' := [(5, .int (nI 0)), (0, .ref Zh), (1, .int (nI k5)), (2, .int (nI k12)), (3, .int (nI k19)), (4, .int (nI k26))]) hx hb dX7_trades_129 hl (by decide) rfl (fun ls hl => ?_)
                refine lv_iload hx hb dX7_trades_131 (lv_at hl 0 rfl) ?_
                refine nb_if_ne (tgt := 139) hx hb dX7_trades_133 (by decide) (by omega) (fun hq33 => absurd hq33 (by omega)) (fun hq33 => ?_)
                refine lv_bipush (v := -2) hx hb dX7_trades_136 (by decide) ?_
                exact en_i hx hb hr hlk hP hD hS ZS [0, 1, 2, 3, 4, 5, 6, 7, 8, 9, 10, 11, 12, 13, 14, 15, 16, 17, 18, 19, 20] (by decide) rfl (Nat.le_of_ble_eq_true rfl) (Nat.le_of_ble_eq_true rfl) dX7_trades_138 ⟨(ZP.rf hZ), (Or.inr ⟨k5, k12, k19, k26, hq6, hq13, hq20, hq27, ⟨rfl, rfl, rfl, rfl⟩, ⟨by omega, by omega⟩, Or.inl ⟨by omega, rfl, rfl⟩⟩)⟩
              · skip
                refine lv_aload_n hx hb dX7_trades_60 rfl (lv_at hl 0 rfl) ?_
                refine va_get (D := D) (ci := 7) (v := .ref Za20) (C := RX7) (T := TX7) (N := 29) hx hb hts in_X7_trades_7 hown hK.1 hP 0 rfl rfl 20 (by decide) (hts (.fieldLink RX7 47 "ChildCoinsModel" "now" "[I") (List.mem_of_getElem? (i := 1) rfl)) (fun _ h9 => h9) rfl dX7_trades_61 ?_
                refine lv_bipush (v := nI 6) hx hb dX7_trades_64 (by decide) ?_
                refine lv_iload_n hx hb dX7_trades_66 rfl (lv_at hl 3 rfl) ?_
                refine lv_imul hx hb dX7_trades_67 ?_
                refine set_i (y := nI (6 * k19)) (pk_mul 6 k19) ?_
                refine lv_iload hx hb dX7_trades_68 (lv_at hl 4 rfl) ?_
                refine lv_iadd hx hb dX7_trades_70 ?_
                refine set_i (y := nI ((6 * k19) + k26)) (nI_add (6 * k19) k26) ?_
                refine va_iald hx hb hK.1 hP 13 0 rfl rfl (vp_in_nI (n := (6 * k19) + k26) (N := 1191) (by omega) (by decide)) dX7_trades_71 ?_
                refine set_i (y := nI (ZS 20 ((6 * k19) + k26))) (nF_ld (by omega)) ?_
                have b34 : ZS 20 ((6 * k19) + k26) ≤ 99 := Nat.le_trans (hZ 20 ((6 * k19) + k26)) (nbd_99 ((6 * k19) + k26))
                refine nb_if_le (tgt := 128) hx hb dX7_trades_72 (by decide) (by omega) (fun hq35 => ?_) (fun hq35 => ?_)
                · skip
                  refine lv_iconst (v := nI 0) hx hb dX7_trades_128 (by decide) ?_
                  refine lv_istore (lv' := [(5, .int (nI 0)), (0, .ref Zh), (1, .int (nI k5)), (2, .int (nI k12)), (3, .int (nI k19)), (4, .int (nI k26))]) hx hb dX7_trades_129 hl (by decide) rfl (fun ls hl => ?_)
                  refine lv_iload hx hb dX7_trades_131 (lv_at hl 0 rfl) ?_
                  refine nb_if_ne (tgt := 139) hx hb dX7_trades_133 (by decide) (by omega) (fun hq36 => absurd hq36 (by omega)) (fun hq36 => ?_)
                  refine lv_bipush (v := -2) hx hb dX7_trades_136 (by decide) ?_
                  exact en_i hx hb hr hlk hP hD hS ZS [0, 1, 2, 3, 4, 5, 6, 7, 8, 9, 10, 11, 12, 13, 14, 15, 16, 17, 18, 19, 20] (by decide) rfl (Nat.le_of_ble_eq_true rfl) (Nat.le_of_ble_eq_true rfl) dX7_trades_138 ⟨(ZP.rf hZ), (Or.inr ⟨k5, k12, k19, k26, hq6, hq13, hq20, hq27, ⟨rfl, rfl, rfl, rfl⟩, ⟨by omega, by omega⟩, Or.inl ⟨by omega, rfl, rfl⟩⟩)⟩
                · skip
                  refine lv_aload_n hx hb dX7_trades_75 rfl (lv_at hl 0 rfl) ?_
                  refine va_get (D := D) (ci := 7) (v := .ref Za5) (C := RX7) (T := TX7) (N := 29) hx hb hts in_X7_trades_7 hown hK.1 hP 0 rfl rfl 5 (by decide) (hts (.fieldLink RX7 20 "ChildCoinsModel" "worth" "[I") (List.mem_of_getElem? (i := 2) rfl)) (fun _ h9 => h9) rfl dX7_trades_76 ?_
                  refine lv_iload_n hx hb dX7_trades_79 rfl (lv_at hl 2 rfl) ?_
                  refine va_iald hx hb hK.1 hP 4 0 rfl rfl (vp_in_nI (n := k12) (N := 12) (by omega) (by decide)) dX7_trades_80 ?_
                  refine set_i (y := nI (ZS 5 k12)) (nF_ld (by omega)) ?_
                  have b37 : ZS 5 k12 ≤ 999 := hZ 5 k12
                  refine lv_aload_n hx hb dX7_trades_81 rfl (lv_at hl 0 rfl) ?_
                  refine va_get (D := D) (ci := 7) (v := .ref Za5) (C := RX7) (T := TX7) (N := 29) hx hb hts in_X7_trades_7 hown hK.1 hP 0 rfl rfl 5 (by decide) (hts (.fieldLink RX7 20 "ChildCoinsModel" "worth" "[I") (List.mem_of_getElem? (i := 2) rfl)) (fun _ h9 => h9) rfl dX7_trades_82 ?_
                  refine lv_iload hx hb dX7_trades_85 (lv_at hl 4 rfl) ?_
                  refine va_iald hx hb hK.1 hP 4 0 rfl rfl (vp_in_nI (n := k26) (N := 12) (by omega) (by decide)) dX7_trades_87 ?_
                  refine set_i (y := nI (ZS 5 k26)) (nF_ld (by omega)) ?_
                  have b38 : ZS 5 k26 ≤ 999 := hZ 5 k26
                  refine nb_icmp_ne (tgt := 128) hx hb dX7_trades_88 (by decide) (by omega) (by omega) (fun hq39 => ?_) (fun hq39 => ?_)
                  · skip
                    refine lv_iconst (v := nI 0) hx hb dX7_trades_128 (by decide) ?_
                    refine lv_istore (lv' := [(5, .int (nI 0)), (0, .ref Zh), (1, .int (nI k5)), (2, .int (nI k12)), (3, .int (nI k19)), (4, .int (nI k26))]) hx hb dX7_trades_129 hl (by decide) rfl (fun ls hl => ?_)
                    refine lv_iload hx hb dX7_trades_131 (lv_at hl 0 rfl) ?_
                    refine nb_if_ne (tgt := 139) hx hb dX7_trades_133 (by decide) (by omega) (fun hq40 => absurd hq40 (by omega)) (fun hq40 => ?_)
                    refine lv_bipush (v := -2) hx hb dX7_trades_136 (by decide) ?_
                    exact en_i hx hb hr hlk hP hD hS ZS [0, 1, 2, 3, 4, 5, 6, 7, 8, 9, 10, 11, 12, 13, 14, 15, 16, 17, 18, 19, 20] (by decide) rfl (Nat.le_of_ble_eq_true rfl) (Nat.le_of_ble_eq_true rfl) dX7_trades_138 ⟨(ZP.rf hZ), (Or.inr ⟨k5, k12, k19, k26, hq6, hq13, hq20, hq27, ⟨rfl, rfl, rfl, rfl⟩, ⟨by omega, by omega⟩, Or.inl ⟨by omega, rfl, rfl⟩⟩)⟩
                  · skip
                    refine lv_aload_n hx hb dX7_trades_91 rfl (lv_at hl 0 rfl) ?_
                    refine va_get (D := D) (ci := 7) (v := .ref Za20) (C := RX7) (T := TX7) (N := 29) hx hb hts in_X7_trades_7 hown hK.1 hP 0 rfl rfl 20 (by decide) (hts (.fieldLink RX7 47 "ChildCoinsModel" "now" "[I") (List.mem_of_getElem? (i := 1) rfl)) (fun _ h9 => h9) rfl dX7_trades_92 ?_
                    refine lv_bipush (v := nI 6) hx hb dX7_trades_95 (by decide) ?_
                    refine lv_iload_n hx hb dX7_trades_97 rfl (lv_at hl 1 rfl) ?_
                    refine lv_imul hx hb dX7_trades_98 ?_
                    refine set_i (y := nI (6 * k5)) (pk_mul 6 k5) ?_
                    refine lv_iload hx hb dX7_trades_99 (lv_at hl 4 rfl) ?_
                    refine lv_iadd hx hb dX7_trades_101 ?_
                    refine set_i (y := nI ((6 * k5) + k26)) (nI_add (6 * k5) k26) ?_
                    refine va_iald hx hb hK.1 hP 13 0 rfl rfl (vp_in_nI (n := (6 * k5) + k26) (N := 1191) (by omega) (by decide)) dX7_trades_102 ?_
                    refine set_i (y := nI (ZS 20 ((6 * k5) + k26))) (nF_ld (by omega)) ?_
                    have b41 : ZS 20 ((6 * k5) + k26) ≤ 99 := Nat.le_trans (hZ 20 ((6 * k5) + k26)) (nbd_99 ((6 * k5) + k26))
                    refine lv_bipush (v := nI 99) hx hb dX7_trades_103 (by decide) ?_
                    refine nb_icmp_ge (tgt := 128) hx hb dX7_trades_105 (by decide) (by omega) (by omega) (fun hq42 => ?_) (fun hq42 => ?_)
                    · skip
                      refine lv_iconst (v := nI 0) hx hb dX7_trades_128 (by decide) ?_
                      refine lv_istore (lv' := [(5, .int (nI 0)), (0, .ref Zh), (1, .int (nI k5)), (2, .int (nI k12)), (3, .int (nI k19)), (4, .int (nI k26))]) hx hb dX7_trades_129 hl (by decide) rfl (fun ls hl => ?_)
                      refine lv_iload hx hb dX7_trades_131 (lv_at hl 0 rfl) ?_
                      refine nb_if_ne (tgt := 139) hx hb dX7_trades_133 (by decide) (by omega) (fun hq43 => absurd hq43 (by omega)) (fun hq43 => ?_)
                      refine lv_bipush (v := -2) hx hb dX7_trades_136 (by decide) ?_
                      exact en_i hx hb hr hlk hP hD hS ZS [0, 1, 2, 3, 4, 5, 6, 7, 8, 9, 10, 11, 12, 13, 14, 15, 16, 17, 18, 19, 20] (by decide) rfl (Nat.le_of_ble_eq_true rfl) (Nat.le_of_ble_eq_true rfl) dX7_trades_138 ⟨(ZP.rf hZ), (Or.inr ⟨k5, k12, k19, k26, hq6, hq13, hq20, hq27, ⟨rfl, rfl, rfl, rfl⟩, ⟨by omega, by omega⟩, Or.inl ⟨by omega, rfl, rfl⟩⟩)⟩
                    · skip
                      refine lv_aload_n hx hb dX7_trades_108 rfl (lv_at hl 0 rfl) ?_
                      refine va_get (D := D) (ci := 7) (v := .ref Za20) (C := RX7) (T := TX7) (N := 29) hx hb hts in_X7_trades_7 hown hK.1 hP 0 rfl rfl 20 (by decide) (hts (.fieldLink RX7 47 "ChildCoinsModel" "now" "[I") (List.mem_of_getElem? (i := 1) rfl)) (fun _ h9 => h9) rfl dX7_trades_109 ?_
                      refine lv_bipush (v := nI 6) hx hb dX7_trades_112 (by decide) ?_
                      refine lv_iload_n hx hb dX7_trades_114 rfl (lv_at hl 3 rfl) ?_
                      refine lv_imul hx hb dX7_trades_115 ?_
                      refine set_i (y := nI (6 * k19)) (pk_mul 6 k19) ?_
                      refine lv_iload_n hx hb dX7_trades_116 rfl (lv_at hl 2 rfl) ?_
                      refine lv_iadd hx hb dX7_trades_117 ?_
                      refine set_i (y := nI ((6 * k19) + k12)) (nI_add (6 * k19) k12) ?_
                      refine va_iald hx hb hK.1 hP 13 0 rfl rfl (vp_in_nI (n := (6 * k19) + k12) (N := 1191) (by omega) (by decide)) dX7_trades_118 ?_
                      refine set_i (y := nI (ZS 20 ((6 * k19) + k12))) (nF_ld (by omega)) ?_
                      have b44 : ZS 20 ((6 * k19) + k12) ≤ 99 := Nat.le_trans (hZ 20 ((6 * k19) + k12)) (nbd_99 ((6 * k19) + k12))
                      refine lv_bipush (v := nI 99) hx hb dX7_trades_119 (by decide) ?_
                      refine nb_icmp_ge (tgt := 128) hx hb dX7_trades_121 (by decide) (by omega) (by omega) (fun hq45 => ?_) (fun hq45 => ?_)
                      · skip
                        refine lv_iconst (v := nI 0) hx hb dX7_trades_128 (by decide) ?_
                        refine lv_istore (lv' := [(5, .int (nI 0)), (0, .ref Zh), (1, .int (nI k5)), (2, .int (nI k12)), (3, .int (nI k19)), (4, .int (nI k26))]) hx hb dX7_trades_129 hl (by decide) rfl (fun ls hl => ?_)
                        refine lv_iload hx hb dX7_trades_131 (lv_at hl 0 rfl) ?_
                        refine nb_if_ne (tgt := 139) hx hb dX7_trades_133 (by decide) (by omega) (fun hq46 => absurd hq46 (by omega)) (fun hq46 => ?_)
                        refine lv_bipush (v := -2) hx hb dX7_trades_136 (by decide) ?_
                        exact en_i hx hb hr hlk hP hD hS ZS [0, 1, 2, 3, 4, 5, 6, 7, 8, 9, 10, 11, 12, 13, 14, 15, 16, 17, 18, 19, 20] (by decide) rfl (Nat.le_of_ble_eq_true rfl) (Nat.le_of_ble_eq_true rfl) dX7_trades_138 ⟨(ZP.rf hZ), (Or.inr ⟨k5, k12, k19, k26, hq6, hq13, hq20, hq27, ⟨rfl, rfl, rfl, rfl⟩, ⟨by omega, by omega⟩, Or.inl ⟨by omega, rfl, rfl⟩⟩)⟩
                      · skip
                        refine lv_iconst (v := nI 1) hx hb dX7_trades_124 (by decide) ?_
                        refine lv_goto (tgt := 129) hx hb dX7_trades_125 (by decide) ?_
                        refine lv_istore (lv' := [(5, .int (nI 1)), (0, .ref Zh), (1, .int (nI k5)), (2, .int (nI k12)), (3, .int (nI k19)), (4, .int (nI k26))]) hx hb dX7_trades_129 hl (by decide) rfl (fun ls hl => ?_)
                        refine lv_iload hx hb dX7_trades_131 (lv_at hl 0 rfl) ?_
                        refine nb_if_ne (tgt := 139) hx hb dX7_trades_133 (by decide) (by omega) (fun hq47 => ?_) (fun hq47 => absurd hq47 (by omega))
                        refine lv_aload_n hx hb dX7_trades_139 rfl (lv_at hl 1 rfl) ?_
                        refine be_v (free := fun _ => False) (wr := []) (ru_V (As := []) (rest := []) ⟨hx, hb, hml, hown, hts⟩ (z_know l D cI cB cZ cN Zh Za1 Za3 Za4 Za5 Za6 Za7 Za8 Za9 Za10 Za11 Za12 Za13 Za20 Za21 Za22 Za23 Za24 Za25 Za26 Za27 Zt ZS hZ H.size) gX7_trades_X7_know rfl ⟨rfl, by decide, by decide, (show Option.map (fun d => d.parameters.length) (parseMethodDescriptor yX7_know.desc) = some 0 by decide +kernel)⟩ ⟨Nat.le_of_ble_eq_true rfl, Nat.le_of_ble_eq_true rfl⟩ hK hP hD 7 0 rfl rfl [0, 1, 2, 3, 4, 5, 6, 7, 8, 9, 10, 11, 12, 13, 14, 15, 16, 17, 18, 19, 20] (by decide) rfl hl.1 rfl (Nat.le_of_ble_eq_true rfl) dX7_trades_140 ⟨Nat.le_of_ble_eq_true rfl, Nat.le_of_ble_eq_true rfl⟩) hP hD hS hA [0, 1, 2, 3, 4, 5, 6, 7, 8, 9, 10, 11, 12, 13, 14, 15, 16, 17, 18, 19, 20] [] rfl rfl (by decide) (by decide) (fun u48 H locs w50 hP hD hS => ?_)
                        subst w50
                        have hzz51 : ZOk (ua ZS 20 (knN (ZS 20))) := (zok_set (k := 20) hZ (kn_b (hZ 20)))
                        obtain ⟨hP, hD⟩ : wPD D A [(Zh, .inr (7, [.long Zt, .ref Za1, .int (nI (ZS 2 0)), .ref Za3, .ref Za4, .ref Za5, .ref Za6, .ref Za7, .ref Za8, .ref Za9, .ref Za10, .ref Za11, .ref Za12, .ref Za13, .int (nI (ZS 14 0)), .int (nI (ZS 15 0)), .int (nI (ZS 16 0)), .int (nI (ZS 17 0)), .int (nI (ZS 18 0)), .int (nI (ZS 19 0) - nI 9), .ref Za20, .ref Za21, .ref Za22, .ref Za23, .ref Za24, .ref Za25, .ref Za26, .ref Za27, .int (nI (ZS 28 0))])), (Za1, .inl (cB, 180, .inl (bF (ZS 1)))), (Za3, .inl (cI, 2, .inl (nF (ZS 3)))), (Za4, .inl (cI, 12, .inl (nF (ZS 4)))), (Za5, .inl (cI, 12, .inl (nF (ZS 5)))), (Za6, .inl (cI, 2, .inl (nF (ZS 6)))), (Za7, .inl (cI, 10, .inl (nF (ZS 7)))), (Za8, .inl (cI, 30, .inl (nF (ZS 8)))), (Za9, .inl (cI, 2, .inl (nF (ZS 9)))), (Za10, .inl (cI, 10, .inl (nF (ZS 10)))), (Za11, .inl (cI, 5, .inl (nF (ZS 11)))), (Za12, .inl (cI, 10, .inl (nF (ZS 12)))), (Za13, .inl (cI, 2, .inl (nF (ZS 13)))), (Za20, .inl (cI, 1191, .inl (nF (knN (ZS 20))))), (Za21, .inl (cZ, 2, .inl (nF (ZS 21)))), (Za22, .inl (cI, 36, .inl (nF (ZS 22)))), (Za23, .inl (cI, 6, .inl (nF (ZS 23)))), (Za24, .inl (cI, 427, .inl (nF (ZS 24)))), (Za25, .inl (cI, 6, .inl (nF (ZS 25)))), (Za26, .inl (cI, 5, .inl (nF (ZS 26)))), (Za27, .inl (cI, 6, .inl (nF (ZS 27))))] H := ⟨hP, hD⟩
                        refine lv_aload_n hx hb dX7_trades_143 rfl (lv_at hl 1 rfl) ?_
                        refine va_get (D := D) (ci := 7) (v := .ref Za20) (C := RX7) (T := TX7) (N := 29) hx hb hts in_X7_trades_7 hown hK.1 hP 0 rfl rfl 20 (by decide) (hts (.fieldLink RX7 47 "ChildCoinsModel" "now" "[I") (List.mem_of_getElem? (i := 1) rfl)) (fun _ h9 => h9) rfl dX7_trades_144 ?_
                        refine lv_bipush (v := nI 6) hx hb dX7_trades_147 (by decide) ?_
                        refine lv_iload_n hx hb dX7_trades_149 rfl (lv_at hl 2 rfl) ?_
                        refine lv_imul hx hb dX7_trades_150 ?_
                        refine set_i (y := nI (6 * k5)) (pk_mul 6 k5) ?_
                        refine lv_iload_n hx hb dX7_trades_151 rfl (lv_at hl 3 rfl) ?_
                        refine lv_iadd hx hb dX7_trades_152 ?_
                        refine set_i (y := nI ((6 * k5) + k12)) (nI_add (6 * k5) k12) ?_
                        refine lv_dup2_11 hx hb dX7_trades_153 rfl rfl ?_
                        refine va_iald hx hb hK.1 hP 13 0 rfl rfl (vp_in_nI (n := (6 * k5) + k12) (N := 1191) (by omega) (by decide)) dX7_trades_154 ?_
                        refine set_i (y := nI ((knN (ZS 20)) ((6 * k5) + k12))) (nF_ld (by omega)) ?_
                        refine set_i (y := nI (ZS 20 ((6 * k5) + k12))) (congrArg nI (by rw [kn_lo (by omega)])) ?_
                        have b52 : ZS 20 ((6 * k5) + k12) ≤ 99 := Nat.le_trans (hZ 20 ((6 * k5) + k12)) (nbd_99 ((6 * k5) + k12))
                        refine lv_iconst (v := nI 1) hx hb dX7_trades_155 (by decide) ?_
                        refine lv_isub hx hb dX7_trades_156 ?_
                        refine set_i (y := nI ((ZS 20 ((6 * k5) + k12)) - 1)) (pk_sub (by omega)) ?_
                        refine va_iast hx hb hK.1 hP hD hS 13 0 rfl rfl (vp_in_nI (n := (6 * k5) + k12) (N := 1191) (by omega) (by decide)) dX7_trades_157 (fun H locs hP hD hS => ?_)
                        obtain ⟨hP, hD⟩ : wPD D A [(Zh, .inr (7, [.long Zt, .ref Za1, .int (nI (ZS 2 0)), .ref Za3, .ref Za4, .ref Za5, .ref Za6, .ref Za7, .ref Za8, .ref Za9, .ref Za10, .ref Za11, .ref Za12, .ref Za13, .int (nI (ZS 14 0)), .int (nI (ZS 15 0)), .int (nI (ZS 16 0)), .int (nI (ZS 17 0)), .int (nI (ZS 18 0)), .int (nI (ZS 19 0) - nI 9), .ref Za20, .ref Za21, .ref Za22, .ref Za23, .ref Za24, .ref Za25, .ref Za26, .ref Za27, .int (nI (ZS 28 0))])), (Za1, .inl (cB, 180, .inl (bF (ZS 1)))), (Za3, .inl (cI, 2, .inl (nF (ZS 3)))), (Za4, .inl (cI, 12, .inl (nF (ZS 4)))), (Za5, .inl (cI, 12, .inl (nF (ZS 5)))), (Za6, .inl (cI, 2, .inl (nF (ZS 6)))), (Za7, .inl (cI, 10, .inl (nF (ZS 7)))), (Za8, .inl (cI, 30, .inl (nF (ZS 8)))), (Za9, .inl (cI, 2, .inl (nF (ZS 9)))), (Za10, .inl (cI, 10, .inl (nF (ZS 10)))), (Za11, .inl (cI, 5, .inl (nF (ZS 11)))), (Za12, .inl (cI, 10, .inl (nF (ZS 12)))), (Za13, .inl (cI, 2, .inl (nF (ZS 13)))), (Za20, .inl (cI, 1191, .inl (upd (nF (knN (ZS 20))) (nI ((6 * k5) + k12)).toNatClampNeg (nI ((ZS 20 ((6 * k5) + k12)) - 1))))), (Za21, .inl (cZ, 2, .inl (nF (ZS 21)))), (Za22, .inl (cI, 36, .inl (nF (ZS 22)))), (Za23, .inl (cI, 6, .inl (nF (ZS 23)))), (Za24, .inl (cI, 427, .inl (nF (ZS 24)))), (Za25, .inl (cI, 6, .inl (nF (ZS 25)))), (Za26, .inl (cI, 5, .inl (nF (ZS 26)))), (Za27, .inl (cI, 6, .inl (nF (ZS 27))))] H := ⟨hP, hD⟩
                        rw [nF_st (by omega)] at hP hD
                        have hzz53 : ZOk (ua ZS 20 (un (knN (ZS 20)) ((6 * k5) + k12) ((ZS 20 ((6 * k5) + k12)) - 1))) := (zok_set (k := 20) hZ (un_zb (f := zb 20) (kn_b (hZ 20)) (Nat.le_trans (show (ZS 20 ((6 * k5) + k12)) - 1 ≤ 99 by omega) (Nat.le_of_eq (nbd_h (j := (6 * k5) + k12) (by omega)).symm))))
                        refine lv_aload_n hx hb dX7_trades_158 rfl (lv_at hl 1 rfl) ?_
                        refine va_get (D := D) (ci := 7) (v := .ref Za20) (C := RX7) (T := TX7) (N := 29) hx hb hts in_X7_trades_7 hown hK.1 hP 0 rfl rfl 20 (by decide) (hts (.fieldLink RX7 47 "ChildCoinsModel" "now" "[I") (List.mem_of_getElem? (i := 1) rfl)) (fun _ h9 => h9) rfl dX7_trades_159 ?_
                        refine lv_bipush (v := nI 6) hx hb dX7_trades_162 (by decide) ?_
                        refine lv_iload_n hx hb dX7_trades_164 rfl (lv_at hl 4 rfl) ?_
                        refine lv_imul hx hb dX7_trades_165 ?_
                        refine set_i (y := nI (6 * k19)) (pk_mul 6 k19) ?_
                        refine lv_iload_n hx hb dX7_trades_166 rfl (lv_at hl 3 rfl) ?_
                        refine lv_iadd hx hb dX7_trades_167 ?_
                        refine set_i (y := nI ((6 * k19) + k12)) (nI_add (6 * k19) k12) ?_
                        refine lv_dup2_11 hx hb dX7_trades_168 rfl rfl ?_
                        refine va_iald hx hb hK.1 hP 13 0 rfl rfl (vp_in_nI (n := (6 * k19) + k12) (N := 1191) (by omega) (by decide)) dX7_trades_169 ?_
                        refine set_i (y := nI ((un (knN (ZS 20)) ((6 * k5) + k12) ((ZS 20 ((6 * k5) + k12)) - 1)) ((6 * k19) + k12))) (nF_ld (by omega)) ?_
                        refine set_i (y := nI (ZS 20 ((6 * k19) + k12))) (congrArg nI (by rw [un_n (by omega), kn_lo (by omega)])) ?_
                        have b54 : ZS 20 ((6 * k19) + k12) ≤ 99 := Nat.le_trans (hZ 20 ((6 * k19) + k12)) (nbd_99 ((6 * k19) + k12))
                        refine lv_iconst (v := nI 1) hx hb dX7_trades_170 (by decide) ?_
                        refine lv_iadd hx hb dX7_trades_171 ?_
                        refine set_i (y := nI ((ZS 20 ((6 * k19) + k12)) + 1)) (nI_add (ZS 20 ((6 * k19) + k12)) 1) ?_
                        refine va_iast hx hb hK.1 hP hD hS 13 0 rfl rfl (vp_in_nI (n := (6 * k19) + k12) (N := 1191) (by omega) (by decide)) dX7_trades_172 (fun H locs hP hD hS => ?_)
                        obtain ⟨hP, hD⟩ : wPD D A [(Zh, .inr (7, [.long Zt, .ref Za1, .int (nI (ZS 2 0)), .ref Za3, .ref Za4, .ref Za5, .ref Za6, .ref Za7, .ref Za8, .ref Za9, .ref Za10, .ref Za11, .ref Za12, .ref Za13, .int (nI (ZS 14 0)), .int (nI (ZS 15 0)), .int (nI (ZS 16 0)), .int (nI (ZS 17 0)), .int (nI (ZS 18 0)), .int (nI (ZS 19 0) - nI 9), .ref Za20, .ref Za21, .ref Za22, .ref Za23, .ref Za24, .ref Za25, .ref Za26, .ref Za27, .int (nI (ZS 28 0))])), (Za1, .inl (cB, 180, .inl (bF (ZS 1)))), (Za3, .inl (cI, 2, .inl (nF (ZS 3)))), (Za4, .inl (cI, 12, .inl (nF (ZS 4)))), (Za5, .inl (cI, 12, .inl (nF (ZS 5)))), (Za6, .inl (cI, 2, .inl (nF (ZS 6)))), (Za7, .inl (cI, 10, .inl (nF (ZS 7)))), (Za8, .inl (cI, 30, .inl (nF (ZS 8)))), (Za9, .inl (cI, 2, .inl (nF (ZS 9)))), (Za10, .inl (cI, 10, .inl (nF (ZS 10)))), (Za11, .inl (cI, 5, .inl (nF (ZS 11)))), (Za12, .inl (cI, 10, .inl (nF (ZS 12)))), (Za13, .inl (cI, 2, .inl (nF (ZS 13)))), (Za20, .inl (cI, 1191, .inl (upd (nF (un (knN (ZS 20)) ((6 * k5) + k12) ((ZS 20 ((6 * k5) + k12)) - 1))) (nI ((6 * k19) + k12)).toNatClampNeg (nI ((ZS 20 ((6 * k19) + k12)) + 1))))), (Za21, .inl (cZ, 2, .inl (nF (ZS 21)))), (Za22, .inl (cI, 36, .inl (nF (ZS 22)))), (Za23, .inl (cI, 6, .inl (nF (ZS 23)))), (Za24, .inl (cI, 427, .inl (nF (ZS 24)))), (Za25, .inl (cI, 6, .inl (nF (ZS 25)))), (Za26, .inl (cI, 5, .inl (nF (ZS 26)))), (Za27, .inl (cI, 6, .inl (nF (ZS 27))))] H := ⟨hP, hD⟩
                        rw [nF_st (by omega)] at hP hD
                        have hzz55 : ZOk (ua ZS 20 (un (un (knN (ZS 20)) ((6 * k5) + k12) ((ZS 20 ((6 * k5) + k12)) - 1)) ((6 * k19) + k12) ((ZS 20 ((6 * k19) + k12)) + 1))) := (zok_set (k := 20) hZ (un_zb (f := zb 20) (hzz53 20) (Nat.le_trans (show (ZS 20 ((6 * k19) + k12)) + 1 ≤ 99 by omega) (Nat.le_of_eq (nbd_h (j := (6 * k19) + k12) (by omega)).symm))))
                        refine lv_aload_n hx hb dX7_trades_173 rfl (lv_at hl 1 rfl) ?_
                        refine va_get (D := D) (ci := 7) (v := .ref Za20) (C := RX7) (T := TX7) (N := 29) hx hb hts in_X7_trades_7 hown hK.1 hP 0 rfl rfl 20 (by decide) (hts (.fieldLink RX7 47 "ChildCoinsModel" "now" "[I") (List.mem_of_getElem? (i := 1) rfl)) (fun _ h9 => h9) rfl dX7_trades_174 ?_
                        refine lv_bipush (v := nI 6) hx hb dX7_trades_177 (by decide) ?_
                        refine lv_iload_n hx hb dX7_trades_179 rfl (lv_at hl 4 rfl) ?_
                        refine lv_imul hx hb dX7_trades_180 ?_
                        refine set_i (y := nI (6 * k19)) (pk_mul 6 k19) ?_
                        refine lv_iload hx hb dX7_trades_181 (lv_at hl 5 rfl) ?_
                        refine lv_iadd hx hb dX7_trades_183 ?_
                        refine set_i (y := nI ((6 * k19) + k26)) (nI_add (6 * k19) k26) ?_
                        refine lv_dup2_11 hx hb dX7_trades_184 rfl rfl ?_
                        refine va_iald hx hb hK.1 hP 13 0 rfl rfl (vp_in_nI (n := (6 * k19) + k26) (N := 1191) (by omega) (by decide)) dX7_trades_185 ?_
                        refine set_i (y := nI ((un (un (knN (ZS 20)) ((6 * k5) + k12) ((ZS 20 ((6 * k5) + k12)) - 1)) ((6 * k19) + k12) ((ZS 20 ((6 * k19) + k12)) + 1)) ((6 * k19) + k26))) (nF_ld (by omega)) ?_
                        refine set_i (y := nI (ZS 20 ((6 * k19) + k26))) (congrArg nI (by rw [un_n (by omega), un_n (by omega), kn_lo (by omega)])) ?_
                        have b56 : ZS 20 ((6 * k19) + k26) ≤ 99 := Nat.le_trans (hZ 20 ((6 * k19) + k26)) (nbd_99 ((6 * k19) + k26))
                        refine lv_iconst (v := nI 1) hx hb dX7_trades_186 (by decide) ?_
                        refine lv_isub hx hb dX7_trades_187 ?_
                        refine set_i (y := nI ((ZS 20 ((6 * k19) + k26)) - 1)) (pk_sub (by omega)) ?_
                        refine va_iast hx hb hK.1 hP hD hS 13 0 rfl rfl (vp_in_nI (n := (6 * k19) + k26) (N := 1191) (by omega) (by decide)) dX7_trades_188 (fun H locs hP hD hS => ?_)
                        obtain ⟨hP, hD⟩ : wPD D A [(Zh, .inr (7, [.long Zt, .ref Za1, .int (nI (ZS 2 0)), .ref Za3, .ref Za4, .ref Za5, .ref Za6, .ref Za7, .ref Za8, .ref Za9, .ref Za10, .ref Za11, .ref Za12, .ref Za13, .int (nI (ZS 14 0)), .int (nI (ZS 15 0)), .int (nI (ZS 16 0)), .int (nI (ZS 17 0)), .int (nI (ZS 18 0)), .int (nI (ZS 19 0) - nI 9), .ref Za20, .ref Za21, .ref Za22, .ref Za23, .ref Za24, .ref Za25, .ref Za26, .ref Za27, .int (nI (ZS 28 0))])), (Za1, .inl (cB, 180, .inl (bF (ZS 1)))), (Za3, .inl (cI, 2, .inl (nF (ZS 3)))), (Za4, .inl (cI, 12, .inl (nF (ZS 4)))), (Za5, .inl (cI, 12, .inl (nF (ZS 5)))), (Za6, .inl (cI, 2, .inl (nF (ZS 6)))), (Za7, .inl (cI, 10, .inl (nF (ZS 7)))), (Za8, .inl (cI, 30, .inl (nF (ZS 8)))), (Za9, .inl (cI, 2, .inl (nF (ZS 9)))), (Za10, .inl (cI, 10, .inl (nF (ZS 10)))), (Za11, .inl (cI, 5, .inl (nF (ZS 11)))), (Za12, .inl (cI, 10, .inl (nF (ZS 12)))), (Za13, .inl (cI, 2, .inl (nF (ZS 13)))), (Za20, .inl (cI, 1191, .inl (upd (nF (un (un (knN (ZS 20)) ((6 * k5) + k12) ((ZS 20 ((6 * k5) + k12)) - 1)) ((6 * k19) + k12) ((ZS 20 ((6 * k19) + k12)) + 1))) (nI ((6 * k19) + k26)).toNatClampNeg (nI ((ZS 20 ((6 * k19) + k26)) - 1))))), (Za21, .inl (cZ, 2, .inl (nF (ZS 21)))), (Za22, .inl (cI, 36, .inl (nF (ZS 22)))), (Za23, .inl (cI, 6, .inl (nF (ZS 23)))), (Za24, .inl (cI, 427, .inl (nF (ZS 24)))), (Za25, .inl (cI, 6, .inl (nF (ZS 25)))), (Za26, .inl (cI, 5, .inl (nF (ZS 26)))), (Za27, .inl (cI, 6, .inl (nF (ZS 27))))] H := ⟨hP, hD⟩
                        rw [nF_st (by omega)] at hP hD
                        have hzz57 : ZOk (ua ZS 20 (un (un (un (knN (ZS 20)) ((6 * k5) + k12) ((ZS 20 ((6 * k5) + k12)) - 1)) ((6 * k19) + k12) ((ZS 20 ((6 * k19) + k12)) + 1)) ((6 * k19) + k26) ((ZS 20 ((6 * k19) + k26)) - 1))) := (zok_set (k := 20) hZ (un_zb (f := zb 20) (hzz55 20) (Nat.le_trans (show (ZS 20 ((6 * k19) + k26)) - 1 ≤ 99 by omega) (Nat.le_of_eq (nbd_h (j := (6 * k19) + k26) (by omega)).symm))))
                        refine lv_aload_n hx hb dX7_trades_189 rfl (lv_at hl 1 rfl) ?_
                        refine va_get (D := D) (ci := 7) (v := .ref Za20) (C := RX7) (T := TX7) (N := 29) hx hb hts in_X7_trades_7 hown hK.1 hP 0 rfl rfl 20 (by decide) (hts (.fieldLink RX7 47 "ChildCoinsModel" "now" "[I") (List.mem_of_getElem? (i := 1) rfl)) (fun _ h9 => h9) rfl dX7_trades_190 ?_
                        refine lv_bipush (v := nI 6) hx hb dX7_trades_193 (by decide) ?_
                        refine lv_iload_n hx hb dX7_trades_195 rfl (lv_at hl 2 rfl) ?_
                        refine lv_imul hx hb dX7_trades_196 ?_
                        refine set_i (y := nI (6 * k5)) (pk_mul 6 k5) ?_
                        refine lv_iload hx hb dX7_trades_197 (lv_at hl 5 rfl) ?_
                        refine lv_iadd hx hb dX7_trades_199 ?_
                        refine set_i (y := nI ((6 * k5) + k26)) (nI_add (6 * k5) k26) ?_
                        refine lv_dup2_11 hx hb dX7_trades_200 rfl rfl ?_
                        refine va_iald hx hb hK.1 hP 13 0 rfl rfl (vp_in_nI (n := (6 * k5) + k26) (N := 1191) (by omega) (by decide)) dX7_trades_201 ?_
                        refine set_i (y := nI ((un (un (un (knN (ZS 20)) ((6 * k5) + k12) ((ZS 20 ((6 * k5) + k12)) - 1)) ((6 * k19) + k12) ((ZS 20 ((6 * k19) + k12)) + 1)) ((6 * k19) + k26) ((ZS 20 ((6 * k19) + k26)) - 1)) ((6 * k5) + k26))) (nF_ld (by omega)) ?_
                        refine set_i (y := nI (ZS 20 ((6 * k5) + k26))) (congrArg nI (by rw [un_n (by omega), un_n (by omega), un_n (by omega), kn_lo (by omega)])) ?_
                        have b58 : ZS 20 ((6 * k5) + k26) ≤ 99 := Nat.le_trans (hZ 20 ((6 * k5) + k26)) (nbd_99 ((6 * k5) + k26))
                        refine lv_iconst (v := nI 1) hx hb dX7_trades_202 (by decide) ?_
                        refine lv_iadd hx hb dX7_trades_203 ?_
                        refine set_i (y := nI ((ZS 20 ((6 * k5) + k26)) + 1)) (nI_add (ZS 20 ((6 * k5) + k26)) 1) ?_
                        refine va_iast hx hb hK.1 hP hD hS 13 0 rfl rfl (vp_in_nI (n := (6 * k5) + k26) (N := 1191) (by omega) (by decide)) dX7_trades_204 (fun H locs hP hD hS => ?_)
                        obtain ⟨hP, hD⟩ : wPD D A [(Zh, .inr (7, [.long Zt, .ref Za1, .int (nI (ZS 2 0)), .ref Za3, .ref Za4, .ref Za5, .ref Za6, .ref Za7, .ref Za8, .ref Za9, .ref Za10, .ref Za11, .ref Za12, .ref Za13, .int (nI (ZS 14 0)), .int (nI (ZS 15 0)), .int (nI (ZS 16 0)), .int (nI (ZS 17 0)), .int (nI (ZS 18 0)), .int (nI (ZS 19 0) - nI 9), .ref Za20, .ref Za21, .ref Za22, .ref Za23, .ref Za24, .ref Za25, .ref Za26, .ref Za27, .int (nI (ZS 28 0))])), (Za1, .inl (cB, 180, .inl (bF (ZS 1)))), (Za3, .inl (cI, 2, .inl (nF (ZS 3)))), (Za4, .inl (cI, 12, .inl (nF (ZS 4)))), (Za5, .inl (cI, 12, .inl (nF (ZS 5)))), (Za6, .inl (cI, 2, .inl (nF (ZS 6)))), (Za7, .inl (cI, 10, .inl (nF (ZS 7)))), (Za8, .inl (cI, 30, .inl (nF (ZS 8)))), (Za9, .inl (cI, 2, .inl (nF (ZS 9)))), (Za10, .inl (cI, 10, .inl (nF (ZS 10)))), (Za11, .inl (cI, 5, .inl (nF (ZS 11)))), (Za12, .inl (cI, 10, .inl (nF (ZS 12)))), (Za13, .inl (cI, 2, .inl (nF (ZS 13)))), (Za20, .inl (cI, 1191, .inl (upd (nF (un (un (un (knN (ZS 20)) ((6 * k5) + k12) ((ZS 20 ((6 * k5) + k12)) - 1)) ((6 * k19) + k12) ((ZS 20 ((6 * k19) + k12)) + 1)) ((6 * k19) + k26) ((ZS 20 ((6 * k19) + k26)) - 1))) (nI ((6 * k5) + k26)).toNatClampNeg (nI ((ZS 20 ((6 * k5) + k26)) + 1))))), (Za21, .inl (cZ, 2, .inl (nF (ZS 21)))), (Za22, .inl (cI, 36, .inl (nF (ZS 22)))), (Za23, .inl (cI, 6, .inl (nF (ZS 23)))), (Za24, .inl (cI, 427, .inl (nF (ZS 24)))), (Za25, .inl (cI, 6, .inl (nF (ZS 25)))), (Za26, .inl (cI, 5, .inl (nF (ZS 26)))), (Za27, .inl (cI, 6, .inl (nF (ZS 27))))] H := ⟨hP, hD⟩
                        rw [nF_st (by omega)] at hP hD
                        have hzz59 : ZOk (ua ZS 20 (un (un (un (un (knN (ZS 20)) ((6 * k5) + k12) ((ZS 20 ((6 * k5) + k12)) - 1)) ((6 * k19) + k12) ((ZS 20 ((6 * k19) + k12)) + 1)) ((6 * k19) + k26) ((ZS 20 ((6 * k19) + k26)) - 1)) ((6 * k5) + k26) ((ZS 20 ((6 * k5) + k26)) + 1))) := (zok_set (k := 20) hZ (un_zb (f := zb 20) (hzz57 20) (Nat.le_trans (show (ZS 20 ((6 * k5) + k26)) + 1 ≤ 99 by omega) (Nat.le_of_eq (nbd_h (j := (6 * k5) + k26) (by omega)).symm))))
                        refine lv_aload_n hx hb dX7_trades_205 rfl (lv_at hl 1 rfl) ?_
                        refine va_get (D := D) (ci := 7) (v := .ref Za20) (C := RX7) (T := TX7) (N := 29) hx hb hts in_X7_trades_7 hown hK.1 hP 0 rfl rfl 20 (by decide) (hts (.fieldLink RX7 47 "ChildCoinsModel" "now" "[I") (List.mem_of_getElem? (i := 1) rfl)) (fun _ h9 => h9) rfl dX7_trades_206 ?_
                        refine lv_bipush (v := nI 6) hx hb dX7_trades_209 (by decide) ?_
                        refine lv_iload_n hx hb dX7_trades_211 rfl (lv_at hl 2 rfl) ?_
                        refine lv_imul hx hb dX7_trades_212 ?_
                        refine set_i (y := nI (6 * k5)) (pk_mul 6 k5) ?_
                        refine lv_iload hx hb dX7_trades_213 (lv_at hl 5 rfl) ?_
                        refine lv_iadd hx hb dX7_trades_215 ?_
                        refine set_i (y := nI ((6 * k5) + k26)) (nI_add (6 * k5) k26) ?_
                        refine va_iald hx hb hK.1 hP 13 0 rfl rfl (vp_in_nI (n := (6 * k5) + k26) (N := 1191) (by omega) (by decide)) dX7_trades_216 ?_
                        refine set_i (y := nI ((un (un (un (un (knN (ZS 20)) ((6 * k5) + k12) ((ZS 20 ((6 * k5) + k12)) - 1)) ((6 * k19) + k12) ((ZS 20 ((6 * k19) + k12)) + 1)) ((6 * k19) + k26) ((ZS 20 ((6 * k19) + k26)) - 1)) ((6 * k5) + k26) ((ZS 20 ((6 * k5) + k26)) + 1)) ((6 * k5) + k26))) (nF_ld (by omega)) ?_
                        refine set_i (y := nI ((ZS 20 ((6 * k5) + k26)) + 1)) (congrArg nI un_s) ?_
                        exact en_i hx hb hr hlk hP hD hS (ua ZS 20 (un (un (un (un (knN (ZS 20)) ((6 * k5) + k12) ((ZS 20 ((6 * k5) + k12)) - 1)) ((6 * k19) + k12) ((ZS 20 ((6 * k19) + k12)) + 1)) ((6 * k19) + k26) ((ZS 20 ((6 * k19) + k26)) - 1)) ((6 * k5) + k26) ((ZS 20 ((6 * k5) + k26)) + 1))) [0, 1, 2, 3, 4, 5, 6, 7, 8, 9, 10, 11, 12, 13, 14, 15, 16, 17, 18, 19, 20] (by decide) rfl (Nat.le_of_ble_eq_true rfl) (Nat.le_of_ble_eq_true rfl) dX7_trades_217 ⟨(ZP.set (k := 20) (ZP.rf hZ) (by decide) (hzz59 20)), (Or.inr ⟨k5, k12, k19, k26, hq6, hq13, hq20, hq27, ⟨rfl, rfl, rfl, rfl⟩, ⟨by omega, by omega⟩, Or.inr ⟨by omega, rfl, rfl⟩⟩)⟩
            · skip
              refine lv_iconst (v := -1) hx hb dX7_trades_44 (by decide) ?_
              exact en_i hx hb hr hlk hP hD hS ZS [0, 1, 2, 3, 4, 5, 6, 7, 8, 9, 10, 11, 12, 13, 14, 15, 16, 17, 18, 19, 20] (by decide) rfl (Nat.le_of_ble_eq_true rfl) (Nat.le_of_ble_eq_true rfl) dX7_trades_45 ⟨(ZP.rf hZ), (Or.inl ⟨fun q => q.2.2.2.2.2 (congrArg nI hq30), rfl, rfl⟩)⟩
        · skip
          refine nb_if_eq (tgt := 44) hx hb dX7_trades_30 (by decide) (by omega) (fun hq60 => ?_) (fun hq60 => absurd hq60 (by omega))
          refine lv_iconst (v := -1) hx hb dX7_trades_44 (by decide) ?_
          exact en_i hx hb hr hlk hP hD hS ZS [0, 1, 2, 3, 4, 5, 6, 7, 8, 9, 10, 11, 12, 13, 14, 15, 16, 17, 18, 19, 20] (by decide) rfl (Nat.le_of_ble_eq_true rfl) (Nat.le_of_ble_eq_true rfl) dX7_trades_45 ⟨(ZP.rf hZ), (Or.inl ⟨fun q => hq25 q.2.2.2.1, rfl, rfl⟩)⟩
      · skip
        refine nb_if_eq (tgt := 44) hx hb dX7_trades_21 (by decide) (by omega) (fun hq61 => ?_) (fun hq61 => absurd hq61 (by omega))
        refine lv_iconst (v := -1) hx hb dX7_trades_44 (by decide) ?_
        exact en_i hx hb hr hlk hP hD hS ZS [0, 1, 2, 3, 4, 5, 6, 7, 8, 9, 10, 11, 12, 13, 14, 15, 16, 17, 18, 19, 20] (by decide) rfl (Nat.le_of_ble_eq_true rfl) (Nat.le_of_ble_eq_true rfl) dX7_trades_45 ⟨(ZP.rf hZ), (Or.inl ⟨fun q => hq18 q.2.2.1, rfl, rfl⟩)⟩
    · skip
      refine nb_if_eq (tgt := 44) hx hb dX7_trades_13 (by decide) (by omega) (fun hq62 => ?_) (fun hq62 => absurd hq62 (by omega))
      refine lv_iconst (v := -1) hx hb dX7_trades_44 (by decide) ?_
      exact en_i hx hb hr hlk hP hD hS ZS [0, 1, 2, 3, 4, 5, 6, 7, 8, 9, 10, 11, 12, 13, 14, 15, 16, 17, 18, 19, 20] (by decide) rfl (Nat.le_of_ble_eq_true rfl) (Nat.le_of_ble_eq_true rfl) dX7_trades_45 ⟨(ZP.rf hZ), (Or.inl ⟨fun q => hq11 q.2.1, rfl, rfl⟩)⟩
  · skip
    refine nb_if_eq (tgt := 44) hx hb dX7_trades_5 (by decide) (by omega) (fun hq63 => ?_) (fun hq63 => absurd hq63 (by omega))
    refine lv_iconst (v := -1) hx hb dX7_trades_44 (by decide) ?_
    exact en_i hx hb hr hlk hP hD hS ZS [0, 1, 2, 3, 4, 5, 6, 7, 8, 9, 10, 11, 12, 13, 14, 15, 16, 17, 18, 19, 20] (by decide) rfl (Nat.le_of_ble_eq_true rfl) (Nat.le_of_ble_eq_true rfl) dX7_trades_45 ⟨(ZP.rf hZ), (Or.inl ⟨fun q => hq4 q.1, rfl, rfl⟩)⟩
set_option maxRecDepth 20000 in
theorem dAX7_undo : decA cX7_undo [(0, .aload_n 0, 1), (1, .getfield 47, 3), (4, .bipush 36, 2), (6, .iaload, 1), (7, .ifCond .ne 6, 3), (10, .bipush (-2), 2), (12, .ireturn, 1), (13, .aload_n 0, 1), (14, .getfield 47, 3), (17, .bipush 36, 2), (19, .dup2, 1), (20, .iaload, 1), (21, .iconst 1, 1), (22, .isub, 1), (23, .iastore, 1), (24, .iconst 0, 1), (25, .istore_n 1, 1), (26, .iload_n 1, 1), (27, .bipush 36, 2), (29, .if_icmp .ge 35, 3), (32, .aload_n 0, 1), (33, .getfield 47, 3), (36, .iload_n 1, 1), (37, .aload_n 0, 1), (38, .getfield 47, 3), (41, .bipush 37, 2), (43, .bipush 36, 2), (45, .aload_n 0, 1), (46, .getfield 47, 3), (49, .bipush 36, 2), (51, .iaload, 1), (52, .imul, 1), (53, .iadd, 1), (54, .iload_n 1, 1), (55, .iadd, 1), (56, .iaload, 1), (57, .iastore, 1), (58, .iinc 1 1, 3), (61, .goto (-35), 3), (64, .aload_n 0, 1), (65, .getfield 47, 3), (68, .bipush 36, 2), (70, .iaload, 1), (71, .ireturn, 1)] = true := by decide +kernel
theorem dX7_undo_0 : decode cX7_undo 0 = .ok (.aload_n 0, 1) := decA_get dAX7_undo 0 rfl
theorem dX7_undo_1 : decode cX7_undo 1 = .ok (.getfield 47, 3) := decA_get dAX7_undo 1 rfl
theorem in_X7_undo_7 : ∀ w ∈ wsX70, w ∈ wsX7_undo := fun w h => (gd_ids wi_X7_undo wm_X7_undo wi_X70 (by decide +kernel) w h).1
theorem dX7_undo_4 : decode cX7_undo 4 = .ok (.bipush 36, 2) := decA_get dAX7_undo 2 rfl
theorem dX7_undo_6 : decode cX7_undo 6 = .ok (.iaload, 1) := decA_get dAX7_undo 3 rfl
theorem dX7_undo_7 : decode cX7_undo 7 = .ok (.ifCond .ne 6, 3) := decA_get dAX7_undo 4 rfl
theorem dX7_undo_13 : decode cX7_undo 13 = .ok (.aload_n 0, 1) := decA_get dAX7_undo 7 rfl
theorem dX7_undo_14 : decode cX7_undo 14 = .ok (.getfield 47, 3) := decA_get dAX7_undo 8 rfl
theorem dX7_undo_17 : decode cX7_undo 17 = .ok (.bipush 36, 2) := decA_get dAX7_undo 9 rfl
theorem dX7_undo_19 : decode cX7_undo 19 = .ok (.dup2, 1) := decA_get dAX7_undo 10 rfl
theorem dX7_undo_20 : decode cX7_undo 20 = .ok (.iaload, 1) := decA_get dAX7_undo 11 rfl
theorem dX7_undo_21 : decode cX7_undo 21 = .ok (.iconst 1, 1) := decA_get dAX7_undo 12 rfl
theorem dX7_undo_22 : decode cX7_undo 22 = .ok (.isub, 1) := decA_get dAX7_undo 13 rfl
theorem dX7_undo_23 : decode cX7_undo 23 = .ok (.iastore, 1) := decA_get dAX7_undo 14 rfl
theorem dX7_undo_24 : decode cX7_undo 24 = .ok (.iconst 0, 1) := decA_get dAX7_undo 15 rfl
theorem dX7_undo_25 : decode cX7_undo 25 = .ok (.istore_n 1, 1) := decA_get dAX7_undo 16 rfl
theorem dX7_undo_26 : decode cX7_undo 26 = .ok (.iload_n 1, 1) := decA_get dAX7_undo 17 rfl
theorem dX7_undo_27 : decode cX7_undo 27 = .ok (.bipush 36, 2) := decA_get dAX7_undo 18 rfl
theorem dX7_undo_29 : decode cX7_undo 29 = .ok (.if_icmp .ge 35, 3) := decA_get dAX7_undo 19 rfl
theorem dX7_undo_64 : decode cX7_undo 64 = .ok (.aload_n 0, 1) := decA_get dAX7_undo 39 rfl
theorem dX7_undo_65 : decode cX7_undo 65 = .ok (.getfield 47, 3) := decA_get dAX7_undo 40 rfl
theorem dX7_undo_68 : decode cX7_undo 68 = .ok (.bipush 36, 2) := decA_get dAX7_undo 41 rfl
theorem dX7_undo_70 : decode cX7_undo 70 = .ok (.iaload, 1) := decA_get dAX7_undo 42 rfl
theorem dX7_undo_71 : decode cX7_undo 71 = .ok (.ireturn, 1) := decA_get dAX7_undo 43 rfl
theorem dX7_undo_32 : decode cX7_undo 32 = .ok (.aload_n 0, 1) := decA_get dAX7_undo 20 rfl
theorem dX7_undo_33 : decode cX7_undo 33 = .ok (.getfield 47, 3) := decA_get dAX7_undo 21 rfl
theorem dX7_undo_36 : decode cX7_undo 36 = .ok (.iload_n 1, 1) := decA_get dAX7_undo 22 rfl
theorem dX7_undo_37 : decode cX7_undo 37 = .ok (.aload_n 0, 1) := decA_get dAX7_undo 23 rfl
theorem dX7_undo_38 : decode cX7_undo 38 = .ok (.getfield 47, 3) := decA_get dAX7_undo 24 rfl
theorem dX7_undo_41 : decode cX7_undo 41 = .ok (.bipush 37, 2) := decA_get dAX7_undo 25 rfl
theorem dX7_undo_43 : decode cX7_undo 43 = .ok (.bipush 36, 2) := decA_get dAX7_undo 26 rfl
theorem dX7_undo_45 : decode cX7_undo 45 = .ok (.aload_n 0, 1) := decA_get dAX7_undo 27 rfl
theorem dX7_undo_46 : decode cX7_undo 46 = .ok (.getfield 47, 3) := decA_get dAX7_undo 28 rfl
theorem dX7_undo_49 : decode cX7_undo 49 = .ok (.bipush 36, 2) := decA_get dAX7_undo 29 rfl
theorem dX7_undo_51 : decode cX7_undo 51 = .ok (.iaload, 1) := decA_get dAX7_undo 30 rfl
theorem dX7_undo_52 : decode cX7_undo 52 = .ok (.imul, 1) := decA_get dAX7_undo 31 rfl
theorem dX7_undo_53 : decode cX7_undo 53 = .ok (.iadd, 1) := decA_get dAX7_undo 32 rfl
theorem dX7_undo_54 : decode cX7_undo 54 = .ok (.iload_n 1, 1) := decA_get dAX7_undo 33 rfl
theorem dX7_undo_55 : decode cX7_undo 55 = .ok (.iadd, 1) := decA_get dAX7_undo 34 rfl
theorem dX7_undo_56 : decode cX7_undo 56 = .ok (.iaload, 1) := decA_get dAX7_undo 35 rfl
theorem dX7_undo_57 : decode cX7_undo 57 = .ok (.iastore, 1) := decA_get dAX7_undo 36 rfl
theorem dX7_undo_58 : decode cX7_undo 58 = .ok (.iinc 1 1, 3) := decA_get dAX7_undo 37 rfl
theorem dX7_undo_61 : decode cX7_undo 61 = .ok (.goto (-35), 3) := decA_get dAX7_undo 38 rfl
theorem dX7_undo_10 : decode cX7_undo 10 = .ok (.bipush (-2), 2) := decA_get dAX7_undo 5 rfl
theorem dX7_undo_12 : decode cX7_undo 12 = .ok (.ireturn, 1) := decA_get dAX7_undo 6 rfl
set_option maxHeartbeats 4000000 in
set_option maxRecDepth 100000 in
theorem z_undo (l : Launch) (D : va_G) (cI cB cZ cN : ClassId) (Zh : Nat) (Za1 : Nat) (Za3 : Nat) (Za4 : Nat) (Za5 : Nat) (Za6 : Nat) (Za7 : Nat) (Za8 : Nat) (Za9 : Nat) (Za10 : Nat) (Za11 : Nat) (Za12 : Nat) (Za13 : Nat) (Za20 : Nat) (Za21 : Nat) (Za22 : Nat) (Za23 : Nat) (Za24 : Nat) (Za25 : Nat) (Za26 : Nat) (Za27 : Nat) (Zt : Int64) (ZS : Nat → Nat → Nat) (hZ : ZOk ZS) : Ci (S := (Nat → Nat → Nat)) l D cI cB cZ cN yX7_undo wsX7_undo ({ frames := 0, cells := 0, slots := 0, locals := 0 } : Room) [.ref Zh] [(Zh, .inr (7, [.long Zt, .ref Za1, .int (nI (ZS 2 0)), .ref Za3, .ref Za4, .ref Za5, .ref Za6, .ref Za7, .ref Za8, .ref Za9, .ref Za10, .ref Za11, .ref Za12, .ref Za13, .int (nI (ZS 14 0)), .int (nI (ZS 15 0)), .int (nI (ZS 16 0)), .int (nI (ZS 17 0)), .int (nI (ZS 18 0)), .int (nI (ZS 19 0) - nI 9), .ref Za20, .ref Za21, .ref Za22, .ref Za23, .ref Za24, .ref Za25, .ref Za26, .ref Za27, .int (nI (ZS 28 0))])), (Za1, .inl (cB, 180, .inl (bF (ZS 1)))), (Za3, .inl (cI, 2, .inl (nF (ZS 3)))), (Za4, .inl (cI, 12, .inl (nF (ZS 4)))), (Za5, .inl (cI, 12, .inl (nF (ZS 5)))), (Za6, .inl (cI, 2, .inl (nF (ZS 6)))), (Za7, .inl (cI, 10, .inl (nF (ZS 7)))), (Za8, .inl (cI, 30, .inl (nF (ZS 8)))), (Za9, .inl (cI, 2, .inl (nF (ZS 9)))), (Za10, .inl (cI, 10, .inl (nF (ZS 10)))), (Za11, .inl (cI, 5, .inl (nF (ZS 11)))), (Za12, .inl (cI, 10, .inl (nF (ZS 12)))), (Za13, .inl (cI, 2, .inl (nF (ZS 13)))), (Za20, .inl (cI, 1191, .inl (nF (ZS 20)))), (Za21, .inl (cZ, 2, .inl (nF (ZS 21)))), (Za22, .inl (cI, 36, .inl (nF (ZS 22)))), (Za23, .inl (cI, 6, .inl (nF (ZS 23)))), (Za24, .inl (cI, 427, .inl (nF (ZS 24)))), (Za25, .inl (cI, 6, .inl (nF (ZS 25)))), (Za26, .inl (cI, 5, .inl (nF (ZS 26)))), (Za27, .inl (cI, 6, .inl (nF (ZS 27))))] (fun (r : Int32) (u : (Nat → Nat → Nat)) => ZP [20, 21, 22, 23, 24, 25, 26] u ZS ∧ ((ZS 20 36 = 0 ∧ r = -2 ∧ u = ZS) ∨ (0 < ZS 20 36 ∧ r = nI (ZS 20 36 - 1) ∧ u = ua ZS 20 (udN (ZS 20) 36)))) (fun u => [(Zh, .inr (7, [.long Zt, .ref Za1, .int (nI (u 2 0)), .ref Za3, .ref Za4, .ref Za5, .ref Za6, .ref Za7, .ref Za8, .ref Za9, .ref Za10, .ref Za11, .ref Za12, .ref Za13, .int (nI (u 14 0)), .int (nI (u 15 0)), .int (nI (u 16 0)), .int (nI (u 17 0)), .int (nI (u 18 0)), .int (nI (u 19 0) - nI 9), .ref Za20, .ref Za21, .ref Za22, .ref Za23, .ref Za24, .ref Za25, .ref Za26, .ref Za27, .int (nI (u 28 0))])), (Za1, .inl (cB, 180, .inl (bF (u 1)))), (Za3, .inl (cI, 2, .inl (nF (u 3)))), (Za4, .inl (cI, 12, .inl (nF (u 4)))), (Za5, .inl (cI, 12, .inl (nF (u 5)))), (Za6, .inl (cI, 2, .inl (nF (u 6)))), (Za7, .inl (cI, 10, .inl (nF (u 7)))), (Za8, .inl (cI, 30, .inl (nF (u 8)))), (Za9, .inl (cI, 2, .inl (nF (u 9)))), (Za10, .inl (cI, 10, .inl (nF (u 10)))), (Za11, .inl (cI, 5, .inl (nF (u 11)))), (Za12, .inl (cI, 10, .inl (nF (u 12)))), (Za13, .inl (cI, 2, .inl (nF (u 13)))), (Za20, .inl (cI, 1191, .inl (nF (u 20)))), (Za21, .inl (cZ, 2, .inl (nF (u 21)))), (Za22, .inl (cI, 36, .inl (nF (u 22)))), (Za23, .inl (cI, 6, .inl (nF (u 23)))), (Za24, .inl (cI, 427, .inl (nF (u 24)))), (Za25, .inl (cI, 6, .inl (nF (u 25)))), (Za26, .inl (cI, 5, .inl (nF (u 26)))), (Za27, .inl (cI, 6, .inl (nF (u 27))))]) := by
  refine bx_of (D := D) (cI := cI) (cB := cB) (cZ := cZ) (cN := cN) (y := yX7_undo) (wd := wsX7_undo) (rm := ({ frames := 0, cells := 0, slots := 0, locals := 0 } : Room)) (av := [.ref Zh]) (wc := [(Zh, .inr (7, [.long Zt, .ref Za1, .int (nI (ZS 2 0)), .ref Za3, .ref Za4, .ref Za5, .ref Za6, .ref Za7, .ref Za8, .ref Za9, .ref Za10, .ref Za11, .ref Za12, .ref Za13, .int (nI (ZS 14 0)), .int (nI (ZS 15 0)), .int (nI (ZS 16 0)), .int (nI (ZS 17 0)), .int (nI (ZS 18 0)), .int (nI (ZS 19 0) - nI 9), .ref Za20, .ref Za21, .ref Za22, .ref Za23, .ref Za24, .ref Za25, .ref Za26, .ref Za27, .int (nI (ZS 28 0))])), (Za1, .inl (cB, 180, .inl (bF (ZS 1)))), (Za3, .inl (cI, 2, .inl (nF (ZS 3)))), (Za4, .inl (cI, 12, .inl (nF (ZS 4)))), (Za5, .inl (cI, 12, .inl (nF (ZS 5)))), (Za6, .inl (cI, 2, .inl (nF (ZS 6)))), (Za7, .inl (cI, 10, .inl (nF (ZS 7)))), (Za8, .inl (cI, 30, .inl (nF (ZS 8)))), (Za9, .inl (cI, 2, .inl (nF (ZS 9)))), (Za10, .inl (cI, 10, .inl (nF (ZS 10)))), (Za11, .inl (cI, 5, .inl (nF (ZS 11)))), (Za12, .inl (cI, 10, .inl (nF (ZS 12)))), (Za13, .inl (cI, 2, .inl (nF (ZS 13)))), (Za20, .inl (cI, 1191, .inl (nF (ZS 20)))), (Za21, .inl (cZ, 2, .inl (nF (ZS 21)))), (Za22, .inl (cI, 36, .inl (nF (ZS 22)))), (Za23, .inl (cI, 6, .inl (nF (ZS 23)))), (Za24, .inl (cI, 427, .inl (nF (ZS 24)))), (Za25, .inl (cI, 6, .inl (nF (ZS 25)))), (Za26, .inl (cI, 5, .inl (nF (ZS 26)))), (Za27, .inl (cI, 6, .inl (nF (ZS 27))))]) (cc := cX7_undo) (maxL := 2) (ret := (some .int)) (Qc := fun _ A => va_Qi (S := (Nat → Nat → Nat)) (fun (r : Int32) (u : (Nat → Nat → Nat)) => ZP [20, 21, 22, 23, 24, 25, 26] u ZS ∧ ((ZS 20 36 = 0 ∧ r = -2 ∧ u = ZS) ∨ (0 < ZS 20 36 ∧ r = nI (ZS 20 36 - 1) ∧ u = ua ZS 20 (udN (ZS 20) 36)))) (Aft D (fun (u : (Nat → Nat → Nat)) => [(Zh, .inr (7, [.long Zt, .ref Za1, .int (nI (u 2 0)), .ref Za3, .ref Za4, .ref Za5, .ref Za6, .ref Za7, .ref Za8, .ref Za9, .ref Za10, .ref Za11, .ref Za12, .ref Za13, .int (nI (u 14 0)), .int (nI (u 15 0)), .int (nI (u 16 0)), .int (nI (u 17 0)), .int (nI (u 18 0)), .int (nI (u 19 0) - nI 9), .ref Za20, .ref Za21, .ref Za22, .ref Za23, .ref Za24, .ref Za25, .ref Za26, .ref Za27, .int (nI (u 28 0))])), (Za1, .inl (cB, 180, .inl (bF (u 1)))), (Za3, .inl (cI, 2, .inl (nF (u 3)))), (Za4, .inl (cI, 12, .inl (nF (u 4)))), (Za5, .inl (cI, 12, .inl (nF (u 5)))), (Za6, .inl (cI, 2, .inl (nF (u 6)))), (Za7, .inl (cI, 10, .inl (nF (u 7)))), (Za8, .inl (cI, 30, .inl (nF (u 8)))), (Za9, .inl (cI, 2, .inl (nF (u 9)))), (Za10, .inl (cI, 10, .inl (nF (u 10)))), (Za11, .inl (cI, 5, .inl (nF (u 11)))), (Za12, .inl (cI, 10, .inl (nF (u 12)))), (Za13, .inl (cI, 2, .inl (nF (u 13)))), (Za20, .inl (cI, 1191, .inl (nF (u 20)))), (Za21, .inl (cZ, 2, .inl (nF (u 21)))), (Za22, .inl (cI, 36, .inl (nF (u 22)))), (Za23, .inl (cI, 6, .inl (nF (u 23)))), (Za24, .inl (cI, 427, .inl (nF (u 24)))), (Za25, .inl (cI, 6, .inl (nF (u 25)))), (Za26, .inl (cI, 5, .inl (nF (u 26)))), (Za27, .inl (cI, 6, .inl (nF (u 27))))]) A) A) (by decide) rfl (Nat.le_of_ble_eq_true rfl) ?_
  intro p e s m below meth c A H locs ⟨hx, hb, hr, hml, hown, hts, hlk, hnm⟩ hK hP hD hS hA ls hl
  have hl : lv_has ls 2 [(0, .ref Zh)] := hl
  have hown : s.vm.findClass RX7 = some m.cls := hown
  have bz6 : ZS 6 0 ≤ 5 := hZ 6 0
  have bz3 : ZS 3 0 ≤ 6 := hZ 3 0
  have bz9 : ZS 9 0 ≤ 5 := hZ 9 0
  have bz28 : ZS 28 0 ≤ 6 := hZ 28 0
  refine lv_aload_n hx hb dX7_undo_0 rfl (lv_at hl 0 rfl) ?_
  refine va_get (D := D) (ci := 7) (v := .ref Za20) (C := RX7) (T := TX7) (N := 29) hx hb hts in_X7_undo_7 hown hK.1 hP 0 rfl rfl 20 (by decide) (hts (.fieldLink RX7 47 "ChildCoinsModel" "now" "[I") (List.mem_of_getElem? (i := 1) rfl)) (fun _ h9 => h9) rfl dX7_undo_1 ?_
  refine lv_bipush (v := nI 36) hx hb dX7_undo_4 (by decide) ?_
  refine va_iald hx hb hK.1 hP 13 0 rfl rfl (vp_in_nI (n := 36) (N := 1191) (by omega) (by decide)) dX7_undo_6 ?_
  refine set_i (y := nI (ZS 20 36)) (nF_ld (by omega)) ?_
  have b1 : ZS 20 36 ≤ 10 := Nat.le_trans (hZ 20 36) (Nat.le_of_eq nbd_36)
  refine nb_if_ne (tgt := 13) hx hb dX7_undo_7 (by decide) (by omega) (fun hq2 => ?_) (fun hq2 => ?_)
  · skip
    refine lv_aload_n hx hb dX7_undo_13 rfl (lv_at hl 0 rfl) ?_
    refine va_get (D := D) (ci := 7) (v := .ref Za20) (C := RX7) (T := TX7) (N := 29) hx hb hts in_X7_undo_7 hown hK.1 hP 0 rfl rfl 20 (by decide) (hts (.fieldLink RX7 47 "ChildCoinsModel" "now" "[I") (List.mem_of_getElem? (i := 1) rfl)) (fun _ h9 => h9) rfl dX7_undo_14 ?_
    refine lv_bipush (v := nI 36) hx hb dX7_undo_17 (by decide) ?_
    refine lv_dup2_11 hx hb dX7_undo_19 rfl rfl ?_
    refine va_iald hx hb hK.1 hP 13 0 rfl rfl (vp_in_nI (n := 36) (N := 1191) (by omega) (by decide)) dX7_undo_20 ?_
    refine set_i (y := nI (ZS 20 36)) (nF_ld (by omega)) ?_
    have b3 : ZS 20 36 ≤ 10 := Nat.le_trans (hZ 20 36) (Nat.le_of_eq nbd_36)
    refine lv_iconst (v := nI 1) hx hb dX7_undo_21 (by decide) ?_
    refine lv_isub hx hb dX7_undo_22 ?_
    refine set_i (y := nI ((ZS 20 36) - 1)) (pk_sub (by omega)) ?_
    refine va_iast hx hb hK.1 hP hD hS 13 0 rfl rfl (vp_in_nI (n := 36) (N := 1191) (by omega) (by decide)) dX7_undo_23 (fun H locs hP hD hS => ?_)
    obtain ⟨hP, hD⟩ : wPD D A [(Zh, .inr (7, [.long Zt, .ref Za1, .int (nI (ZS 2 0)), .ref Za3, .ref Za4, .ref Za5, .ref Za6, .ref Za7, .ref Za8, .ref Za9, .ref Za10, .ref Za11, .ref Za12, .ref Za13, .int (nI (ZS 14 0)), .int (nI (ZS 15 0)), .int (nI (ZS 16 0)), .int (nI (ZS 17 0)), .int (nI (ZS 18 0)), .int (nI (ZS 19 0) - nI 9), .ref Za20, .ref Za21, .ref Za22, .ref Za23, .ref Za24, .ref Za25, .ref Za26, .ref Za27, .int (nI (ZS 28 0))])), (Za1, .inl (cB, 180, .inl (bF (ZS 1)))), (Za3, .inl (cI, 2, .inl (nF (ZS 3)))), (Za4, .inl (cI, 12, .inl (nF (ZS 4)))), (Za5, .inl (cI, 12, .inl (nF (ZS 5)))), (Za6, .inl (cI, 2, .inl (nF (ZS 6)))), (Za7, .inl (cI, 10, .inl (nF (ZS 7)))), (Za8, .inl (cI, 30, .inl (nF (ZS 8)))), (Za9, .inl (cI, 2, .inl (nF (ZS 9)))), (Za10, .inl (cI, 10, .inl (nF (ZS 10)))), (Za11, .inl (cI, 5, .inl (nF (ZS 11)))), (Za12, .inl (cI, 10, .inl (nF (ZS 12)))), (Za13, .inl (cI, 2, .inl (nF (ZS 13)))), (Za20, .inl (cI, 1191, .inl (upd (nF (ZS 20)) (nI 36).toNatClampNeg (nI ((ZS 20 36) - 1))))), (Za21, .inl (cZ, 2, .inl (nF (ZS 21)))), (Za22, .inl (cI, 36, .inl (nF (ZS 22)))), (Za23, .inl (cI, 6, .inl (nF (ZS 23)))), (Za24, .inl (cI, 427, .inl (nF (ZS 24)))), (Za25, .inl (cI, 6, .inl (nF (ZS 25)))), (Za26, .inl (cI, 5, .inl (nF (ZS 26)))), (Za27, .inl (cI, 6, .inl (nF (ZS 27))))] H := ⟨hP, hD⟩
    rw [nF_st (by omega)] at hP hD
    have hzz4 : ZOk (ua ZS 20 (un (ZS 20) 36 ((ZS 20 36) - 1))) := (zok_set (k := 20) hZ (un_zb (f := zb 20) (hZ 20) (Nat.le_trans (show ZS 20 36 - 1 ≤ 10 by omega) (Nat.le_of_eq nbd_36.symm))))
    refine lv_iconst (v := nI 0) hx hb dX7_undo_24 (by decide) ?_
    refine lv_istore_n (lv' := [(1, .int (nI 0)), (0, .ref Zh)]) hx hb dX7_undo_25 rfl hl (by decide) rfl (fun ls hl => ?_)
    refine loopS (σ := Nat → Nat) (D := D) (A := A) (fun i1 z1 => z1 = udN (ZS 20) i1) (fun i1 z1 => [(Zh, .inr (7, [.long Zt, .ref Za1, .int (nI (ZS 2 0)), .ref Za3, .ref Za4, .ref Za5, .ref Za6, .ref Za7, .ref Za8, .ref Za9, .ref Za10, .ref Za11, .ref Za12, .ref Za13, .int (nI (ZS 14 0)), .int (nI (ZS 15 0)), .int (nI (ZS 16 0)), .int (nI (ZS 17 0)), .int (nI (ZS 18 0)), .int (nI (ZS 19 0) - nI 9), .ref Za20, .ref Za21, .ref Za22, .ref Za23, .ref Za24, .ref Za25, .ref Za26, .ref Za27, .int (nI (ZS 28 0))])), (Za1, .inl (cB, 180, .inl (bF (ZS 1)))), (Za3, .inl (cI, 2, .inl (nF (ZS 3)))), (Za4, .inl (cI, 12, .inl (nF (ZS 4)))), (Za5, .inl (cI, 12, .inl (nF (ZS 5)))), (Za6, .inl (cI, 2, .inl (nF (ZS 6)))), (Za7, .inl (cI, 10, .inl (nF (ZS 7)))), (Za8, .inl (cI, 30, .inl (nF (ZS 8)))), (Za9, .inl (cI, 2, .inl (nF (ZS 9)))), (Za10, .inl (cI, 10, .inl (nF (ZS 10)))), (Za11, .inl (cI, 5, .inl (nF (ZS 11)))), (Za12, .inl (cI, 10, .inl (nF (ZS 12)))), (Za13, .inl (cI, 2, .inl (nF (ZS 13)))), (Za20, .inl (cI, 1191, .inl (nF (z1)))), (Za21, .inl (cZ, 2, .inl (nF (ZS 21)))), (Za22, .inl (cI, 36, .inl (nF (ZS 22)))), (Za23, .inl (cI, 6, .inl (nF (ZS 23)))), (Za24, .inl (cI, 427, .inl (nF (ZS 24)))), (Za25, .inl (cI, 6, .inl (nF (ZS 25)))), (Za26, .inl (cI, 5, .inl (nF (ZS 26)))), (Za27, .inl (cI, 6, .inl (nF (ZS 27))))]) (fun i1 z1 => [(0, .ref Zh), (1, .int (nI i1))]) 26 2 36 0 (Nat.zero_le _) ?_ ?_ (un (ZS 20) 36 ((ZS 20 36) - 1)) (ud_0 _).symm _ _ ls (by first | exact hP) (by first | exact hD) hS (lv_sub hl [1, 0] rfl)
    · intro z1 hI1 H locs ls hP hD hS hl
      have hl : lv_has ls 2 [(0, .ref Zh), (1, .int (nI 36))] := hl
      obtain ⟨hP, hD⟩ : wPD D A [(Zh, .inr (7, [.long Zt, .ref Za1, .int (nI (ZS 2 0)), .ref Za3, .ref Za4, .ref Za5, .ref Za6, .ref Za7, .ref Za8, .ref Za9, .ref Za10, .ref Za11, .ref Za12, .ref Za13, .int (nI (ZS 14 0)), .int (nI (ZS 15 0)), .int (nI (ZS 16 0)), .int (nI (ZS 17 0)), .int (nI (ZS 18 0)), .int (nI (ZS 19 0) - nI 9), .ref Za20, .ref Za21, .ref Za22, .ref Za23, .ref Za24, .ref Za25, .ref Za26, .ref Za27, .int (nI (ZS 28 0))])), (Za1, .inl (cB, 180, .inl (bF (ZS 1)))), (Za3, .inl (cI, 2, .inl (nF (ZS 3)))), (Za4, .inl (cI, 12, .inl (nF (ZS 4)))), (Za5, .inl (cI, 12, .inl (nF (ZS 5)))), (Za6, .inl (cI, 2, .inl (nF (ZS 6)))), (Za7, .inl (cI, 10, .inl (nF (ZS 7)))), (Za8, .inl (cI, 30, .inl (nF (ZS 8)))), (Za9, .inl (cI, 2, .inl (nF (ZS 9)))), (Za10, .inl (cI, 10, .inl (nF (ZS 10)))), (Za11, .inl (cI, 5, .inl (nF (ZS 11)))), (Za12, .inl (cI, 10, .inl (nF (ZS 12)))), (Za13, .inl (cI, 2, .inl (nF (ZS 13)))), (Za20, .inl (cI, 1191, .inl (nF (z1)))), (Za21, .inl (cZ, 2, .inl (nF (ZS 21)))), (Za22, .inl (cI, 36, .inl (nF (ZS 22)))), (Za23, .inl (cI, 6, .inl (nF (ZS 23)))), (Za24, .inl (cI, 427, .inl (nF (ZS 24)))), (Za25, .inl (cI, 6, .inl (nF (ZS 25)))), (Za26, .inl (cI, 5, .inl (nF (ZS 26)))), (Za27, .inl (cI, 6, .inl (nF (ZS 27))))] H := ⟨hP, hD⟩
      refine lv_iload_n hx hb dX7_undo_26 rfl (lv_at hl 1 rfl) ?_
      refine lv_bipush (v := nI 36) hx hb dX7_undo_27 (by decide) ?_
      refine nb_icmp_ge (tgt := 64) hx hb dX7_undo_29 (by decide) (by omega) (by omega) (fun hq5 => ?_) (fun hq5 => absurd hq5 (by omega))
      refine lv_aload_n hx hb dX7_undo_64 rfl (lv_at hl 0 rfl) ?_
      refine va_get (D := D) (ci := 7) (v := .ref Za20) (C := RX7) (T := TX7) (N := 29) hx hb hts in_X7_undo_7 hown hK.1 hP 0 rfl rfl 20 (by decide) (hts (.fieldLink RX7 47 "ChildCoinsModel" "now" "[I") (List.mem_of_getElem? (i := 1) rfl)) (fun _ h9 => h9) rfl dX7_undo_65 ?_
      refine lv_bipush (v := nI 36) hx hb dX7_undo_68 (by decide) ?_
      refine va_iald hx hb hK.1 hP 13 0 rfl rfl (vp_in_nI (n := 36) (N := 1191) (by omega) (by decide)) dX7_undo_70 ?_
      refine set_i (y := nI (z1 36)) (nF_ld (by omega)) ?_
      have b6 : z1 36 ≤ 10 := Nat.le_trans ((zok_set (k := 20) hZ (show ∀ j, z1 j ≤ zb 20 j by rw [hI1]; exact ud_b (hZ 20) (by omega))) 20 36) (Nat.le_of_eq nbd_36)
      exact en_i hx hb hr hlk hP hD hS (ua ZS 20 (z1)) [0, 1, 2, 3, 4, 5, 6, 7, 8, 9, 10, 11, 12, 13, 14, 15, 16, 17, 18, 19, 20] (by decide) rfl (Nat.le_of_ble_eq_true rfl) (Nat.le_of_ble_eq_true rfl) dX7_undo_71 ⟨(ZP.set (k := 20) (ZP.rf hZ) (by decide) (show ∀ j, z1 j ≤ zb 20 j by rw [hI1]; exact ud_b (hZ 20) (by omega))), (Or.inr ⟨by omega, congrArg nI (by rw [hI1]; exact ud_36 (Nat.le_refl _)), by rw [hI1]⟩)⟩
    · intro i1 hi01 hi1 z1 hI1 ih1 H locs ls hP hD hS hl
      have hl : lv_has ls 2 [(0, .ref Zh), (1, .int (nI i1))] := hl
      obtain ⟨hP, hD⟩ : wPD D A [(Zh, .inr (7, [.long Zt, .ref Za1, .int (nI (ZS 2 0)), .ref Za3, .ref Za4, .ref Za5, .ref Za6, .ref Za7, .ref Za8, .ref Za9, .ref Za10, .ref Za11, .ref Za12, .ref Za13, .int (nI (ZS 14 0)), .int (nI (ZS 15 0)), .int (nI (ZS 16 0)), .int (nI (ZS 17 0)), .int (nI (ZS 18 0)), .int (nI (ZS 19 0) - nI 9), .ref Za20, .ref Za21, .ref Za22, .ref Za23, .ref Za24, .ref Za25, .ref Za26, .ref Za27, .int (nI (ZS 28 0))])), (Za1, .inl (cB, 180, .inl (bF (ZS 1)))), (Za3, .inl (cI, 2, .inl (nF (ZS 3)))), (Za4, .inl (cI, 12, .inl (nF (ZS 4)))), (Za5, .inl (cI, 12, .inl (nF (ZS 5)))), (Za6, .inl (cI, 2, .inl (nF (ZS 6)))), (Za7, .inl (cI, 10, .inl (nF (ZS 7)))), (Za8, .inl (cI, 30, .inl (nF (ZS 8)))), (Za9, .inl (cI, 2, .inl (nF (ZS 9)))), (Za10, .inl (cI, 10, .inl (nF (ZS 10)))), (Za11, .inl (cI, 5, .inl (nF (ZS 11)))), (Za12, .inl (cI, 10, .inl (nF (ZS 12)))), (Za13, .inl (cI, 2, .inl (nF (ZS 13)))), (Za20, .inl (cI, 1191, .inl (nF (z1)))), (Za21, .inl (cZ, 2, .inl (nF (ZS 21)))), (Za22, .inl (cI, 36, .inl (nF (ZS 22)))), (Za23, .inl (cI, 6, .inl (nF (ZS 23)))), (Za24, .inl (cI, 427, .inl (nF (ZS 24)))), (Za25, .inl (cI, 6, .inl (nF (ZS 25)))), (Za26, .inl (cI, 5, .inl (nF (ZS 26)))), (Za27, .inl (cI, 6, .inl (nF (ZS 27))))] H := ⟨hP, hD⟩
      refine lv_iload_n hx hb dX7_undo_26 rfl (lv_at hl 1 rfl) ?_
      refine lv_bipush (v := nI 36) hx hb dX7_undo_27 (by decide) ?_
      refine nb_icmp_ge (tgt := 64) hx hb dX7_undo_29 (by decide) (by omega) (by omega) (fun hq7 => absurd hq7 (by omega)) (fun hq7 => ?_)
      refine lv_aload_n hx hb dX7_undo_32 rfl (lv_at hl 0 rfl) ?_
      refine va_get (D := D) (ci := 7) (v := .ref Za20) (C := RX7) (T := TX7) (N := 29) hx hb hts in_X7_undo_7 hown hK.1 hP 0 rfl rfl 20 (by decide) (hts (.fieldLink RX7 47 "ChildCoinsModel" "now" "[I") (List.mem_of_getElem? (i := 1) rfl)) (fun _ h9 => h9) rfl dX7_undo_33 ?_
      refine lv_iload_n hx hb dX7_undo_36 rfl (lv_at hl 1 rfl) ?_
      refine lv_aload_n hx hb dX7_undo_37 rfl (lv_at hl 0 rfl) ?_
      refine va_get (D := D) (ci := 7) (v := .ref Za20) (C := RX7) (T := TX7) (N := 29) hx hb hts in_X7_undo_7 hown hK.1 hP 0 rfl rfl 20 (by decide) (hts (.fieldLink RX7 47 "ChildCoinsModel" "now" "[I") (List.mem_of_getElem? (i := 1) rfl)) (fun _ h9 => h9) rfl dX7_undo_38 ?_
      refine lv_bipush (v := nI 37) hx hb dX7_undo_41 (by decide) ?_
      refine lv_bipush (v := nI 36) hx hb dX7_undo_43 (by decide) ?_
      refine lv_aload_n hx hb dX7_undo_45 rfl (lv_at hl 0 rfl) ?_
      refine va_get (D := D) (ci := 7) (v := .ref Za20) (C := RX7) (T := TX7) (N := 29) hx hb hts in_X7_undo_7 hown hK.1 hP 0 rfl rfl 20 (by decide) (hts (.fieldLink RX7 47 "ChildCoinsModel" "now" "[I") (List.mem_of_getElem? (i := 1) rfl)) (fun _ h9 => h9) rfl dX7_undo_46 ?_
      refine lv_bipush (v := nI 36) hx hb dX7_undo_49 (by decide) ?_
      refine va_iald hx hb hK.1 hP 13 0 rfl rfl (vp_in_nI (n := 36) (N := 1191) (by omega) (by decide)) dX7_undo_51 ?_
      refine set_i (y := nI (z1 36)) (nF_ld (by omega)) ?_
      have b8 : z1 36 ≤ 10 := Nat.le_trans ((zok_set (k := 20) hZ (show ∀ j, z1 j ≤ zb 20 j by rw [hI1]; exact ud_b (hZ 20) (by omega))) 20 36) (Nat.le_of_eq nbd_36)
      refine lv_imul hx hb dX7_undo_52 ?_
      refine set_i (y := nI (36 * (z1 36))) (pk_mul 36 (z1 36)) ?_
      refine lv_iadd hx hb dX7_undo_53 ?_
      refine set_i (y := nI (37 + (36 * (z1 36)))) (nI_add 37 (36 * (z1 36))) ?_
      refine lv_iload_n hx hb dX7_undo_54 rfl (lv_at hl 1 rfl) ?_
      refine lv_iadd hx hb dX7_undo_55 ?_
      refine set_i (y := nI ((37 + (36 * (z1 36))) + i1)) (nI_add (37 + (36 * (z1 36))) i1) ?_
      refine va_iald hx hb hK.1 hP 13 0 rfl rfl (vp_in_nI (n := (37 + (36 * (z1 36))) + i1) (N := 1191) (by omega) (by decide)) dX7_undo_56 ?_
      refine set_i (y := nI (z1 ((37 + (36 * (z1 36))) + i1))) (nF_ld (by omega)) ?_
      have b9 : z1 ((37 + (36 * (z1 36))) + i1) ≤ 99 := Nat.le_trans ((zok_set (k := 20) hZ (show ∀ j, z1 j ≤ zb 20 j by rw [hI1]; exact ud_b (hZ 20) (by omega))) 20 ((37 + (36 * (z1 36))) + i1)) (nbd_99 ((37 + (36 * (z1 36))) + i1))
      refine va_iast hx hb hK.1 hP hD hS 13 0 rfl rfl (vp_in_nI (n := i1) (N := 1191) (by omega) (by decide)) dX7_undo_57 (fun H locs hP hD hS => ?_)
      obtain ⟨hP, hD⟩ : wPD D A [(Zh, .inr (7, [.long Zt, .ref Za1, .int (nI (ZS 2 0)), .ref Za3, .ref Za4, .ref Za5, .ref Za6, .ref Za7, .ref Za8, .ref Za9, .ref Za10, .ref Za11, .ref Za12, .ref Za13, .int (nI (ZS 14 0)), .int (nI (ZS 15 0)), .int (nI (ZS 16 0)), .int (nI (ZS 17 0)), .int (nI (ZS 18 0)), .int (nI (ZS 19 0) - nI 9), .ref Za20, .ref Za21, .ref Za22, .ref Za23, .ref Za24, .ref Za25, .ref Za26, .ref Za27, .int (nI (ZS 28 0))])), (Za1, .inl (cB, 180, .inl (bF (ZS 1)))), (Za3, .inl (cI, 2, .inl (nF (ZS 3)))), (Za4, .inl (cI, 12, .inl (nF (ZS 4)))), (Za5, .inl (cI, 12, .inl (nF (ZS 5)))), (Za6, .inl (cI, 2, .inl (nF (ZS 6)))), (Za7, .inl (cI, 10, .inl (nF (ZS 7)))), (Za8, .inl (cI, 30, .inl (nF (ZS 8)))), (Za9, .inl (cI, 2, .inl (nF (ZS 9)))), (Za10, .inl (cI, 10, .inl (nF (ZS 10)))), (Za11, .inl (cI, 5, .inl (nF (ZS 11)))), (Za12, .inl (cI, 10, .inl (nF (ZS 12)))), (Za13, .inl (cI, 2, .inl (nF (ZS 13)))), (Za20, .inl (cI, 1191, .inl (upd (nF (z1)) (nI i1).toNatClampNeg (nI (z1 ((37 + (36 * (z1 36))) + i1)))))), (Za21, .inl (cZ, 2, .inl (nF (ZS 21)))), (Za22, .inl (cI, 36, .inl (nF (ZS 22)))), (Za23, .inl (cI, 6, .inl (nF (ZS 23)))), (Za24, .inl (cI, 427, .inl (nF (ZS 24)))), (Za25, .inl (cI, 6, .inl (nF (ZS 25)))), (Za26, .inl (cI, 5, .inl (nF (ZS 26)))), (Za27, .inl (cI, 6, .inl (nF (ZS 27))))] H := ⟨hP, hD⟩
      rw [nF_st (by omega)] at hP hD
      refine lv_iinc (v := nI (i1 + 1)) (lv' := [(1, .int (nI (i1 + 1))), (0, .ref Zh)]) hx hb dX7_undo_58 hl (k := 1) rfl (nI_add i1 1) (by decide) rfl (fun ls hl => ?_)
      refine lv_goto (tgt := 26) hx hb dX7_undo_61 (by decide) ?_
      have hl : lv_has ls 2 [(0, .ref Zh), (1, .int (nI (i1 + 1)))] := lv_sub hl [1, 0] rfl
      exact ih1 (un (z1) i1 (z1 ((37 + (36 * (z1 36))) + i1))) (ud_s hI1 (by omega)) _ _ _ hP hD hS hl
  · skip
    refine lv_bipush (v := -2) hx hb dX7_undo_10 (by decide) ?_
    exact en_i hx hb hr hlk hP hD hS ZS [0, 1, 2, 3, 4, 5, 6, 7, 8, 9, 10, 11, 12, 13, 14, 15, 16, 17, 18, 19, 20] (by decide) rfl (Nat.le_of_ble_eq_true rfl) (Nat.le_of_ble_eq_true rfl) dX7_undo_12 ⟨(ZP.rf hZ), (Or.inl ⟨by omega, rfl, rfl⟩)⟩
