set_option maxRecDepth 20000 in
theorem dAX7_take : decA cX7_take [(0, .iconst 0, 1), (1, .istore_n 1, 1), (2, .iload_n 1, 1), (3, .bipush 36, 2), (5, .if_icmp .ge 21, 3), (8, .aload_n 0, 1), (9, .getfield 54, 3), (12, .iload_n 1, 1), (13, .aload_n 0, 1), (14, .getfield 47, 3), (17, .iload_n 1, 1), (18, .iaload, 1), (19, .iastore, 1), (20, .iinc 1 1, 3), (23, .goto (-21), 3), (26, .return_, 1)] = true := by decide +kernel
theorem dX7_take_0 : decode cX7_take 0 = .ok (.iconst 0, 1) := decA_get dAX7_take 0 rfl
theorem dX7_take_1 : decode cX7_take 1 = .ok (.istore_n 1, 1) := decA_get dAX7_take 1 rfl
theorem dX7_take_2 : decode cX7_take 2 = .ok (.iload_n 1, 1) := decA_get dAX7_take 2 rfl
theorem dX7_take_3 : decode cX7_take 3 = .ok (.bipush 36, 2) := decA_get dAX7_take 3 rfl
theorem dX7_take_5 : decode cX7_take 5 = .ok (.if_icmp .ge 21, 3) := decA_get dAX7_take 4 rfl
theorem dX7_take_26 : decode cX7_take 26 = .ok (.return_, 1) := decA_get dAX7_take 15 rfl
theorem dX7_take_8 : decode cX7_take 8 = .ok (.aload_n 0, 1) := decA_get dAX7_take 5 rfl
theorem dX7_take_9 : decode cX7_take 9 = .ok (.getfield 54, 3) := decA_get dAX7_take 6 rfl
theorem in_X7_take_7 : ∀ w ∈ wsX70, w ∈ wsX7_take := fun w h => (gd_ids wi_X7_take wm_X7_take wi_X70 (by decide +kernel) w h).1
theorem dX7_take_12 : decode cX7_take 12 = .ok (.iload_n 1, 1) := decA_get dAX7_take 7 rfl
theorem dX7_take_13 : decode cX7_take 13 = .ok (.aload_n 0, 1) := decA_get dAX7_take 8 rfl
theorem dX7_take_14 : decode cX7_take 14 = .ok (.getfield 47, 3) := decA_get dAX7_take 9 rfl
theorem dX7_take_17 : decode cX7_take 17 = .ok (.iload_n 1, 1) := decA_get dAX7_take 10 rfl
theorem dX7_take_18 : decode cX7_take 18 = .ok (.iaload, 1) := decA_get dAX7_take 11 rfl
theorem dX7_take_19 : decode cX7_take 19 = .ok (.iastore, 1) := decA_get dAX7_take 12 rfl
theorem dX7_take_20 : decode cX7_take 20 = .ok (.iinc 1 1, 3) := decA_get dAX7_take 13 rfl
theorem dX7_take_23 : decode cX7_take 23 = .ok (.goto (-21), 3) := decA_get dAX7_take 14 rfl
set_option maxHeartbeats 4000000 in
set_option maxRecDepth 100000 in
theorem z_take (l : Launch) (D : va_G) (cI cB cZ cN : ClassId) (Zh : Nat) (Za1 : Nat) (Za3 : Nat) (Za4 : Nat) (Za5 : Nat) (Za6 : Nat) (Za7 : Nat) (Za8 : Nat) (Za9 : Nat) (Za10 : Nat) (Za11 : Nat) (Za12 : Nat) (Za13 : Nat) (Za20 : Nat) (Za21 : Nat) (Za22 : Nat) (Za23 : Nat) (Za24 : Nat) (Za25 : Nat) (Za26 : Nat) (Za27 : Nat) (Zt : Int64) (ZS : Nat → Nat → Nat) (hZ : ZOk ZS) : Cv (S := (Nat → Nat → Nat)) l D cI cB cZ cN yX7_take wsX7_take ({ frames := 0, cells := 0, slots := 0, locals := 0 } : Room) [.ref Zh] [(Zh, .inr (7, [.long Zt, .ref Za1, .int (nI (ZS 2 0)), .ref Za3, .ref Za4, .ref Za5, .ref Za6, .ref Za7, .ref Za8, .ref Za9, .ref Za10, .ref Za11, .ref Za12, .ref Za13, .int (nI (ZS 14 0)), .int (nI (ZS 15 0)), .int (nI (ZS 16 0)), .int (nI (ZS 17 0)), .int (nI (ZS 18 0)), .int (nI (ZS 19 0) - nI 9), .ref Za20, .ref Za21, .ref Za22, .ref Za23, .ref Za24, .ref Za25, .ref Za26, .ref Za27, .int (nI (ZS 28 0))])), (Za1, .inl (cB, 180, .inl (bF (ZS 1)))), (Za3, .inl (cI, 2, .inl (nF (ZS 3)))), (Za4, .inl (cI, 12, .inl (nF (ZS 4)))), (Za5, .inl (cI, 12, .inl (nF (ZS 5)))), (Za6, .inl (cI, 2, .inl (nF (ZS 6)))), (Za7, .inl (cI, 10, .inl (nF (ZS 7)))), (Za8, .inl (cI, 30, .inl (nF (ZS 8)))), (Za9, .inl (cI, 2, .inl (nF (ZS 9)))), (Za10, .inl (cI, 10, .inl (nF (ZS 10)))), (Za11, .inl (cI, 5, .inl (nF (ZS 11)))), (Za12, .inl (cI, 10, .inl (nF (ZS 12)))), (Za13, .inl (cI, 2, .inl (nF (ZS 13)))), (Za20, .inl (cI, 1191, .inl (nF (ZS 20)))), (Za21, .inl (cZ, 2, .inl (nF (ZS 21)))), (Za22, .inl (cI, 36, .inl (nF (ZS 22)))), (Za23, .inl (cI, 6, .inl (nF (ZS 23)))), (Za24, .inl (cI, 427, .inl (nF (ZS 24)))), (Za25, .inl (cI, 6, .inl (nF (ZS 25)))), (Za26, .inl (cI, 5, .inl (nF (ZS 26)))), (Za27, .inl (cI, 6, .inl (nF (ZS 27))))] (fun (u : (Nat → Nat → Nat)) => ∃ g, u = ua ZS 22 g ∧ (∀ j, g j ≤ zb 22 j) ∧ ∀ j, j < 36 → g j = ZS 20 j) (fun u => [(Zh, .inr (7, [.long Zt, .ref Za1, .int (nI (u 2 0)), .ref Za3, .ref Za4, .ref Za5, .ref Za6, .ref Za7, .ref Za8, .ref Za9, .ref Za10, .ref Za11, .ref Za12, .ref Za13, .int (nI (u 14 0)), .int (nI (u 15 0)), .int (nI (u 16 0)), .int (nI (u 17 0)), .int (nI (u 18 0)), .int (nI (u 19 0) - nI 9), .ref Za20, .ref Za21, .ref Za22, .ref Za23, .ref Za24, .ref Za25, .ref Za26, .ref Za27, .int (nI (u 28 0))])), (Za1, .inl (cB, 180, .inl (bF (u 1)))), (Za3, .inl (cI, 2, .inl (nF (u 3)))), (Za4, .inl (cI, 12, .inl (nF (u 4)))), (Za5, .inl (cI, 12, .inl (nF (u 5)))), (Za6, .inl (cI, 2, .inl (nF (u 6)))), (Za7, .inl (cI, 10, .inl (nF (u 7)))), (Za8, .inl (cI, 30, .inl (nF (u 8)))), (Za9, .inl (cI, 2, .inl (nF (u 9)))), (Za10, .inl (cI, 10, .inl (nF (u 10)))), (Za11, .inl (cI, 5, .inl (nF (u 11)))), (Za12, .inl (cI, 10, .inl (nF (u 12)))), (Za13, .inl (cI, 2, .inl (nF (u 13)))), (Za20, .inl (cI, 1191, .inl (nF (u 20)))), (Za21, .inl (cZ, 2, .inl (nF (u 21)))), (Za22, .inl (cI, 36, .inl (nF (u 22)))), (Za23, .inl (cI, 6, .inl (nF (u 23)))), (Za24, .inl (cI, 427, .inl (nF (u 24)))), (Za25, .inl (cI, 6, .inl (nF (u 25)))), (Za26, .inl (cI, 5, .inl (nF (u 26)))), (Za27, .inl (cI, 6, .inl (nF (u 27))))]) := by
  refine bx_of (D := D) (cI := cI) (cB := cB) (cZ := cZ) (cN := cN) (y := yX7_take) (wd := wsX7_take) (rm := ({ frames := 0, cells := 0, slots := 0, locals := 0 } : Room)) (av := [.ref Zh]) (wc := [(Zh, .inr (7, [.long Zt, .ref Za1, .int (nI (ZS 2 0)), .ref Za3, .ref Za4, .ref Za5, .ref Za6, .ref Za7, .ref Za8, .ref Za9, .ref Za10, .ref Za11, .ref Za12, .ref Za13, .int (nI (ZS 14 0)), .int (nI (ZS 15 0)), .int (nI (ZS 16 0)), .int (nI (ZS 17 0)), .int (nI (ZS 18 0)), .int (nI (ZS 19 0) - nI 9), .ref Za20, .ref Za21, .ref Za22, .ref Za23, .ref Za24, .ref Za25, .ref Za26, .ref Za27, .int (nI (ZS 28 0))])), (Za1, .inl (cB, 180, .inl (bF (ZS 1)))), (Za3, .inl (cI, 2, .inl (nF (ZS 3)))), (Za4, .inl (cI, 12, .inl (nF (ZS 4)))), (Za5, .inl (cI, 12, .inl (nF (ZS 5)))), (Za6, .inl (cI, 2, .inl (nF (ZS 6)))), (Za7, .inl (cI, 10, .inl (nF (ZS 7)))), (Za8, .inl (cI, 30, .inl (nF (ZS 8)))), (Za9, .inl (cI, 2, .inl (nF (ZS 9)))), (Za10, .inl (cI, 10, .inl (nF (ZS 10)))), (Za11, .inl (cI, 5, .inl (nF (ZS 11)))), (Za12, .inl (cI, 10, .inl (nF (ZS 12)))), (Za13, .inl (cI, 2, .inl (nF (ZS 13)))), (Za20, .inl (cI, 1191, .inl (nF (ZS 20)))), (Za21, .inl (cZ, 2, .inl (nF (ZS 21)))), (Za22, .inl (cI, 36, .inl (nF (ZS 22)))), (Za23, .inl (cI, 6, .inl (nF (ZS 23)))), (Za24, .inl (cI, 427, .inl (nF (ZS 24)))), (Za25, .inl (cI, 6, .inl (nF (ZS 25)))), (Za26, .inl (cI, 5, .inl (nF (ZS 26)))), (Za27, .inl (cI, 6, .inl (nF (ZS 27))))]) (cc := cX7_take) (maxL := 2) (ret := none) (Qc := fun _ A => va_Qv (S := (Nat → Nat → Nat)) (fun (u : (Nat → Nat → Nat)) => ∃ g, u = ua ZS 22 g ∧ (∀ j, g j ≤ zb 22 j) ∧ ∀ j, j < 36 → g j = ZS 20 j) (Aft D (fun (u : (Nat → Nat → Nat)) => [(Zh, .inr (7, [.long Zt, .ref Za1, .int (nI (u 2 0)), .ref Za3, .ref Za4, .ref Za5, .ref Za6, .ref Za7, .ref Za8, .ref Za9, .ref Za10, .ref Za11, .ref Za12, .ref Za13, .int (nI (u 14 0)), .int (nI (u 15 0)), .int (nI (u 16 0)), .int (nI (u 17 0)), .int (nI (u 18 0)), .int (nI (u 19 0) - nI 9), .ref Za20, .ref Za21, .ref Za22, .ref Za23, .ref Za24, .ref Za25, .ref Za26, .ref Za27, .int (nI (u 28 0))])), (Za1, .inl (cB, 180, .inl (bF (u 1)))), (Za3, .inl (cI, 2, .inl (nF (u 3)))), (Za4, .inl (cI, 12, .inl (nF (u 4)))), (Za5, .inl (cI, 12, .inl (nF (u 5)))), (Za6, .inl (cI, 2, .inl (nF (u 6)))), (Za7, .inl (cI, 10, .inl (nF (u 7)))), (Za8, .inl (cI, 30, .inl (nF (u 8)))), (Za9, .inl (cI, 2, .inl (nF (u 9)))), (Za10, .inl (cI, 10, .inl (nF (u 10)))), (Za11, .inl (cI, 5, .inl (nF (u 11)))), (Za12, .inl (cI, 10, .inl (nF (u 12)))), (Za13, .inl (cI, 2, .inl (nF (u 13)))), (Za20, .inl (cI, 1191, .inl (nF (u 20)))), (Za21, .inl (cZ, 2, .inl (nF (u 21)))), (Za22, .inl (cI, 36, .inl (nF (u 22)))), (Za23, .inl (cI, 6, .inl (nF (u 23)))), (Za24, .inl (cI, 427, .inl (nF (u 24)))), (Za25, .inl (cI, 6, .inl (nF (u 25)))), (Za26, .inl (cI, 5, .inl (nF (u 26)))), (Za27, .inl (cI, 6, .inl (nF (u 27))))]) A) A) (by decide) rfl (Nat.le_of_ble_eq_true rfl) ?_
  intro p e s m below meth c A H locs ⟨hx, hb, hr, hml, hown, hts, hlk, hnm⟩ hK hP hD hS hA ls hl
  have hl : lv_has ls 2 [(0, .ref Zh)] := hl
  have hown : s.vm.findClass RX7 = some m.cls := hown
  refine lv_iconst (v := nI 0) hx hb dX7_take_0 (by decide) ?_
  refine lv_istore_n (lv' := [(1, .int (nI 0)), (0, .ref Zh)]) hx hb dX7_take_1 rfl hl (by decide) rfl (fun ls hl => ?_)
  refine loopS (σ := Nat → Nat) (D := D) (A := A) (fun i1 z1 => (∀ j, z1 j ≤ zb 22 j) ∧ ∀ j, j < i1 → z1 j = ZS 20 j) (fun i1 z1 => [(Zh, .inr (7, [.long Zt, .ref Za1, .int (nI (ZS 2 0)), .ref Za3, .ref Za4, .ref Za5, .ref Za6, .ref Za7, .ref Za8, .ref Za9, .ref Za10, .ref Za11, .ref Za12, .ref Za13, .int (nI (ZS 14 0)), .int (nI (ZS 15 0)), .int (nI (ZS 16 0)), .int (nI (ZS 17 0)), .int (nI (ZS 18 0)), .int (nI (ZS 19 0) - nI 9), .ref Za20, .ref Za21, .ref Za22, .ref Za23, .ref Za24, .ref Za25, .ref Za26, .ref Za27, .int (nI (ZS 28 0))])), (Za1, .inl (cB, 180, .inl (bF (ZS 1)))), (Za3, .inl (cI, 2, .inl (nF (ZS 3)))), (Za4, .inl (cI, 12, .inl (nF (ZS 4)))), (Za5, .inl (cI, 12, .inl (nF (ZS 5)))), (Za6, .inl (cI, 2, .inl (nF (ZS 6)))), (Za7, .inl (cI, 10, .inl (nF (ZS 7)))), (Za8, .inl (cI, 30, .inl (nF (ZS 8)))), (Za9, .inl (cI, 2, .inl (nF (ZS 9)))), (Za10, .inl (cI, 10, .inl (nF (ZS 10)))), (Za11, .inl (cI, 5, .inl (nF (ZS 11)))), (Za12, .inl (cI, 10, .inl (nF (ZS 12)))), (Za13, .inl (cI, 2, .inl (nF (ZS 13)))), (Za20, .inl (cI, 1191, .inl (nF (ZS 20)))), (Za21, .inl (cZ, 2, .inl (nF (ZS 21)))), (Za22, .inl (cI, 36, .inl (nF (z1)))), (Za23, .inl (cI, 6, .inl (nF (ZS 23)))), (Za24, .inl (cI, 427, .inl (nF (ZS 24)))), (Za25, .inl (cI, 6, .inl (nF (ZS 25)))), (Za26, .inl (cI, 5, .inl (nF (ZS 26)))), (Za27, .inl (cI, 6, .inl (nF (ZS 27))))]) (fun i1 z1 => [(0, .ref Zh), (1, .int (nI i1))]) 2 2 36 0 (Nat.zero_le _) ?_ ?_ (ZS 22) ⟨hZ 22, fun j q => absurd q (by omega)⟩ _ _ ls (by first | exact hP) (by first | exact hD) hS (lv_sub hl [1, 0] rfl)
  · intro z1 hI1 H locs ls hP hD hS hl
    have hl : lv_has ls 2 [(0, .ref Zh), (1, .int (nI 36))] := hl
    obtain ⟨hP, hD⟩ : wPD D A [(Zh, .inr (7, [.long Zt, .ref Za1, .int (nI (ZS 2 0)), .ref Za3, .ref Za4, .ref Za5, .ref Za6, .ref Za7, .ref Za8, .ref Za9, .ref Za10, .ref Za11, .ref Za12, .ref Za13, .int (nI (ZS 14 0)), .int (nI (ZS 15 0)), .int (nI (ZS 16 0)), .int (nI (ZS 17 0)), .int (nI (ZS 18 0)), .int (nI (ZS 19 0) - nI 9), .ref Za20, .ref Za21, .ref Za22, .ref Za23, .ref Za24, .ref Za25, .ref Za26, .ref Za27, .int (nI (ZS 28 0))])), (Za1, .inl (cB, 180, .inl (bF (ZS 1)))), (Za3, .inl (cI, 2, .inl (nF (ZS 3)))), (Za4, .inl (cI, 12, .inl (nF (ZS 4)))), (Za5, .inl (cI, 12, .inl (nF (ZS 5)))), (Za6, .inl (cI, 2, .inl (nF (ZS 6)))), (Za7, .inl (cI, 10, .inl (nF (ZS 7)))), (Za8, .inl (cI, 30, .inl (nF (ZS 8)))), (Za9, .inl (cI, 2, .inl (nF (ZS 9)))), (Za10, .inl (cI, 10, .inl (nF (ZS 10)))), (Za11, .inl (cI, 5, .inl (nF (ZS 11)))), (Za12, .inl (cI, 10, .inl (nF (ZS 12)))), (Za13, .inl (cI, 2, .inl (nF (ZS 13)))), (Za20, .inl (cI, 1191, .inl (nF (ZS 20)))), (Za21, .inl (cZ, 2, .inl (nF (ZS 21)))), (Za22, .inl (cI, 36, .inl (nF (z1)))), (Za23, .inl (cI, 6, .inl (nF (ZS 23)))), (Za24, .inl (cI, 427, .inl (nF (ZS 24)))), (Za25, .inl (cI, 6, .inl (nF (ZS 25)))), (Za26, .inl (cI, 5, .inl (nF (ZS 26)))), (Za27, .inl (cI, 6, .inl (nF (ZS 27))))] H := ⟨hP, hD⟩
    refine lv_iload_n hx hb dX7_take_2 rfl (lv_at hl 1 rfl) ?_
    refine lv_bipush (v := nI 36) hx hb dX7_take_3 (by decide) ?_
    refine nb_icmp_ge (tgt := 26) hx hb dX7_take_5 (by decide) (by omega) (by omega) (fun hq1 => ?_) (fun hq1 => absurd hq1 (by omega))
    exact en_v hx hb hr hlk hP hD hS (ua ZS 22 (z1)) [0, 1, 2, 3, 4, 5, 6, 7, 8, 9, 10, 11, 12, 13, 14, 15, 16, 17, 18, 19, 20] (by decide) rfl (Nat.le_of_ble_eq_true rfl) (Nat.le_of_ble_eq_true rfl) dX7_take_26 ⟨_, rfl, hI1⟩
  · intro i1 hi01 hi1 z1 hI1 ih1 H locs ls hP hD hS hl
    have hl : lv_has ls 2 [(0, .ref Zh), (1, .int (nI i1))] := hl
    obtain ⟨hP, hD⟩ : wPD D A [(Zh, .inr (7, [.long Zt, .ref Za1, .int (nI (ZS 2 0)), .ref Za3, .ref Za4, .ref Za5, .ref Za6, .ref Za7, .ref Za8, .ref Za9, .ref Za10, .ref Za11, .ref Za12, .ref Za13, .int (nI (ZS 14 0)), .int (nI (ZS 15 0)), .int (nI (ZS 16 0)), .int (nI (ZS 17 0)), .int (nI (ZS 18 0)), .int (nI (ZS 19 0) - nI 9), .ref Za20, .ref Za21, .ref Za22, .ref Za23, .ref Za24, .ref Za25, .ref Za26, .ref Za27, .int (nI (ZS 28 0))])), (Za1, .inl (cB, 180, .inl (bF (ZS 1)))), (Za3, .inl (cI, 2, .inl (nF (ZS 3)))), (Za4, .inl (cI, 12, .inl (nF (ZS 4)))), (Za5, .inl (cI, 12, .inl (nF (ZS 5)))), (Za6, .inl (cI, 2, .inl (nF (ZS 6)))), (Za7, .inl (cI, 10, .inl (nF (ZS 7)))), (Za8, .inl (cI, 30, .inl (nF (ZS 8)))), (Za9, .inl (cI, 2, .inl (nF (ZS 9)))), (Za10, .inl (cI, 10, .inl (nF (ZS 10)))), (Za11, .inl (cI, 5, .inl (nF (ZS 11)))), (Za12, .inl (cI, 10, .inl (nF (ZS 12)))), (Za13, .inl (cI, 2, .inl (nF (ZS 13)))), (Za20, .inl (cI, 1191, .inl (nF (ZS 20)))), (Za21, .inl (cZ, 2, .inl (nF (ZS 21)))), (Za22, .inl (cI, 36, .inl (nF (z1)))), (Za23, .inl (cI, 6, .inl (nF (ZS 23)))), (Za24, .inl (cI, 427, .inl (nF (ZS 24)))), (Za25, .inl (cI, 6, .inl (nF (ZS 25)))), (Za26, .inl (cI, 5, .inl (nF (ZS 26)))), (Za27, .inl (cI, 6, .inl (nF (ZS 27))))] H := ⟨hP, hD⟩
    refine lv_iload_n hx hb dX7_take_2 rfl (lv_at hl 1 rfl) ?_
    refine lv_bipush (v := nI 36) hx hb dX7_take_3 (by decide) ?_
    refine nb_icmp_ge (tgt := 26) hx hb dX7_take_5 (by decide) (by omega) (by omega) (fun hq2 => absurd hq2 (by omega)) (fun hq2 => ?_)
    refine lv_aload_n hx hb dX7_take_8 rfl (lv_at hl 0 rfl) ?_
    refine va_get (D := D) (ci := 7) (v := .ref Za22) (C := RX7) (T := TX7) (N := 29) hx hb hts in_X7_take_7 hown hK.1 hP 0 rfl rfl 22 (by decide) (hts (.fieldLink RX7 54 "ChildCoinsModel" "tried" "[I") (List.mem_of_getElem? (i := 1) rfl)) (fun _ h9 => h9) rfl dX7_take_9 ?_
    refine lv_iload_n hx hb dX7_take_12 rfl (lv_at hl 1 rfl) ?_
    refine lv_aload_n hx hb dX7_take_13 rfl (lv_at hl 0 rfl) ?_
    refine va_get (D := D) (ci := 7) (v := .ref Za20) (C := RX7) (T := TX7) (N := 29) hx hb hts in_X7_take_7 hown hK.1 hP 0 rfl rfl 20 (by decide) (hts (.fieldLink RX7 47 "ChildCoinsModel" "now" "[I") (List.mem_of_getElem? (i := 2) rfl)) (fun _ h9 => h9) rfl dX7_take_14 ?_
    refine lv_iload_n hx hb dX7_take_17 rfl (lv_at hl 1 rfl) ?_
    refine va_iald hx hb hK.1 hP 13 0 rfl rfl (vp_in_nI (n := i1) (N := 1191) (by omega) (by decide)) dX7_take_18 ?_
    refine set_i (y := nI (ZS 20 i1)) (nF_ld (by omega)) ?_
    have b3 : ZS 20 i1 ≤ 99 := Nat.le_trans ((zok_set (k := 22) hZ hI1.1) 20 i1) (nbd_99 i1)
    refine va_iast hx hb hK.1 hP hD hS 15 0 rfl rfl (vp_in_nI (n := i1) (N := 36) (by omega) (by decide)) dX7_take_19 (fun H locs hP hD hS => ?_)
    obtain ⟨hP, hD⟩ : wPD D A [(Zh, .inr (7, [.long Zt, .ref Za1, .int (nI (ZS 2 0)), .ref Za3, .ref Za4, .ref Za5, .ref Za6, .ref Za7, .ref Za8, .ref Za9, .ref Za10, .ref Za11, .ref Za12, .ref Za13, .int (nI (ZS 14 0)), .int (nI (ZS 15 0)), .int (nI (ZS 16 0)), .int (nI (ZS 17 0)), .int (nI (ZS 18 0)), .int (nI (ZS 19 0) - nI 9), .ref Za20, .ref Za21, .ref Za22, .ref Za23, .ref Za24, .ref Za25, .ref Za26, .ref Za27, .int (nI (ZS 28 0))])), (Za1, .inl (cB, 180, .inl (bF (ZS 1)))), (Za3, .inl (cI, 2, .inl (nF (ZS 3)))), (Za4, .inl (cI, 12, .inl (nF (ZS 4)))), (Za5, .inl (cI, 12, .inl (nF (ZS 5)))), (Za6, .inl (cI, 2, .inl (nF (ZS 6)))), (Za7, .inl (cI, 10, .inl (nF (ZS 7)))), (Za8, .inl (cI, 30, .inl (nF (ZS 8)))), (Za9, .inl (cI, 2, .inl (nF (ZS 9)))), (Za10, .inl (cI, 10, .inl (nF (ZS 10)))), (Za11, .inl (cI, 5, .inl (nF (ZS 11)))), (Za12, .inl (cI, 10, .inl (nF (ZS 12)))), (Za13, .inl (cI, 2, .inl (nF (ZS 13)))), (Za20, .inl (cI, 1191, .inl (nF (ZS 20)))), (Za21, .inl (cZ, 2, .inl (nF (ZS 21)))), (Za22, .inl (cI, 36, .inl (upd (nF (z1)) (nI i1).toNatClampNeg (nI (ZS 20 i1))))), (Za23, .inl (cI, 6, .inl (nF (ZS 23)))), (Za24, .inl (cI, 427, .inl (nF (ZS 24)))), (Za25, .inl (cI, 6, .inl (nF (ZS 25)))), (Za26, .inl (cI, 5, .inl (nF (ZS 26)))), (Za27, .inl (cI, 6, .inl (nF (ZS 27))))] H := ⟨hP, hD⟩
    rw [nF_st (by omega)] at hP hD
    refine lv_iinc (v := nI (i1 + 1)) (lv' := [(1, .int (nI (i1 + 1))), (0, .ref Zh)]) hx hb dX7_take_20 hl (k := 1) rfl (nI_add i1 1) (by decide) rfl (fun ls hl => ?_)
    refine lv_goto (tgt := 2) hx hb dX7_take_23 (by decide) ?_
    have hl : lv_has ls 2 [(0, .ref Zh), (1, .int (nI (i1 + 1)))] := lv_sub hl [1, 0] rfl
    exact ih1 (un (z1) i1 (ZS 20 i1)) ⟨un_zb (f := zb 22) hI1.1 (tk_b (hZ 20) (by omega)), fun j q => by rcases (show j < i1 ∨ j = i1 by omega) with y | y; rw [un_n (by omega)]; exact hI1.2 j y; rw [y, un_s]⟩ _ _ _ hP hD hS hl
set_option maxRecDepth 20000 in
theorem dAX7_isRow : decA cX7_isRow [(0, .iconst 0, 1), (1, .istore_n 3, 1), (2, .iload_n 1, 1), (3, .istore 4, 2), (5, .iconst 1, 1), (6, .istore 5, 2), (8, .iload_n 2, 1), (9, .iconst 1, 1), (10, .isub, 1), (11, .istore 6, 2), (13, .iload 6, 2), (15, .ifCond .lt 82, 3), (18, .aload_n 0, 1), (19, .getfield 66, 3), (22, .iload 6, 2), (24, .iload 4, 2), (26, .iconst 5, 1), (27, .irem, 1), (28, .iastore, 1), (29, .iload 4, 2), (31, .iconst 5, 1), (32, .idiv, 1), (33, .istore 4, 2), (35, .iload 5, 2), (37, .ifCond .eq 39, 3), (40, .aload_n 0, 1), (41, .aload_n 0, 1), (42, .getfield 47, 3), (45, .aload_n 0, 1), (46, .getfield 66, 3), (49, .iload 6, 2), (51, .iaload, 1), (52, .invokevirtual 168, 3), (55, .ifCond .eq 21, 3), (58, .iload_n 3, 1), (59, .aload_n 0, 1), (60, .getfield 66, 3), (63, .iload 6, 2), (65, .iaload, 1), (66, .ishr, 1), (67, .iconst 1, 1), (68, .iand, 1), (69, .ifCond .ne 7, 3), (72, .iconst 1, 1), (73, .goto 4, 3), (76, .iconst 0, 1), (77, .istore 5, 2), (79, .iload_n 3, 1), (80, .iconst 1, 1), (81, .aload_n 0, 1), (82, .getfield 66, 3), (85, .iload 6, 2), (87, .iaload, 1), (88, .ishl, 1), (89, .ior, 1), (90, .istore_n 3, 1), (91, .iinc 6 (-1), 3), (94, .goto (-81), 3), (97, .iload 5, 2), (99, .ireturn, 1)] = true := by decide +kernel
theorem dX7_isRow_0 : decode cX7_isRow 0 = .ok (.iconst 0, 1) := decA_get dAX7_isRow 0 rfl
theorem dX7_isRow_1 : decode cX7_isRow 1 = .ok (.istore_n 3, 1) := decA_get dAX7_isRow 1 rfl
theorem dX7_isRow_2 : decode cX7_isRow 2 = .ok (.iload_n 1, 1) := decA_get dAX7_isRow 2 rfl
theorem dX7_isRow_3 : decode cX7_isRow 3 = .ok (.istore 4, 2) := decA_get dAX7_isRow 3 rfl
theorem dX7_isRow_5 : decode cX7_isRow 5 = .ok (.iconst 1, 1) := decA_get dAX7_isRow 4 rfl
theorem dX7_isRow_6 : decode cX7_isRow 6 = .ok (.istore 5, 2) := decA_get dAX7_isRow 5 rfl
theorem dX7_isRow_8 : decode cX7_isRow 8 = .ok (.iload_n 2, 1) := decA_get dAX7_isRow 6 rfl
theorem dX7_isRow_9 : decode cX7_isRow 9 = .ok (.iconst 1, 1) := decA_get dAX7_isRow 7 rfl
theorem dX7_isRow_10 : decode cX7_isRow 10 = .ok (.isub, 1) := decA_get dAX7_isRow 8 rfl
theorem dX7_isRow_11 : decode cX7_isRow 11 = .ok (.istore 6, 2) := decA_get dAX7_isRow 9 rfl
theorem dX7_isRow_13 : decode cX7_isRow 13 = .ok (.iload 6, 2) := decA_get dAX7_isRow 10 rfl
theorem dX7_isRow_15 : decode cX7_isRow 15 = .ok (.ifCond .lt 82, 3) := decA_get dAX7_isRow 11 rfl
theorem dX7_isRow_97 : decode cX7_isRow 97 = .ok (.iload 5, 2) := decA_get dAX7_isRow 58 rfl
theorem dX7_isRow_99 : decode cX7_isRow 99 = .ok (.ireturn, 1) := decA_get dAX7_isRow 59 rfl
theorem dX7_isRow_18 : decode cX7_isRow 18 = .ok (.aload_n 0, 1) := decA_get dAX7_isRow 12 rfl
theorem dX7_isRow_19 : decode cX7_isRow 19 = .ok (.getfield 66, 3) := decA_get dAX7_isRow 13 rfl
theorem in_X7_isRow_7 : ∀ w ∈ wsX70, w ∈ wsX7_isRow := fun w h => (gd_ids wi_X7_isRow wm_X7_isRow wi_X70 (by decide +kernel) w h).1
theorem dX7_isRow_22 : decode cX7_isRow 22 = .ok (.iload 6, 2) := decA_get dAX7_isRow 14 rfl
theorem dX7_isRow_24 : decode cX7_isRow 24 = .ok (.iload 4, 2) := decA_get dAX7_isRow 15 rfl
theorem dX7_isRow_26 : decode cX7_isRow 26 = .ok (.iconst 5, 1) := decA_get dAX7_isRow 16 rfl
theorem dX7_isRow_27 : decode cX7_isRow 27 = .ok (.irem, 1) := decA_get dAX7_isRow 17 rfl
theorem dX7_isRow_28 : decode cX7_isRow 28 = .ok (.iastore, 1) := decA_get dAX7_isRow 18 rfl
theorem dX7_isRow_29 : decode cX7_isRow 29 = .ok (.iload 4, 2) := decA_get dAX7_isRow 19 rfl
theorem dX7_isRow_31 : decode cX7_isRow 31 = .ok (.iconst 5, 1) := decA_get dAX7_isRow 20 rfl
theorem dX7_isRow_32 : decode cX7_isRow 32 = .ok (.idiv, 1) := decA_get dAX7_isRow 21 rfl
theorem dX7_isRow_33 : decode cX7_isRow 33 = .ok (.istore 4, 2) := decA_get dAX7_isRow 22 rfl
theorem dX7_isRow_35 : decode cX7_isRow 35 = .ok (.iload 5, 2) := decA_get dAX7_isRow 23 rfl
theorem dX7_isRow_37 : decode cX7_isRow 37 = .ok (.ifCond .eq 39, 3) := decA_get dAX7_isRow 24 rfl
theorem dX7_isRow_76 : decode cX7_isRow 76 = .ok (.iconst 0, 1) := decA_get dAX7_isRow 45 rfl
theorem dX7_isRow_77 : decode cX7_isRow 77 = .ok (.istore 5, 2) := decA_get dAX7_isRow 46 rfl
theorem dX7_isRow_79 : decode cX7_isRow 79 = .ok (.iload_n 3, 1) := decA_get dAX7_isRow 47 rfl
theorem dX7_isRow_80 : decode cX7_isRow 80 = .ok (.iconst 1, 1) := decA_get dAX7_isRow 48 rfl
theorem dX7_isRow_81 : decode cX7_isRow 81 = .ok (.aload_n 0, 1) := decA_get dAX7_isRow 49 rfl
theorem dX7_isRow_82 : decode cX7_isRow 82 = .ok (.getfield 66, 3) := decA_get dAX7_isRow 50 rfl
theorem dX7_isRow_85 : decode cX7_isRow 85 = .ok (.iload 6, 2) := decA_get dAX7_isRow 51 rfl
theorem dX7_isRow_87 : decode cX7_isRow 87 = .ok (.iaload, 1) := decA_get dAX7_isRow 52 rfl
theorem dX7_isRow_88 : decode cX7_isRow 88 = .ok (.ishl, 1) := decA_get dAX7_isRow 53 rfl
theorem dX7_isRow_89 : decode cX7_isRow 89 = .ok (.ior, 1) := decA_get dAX7_isRow 54 rfl
theorem dX7_isRow_90 : decode cX7_isRow 90 = .ok (.istore_n 3, 1) := decA_get dAX7_isRow 55 rfl
theorem dX7_isRow_91 : decode cX7_isRow 91 = .ok (.iinc 6 (-1), 3) := decA_get dAX7_isRow 56 rfl
theorem dX7_isRow_94 : decode cX7_isRow 94 = .ok (.goto (-81), 3) := decA_get dAX7_isRow 57 rfl
theorem dX7_isRow_40 : decode cX7_isRow 40 = .ok (.aload_n 0, 1) := decA_get dAX7_isRow 25 rfl
theorem dX7_isRow_41 : decode cX7_isRow 41 = .ok (.aload_n 0, 1) := decA_get dAX7_isRow 26 rfl
theorem dX7_isRow_42 : decode cX7_isRow 42 = .ok (.getfield 47, 3) := decA_get dAX7_isRow 27 rfl
theorem dX7_isRow_45 : decode cX7_isRow 45 = .ok (.aload_n 0, 1) := decA_get dAX7_isRow 28 rfl
theorem dX7_isRow_46 : decode cX7_isRow 46 = .ok (.getfield 66, 3) := decA_get dAX7_isRow 29 rfl
theorem dX7_isRow_49 : decode cX7_isRow 49 = .ok (.iload 6, 2) := decA_get dAX7_isRow 30 rfl
theorem dX7_isRow_51 : decode cX7_isRow 51 = .ok (.iaload, 1) := decA_get dAX7_isRow 31 rfl
theorem dX7_isRow_52 : decode cX7_isRow 52 = .ok (.invokevirtual 168, 3) := decA_get dAX7_isRow 32 rfl
set_option maxRecDepth 20000 in
theorem ggX7_isRow_X7_isOpen : GoodIn wsX7_isRow wsX7_isOpen := gd_ids wi_X7_isRow wm_X7_isRow wi_X7_isOpen (by decide +kernel)
set_option maxRecDepth 20000 in
theorem gX7_isRow_X7_isOpen : GoodIn wsX7_isRow (wsV RX7 168 RX7 yX7_isOpen wsX7_isOpen) := goodIn_app (gd_ids wi_X7_isRow wm_X7_isRow (b := [575, 576, 577, 481]) rfl (by decide +kernel)) ggX7_isRow_X7_isOpen
theorem dX7_isRow_55 : decode cX7_isRow 55 = .ok (.ifCond .eq 21, 3) := decA_get dAX7_isRow 33 rfl
theorem dX7_isRow_58 : decode cX7_isRow 58 = .ok (.iload_n 3, 1) := decA_get dAX7_isRow 34 rfl
theorem dX7_isRow_59 : decode cX7_isRow 59 = .ok (.aload_n 0, 1) := decA_get dAX7_isRow 35 rfl
theorem dX7_isRow_60 : decode cX7_isRow 60 = .ok (.getfield 66, 3) := decA_get dAX7_isRow 36 rfl
theorem dX7_isRow_63 : decode cX7_isRow 63 = .ok (.iload 6, 2) := decA_get dAX7_isRow 37 rfl
theorem dX7_isRow_65 : decode cX7_isRow 65 = .ok (.iaload, 1) := decA_get dAX7_isRow 38 rfl
theorem dX7_isRow_66 : decode cX7_isRow 66 = .ok (.ishr, 1) := decA_get dAX7_isRow 39 rfl
theorem dX7_isRow_67 : decode cX7_isRow 67 = .ok (.iconst 1, 1) := decA_get dAX7_isRow 40 rfl
theorem dX7_isRow_68 : decode cX7_isRow 68 = .ok (.iand, 1) := decA_get dAX7_isRow 41 rfl
theorem dX7_isRow_69 : decode cX7_isRow 69 = .ok (.ifCond .ne 7, 3) := decA_get dAX7_isRow 42 rfl
theorem dX7_isRow_72 : decode cX7_isRow 72 = .ok (.iconst 1, 1) := decA_get dAX7_isRow 43 rfl
theorem dX7_isRow_73 : decode cX7_isRow 73 = .ok (.goto 4, 3) := decA_get dAX7_isRow 44 rfl
set_option maxHeartbeats 4000000 in
set_option maxRecDepth 100000 in
theorem z_isRow (l : Launch) (D : va_G) (cI cB cZ cN : ClassId) (Zh : Nat) (Za1 : Nat) (Za3 : Nat) (Za4 : Nat) (Za5 : Nat) (Za6 : Nat) (Za7 : Nat) (Za8 : Nat) (Za9 : Nat) (Za10 : Nat) (Za11 : Nat) (Za12 : Nat) (Za13 : Nat) (Za20 : Nat) (Za21 : Nat) (Za22 : Nat) (Za23 : Nat) (Za24 : Nat) (Za25 : Nat) (Za26 : Nat) (Za27 : Nat) (Zt : Int64) (ZS : Nat → Nat → Nat) (v_k : Nat) (v_n : Nat) (hZ : ZOk ZS) (hk : v_k < 100000) (hn : v_n ≤ 5) : Ci (S := (Nat → Nat → Nat)) l D cI cB cZ cN yX7_isRow wsX7_isRow ({ frames := 1, cells := 0, slots := 0, locals := 22 } : Room) [.ref Zh, .int (nI v_k), .int (nI v_n)] [(Zh, .inr (7, [.long Zt, .ref Za1, .int (nI (ZS 2 0)), .ref Za3, .ref Za4, .ref Za5, .ref Za6, .ref Za7, .ref Za8, .ref Za9, .ref Za10, .ref Za11, .ref Za12, .ref Za13, .int (nI (ZS 14 0)), .int (nI (ZS 15 0)), .int (nI (ZS 16 0)), .int (nI (ZS 17 0)), .int (nI (ZS 18 0)), .int (nI (ZS 19 0) - nI 9), .ref Za20, .ref Za21, .ref Za22, .ref Za23, .ref Za24, .ref Za25, .ref Za26, .ref Za27, .int (nI (ZS 28 0))])), (Za1, .inl (cB, 180, .inl (bF (ZS 1)))), (Za3, .inl (cI, 2, .inl (nF (ZS 3)))), (Za4, .inl (cI, 12, .inl (nF (ZS 4)))), (Za5, .inl (cI, 12, .inl (nF (ZS 5)))), (Za6, .inl (cI, 2, .inl (nF (ZS 6)))), (Za7, .inl (cI, 10, .inl (nF (ZS 7)))), (Za8, .inl (cI, 30, .inl (nF (ZS 8)))), (Za9, .inl (cI, 2, .inl (nF (ZS 9)))), (Za10, .inl (cI, 10, .inl (nF (ZS 10)))), (Za11, .inl (cI, 5, .inl (nF (ZS 11)))), (Za12, .inl (cI, 10, .inl (nF (ZS 12)))), (Za13, .inl (cI, 2, .inl (nF (ZS 13)))), (Za20, .inl (cI, 1191, .inl (nF (ZS 20)))), (Za21, .inl (cZ, 2, .inl (nF (ZS 21)))), (Za22, .inl (cI, 36, .inl (nF (ZS 22)))), (Za23, .inl (cI, 6, .inl (nF (ZS 23)))), (Za24, .inl (cI, 427, .inl (nF (ZS 24)))), (Za25, .inl (cI, 6, .inl (nF (ZS 25)))), (Za26, .inl (cI, 5, .inl (nF (ZS 26)))), (Za27, .inl (cI, 6, .inl (nF (ZS 27))))] (fun (r : Int32) (u : (Nat → Nat → Nat)) => ∃ g, u = ua ZS 26 g ∧ (∀ j, g j ≤ zb 26 j) ∧ (r = nI 0 ∨ r = nI 1)) (fun u => [(Zh, .inr (7, [.long Zt, .ref Za1, .int (nI (u 2 0)), .ref Za3, .ref Za4, .ref Za5, .ref Za6, .ref Za7, .ref Za8, .ref Za9, .ref Za10, .ref Za11, .ref Za12, .ref Za13, .int (nI (u 14 0)), .int (nI (u 15 0)), .int (nI (u 16 0)), .int (nI (u 17 0)), .int (nI (u 18 0)), .int (nI (u 19 0) - nI 9), .ref Za20, .ref Za21, .ref Za22, .ref Za23, .ref Za24, .ref Za25, .ref Za26, .ref Za27, .int (nI (u 28 0))])), (Za1, .inl (cB, 180, .inl (bF (u 1)))), (Za3, .inl (cI, 2, .inl (nF (u 3)))), (Za4, .inl (cI, 12, .inl (nF (u 4)))), (Za5, .inl (cI, 12, .inl (nF (u 5)))), (Za6, .inl (cI, 2, .inl (nF (u 6)))), (Za7, .inl (cI, 10, .inl (nF (u 7)))), (Za8, .inl (cI, 30, .inl (nF (u 8)))), (Za9, .inl (cI, 2, .inl (nF (u 9)))), (Za10, .inl (cI, 10, .inl (nF (u 10)))), (Za11, .inl (cI, 5, .inl (nF (u 11)))), (Za12, .inl (cI, 10, .inl (nF (u 12)))), (Za13, .inl (cI, 2, .inl (nF (u 13)))), (Za20, .inl (cI, 1191, .inl (nF (u 20)))), (Za21, .inl (cZ, 2, .inl (nF (u 21)))), (Za22, .inl (cI, 36, .inl (nF (u 22)))), (Za23, .inl (cI, 6, .inl (nF (u 23)))), (Za24, .inl (cI, 427, .inl (nF (u 24)))), (Za25, .inl (cI, 6, .inl (nF (u 25)))), (Za26, .inl (cI, 5, .inl (nF (u 26)))), (Za27, .inl (cI, 6, .inl (nF (u 27))))]) := by
  refine bx_of (D := D) (cI := cI) (cB := cB) (cZ := cZ) (cN := cN) (y := yX7_isRow) (wd := wsX7_isRow) (rm := ({ frames := 1, cells := 0, slots := 0, locals := 22 } : Room)) (av := [.ref Zh, .int (nI v_k), .int (nI v_n)]) (wc := [(Zh, .inr (7, [.long Zt, .ref Za1, .int (nI (ZS 2 0)), .ref Za3, .ref Za4, .ref Za5, .ref Za6, .ref Za7, .ref Za8, .ref Za9, .ref Za10, .ref Za11, .ref Za12, .ref Za13, .int (nI (ZS 14 0)), .int (nI (ZS 15 0)), .int (nI (ZS 16 0)), .int (nI (ZS 17 0)), .int (nI (ZS 18 0)), .int (nI (ZS 19 0) - nI 9), .ref Za20, .ref Za21, .ref Za22, .ref Za23, .ref Za24, .ref Za25, .ref Za26, .ref Za27, .int (nI (ZS 28 0))])), (Za1, .inl (cB, 180, .inl (bF (ZS 1)))), (Za3, .inl (cI, 2, .inl (nF (ZS 3)))), (Za4, .inl (cI, 12, .inl (nF (ZS 4)))), (Za5, .inl (cI, 12, .inl (nF (ZS 5)))), (Za6, .inl (cI, 2, .inl (nF (ZS 6)))), (Za7, .inl (cI, 10, .inl (nF (ZS 7)))), (Za8, .inl (cI, 30, .inl (nF (ZS 8)))), (Za9, .inl (cI, 2, .inl (nF (ZS 9)))), (Za10, .inl (cI, 10, .inl (nF (ZS 10)))), (Za11, .inl (cI, 5, .inl (nF (ZS 11)))), (Za12, .inl (cI, 10, .inl (nF (ZS 12)))), (Za13, .inl (cI, 2, .inl (nF (ZS 13)))), (Za20, .inl (cI, 1191, .inl (nF (ZS 20)))), (Za21, .inl (cZ, 2, .inl (nF (ZS 21)))), (Za22, .inl (cI, 36, .inl (nF (ZS 22)))), (Za23, .inl (cI, 6, .inl (nF (ZS 23)))), (Za24, .inl (cI, 427, .inl (nF (ZS 24)))), (Za25, .inl (cI, 6, .inl (nF (ZS 25)))), (Za26, .inl (cI, 5, .inl (nF (ZS 26)))), (Za27, .inl (cI, 6, .inl (nF (ZS 27))))]) (cc := cX7_isRow) (maxL := 7) (ret := (some .boolean)) (Qc := fun _ A => va_Qi (S := (Nat → Nat → Nat)) (fun (r : Int32) (u : (Nat → Nat → Nat)) => ∃ g, u = ua ZS 26 g ∧ (∀ j, g j ≤ zb 26 j) ∧ (r = nI 0 ∨ r = nI 1)) (Aft D (fun (u : (Nat → Nat → Nat)) => [(Zh, .inr (7, [.long Zt, .ref Za1, .int (nI (u 2 0)), .ref Za3, .ref Za4, .ref Za5, .ref Za6, .ref Za7, .ref Za8, .ref Za9, .ref Za10, .ref Za11, .ref Za12, .ref Za13, .int (nI (u 14 0)), .int (nI (u 15 0)), .int (nI (u 16 0)), .int (nI (u 17 0)), .int (nI (u 18 0)), .int (nI (u 19 0) - nI 9), .ref Za20, .ref Za21, .ref Za22, .ref Za23, .ref Za24, .ref Za25, .ref Za26, .ref Za27, .int (nI (u 28 0))])), (Za1, .inl (cB, 180, .inl (bF (u 1)))), (Za3, .inl (cI, 2, .inl (nF (u 3)))), (Za4, .inl (cI, 12, .inl (nF (u 4)))), (Za5, .inl (cI, 12, .inl (nF (u 5)))), (Za6, .inl (cI, 2, .inl (nF (u 6)))), (Za7, .inl (cI, 10, .inl (nF (u 7)))), (Za8, .inl (cI, 30, .inl (nF (u 8)))), (Za9, .inl (cI, 2, .inl (nF (u 9)))), (Za10, .inl (cI, 10, .inl (nF (u 10)))), (Za11, .inl (cI, 5, .inl (nF (u 11)))), (Za12, .inl (cI, 10, .inl (nF (u 12)))), (Za13, .inl (cI, 2, .inl (nF (u 13)))), (Za20, .inl (cI, 1191, .inl (nF (u 20)))), (Za21, .inl (cZ, 2, .inl (nF (u 21)))), (Za22, .inl (cI, 36, .inl (nF (u 22)))), (Za23, .inl (cI, 6, .inl (nF (u 23)))), (Za24, .inl (cI, 427, .inl (nF (u 24)))), (Za25, .inl (cI, 6, .inl (nF (u 25)))), (Za26, .inl (cI, 5, .inl (nF (u 26)))), (Za27, .inl (cI, 6, .inl (nF (u 27))))]) A) A) (by decide) rfl (Nat.le_of_ble_eq_true rfl) ?_
  intro p e s m below meth c A H locs ⟨hx, hb, hr, hml, hown, hts, hlk, hnm⟩ hK hP hD hS hA ls hl
  have hl : lv_has ls 7 [(0, .ref Zh), (1, .int (nI v_k)), (2, .int (nI v_n))] := hl
  have hown : s.vm.findClass RX7 = some m.cls := hown
  have bz6 : ZS 6 0 ≤ 5 := hZ 6 0
  have bz3 : ZS 3 0 ≤ 6 := hZ 3 0
  have bz9 : ZS 9 0 ≤ 5 := hZ 9 0
  have bz28 : ZS 28 0 ≤ 6 := hZ 28 0
  refine lv_iconst (v := nI 0) hx hb dX7_isRow_0 (by decide) ?_
  refine lv_istore_n (lv' := [(3, .int (nI 0)), (0, .ref Zh), (1, .int (nI v_k)), (2, .int (nI v_n))]) hx hb dX7_isRow_1 rfl hl (by decide) rfl (fun ls hl => ?_)
  refine lv_iload_n hx hb dX7_isRow_2 rfl (lv_at hl 2 rfl) ?_
  refine lv_istore (lv' := [(4, .int (nI v_k)), (3, .int (nI 0)), (0, .ref Zh), (1, .int (nI v_k)), (2, .int (nI v_n))]) hx hb dX7_isRow_3 hl (by decide) rfl (fun ls hl => ?_)
  refine lv_iconst (v := nI 1) hx hb dX7_isRow_5 (by decide) ?_
  refine lv_istore (lv' := [(5, .int (nI 1)), (4, .int (nI v_k)), (3, .int (nI 0)), (0, .ref Zh), (1, .int (nI v_k)), (2, .int (nI v_n))]) hx hb dX7_isRow_6 hl (by decide) rfl (fun ls hl => ?_)
  refine lv_iload_n hx hb dX7_isRow_8 rfl (lv_at hl 5 rfl) ?_
  refine lv_iconst (v := nI 1) hx hb dX7_isRow_9 (by decide) ?_
  refine lv_isub hx hb dX7_isRow_10 ?_
  refine set_i (y := nI (v_n - 0) - nI 1) (by rw [Nat.sub_zero]) ?_
  refine lv_istore (lv' := [(6, .int (nI (v_n - 0) - nI 1)), (5, .int (nI 1)), (4, .int (nI v_k)), (3, .int (nI 0)), (0, .ref Zh), (1, .int (nI v_k)), (2, .int (nI v_n))]) hx hb dX7_isRow_11 hl (by decide) rfl (fun ls hl => ?_)
  refine loopS (σ := (Nat → Nat) × Nat × Nat × Nat) (D := D) (A := A) (fun i1 z1 => (∀ j, z1.1 j ≤ zb 26 j) ∧ z1.2.1 < 32 ∧ z1.2.2.1 < 100000 ∧ z1.2.2.2 ≤ 1) (fun i1 z1 => [(Zh, .inr (7, [.long Zt, .ref Za1, .int (nI (ZS 2 0)), .ref Za3, .ref Za4, .ref Za5, .ref Za6, .ref Za7, .ref Za8, .ref Za9, .ref Za10, .ref Za11, .ref Za12, .ref Za13, .int (nI (ZS 14 0)), .int (nI (ZS 15 0)), .int (nI (ZS 16 0)), .int (nI (ZS 17 0)), .int (nI (ZS 18 0)), .int (nI (ZS 19 0) - nI 9), .ref Za20, .ref Za21, .ref Za22, .ref Za23, .ref Za24, .ref Za25, .ref Za26, .ref Za27, .int (nI (ZS 28 0))])), (Za1, .inl (cB, 180, .inl (bF (ZS 1)))), (Za3, .inl (cI, 2, .inl (nF (ZS 3)))), (Za4, .inl (cI, 12, .inl (nF (ZS 4)))), (Za5, .inl (cI, 12, .inl (nF (ZS 5)))), (Za6, .inl (cI, 2, .inl (nF (ZS 6)))), (Za7, .inl (cI, 10, .inl (nF (ZS 7)))), (Za8, .inl (cI, 30, .inl (nF (ZS 8)))), (Za9, .inl (cI, 2, .inl (nF (ZS 9)))), (Za10, .inl (cI, 10, .inl (nF (ZS 10)))), (Za11, .inl (cI, 5, .inl (nF (ZS 11)))), (Za12, .inl (cI, 10, .inl (nF (ZS 12)))), (Za13, .inl (cI, 2, .inl (nF (ZS 13)))), (Za20, .inl (cI, 1191, .inl (nF (ZS 20)))), (Za21, .inl (cZ, 2, .inl (nF (ZS 21)))), (Za22, .inl (cI, 36, .inl (nF (ZS 22)))), (Za23, .inl (cI, 6, .inl (nF (ZS 23)))), (Za24, .inl (cI, 427, .inl (nF (ZS 24)))), (Za25, .inl (cI, 6, .inl (nF (ZS 25)))), (Za26, .inl (cI, 5, .inl (nF (z1.1)))), (Za27, .inl (cI, 6, .inl (nF (ZS 27))))]) (fun i1 z1 => [(0, .ref Zh), (1, .int (nI v_k)), (2, .int (nI v_n)), (3, .int (nI z1.2.1)), (4, .int (nI z1.2.2.1)), (5, .int (nI z1.2.2.2)), (6, .int (nI (v_n - i1) - nI 1))]) 13 7 v_n 0 (Nat.zero_le _) ?_ ?_ (ZS 26, 0, v_k, 1) ⟨hZ 26, (by first | omega | (dsimp only; omega)), hk, Nat.le_refl _⟩ _ _ ls (by first | exact hP) (by first | exact hD) hS (lv_sub hl [4, 5, 6, 3, 2, 1, 0] rfl)
  · intro z1 hI1 H locs ls hP hD hS hl
    have hl : lv_has ls 7 [(0, .ref Zh), (1, .int (nI v_k)), (2, .int (nI v_n)), (3, .int (nI z1.2.1)), (4, .int (nI z1.2.2.1)), (5, .int (nI z1.2.2.2)), (6, .int (nI (v_n - v_n) - nI 1))] := hl
    obtain ⟨hP, hD⟩ : wPD D A [(Zh, .inr (7, [.long Zt, .ref Za1, .int (nI (ZS 2 0)), .ref Za3, .ref Za4, .ref Za5, .ref Za6, .ref Za7, .ref Za8, .ref Za9, .ref Za10, .ref Za11, .ref Za12, .ref Za13, .int (nI (ZS 14 0)), .int (nI (ZS 15 0)), .int (nI (ZS 16 0)), .int (nI (ZS 17 0)), .int (nI (ZS 18 0)), .int (nI (ZS 19 0) - nI 9), .ref Za20, .ref Za21, .ref Za22, .ref Za23, .ref Za24, .ref Za25, .ref Za26, .ref Za27, .int (nI (ZS 28 0))])), (Za1, .inl (cB, 180, .inl (bF (ZS 1)))), (Za3, .inl (cI, 2, .inl (nF (ZS 3)))), (Za4, .inl (cI, 12, .inl (nF (ZS 4)))), (Za5, .inl (cI, 12, .inl (nF (ZS 5)))), (Za6, .inl (cI, 2, .inl (nF (ZS 6)))), (Za7, .inl (cI, 10, .inl (nF (ZS 7)))), (Za8, .inl (cI, 30, .inl (nF (ZS 8)))), (Za9, .inl (cI, 2, .inl (nF (ZS 9)))), (Za10, .inl (cI, 10, .inl (nF (ZS 10)))), (Za11, .inl (cI, 5, .inl (nF (ZS 11)))), (Za12, .inl (cI, 10, .inl (nF (ZS 12)))), (Za13, .inl (cI, 2, .inl (nF (ZS 13)))), (Za20, .inl (cI, 1191, .inl (nF (ZS 20)))), (Za21, .inl (cZ, 2, .inl (nF (ZS 21)))), (Za22, .inl (cI, 36, .inl (nF (ZS 22)))), (Za23, .inl (cI, 6, .inl (nF (ZS 23)))), (Za24, .inl (cI, 427, .inl (nF (ZS 24)))), (Za25, .inl (cI, 6, .inl (nF (ZS 25)))), (Za26, .inl (cI, 5, .inl (nF (z1.1)))), (Za27, .inl (cI, 6, .inl (nF (ZS 27))))] H := ⟨hP, hD⟩
    refine lv_iload hx hb dX7_isRow_13 (lv_at hl 6 rfl) ?_
    refine nb_if_lts (tgt := 97) hx hb dX7_isRow_15 (by decide) (by omega) (by omega) (fun hq1 => ?_) (fun hq1 => absurd hq1 (by omega))
    refine lv_iload hx hb dX7_isRow_97 (lv_at hl 5 rfl) ?_
    exact en_z hx hb hr hlk hP hD hS (ua ZS 26 (z1.1)) [0, 1, 2, 3, 4, 5, 6, 7, 8, 9, 10, 11, 12, 13, 14, 15, 16, 17, 18, 19, 20] (by decide) rfl (Nat.le_of_ble_eq_true rfl) (Nat.le_of_ble_eq_true rfl) dX7_isRow_99 (b01 hI1.2.2.2) ⟨_, rfl, hI1.1, (by have q := hI1.2.2.2; rcases (show z1.2.2.2 = 0 ∨ z1.2.2.2 = 1 by omega) with y | y; exact Or.inl (congrArg nI y); exact Or.inr (congrArg nI y))⟩
  · intro i1 hi01 hi1 z1 hI1 ih1 H locs ls hP hD hS hl
    have hl : lv_has ls 7 [(0, .ref Zh), (1, .int (nI v_k)), (2, .int (nI v_n)), (3, .int (nI z1.2.1)), (4, .int (nI z1.2.2.1)), (5, .int (nI z1.2.2.2)), (6, .int (nI (v_n - i1) - nI 1))] := hl
    obtain ⟨hP, hD⟩ : wPD D A [(Zh, .inr (7, [.long Zt, .ref Za1, .int (nI (ZS 2 0)), .ref Za3, .ref Za4, .ref Za5, .ref Za6, .ref Za7, .ref Za8, .ref Za9, .ref Za10, .ref Za11, .ref Za12, .ref Za13, .int (nI (ZS 14 0)), .int (nI (ZS 15 0)), .int (nI (ZS 16 0)), .int (nI (ZS 17 0)), .int (nI (ZS 18 0)), .int (nI (ZS 19 0) - nI 9), .ref Za20, .ref Za21, .ref Za22, .ref Za23, .ref Za24, .ref Za25, .ref Za26, .ref Za27, .int (nI (ZS 28 0))])), (Za1, .inl (cB, 180, .inl (bF (ZS 1)))), (Za3, .inl (cI, 2, .inl (nF (ZS 3)))), (Za4, .inl (cI, 12, .inl (nF (ZS 4)))), (Za5, .inl (cI, 12, .inl (nF (ZS 5)))), (Za6, .inl (cI, 2, .inl (nF (ZS 6)))), (Za7, .inl (cI, 10, .inl (nF (ZS 7)))), (Za8, .inl (cI, 30, .inl (nF (ZS 8)))), (Za9, .inl (cI, 2, .inl (nF (ZS 9)))), (Za10, .inl (cI, 10, .inl (nF (ZS 10)))), (Za11, .inl (cI, 5, .inl (nF (ZS 11)))), (Za12, .inl (cI, 10, .inl (nF (ZS 12)))), (Za13, .inl (cI, 2, .inl (nF (ZS 13)))), (Za20, .inl (cI, 1191, .inl (nF (ZS 20)))), (Za21, .inl (cZ, 2, .inl (nF (ZS 21)))), (Za22, .inl (cI, 36, .inl (nF (ZS 22)))), (Za23, .inl (cI, 6, .inl (nF (ZS 23)))), (Za24, .inl (cI, 427, .inl (nF (ZS 24)))), (Za25, .inl (cI, 6, .inl (nF (ZS 25)))), (Za26, .inl (cI, 5, .inl (nF (z1.1)))), (Za27, .inl (cI, 6, .inl (nF (ZS 27))))] H := ⟨hP, hD⟩
    refine lv_iload hx hb dX7_isRow_13 (lv_at hl 6 rfl) ?_
    refine nb_if_lts (tgt := 97) hx hb dX7_isRow_15 (by decide) (by omega) (by omega) (fun hq2 => absurd hq2 (by omega)) (fun hq2 => ?_)
    rw [pk_sub (a := v_n - i1) (b := 1) (by omega)] at hl
    obtain ⟨c2, hc2⟩ : ∃ c, c = v_n - i1 - 1 := ⟨_, rfl⟩
    rw [← hc2] at hl
    have hI1a := hI1.2.1
    have hI1b := hI1.2.2.1
    have hI1c := hI1.2.2.2
    have hm5 : z1.2.2.1 % 5 < 5 := Nat.mod_lt _ (by decide)
    have hd5 := Nat.div_le_self z1.2.2.1 5
    refine lv_aload_n hx hb dX7_isRow_18 rfl (lv_at hl 0 rfl) ?_
    refine va_get (D := D) (ci := 7) (v := .ref Za26) (C := RX7) (T := TX7) (N := 29) hx hb hts in_X7_isRow_7 hown hK.1 hP 0 rfl rfl 26 (by decide) (hts (.fieldLink RX7 66 "ChildCoinsModel" "row" "[I") (List.mem_of_getElem? (i := 1) rfl)) (fun _ h9 => h9) rfl dX7_isRow_19 ?_
    refine lv_iload hx hb dX7_isRow_22 (lv_at hl 6 rfl) ?_
    refine lv_iload hx hb dX7_isRow_24 (lv_at hl 4 rfl) ?_
    refine lv_iconst (v := nI 5) hx hb dX7_isRow_26 (by decide) ?_
    refine lv_irem hx hb dX7_isRow_27 (nI_ne0 (by omega) (by omega)) ?_
    refine set_i (y := nI (z1.2.2.1 % 5)) (pk_rem (by omega) (by omega) (by omega)) ?_
    refine va_iast hx hb hK.1 hP hD hS 19 0 rfl rfl (vp_in_nI (n := c2) (N := 5) (by omega) (by decide)) dX7_isRow_28 (fun H locs hP hD hS => ?_)
    obtain ⟨hP, hD⟩ : wPD D A [(Zh, .inr (7, [.long Zt, .ref Za1, .int (nI (ZS 2 0)), .ref Za3, .ref Za4, .ref Za5, .ref Za6, .ref Za7, .ref Za8, .ref Za9, .ref Za10, .ref Za11, .ref Za12, .ref Za13, .int (nI (ZS 14 0)), .int (nI (ZS 15 0)), .int (nI (ZS 16 0)), .int (nI (ZS 17 0)), .int (nI (ZS 18 0)), .int (nI (ZS 19 0) - nI 9), .ref Za20, .ref Za21, .ref Za22, .ref Za23, .ref Za24, .ref Za25, .ref Za26, .ref Za27, .int (nI (ZS 28 0))])), (Za1, .inl (cB, 180, .inl (bF (ZS 1)))), (Za3, .inl (cI, 2, .inl (nF (ZS 3)))), (Za4, .inl (cI, 12, .inl (nF (ZS 4)))), (Za5, .inl (cI, 12, .inl (nF (ZS 5)))), (Za6, .inl (cI, 2, .inl (nF (ZS 6)))), (Za7, .inl (cI, 10, .inl (nF (ZS 7)))), (Za8, .inl (cI, 30, .inl (nF (ZS 8)))), (Za9, .inl (cI, 2, .inl (nF (ZS 9)))), (Za10, .inl (cI, 10, .inl (nF (ZS 10)))), (Za11, .inl (cI, 5, .inl (nF (ZS 11)))), (Za12, .inl (cI, 10, .inl (nF (ZS 12)))), (Za13, .inl (cI, 2, .inl (nF (ZS 13)))), (Za20, .inl (cI, 1191, .inl (nF (ZS 20)))), (Za21, .inl (cZ, 2, .inl (nF (ZS 21)))), (Za22, .inl (cI, 36, .inl (nF (ZS 22)))), (Za23, .inl (cI, 6, .inl (nF (ZS 23)))), (Za24, .inl (cI, 427, .inl (nF (ZS 24)))), (Za25, .inl (cI, 6, .inl (nF (ZS 25)))), (Za26, .inl (cI, 5, .inl (upd (nF (z1.1)) (nI c2).toNatClampNeg (nI (z1.2.2.1 % 5))))), (Za27, .inl (cI, 6, .inl (nF (ZS 27))))] H := ⟨hP, hD⟩
    rw [nF_st (by omega)] at hP hD
    refine lv_iload hx hb dX7_isRow_29 (lv_at hl 4 rfl) ?_
    refine lv_iconst (v := nI 5) hx hb dX7_isRow_31 (by decide) ?_
    refine lv_idiv hx hb dX7_isRow_32 (nI_ne0 (by omega) (by omega)) ?_
    refine set_i (y := nI (z1.2.2.1 / 5)) (pk_div (by omega) (by omega) (by omega)) ?_
    refine lv_istore (lv' := [(4, .int (nI (z1.2.2.1 / 5))), (0, .ref Zh), (1, .int (nI v_k)), (2, .int (nI v_n)), (3, .int (nI z1.2.1)), (5, .int (nI z1.2.2.2)), (6, .int (nI c2))]) hx hb dX7_isRow_33 hl (by decide) rfl (fun ls hl => ?_)
    refine lv_iload hx hb dX7_isRow_35 (lv_at hl 5 rfl) ?_
    refine nb_if_eq (tgt := 76) hx hb dX7_isRow_37 (by decide) (by omega) (fun hq3 => ?_) (fun hq3 => ?_)
    · skip
      refine lv_iconst (v := nI 0) hx hb dX7_isRow_76 (by decide) ?_
      refine lv_istore (lv' := [(5, .int (nI 0)), (4, .int (nI (z1.2.2.1 / 5))), (0, .ref Zh), (1, .int (nI v_k)), (2, .int (nI v_n)), (3, .int (nI z1.2.1)), (6, .int (nI c2))]) hx hb dX7_isRow_77 hl (by decide) rfl (fun ls hl => ?_)
      refine lv_iload_n hx hb dX7_isRow_79 rfl (lv_at hl 5 rfl) ?_
      refine lv_iconst (v := nI 1) hx hb dX7_isRow_80 (by decide) ?_
      refine lv_aload_n hx hb dX7_isRow_81 rfl (lv_at hl 2 rfl) ?_
      refine va_get (D := D) (ci := 7) (v := .ref Za26) (C := RX7) (T := TX7) (N := 29) hx hb hts in_X7_isRow_7 hown hK.1 hP 0 rfl rfl 26 (by decide) (hts (.fieldLink RX7 66 "ChildCoinsModel" "row" "[I") (List.mem_of_getElem? (i := 1) rfl)) (fun _ h9 => h9) rfl dX7_isRow_82 ?_
      refine lv_iload hx hb dX7_isRow_85 (lv_at hl 6 rfl) ?_
      refine va_iald hx hb hK.1 hP 19 0 rfl rfl (vp_in_nI (n := c2) (N := 5) (by omega) (by decide)) dX7_isRow_87 ?_
      refine set_i (y := nI ((un (z1.1) c2 (z1.2.2.1 % 5)) c2)) (nF_ld (by omega)) ?_
      refine set_i (y := nI (z1.2.2.1 % 5)) (congrArg nI un_s) ?_
      refine lv_ishl hx hb dX7_isRow_88 ?_
      refine set_i (y := nI (2 ^ (z1.2.2.1 % 5))) (shl_1 (by omega)) ?_
      refine lv_ior hx hb dX7_isRow_89 ?_
      refine set_i (y := nI (z1.2.1 ||| (2 ^ (z1.2.2.1 % 5)))) (nI_or z1.2.1 (2 ^ (z1.2.2.1 % 5))) ?_
      refine lv_istore_n (lv' := [(3, .int (nI (z1.2.1 ||| (2 ^ (z1.2.2.1 % 5))))), (5, .int (nI 0)), (4, .int (nI (z1.2.2.1 / 5))), (0, .ref Zh), (1, .int (nI v_k)), (2, .int (nI v_n)), (6, .int (nI c2))]) hx hb dX7_isRow_90 rfl hl (by decide) rfl (fun ls hl => ?_)
      refine lv_iinc (v := nI c2 - nI 1) (lv' := [(6, .int (nI c2 - nI 1)), (3, .int (nI (z1.2.1 ||| (2 ^ (z1.2.2.1 % 5))))), (5, .int (nI 0)), (4, .int (nI (z1.2.2.1 / 5))), (0, .ref Zh), (1, .int (nI v_k)), (2, .int (nI v_n))]) hx hb dX7_isRow_91 hl (k := 6) rfl (m1_sub c2) (by decide) rfl (fun ls hl => ?_)
      refine lv_goto (tgt := 13) hx hb dX7_isRow_94 (by decide) ?_
      rw [show c2 = v_n - (i1 + 1) by omega] at hl
      have hl : lv_has ls 7 [(0, .ref Zh), (1, .int (nI v_k)), (2, .int (nI v_n)), (3, .int (nI (z1.2.1 ||| (2 ^ (z1.2.2.1 % 5))))), (4, .int (nI (z1.2.2.1 / 5))), (5, .int (nI 0)), (6, .int (nI (v_n - (i1 + 1)) - nI 1))] := lv_sub hl [4, 5, 6, 1, 3, 2, 0] rfl
      exact ih1 (un (z1.1) c2 (z1.2.2.1 % 5), z1.2.1 ||| (2 ^ (z1.2.2.1 % 5)), z1.2.2.1 / 5, 0) ⟨un_zb (f := zb 26) hI1.1 (show _ ≤ 4 by omega), or32 hI1.2.1 (by omega), (by first | omega | (dsimp only; omega)), (by first | omega | (dsimp only; omega))⟩ _ _ _ hP hD hS hl
    · skip
      refine lv_aload_n hx hb dX7_isRow_40 rfl (lv_at hl 1 rfl) ?_
      refine lv_aload_n hx hb dX7_isRow_41 rfl (lv_at hl 1 rfl) ?_
      refine va_get (D := D) (ci := 7) (v := .ref Za20) (C := RX7) (T := TX7) (N := 29) hx hb hts in_X7_isRow_7 hown hK.1 hP 0 rfl rfl 20 (by decide) (hts (.fieldLink RX7 47 "ChildCoinsModel" "now" "[I") (List.mem_of_getElem? (i := 2) rfl)) (fun _ h9 => h9) rfl dX7_isRow_42 ?_
      refine lv_aload_n hx hb dX7_isRow_45 rfl (lv_at hl 1 rfl) ?_
      refine va_get (D := D) (ci := 7) (v := .ref Za26) (C := RX7) (T := TX7) (N := 29) hx hb hts in_X7_isRow_7 hown hK.1 hP 0 rfl rfl 26 (by decide) (hts (.fieldLink RX7 66 "ChildCoinsModel" "row" "[I") (List.mem_of_getElem? (i := 1) rfl)) (fun _ h9 => h9) rfl dX7_isRow_46 ?_
      refine lv_iload hx hb dX7_isRow_49 (lv_at hl 6 rfl) ?_
      refine va_iald hx hb hK.1 hP 19 0 rfl rfl (vp_in_nI (n := c2) (N := 5) (by omega) (by decide)) dX7_isRow_51 ?_
      refine set_i (y := nI ((un (z1.1) c2 (z1.2.2.1 % 5)) c2)) (nF_ld (by omega)) ?_
      refine set_i (y := nI (z1.2.2.1 % 5)) (congrArg nI un_s) ?_
      refine be_i0 (ru_V (As := [.ref Za20, .int (nI (z1.2.2.1 % 5))]) (rest := []) ⟨hx, hb, hml, hown, hts⟩ (z_isOpenN l D cI cB cZ cN Zh Za1 Za3 Za4 Za5 Za6 Za7 Za8 Za9 Za10 Za11 Za12 Za13 Za20 Za21 Za22 Za23 Za24 Za25 Za26 Za27 Zt (ua ZS 26 (un (z1.1) c2 (z1.2.2.1 % 5))) (z1.2.2.1 % 5) (zok_set (k := 26) hZ (un_zb (f := zb 26) hI1.1 (show _ ≤ 4 by omega))) (by omega) H.size) gX7_isRow_X7_isOpen rfl ⟨rfl, by decide, by decide, (show Option.map (fun d => d.parameters.length) (parseMethodDescriptor yX7_isOpen.desc) = some 2 by decide +kernel)⟩ ⟨Nat.le_of_ble_eq_true rfl, Nat.le_of_ble_eq_true rfl⟩ hK hP hD 7 0 rfl rfl [0, 1, 2, 3, 4, 5, 6, 7, 8, 9, 10, 11, 12, 13, 14, 15, 16, 17, 18, 19, 20] (by decide) rfl hl.1 rfl (Nat.le_of_ble_eq_true rfl) dX7_isRow_52 ⟨Nat.le_of_ble_eq_true rfl, Nat.le_of_ble_eq_true rfl⟩) hP hD hS hA [0, 1, 2, 3, 4, 5, 6, 7, 8, 9, 10, 11, 12, 13, 14, 15, 16, 17, 18, 19, 20] rfl (fun r5 u4 H locs w6 hP hS => ?_)
      obtain rfl : r5 = nI ((ua ZS 26 (un (z1.1) c2 (z1.2.2.1 % 5))) 20 35 / 2 ^ (z1.2.2.1 % 5) % 2) := w6
      have b7 := bit_le ((ua ZS 26 (un (z1.1) c2 (z1.2.2.1 % 5))) 20 35) (z1.2.2.1 % 5)
      refine nb_if_eq (tgt := 76) hx hb dX7_isRow_55 (by decide) (by omega) (fun hq8 => ?_) (fun hq8 => ?_)
      · skip
        refine lv_iconst (v := nI 0) hx hb dX7_isRow_76 (by decide) ?_
        refine lv_istore (lv' := [(5, .int (nI 0)), (4, .int (nI (z1.2.2.1 / 5))), (0, .ref Zh), (1, .int (nI v_k)), (2, .int (nI v_n)), (3, .int (nI z1.2.1)), (6, .int (nI c2))]) hx hb dX7_isRow_77 hl (by decide) rfl (fun ls hl => ?_)
        refine lv_iload_n hx hb dX7_isRow_79 rfl (lv_at hl 5 rfl) ?_
        refine lv_iconst (v := nI 1) hx hb dX7_isRow_80 (by decide) ?_
        refine lv_aload_n hx hb dX7_isRow_81 rfl (lv_at hl 2 rfl) ?_
        refine va_get (D := D) (ci := 7) (v := .ref Za26) (C := RX7) (T := TX7) (N := 29) hx hb hts in_X7_isRow_7 hown hK.1 hP 0 rfl rfl 26 (by decide) (hts (.fieldLink RX7 66 "ChildCoinsModel" "row" "[I") (List.mem_of_getElem? (i := 1) rfl)) (fun _ h9 => h9) rfl dX7_isRow_82 ?_
        refine lv_iload hx hb dX7_isRow_85 (lv_at hl 6 rfl) ?_
        refine va_iald hx hb hK.1 hP 19 0 rfl rfl (vp_in_nI (n := c2) (N := 5) (by omega) (by decide)) dX7_isRow_87 ?_
        refine set_i (y := nI ((un (z1.1) c2 (z1.2.2.1 % 5)) c2)) (nF_ld (by omega)) ?_
        refine set_i (y := nI (z1.2.2.1 % 5)) (congrArg nI un_s) ?_
        refine lv_ishl hx hb dX7_isRow_88 ?_
        refine set_i (y := nI (2 ^ (z1.2.2.1 % 5))) (shl_1 (by omega)) ?_
        refine lv_ior hx hb dX7_isRow_89 ?_
        refine set_i (y := nI (z1.2.1 ||| (2 ^ (z1.2.2.1 % 5)))) (nI_or z1.2.1 (2 ^ (z1.2.2.1 % 5))) ?_
        refine lv_istore_n (lv' := [(3, .int (nI (z1.2.1 ||| (2 ^ (z1.2.2.1 % 5))))), (5, .int (nI 0)), (4, .int (nI (z1.2.2.1 / 5))), (0, .ref Zh), (1, .int (nI v_k)), (2, .int (nI v_n)), (6, .int (nI c2))]) hx hb dX7_isRow_90 rfl hl (by decide) rfl (fun ls hl => ?_)
        refine lv_iinc (v := nI c2 - nI 1) (lv' := [(6, .int (nI c2 - nI 1)), (3, .int (nI (z1.2.1 ||| (2 ^ (z1.2.2.1 % 5))))), (5, .int (nI 0)), (4, .int (nI (z1.2.2.1 / 5))), (0, .ref Zh), (1, .int (nI v_k)), (2, .int (nI v_n))]) hx hb dX7_isRow_91 hl (k := 6) rfl (m1_sub c2) (by decide) rfl (fun ls hl => ?_)
        refine lv_goto (tgt := 13) hx hb dX7_isRow_94 (by decide) ?_
        rw [show c2 = v_n - (i1 + 1) by omega] at hl
        have hl : lv_has ls 7 [(0, .ref Zh), (1, .int (nI v_k)), (2, .int (nI v_n)), (3, .int (nI (z1.2.1 ||| (2 ^ (z1.2.2.1 % 5))))), (4, .int (nI (z1.2.2.1 / 5))), (5, .int (nI 0)), (6, .int (nI (v_n - (i1 + 1)) - nI 1))] := lv_sub hl [4, 5, 6, 1, 3, 2, 0] rfl
        exact ih1 (un (z1.1) c2 (z1.2.2.1 % 5), z1.2.1 ||| (2 ^ (z1.2.2.1 % 5)), z1.2.2.1 / 5, 0) ⟨un_zb (f := zb 26) hI1.1 (show _ ≤ 4 by omega), or32 hI1.2.1 (by omega), (by first | omega | (dsimp only; omega)), (by first | omega | (dsimp only; omega))⟩ _ _ _ hP hD hS hl
      · skip
        refine lv_iload_n hx hb dX7_isRow_58 rfl (lv_at hl 4 rfl) ?_
        refine lv_aload_n hx hb dX7_isRow_59 rfl (lv_at hl 1 rfl) ?_
        refine va_get (D := D) (ci := 7) (v := .ref Za26) (C := RX7) (T := TX7) (N := 29) hx hb hts in_X7_isRow_7 hown hK.1 hP 0 rfl rfl 26 (by decide) (hts (.fieldLink RX7 66 "ChildCoinsModel" "row" "[I") (List.mem_of_getElem? (i := 1) rfl)) (fun _ h9 => h9) rfl dX7_isRow_60 ?_
        refine lv_iload hx hb dX7_isRow_63 (lv_at hl 6 rfl) ?_
        refine va_iald hx hb hK.1 hP 19 0 rfl rfl (vp_in_nI (n := c2) (N := 5) (by omega) (by decide)) dX7_isRow_65 ?_
        refine set_i (y := nI ((un (z1.1) c2 (z1.2.2.1 % 5)) c2)) (nF_ld (by omega)) ?_
        refine set_i (y := nI (z1.2.2.1 % 5)) (congrArg nI un_s) ?_
        have bds := Nat.div_le_self z1.2.1 (2 ^ (z1.2.2.1 % 5))
        refine lv_ishr hx hb dX7_isRow_66 ?_
        refine set_i (y := nI (z1.2.1 / 2 ^ (z1.2.2.1 % 5))) (nI_shr (by omega) (by omega)) ?_
        refine lv_iconst (v := nI 1) hx hb dX7_isRow_67 (by decide) ?_
        refine lv_iand hx hb dX7_isRow_68 ?_
        refine set_i (y := nI ((z1.2.1 / 2 ^ (z1.2.2.1 % 5)) % 2)) (nI_and1 (by omega)) ?_
        refine nb_if_ne (tgt := 76) hx hb dX7_isRow_69 (by decide) (by omega) (fun hq9 => ?_) (fun hq9 => ?_)
        · skip
          refine lv_iconst (v := nI 0) hx hb dX7_isRow_76 (by decide) ?_
          refine lv_istore (lv' := [(5, .int (nI 0)), (4, .int (nI (z1.2.2.1 / 5))), (0, .ref Zh), (1, .int (nI v_k)), (2, .int (nI v_n)), (3, .int (nI z1.2.1)), (6, .int (nI c2))]) hx hb dX7_isRow_77 hl (by decide) rfl (fun ls hl => ?_)
          refine lv_iload_n hx hb dX7_isRow_79 rfl (lv_at hl 5 rfl) ?_
          refine lv_iconst (v := nI 1) hx hb dX7_isRow_80 (by decide) ?_
          refine lv_aload_n hx hb dX7_isRow_81 rfl (lv_at hl 2 rfl) ?_
          refine va_get (D := D) (ci := 7) (v := .ref Za26) (C := RX7) (T := TX7) (N := 29) hx hb hts in_X7_isRow_7 hown hK.1 hP 0 rfl rfl 26 (by decide) (hts (.fieldLink RX7 66 "ChildCoinsModel" "row" "[I") (List.mem_of_getElem? (i := 1) rfl)) (fun _ h9 => h9) rfl dX7_isRow_82 ?_
          refine lv_iload hx hb dX7_isRow_85 (lv_at hl 6 rfl) ?_
          refine va_iald hx hb hK.1 hP 19 0 rfl rfl (vp_in_nI (n := c2) (N := 5) (by omega) (by decide)) dX7_isRow_87 ?_
          refine set_i (y := nI ((un (z1.1) c2 (z1.2.2.1 % 5)) c2)) (nF_ld (by omega)) ?_
          refine set_i (y := nI (z1.2.2.1 % 5)) (congrArg nI un_s) ?_
          refine lv_ishl hx hb dX7_isRow_88 ?_
          refine set_i (y := nI (2 ^ (z1.2.2.1 % 5))) (shl_1 (by omega)) ?_
          refine lv_ior hx hb dX7_isRow_89 ?_
          refine set_i (y := nI (z1.2.1 ||| (2 ^ (z1.2.2.1 % 5)))) (nI_or z1.2.1 (2 ^ (z1.2.2.1 % 5))) ?_
          refine lv_istore_n (lv' := [(3, .int (nI (z1.2.1 ||| (2 ^ (z1.2.2.1 % 5))))), (5, .int (nI 0)), (4, .int (nI (z1.2.2.1 / 5))), (0, .ref Zh), (1, .int (nI v_k)), (2, .int (nI v_n)), (6, .int (nI c2))]) hx hb dX7_isRow_90 rfl hl (by decide) rfl (fun ls hl => ?_)
          refine lv_iinc (v := nI c2 - nI 1) (lv' := [(6, .int (nI c2 - nI 1)), (3, .int (nI (z1.2.1 ||| (2 ^ (z1.2.2.1 % 5))))), (5, .int (nI 0)), (4, .int (nI (z1.2.2.1 / 5))), (0, .ref Zh), (1, .int (nI v_k)), (2, .int (nI v_n))]) hx hb dX7_isRow_91 hl (k := 6) rfl (m1_sub c2) (by decide) rfl (fun ls hl => ?_)
          refine lv_goto (tgt := 13) hx hb dX7_isRow_94 (by decide) ?_
          rw [show c2 = v_n - (i1 + 1) by omega] at hl
          have hl : lv_has ls 7 [(0, .ref Zh), (1, .int (nI v_k)), (2, .int (nI v_n)), (3, .int (nI (z1.2.1 ||| (2 ^ (z1.2.2.1 % 5))))), (4, .int (nI (z1.2.2.1 / 5))), (5, .int (nI 0)), (6, .int (nI (v_n - (i1 + 1)) - nI 1))] := lv_sub hl [4, 5, 6, 1, 3, 2, 0] rfl
          exact ih1 (un (z1.1) c2 (z1.2.2.1 % 5), z1.2.1 ||| (2 ^ (z1.2.2.1 % 5)), z1.2.2.1 / 5, 0) ⟨un_zb (f := zb 26) hI1.1 (show _ ≤ 4 by omega), or32 hI1.2.1 (by omega), (by first | omega | (dsimp only; omega)), (by first | omega | (dsimp only; omega))⟩ _ _ _ hP hD hS hl
        · skip
          refine lv_iconst (v := nI 1) hx hb dX7_isRow_72 (by decide) ?_
          refine lv_goto (tgt := 77) hx hb dX7_isRow_73 (by decide) ?_
          refine lv_istore (lv' := [(5, .int (nI 1)), (4, .int (nI (z1.2.2.1 / 5))), (0, .ref Zh), (1, .int (nI v_k)), (2, .int (nI v_n)), (3, .int (nI z1.2.1)), (6, .int (nI c2))]) hx hb dX7_isRow_77 hl (by decide) rfl (fun ls hl => ?_)
          refine lv_iload_n hx hb dX7_isRow_79 rfl (lv_at hl 5 rfl) ?_
          refine lv_iconst (v := nI 1) hx hb dX7_isRow_80 (by decide) ?_
          refine lv_aload_n hx hb dX7_isRow_81 rfl (lv_at hl 2 rfl) ?_
          refine va_get (D := D) (ci := 7) (v := .ref Za26) (C := RX7) (T := TX7) (N := 29) hx hb hts in_X7_isRow_7 hown hK.1 hP 0 rfl rfl 26 (by decide) (hts (.fieldLink RX7 66 "ChildCoinsModel" "row" "[I") (List.mem_of_getElem? (i := 1) rfl)) (fun _ h9 => h9) rfl dX7_isRow_82 ?_
          refine lv_iload hx hb dX7_isRow_85 (lv_at hl 6 rfl) ?_
          refine va_iald hx hb hK.1 hP 19 0 rfl rfl (vp_in_nI (n := c2) (N := 5) (by omega) (by decide)) dX7_isRow_87 ?_
          refine set_i (y := nI ((un (z1.1) c2 (z1.2.2.1 % 5)) c2)) (nF_ld (by omega)) ?_
          refine set_i (y := nI (z1.2.2.1 % 5)) (congrArg nI un_s) ?_
          refine lv_ishl hx hb dX7_isRow_88 ?_
          refine set_i (y := nI (2 ^ (z1.2.2.1 % 5))) (shl_1 (by omega)) ?_
          refine lv_ior hx hb dX7_isRow_89 ?_
          refine set_i (y := nI (z1.2.1 ||| (2 ^ (z1.2.2.1 % 5)))) (nI_or z1.2.1 (2 ^ (z1.2.2.1 % 5))) ?_
          refine lv_istore_n (lv' := [(3, .int (nI (z1.2.1 ||| (2 ^ (z1.2.2.1 % 5))))), (5, .int (nI 1)), (4, .int (nI (z1.2.2.1 / 5))), (0, .ref Zh), (1, .int (nI v_k)), (2, .int (nI v_n)), (6, .int (nI c2))]) hx hb dX7_isRow_90 rfl hl (by decide) rfl (fun ls hl => ?_)
          refine lv_iinc (v := nI c2 - nI 1) (lv' := [(6, .int (nI c2 - nI 1)), (3, .int (nI (z1.2.1 ||| (2 ^ (z1.2.2.1 % 5))))), (5, .int (nI 1)), (4, .int (nI (z1.2.2.1 / 5))), (0, .ref Zh), (1, .int (nI v_k)), (2, .int (nI v_n))]) hx hb dX7_isRow_91 hl (k := 6) rfl (m1_sub c2) (by decide) rfl (fun ls hl => ?_)
          refine lv_goto (tgt := 13) hx hb dX7_isRow_94 (by decide) ?_
          rw [show c2 = v_n - (i1 + 1) by omega] at hl
          have hl : lv_has ls 7 [(0, .ref Zh), (1, .int (nI v_k)), (2, .int (nI v_n)), (3, .int (nI (z1.2.1 ||| (2 ^ (z1.2.2.1 % 5))))), (4, .int (nI (z1.2.2.1 / 5))), (5, .int (nI 1)), (6, .int (nI (v_n - (i1 + 1)) - nI 1))] := lv_sub hl [4, 5, 6, 1, 3, 2, 0] rfl
          exact ih1 (un (z1.1) c2 (z1.2.2.1 % 5), z1.2.1 ||| (2 ^ (z1.2.2.1 % 5)), z1.2.2.1 / 5, 1) ⟨un_zb (f := zb 26) hI1.1 (show _ ≤ 4 by omega), or32 hI1.2.1 (by omega), (by first | omega | (dsimp only; omega)), (by first | omega | (dsimp only; omega))⟩ _ _ _ hP hD hS hl
