set_option maxRecDepth 20000 in
theorem dAX5_fewestKindsToCorner : decA cX5_fewestKindsToCorner [(0, .aload_n 0, 1), (1, .iconst 0, 1), (2, .invokevirtual 44, 3), (5, .ifCond .ne 5, 3), (8, .iconst 0, 1), (9, .ireturn, 1), (10, .iconst 1, 1), (11, .aload_n 0, 1), (12, .getfield 18, 3), (15, .ishl, 1), (16, .iconst 1, 1), (17, .isub, 1), (18, .istore_n 1, 1), (19, .iconst 1, 1), (20, .istore_n 2, 1), (21, .iload_n 2, 1), (22, .iconst 1, 1), (23, .aload_n 0, 1), (24, .getfield 18, 3), (27, .ishl, 1), (28, .if_icmp .ge 30, 3), (31, .iload_n 2, 1), (32, .invokestatic 48, 3), (35, .iload_n 1, 1), (36, .invokestatic 48, 3), (39, .if_icmp .ge 13, 3), (42, .aload_n 0, 1), (43, .iload_n 2, 1), (44, .invokevirtual 44, 3), (47, .ifCond .ne 5, 3), (50, .iload_n 2, 1), (51, .istore_n 1, 1), (52, .iinc 2 1, 3), (55, .goto (-34), 3), (58, .iload_n 1, 1), (59, .ireturn, 1)] = true := by decide +kernel
theorem dX5_fewestKindsToCorner_0 : decode cX5_fewestKindsToCorner 0 = .ok (.aload_n 0, 1) := decA_get dAX5_fewestKindsToCorner 0 rfl
theorem dX5_fewestKindsToCorner_1 : decode cX5_fewestKindsToCorner 1 = .ok (.iconst 0, 1) := decA_get dAX5_fewestKindsToCorner 1 rfl
theorem dX5_fewestKindsToCorner_2 : decode cX5_fewestKindsToCorner 2 = .ok (.invokevirtual 44, 3) := decA_get dAX5_fewestKindsToCorner 2 rfl
set_option maxRecDepth 20000 in
theorem ggX5_fewestKindsToCorner_X5_paysWithout : GoodIn wsX5_fewestKindsToCorner wsX5_paysWithout := gd_ids wi_X5_fewestKindsToCorner wm_X5_fewestKindsToCorner wi_X5_paysWithout (by decide +kernel)
set_option maxRecDepth 20000 in
theorem gX5_fewestKindsToCorner_X5_paysWithout : GoodIn wsX5_fewestKindsToCorner (wsV RX5 44 RX5 yX5_paysWithout wsX5_paysWithout) := goodIn_app (gd_ids wi_X5_fewestKindsToCorner wm_X5_fewestKindsToCorner (b := [280, 281, 282, 283]) rfl (by decide +kernel)) ggX5_fewestKindsToCorner_X5_paysWithout
theorem dX5_fewestKindsToCorner_5 : decode cX5_fewestKindsToCorner 5 = .ok (.ifCond .ne 5, 3) := decA_get dAX5_fewestKindsToCorner 3 rfl
theorem dX5_fewestKindsToCorner_8 : decode cX5_fewestKindsToCorner 8 = .ok (.iconst 0, 1) := decA_get dAX5_fewestKindsToCorner 4 rfl
theorem dX5_fewestKindsToCorner_9 : decode cX5_fewestKindsToCorner 9 = .ok (.ireturn, 1) := decA_get dAX5_fewestKindsToCorner 5 rfl
theorem dX5_fewestKindsToCorner_10 : decode cX5_fewestKindsToCorner 10 = .ok (.iconst 1, 1) := decA_get dAX5_fewestKindsToCorner 6 rfl
theorem dX5_fewestKindsToCorner_11 : decode cX5_fewestKindsToCorner 11 = .ok (.aload_n 0, 1) := decA_get dAX5_fewestKindsToCorner 7 rfl
theorem dX5_fewestKindsToCorner_12 : decode cX5_fewestKindsToCorner 12 = .ok (.getfield 18, 3) := decA_get dAX5_fewestKindsToCorner 8 rfl
theorem in_X5_fewestKindsToCorner_5 : ∀ w ∈ wsX50, w ∈ wsX5_fewestKindsToCorner := fun w h => (gd_ids wi_X5_fewestKindsToCorner wm_X5_fewestKindsToCorner wi_X50 (by decide +kernel) w h).1
theorem dX5_fewestKindsToCorner_15 : decode cX5_fewestKindsToCorner 15 = .ok (.ishl, 1) := decA_get dAX5_fewestKindsToCorner 9 rfl
theorem dX5_fewestKindsToCorner_16 : decode cX5_fewestKindsToCorner 16 = .ok (.iconst 1, 1) := decA_get dAX5_fewestKindsToCorner 10 rfl
theorem dX5_fewestKindsToCorner_17 : decode cX5_fewestKindsToCorner 17 = .ok (.isub, 1) := decA_get dAX5_fewestKindsToCorner 11 rfl
theorem dX5_fewestKindsToCorner_18 : decode cX5_fewestKindsToCorner 18 = .ok (.istore_n 1, 1) := decA_get dAX5_fewestKindsToCorner 12 rfl
theorem dX5_fewestKindsToCorner_19 : decode cX5_fewestKindsToCorner 19 = .ok (.iconst 1, 1) := decA_get dAX5_fewestKindsToCorner 13 rfl
theorem dX5_fewestKindsToCorner_20 : decode cX5_fewestKindsToCorner 20 = .ok (.istore_n 2, 1) := decA_get dAX5_fewestKindsToCorner 14 rfl
theorem dX5_fewestKindsToCorner_21 : decode cX5_fewestKindsToCorner 21 = .ok (.iload_n 2, 1) := decA_get dAX5_fewestKindsToCorner 15 rfl
theorem dX5_fewestKindsToCorner_22 : decode cX5_fewestKindsToCorner 22 = .ok (.iconst 1, 1) := decA_get dAX5_fewestKindsToCorner 16 rfl
theorem dX5_fewestKindsToCorner_23 : decode cX5_fewestKindsToCorner 23 = .ok (.aload_n 0, 1) := decA_get dAX5_fewestKindsToCorner 17 rfl
theorem dX5_fewestKindsToCorner_24 : decode cX5_fewestKindsToCorner 24 = .ok (.getfield 18, 3) := decA_get dAX5_fewestKindsToCorner 18 rfl
theorem dX5_fewestKindsToCorner_27 : decode cX5_fewestKindsToCorner 27 = .ok (.ishl, 1) := decA_get dAX5_fewestKindsToCorner 19 rfl
theorem dX5_fewestKindsToCorner_28 : decode cX5_fewestKindsToCorner 28 = .ok (.if_icmp .ge 30, 3) := decA_get dAX5_fewestKindsToCorner 20 rfl
theorem dX5_fewestKindsToCorner_58 : decode cX5_fewestKindsToCorner 58 = .ok (.iload_n 1, 1) := decA_get dAX5_fewestKindsToCorner 34 rfl
theorem dX5_fewestKindsToCorner_59 : decode cX5_fewestKindsToCorner 59 = .ok (.ireturn, 1) := decA_get dAX5_fewestKindsToCorner 35 rfl
theorem dX5_fewestKindsToCorner_31 : decode cX5_fewestKindsToCorner 31 = .ok (.iload_n 2, 1) := decA_get dAX5_fewestKindsToCorner 21 rfl
theorem dX5_fewestKindsToCorner_32 : decode cX5_fewestKindsToCorner 32 = .ok (.invokestatic 48, 3) := decA_get dAX5_fewestKindsToCorner 22 rfl
set_option maxRecDepth 20000 in
theorem ggX5_fewestKindsToCorner_J6_bitCount_0f7a4 : GoodIn wsX5_fewestKindsToCorner wsJ6_bitCount_0f7a4 := gd_ids wi_X5_fewestKindsToCorner wm_X5_fewestKindsToCorner wi_J6_bitCount_0f7a4 (by decide +kernel)
theorem dX5_fewestKindsToCorner_35 : decode cX5_fewestKindsToCorner 35 = .ok (.iload_n 1, 1) := decA_get dAX5_fewestKindsToCorner 23 rfl
theorem dX5_fewestKindsToCorner_36 : decode cX5_fewestKindsToCorner 36 = .ok (.invokestatic 48, 3) := decA_get dAX5_fewestKindsToCorner 24 rfl
theorem dX5_fewestKindsToCorner_39 : decode cX5_fewestKindsToCorner 39 = .ok (.if_icmp .ge 13, 3) := decA_get dAX5_fewestKindsToCorner 25 rfl
theorem dX5_fewestKindsToCorner_52 : decode cX5_fewestKindsToCorner 52 = .ok (.iinc 2 1, 3) := decA_get dAX5_fewestKindsToCorner 32 rfl
theorem dX5_fewestKindsToCorner_55 : decode cX5_fewestKindsToCorner 55 = .ok (.goto (-34), 3) := decA_get dAX5_fewestKindsToCorner 33 rfl
theorem dX5_fewestKindsToCorner_42 : decode cX5_fewestKindsToCorner 42 = .ok (.aload_n 0, 1) := decA_get dAX5_fewestKindsToCorner 26 rfl
theorem dX5_fewestKindsToCorner_43 : decode cX5_fewestKindsToCorner 43 = .ok (.iload_n 2, 1) := decA_get dAX5_fewestKindsToCorner 27 rfl
theorem dX5_fewestKindsToCorner_44 : decode cX5_fewestKindsToCorner 44 = .ok (.invokevirtual 44, 3) := decA_get dAX5_fewestKindsToCorner 28 rfl
theorem dX5_fewestKindsToCorner_47 : decode cX5_fewestKindsToCorner 47 = .ok (.ifCond .ne 5, 3) := decA_get dAX5_fewestKindsToCorner 29 rfl
theorem dX5_fewestKindsToCorner_50 : decode cX5_fewestKindsToCorner 50 = .ok (.iload_n 2, 1) := decA_get dAX5_fewestKindsToCorner 30 rfl
theorem dX5_fewestKindsToCorner_51 : decode cX5_fewestKindsToCorner 51 = .ok (.istore_n 1, 1) := decA_get dAX5_fewestKindsToCorner 31 rfl
set_option maxHeartbeats 4000000 in
set_option maxRecDepth 100000 in
theorem g_fewestKinds (l : Launch) (D : va_G) (cI cB cZ cN : ClassId) (Wh : Nat) (Wa0 : Nat) (Wa1 : Nat) (WS : Nat → Nat → Nat) (hW : WorldOk WS) : Ci (S := Unit) l D cI cB cZ cN yX5_fewestKindsToCorner wsX5_fewestKindsToCorner ({ frames := 1, cells := 0, slots := 0, locals := 26 } : Room) [.ref Wh] [(Wh, .inr (5, [.ref Wa0, .ref Wa1, .int (nI (WS 2 0)), .int (nI (WS 3 0))])), (Wa0, .inl (cI, 6, .inl (nF (WS 0)))), (Wa1, .inl (cI, 6, .inl (nF (WS 1))))] (fun (r : Int32) (_ : Unit) => ∃ k, k < 64 ∧ r = nI k) (fun u => [(Wh, .inr (5, [.ref Wa0, .ref Wa1, .int (nI (WS 2 0)), .int (nI (WS 3 0))])), (Wa0, .inl (cI, 6, .inl (nF (WS 0)))), (Wa1, .inl (cI, 6, .inl (nF (WS 1))))]) := by
  refine bx_of (D := D) (cI := cI) (cB := cB) (cZ := cZ) (cN := cN) (y := yX5_fewestKindsToCorner) (wd := wsX5_fewestKindsToCorner) (rm := ({ frames := 1, cells := 0, slots := 0, locals := 26 } : Room)) (av := [.ref Wh]) (wc := [(Wh, .inr (5, [.ref Wa0, .ref Wa1, .int (nI (WS 2 0)), .int (nI (WS 3 0))])), (Wa0, .inl (cI, 6, .inl (nF (WS 0)))), (Wa1, .inl (cI, 6, .inl (nF (WS 1))))]) (cc := cX5_fewestKindsToCorner) (maxL := 3) (ret := (some .int)) (Qc := fun _ A => va_Qi (S := Unit) (fun (r : Int32) (_ : Unit) => ∃ k, k < 64 ∧ r = nI k) (Aft D (fun (u : Unit) => [(Wh, .inr (5, [.ref Wa0, .ref Wa1, .int (nI (WS 2 0)), .int (nI (WS 3 0))])), (Wa0, .inl (cI, 6, .inl (nF (WS 0)))), (Wa1, .inl (cI, 6, .inl (nF (WS 1))))]) A) A) (by decide) rfl (Nat.le_of_ble_eq_true rfl) ?_
  intro p e s m below meth c A H locs ⟨hx, hb, hr, hml, hown, hts, hlk, hnm⟩ hK hP hD hS hA ls hl
  have hl : lv_has ls 3 [(0, .ref Wh)] := hl
  have hown : s.vm.findClass RX5 = some m.cls := hown
  obtain ⟨bw2, bw3, bw0, bw1⟩ := hW
  have hW0 : WorldOk WS := ⟨bw2, bw3, bw0, bw1⟩
  have bp1 := Nat.one_le_two_pow (n := WS 2 0)
  have bp6 := pw6 bw2
  refine lv_aload_n hx hb dX5_fewestKindsToCorner_0 rfl (lv_at hl 0 rfl) ?_
  refine lv_iconst (v := nI 0) hx hb dX5_fewestKindsToCorner_1 (by decide) ?_
  refine be_i0 (ru_V (As := [.int (nI 0)]) (rest := []) ⟨hx, hb, hml, hown, hts⟩ (g_paysWithout l D cI cB cZ cN Wh Wa0 Wa1 WS 0 hW0 (by omega) H.size) gX5_fewestKindsToCorner_X5_paysWithout rfl ⟨rfl, by decide, by decide, (show Option.map (fun d => d.parameters.length) (parseMethodDescriptor yX5_paysWithout.desc) = some 1 by decide +kernel)⟩ ⟨Nat.le_of_ble_eq_true rfl, Nat.le_of_ble_eq_true rfl⟩ hK hP hD 5 0 rfl rfl [0, 1, 2] (by decide) rfl hl.1 rfl (Nat.le_of_ble_eq_true rfl) dX5_fewestKindsToCorner_2 ⟨Nat.le_of_ble_eq_true rfl, Nat.le_of_ble_eq_true rfl⟩) hP hD hS hA [0, 1, 2] rfl (fun r2 u1 H locs w3 hP hS => ?_)
  rcases w3 with rfl | rfl
  · skip
    refine nb_if_ne (tgt := 10) hx hb dX5_fewestKindsToCorner_5 (by decide) (by omega) (fun hq4 => absurd hq4 (by omega)) (fun hq4 => ?_)
    refine lv_iconst (v := nI 0) hx hb dX5_fewestKindsToCorner_8 (by decide) ?_
    exact en_i hx hb hr hlk hP hD hS () [0, 1, 2] (by decide) rfl (Nat.le_of_ble_eq_true rfl) (Nat.le_of_ble_eq_true rfl) dX5_fewestKindsToCorner_9 ⟨0, by decide, rfl⟩
  · skip
    refine nb_if_ne (tgt := 10) hx hb dX5_fewestKindsToCorner_5 (by decide) (by omega) (fun hq5 => ?_) (fun hq5 => absurd hq5 (by omega))
    refine lv_iconst (v := nI 1) hx hb dX5_fewestKindsToCorner_10 (by decide) ?_
    refine lv_aload_n hx hb dX5_fewestKindsToCorner_11 rfl (lv_at hl 0 rfl) ?_
    refine va_get (D := D) (ci := 5) (v := .int (nI (WS 2 0))) (C := RX5) (T := TX5) (N := 4) hx hb hts in_X5_fewestKindsToCorner_5 hown hK.1 hP 0 rfl rfl 2 (by decide) (hts (.fieldLink RX5 18 "ChildCoins$World" "coins" "I") (List.mem_of_getElem? (i := 1) rfl)) (fun _ h9 => h9) rfl dX5_fewestKindsToCorner_12 ?_
    refine lv_ishl hx hb dX5_fewestKindsToCorner_15 ?_
    refine set_i (y := nI (2 ^ (WS 2 0))) (shl_1 (by omega)) ?_
    refine lv_iconst (v := nI 1) hx hb dX5_fewestKindsToCorner_16 (by decide) ?_
    refine lv_isub hx hb dX5_fewestKindsToCorner_17 ?_
    refine set_i (y := nI ((2 ^ (WS 2 0)) - 1)) (pk_sub (by omega)) ?_
    refine lv_istore_n (lv' := [(1, .int (nI ((2 ^ (WS 2 0)) - 1))), (0, .ref Wh)]) hx hb dX5_fewestKindsToCorner_18 rfl hl (by decide) rfl (fun ls hl => ?_)
    refine lv_iconst (v := nI 1) hx hb dX5_fewestKindsToCorner_19 (by decide) ?_
    refine lv_istore_n (lv' := [(2, .int (nI 1)), (1, .int (nI ((2 ^ (WS 2 0)) - 1))), (0, .ref Wh)]) hx hb dX5_fewestKindsToCorner_20 rfl hl (by decide) rfl (fun ls hl => ?_)
    refine loopS (σ := Nat) (D := D) (A := A) (fun i1 z1 => z1 < 64) (fun i1 z1 => [(Wh, .inr (5, [.ref Wa0, .ref Wa1, .int (nI (WS 2 0)), .int (nI (WS 3 0))])), (Wa0, .inl (cI, 6, .inl (nF (WS 0)))), (Wa1, .inl (cI, 6, .inl (nF (WS 1))))]) (fun i1 z1 => [(0, .ref Wh), (1, .int (nI z1)), (2, .int (nI i1))]) 21 3 (2 ^ (WS 2 0)) 1 bp1 ?_ ?_ (2 ^ (WS 2 0) - 1) (by omega) _ _ ls (by first | exact hP) (by first | exact hD) hS (lv_sub hl [2, 1, 0] rfl)
    · intro z1 hI1 H locs ls hP hD hS hl
      have hl : lv_has ls 3 [(0, .ref Wh), (1, .int (nI z1)), (2, .int (nI (2 ^ (WS 2 0))))] := hl
      obtain ⟨hP, hD⟩ : wPD D A [(Wh, .inr (5, [.ref Wa0, .ref Wa1, .int (nI (WS 2 0)), .int (nI (WS 3 0))])), (Wa0, .inl (cI, 6, .inl (nF (WS 0)))), (Wa1, .inl (cI, 6, .inl (nF (WS 1))))] H := ⟨hP, hD⟩
      refine lv_iload_n hx hb dX5_fewestKindsToCorner_21 rfl (lv_at hl 2 rfl) ?_
      refine lv_iconst (v := nI 1) hx hb dX5_fewestKindsToCorner_22 (by decide) ?_
      refine lv_aload_n hx hb dX5_fewestKindsToCorner_23 rfl (lv_at hl 0 rfl) ?_
      refine va_get (D := D) (ci := 5) (v := .int (nI (WS 2 0))) (C := RX5) (T := TX5) (N := 4) hx hb hts in_X5_fewestKindsToCorner_5 hown hK.1 hP 0 rfl rfl 2 (by decide) (hts (.fieldLink RX5 18 "ChildCoins$World" "coins" "I") (List.mem_of_getElem? (i := 1) rfl)) (fun _ h9 => h9) rfl dX5_fewestKindsToCorner_24 ?_
      refine lv_ishl hx hb dX5_fewestKindsToCorner_27 ?_
      refine set_i (y := nI (2 ^ (WS 2 0))) (shl_1 (by omega)) ?_
      refine nb_icmp_ge (tgt := 58) hx hb dX5_fewestKindsToCorner_28 (by decide) (by omega) (by omega) (fun hq6 => ?_) (fun hq6 => absurd hq6 (by omega))
      refine lv_iload_n hx hb dX5_fewestKindsToCorner_58 rfl (lv_at hl 1 rfl) ?_
      exact en_i hx hb hr hlk hP hD hS () [0, 1, 2] (by decide) rfl (Nat.le_of_ble_eq_true rfl) (Nat.le_of_ble_eq_true rfl) dX5_fewestKindsToCorner_59 ⟨_, (by omega), rfl⟩
    · intro i1 hi01 hi1 z1 hI1 ih1 H locs ls hP hD hS hl
      have hl : lv_has ls 3 [(0, .ref Wh), (1, .int (nI z1)), (2, .int (nI i1))] := hl
      obtain ⟨hP, hD⟩ : wPD D A [(Wh, .inr (5, [.ref Wa0, .ref Wa1, .int (nI (WS 2 0)), .int (nI (WS 3 0))])), (Wa0, .inl (cI, 6, .inl (nF (WS 0)))), (Wa1, .inl (cI, 6, .inl (nF (WS 1))))] H := ⟨hP, hD⟩
      refine lv_iload_n hx hb dX5_fewestKindsToCorner_21 rfl (lv_at hl 2 rfl) ?_
      refine lv_iconst (v := nI 1) hx hb dX5_fewestKindsToCorner_22 (by decide) ?_
      refine lv_aload_n hx hb dX5_fewestKindsToCorner_23 rfl (lv_at hl 0 rfl) ?_
      refine va_get (D := D) (ci := 5) (v := .int (nI (WS 2 0))) (C := RX5) (T := TX5) (N := 4) hx hb hts in_X5_fewestKindsToCorner_5 hown hK.1 hP 0 rfl rfl 2 (by decide) (hts (.fieldLink RX5 18 "ChildCoins$World" "coins" "I") (List.mem_of_getElem? (i := 1) rfl)) (fun _ h9 => h9) rfl dX5_fewestKindsToCorner_24 ?_
      refine lv_ishl hx hb dX5_fewestKindsToCorner_27 ?_
      refine set_i (y := nI (2 ^ (WS 2 0))) (shl_1 (by omega)) ?_
      refine nb_icmp_ge (tgt := 58) hx hb dX5_fewestKindsToCorner_28 (by decide) (by omega) (by omega) (fun hq7 => absurd hq7 (by omega)) (fun hq7 => ?_)
      refine lv_iload_n hx hb dX5_fewestKindsToCorner_31 rfl (lv_at hl 2 rfl) ?_
      refine be_i0 (ru_S (As := [.int (nI i1)]) (rest := []) ⟨hx, hb, hml, hown, hts⟩ (g_bitCount l D cI cB cZ cN i1 (by omega) H.size) ggX5_fewestKindsToCorner_J6_bitCount_0f7a4 rfl (hts (.initialized RJ6) (List.mem_of_getElem? (i := 12) rfl)) (hts (.methodLink RX5 48 yJ6_bitCount_0f7a4) (List.mem_of_getElem? (i := 10) rfl)) (hts (.static yJ6_bitCount_0f7a4) (List.mem_of_getElem? (i := 11) rfl)) ⟨by decide, by decide, (show Option.map (fun d => d.parameters.length) (parseMethodDescriptor yJ6_bitCount_0f7a4.desc) = some 1 by decide +kernel)⟩ ⟨Nat.le_of_ble_eq_true rfl, Nat.le_of_ble_eq_true rfl⟩ hK hP hD [] (by decide) rfl hl.1 rfl (Nat.le_of_ble_eq_true rfl) dX5_fewestKindsToCorner_32 ⟨Nat.le_of_ble_eq_true rfl, Nat.le_of_ble_eq_true rfl⟩) hP hD hS hA [] rfl (fun r9 u8 H locs w10 hP hS => ?_)
      obtain rfl : r9 = nI (popN i1) := w10
      have b11 := popN_le i1
      refine lv_iload_n hx hb dX5_fewestKindsToCorner_35 rfl (lv_at hl 1 rfl) ?_
      refine be_i0 (ru_S (As := [.int (nI z1)]) (rest := [.int (nI (popN i1))]) ⟨hx, hb, hml, hown, hts⟩ (g_bitCount l D cI cB cZ cN z1 (by omega) H.size) ggX5_fewestKindsToCorner_J6_bitCount_0f7a4 rfl (hts (.initialized RJ6) (List.mem_of_getElem? (i := 12) rfl)) (hts (.methodLink RX5 48 yJ6_bitCount_0f7a4) (List.mem_of_getElem? (i := 10) rfl)) (hts (.static yJ6_bitCount_0f7a4) (List.mem_of_getElem? (i := 11) rfl)) ⟨by decide, by decide, (show Option.map (fun d => d.parameters.length) (parseMethodDescriptor yJ6_bitCount_0f7a4.desc) = some 1 by decide +kernel)⟩ ⟨Nat.le_of_ble_eq_true rfl, Nat.le_of_ble_eq_true rfl⟩ hK hP hD [] (by decide) rfl hl.1 rfl (Nat.le_of_ble_eq_true rfl) dX5_fewestKindsToCorner_36 ⟨Nat.le_of_ble_eq_true rfl, Nat.le_of_ble_eq_true rfl⟩) hP hD hS hA [] rfl (fun r13 u12 H locs w14 hP hS => ?_)
      obtain rfl : r13 = nI (popN z1) := w14
      have b15 := popN_le z1
      refine nb_icmp_ge (tgt := 52) hx hb dX5_fewestKindsToCorner_39 (by decide) (by omega) (by omega) (fun hq16 => ?_) (fun hq16 => ?_)
      · skip
        refine lv_iinc (v := nI (i1 + 1)) (lv' := [(2, .int (nI (i1 + 1))), (0, .ref Wh), (1, .int (nI z1))]) hx hb dX5_fewestKindsToCorner_52 hl (k := 2) rfl (nI_add i1 1) (by decide) rfl (fun ls hl => ?_)
        refine lv_goto (tgt := 21) hx hb dX5_fewestKindsToCorner_55 (by decide) ?_
        have hl : lv_has ls 3 [(0, .ref Wh), (1, .int (nI z1)), (2, .int (nI (i1 + 1)))] := lv_sub hl [1, 2, 0] rfl
        exact ih1 z1 (by omega) _ _ _ hP hD hS hl
      · skip
        refine lv_aload_n hx hb dX5_fewestKindsToCorner_42 rfl (lv_at hl 0 rfl) ?_
        refine lv_iload_n hx hb dX5_fewestKindsToCorner_43 rfl (lv_at hl 2 rfl) ?_
        refine be_i0 (ru_V (As := [.int (nI i1)]) (rest := []) ⟨hx, hb, hml, hown, hts⟩ (g_paysWithout l D cI cB cZ cN Wh Wa0 Wa1 WS i1 hW0 (by omega) H.size) gX5_fewestKindsToCorner_X5_paysWithout rfl ⟨rfl, by decide, by decide, (show Option.map (fun d => d.parameters.length) (parseMethodDescriptor yX5_paysWithout.desc) = some 1 by decide +kernel)⟩ ⟨Nat.le_of_ble_eq_true rfl, Nat.le_of_ble_eq_true rfl⟩ hK hP hD 5 0 rfl rfl [0, 1, 2] (by decide) rfl hl.1 rfl (Nat.le_of_ble_eq_true rfl) dX5_fewestKindsToCorner_44 ⟨Nat.le_of_ble_eq_true rfl, Nat.le_of_ble_eq_true rfl⟩) hP hD hS hA [0, 1, 2] rfl (fun r18 u17 H locs w19 hP hS => ?_)
        rcases w19 with rfl | rfl
        · skip
          refine nb_if_ne (tgt := 52) hx hb dX5_fewestKindsToCorner_47 (by decide) (by omega) (fun hq20 => absurd hq20 (by omega)) (fun hq20 => ?_)
          refine lv_iload_n hx hb dX5_fewestKindsToCorner_50 rfl (lv_at hl 2 rfl) ?_
          refine lv_istore_n (lv' := [(1, .int (nI i1)), (0, .ref Wh), (2, .int (nI i1))]) hx hb dX5_fewestKindsToCorner_51 rfl hl (by decide) rfl (fun ls hl => ?_)
          refine lv_iinc (v := nI (i1 + 1)) (lv' := [(2, .int (nI (i1 + 1))), (1, .int (nI i1)), (0, .ref Wh)]) hx hb dX5_fewestKindsToCorner_52 hl (k := 2) rfl (nI_add i1 1) (by decide) rfl (fun ls hl => ?_)
          refine lv_goto (tgt := 21) hx hb dX5_fewestKindsToCorner_55 (by decide) ?_
          have hl : lv_has ls 3 [(0, .ref Wh), (1, .int (nI i1)), (2, .int (nI (i1 + 1)))] := lv_sub hl [2, 1, 0] rfl
          exact ih1 i1 (by omega) _ _ _ hP hD hS hl
        · skip
          refine nb_if_ne (tgt := 52) hx hb dX5_fewestKindsToCorner_47 (by decide) (by omega) (fun hq21 => ?_) (fun hq21 => absurd hq21 (by omega))
          refine lv_iinc (v := nI (i1 + 1)) (lv' := [(2, .int (nI (i1 + 1))), (0, .ref Wh), (1, .int (nI z1))]) hx hb dX5_fewestKindsToCorner_52 hl (k := 2) rfl (nI_add i1 1) (by decide) rfl (fun ls hl => ?_)
          refine lv_goto (tgt := 21) hx hb dX5_fewestKindsToCorner_55 (by decide) ?_
          have hl : lv_has ls 3 [(0, .ref Wh), (1, .int (nI z1)), (2, .int (nI (i1 + 1)))] := lv_sub hl [1, 2, 0] rfl
          exact ih1 z1 (by omega) _ _ _ hP hD hS hl
