set_option maxRecDepth 20000 in
theorem dAX5_oddsLower : decA cX5_oddsLower [(0, .iconst 1, 1), (1, .istore_n 1, 1), (2, .iconst 0, 1), (3, .istore_n 2, 1), (4, .iload_n 2, 1), (5, .aload_n 0, 1), (6, .getfield 18, 3), (9, .if_icmp .ge 14, 3), (12, .iload_n 1, 1), (13, .bipush 10, 2), (15, .imul, 1), (16, .istore_n 1, 1), (17, .iinc 2 1, 3), (20, .goto (-16), 3), (23, .iload_n 1, 1), (24, .ireturn, 1)] = true := by decide +kernel
theorem dX5_oddsLower_0 : decode cX5_oddsLower 0 = .ok (.iconst 1, 1) := decA_get dAX5_oddsLower 0 rfl
theorem dX5_oddsLower_1 : decode cX5_oddsLower 1 = .ok (.istore_n 1, 1) := decA_get dAX5_oddsLower 1 rfl
theorem dX5_oddsLower_2 : decode cX5_oddsLower 2 = .ok (.iconst 0, 1) := decA_get dAX5_oddsLower 2 rfl
theorem dX5_oddsLower_3 : decode cX5_oddsLower 3 = .ok (.istore_n 2, 1) := decA_get dAX5_oddsLower 3 rfl
theorem dX5_oddsLower_4 : decode cX5_oddsLower 4 = .ok (.iload_n 2, 1) := decA_get dAX5_oddsLower 4 rfl
theorem dX5_oddsLower_5 : decode cX5_oddsLower 5 = .ok (.aload_n 0, 1) := decA_get dAX5_oddsLower 5 rfl
theorem dX5_oddsLower_6 : decode cX5_oddsLower 6 = .ok (.getfield 18, 3) := decA_get dAX5_oddsLower 6 rfl
theorem in_X5_oddsLower_5 : ∀ w ∈ wsX50, w ∈ wsX5_oddsLower := fun w h => (gd_ids wi_X5_oddsLower wm_X5_oddsLower wi_X50 (by decide +kernel) w h).1
theorem dX5_oddsLower_9 : decode cX5_oddsLower 9 = .ok (.if_icmp .ge 14, 3) := decA_get dAX5_oddsLower 7 rfl
theorem dX5_oddsLower_23 : decode cX5_oddsLower 23 = .ok (.iload_n 1, 1) := decA_get dAX5_oddsLower 14 rfl
theorem dX5_oddsLower_24 : decode cX5_oddsLower 24 = .ok (.ireturn, 1) := decA_get dAX5_oddsLower 15 rfl
theorem dX5_oddsLower_12 : decode cX5_oddsLower 12 = .ok (.iload_n 1, 1) := decA_get dAX5_oddsLower 8 rfl
theorem dX5_oddsLower_13 : decode cX5_oddsLower 13 = .ok (.bipush 10, 2) := decA_get dAX5_oddsLower 9 rfl
theorem dX5_oddsLower_15 : decode cX5_oddsLower 15 = .ok (.imul, 1) := decA_get dAX5_oddsLower 10 rfl
theorem dX5_oddsLower_16 : decode cX5_oddsLower 16 = .ok (.istore_n 1, 1) := decA_get dAX5_oddsLower 11 rfl
theorem dX5_oddsLower_17 : decode cX5_oddsLower 17 = .ok (.iinc 2 1, 3) := decA_get dAX5_oddsLower 12 rfl
theorem dX5_oddsLower_20 : decode cX5_oddsLower 20 = .ok (.goto (-16), 3) := decA_get dAX5_oddsLower 13 rfl
set_option maxHeartbeats 4000000 in
set_option maxRecDepth 100000 in
theorem g_oddsLower (l : Launch) (D : va_G) (cI cB cZ cN : ClassId) (Wh : Nat) (Wa0 : Nat) (Wa1 : Nat) (WS : Nat → Nat → Nat) (hW : WorldOk WS) : Ci (S := Unit) l D cI cB cZ cN yX5_oddsLower wsX5_oddsLower ({ frames := 0, cells := 0, slots := 0, locals := 0 } : Room) [.ref Wh] [(Wh, .inr (5, [.ref Wa0, .ref Wa1, .int (nI (WS 2 0)), .int (nI (WS 3 0))])), (Wa0, .inl (cI, 6, .inl (nF (WS 0)))), (Wa1, .inl (cI, 6, .inl (nF (WS 1))))] (fun (r : Int32) (_ : Unit) => r = nI (10 ^ (WS 2 0))) (fun u => [(Wh, .inr (5, [.ref Wa0, .ref Wa1, .int (nI (WS 2 0)), .int (nI (WS 3 0))])), (Wa0, .inl (cI, 6, .inl (nF (WS 0)))), (Wa1, .inl (cI, 6, .inl (nF (WS 1))))]) := by
  refine bx_of (D := D) (cI := cI) (cB := cB) (cZ := cZ) (cN := cN) (y := yX5_oddsLower) (wd := wsX5_oddsLower) (rm := ({ frames := 0, cells := 0, slots := 0, locals := 0 } : Room)) (av := [.ref Wh]) (wc := [(Wh, .inr (5, [.ref Wa0, .ref Wa1, .int (nI (WS 2 0)), .int (nI (WS 3 0))])), (Wa0, .inl (cI, 6, .inl (nF (WS 0)))), (Wa1, .inl (cI, 6, .inl (nF (WS 1))))]) (cc := cX5_oddsLower) (maxL := 3) (ret := (some .int)) (Qc := fun _ A => va_Qi (S := Unit) (fun (r : Int32) (_ : Unit) => r = nI (10 ^ (WS 2 0))) (Aft D (fun (u : Unit) => [(Wh, .inr (5, [.ref Wa0, .ref Wa1, .int (nI (WS 2 0)), .int (nI (WS 3 0))])), (Wa0, .inl (cI, 6, .inl (nF (WS 0)))), (Wa1, .inl (cI, 6, .inl (nF (WS 1))))]) A) A) (by decide) rfl (Nat.le_of_ble_eq_true rfl) ?_
  intro p e s m below meth c A H locs ⟨hx, hb, hr, hml, hown, hts, hlk, hnm⟩ hK hP hD hS hA ls hl
  have hl : lv_has ls 3 [(0, .ref Wh)] := hl
  have hown : s.vm.findClass RX5 = some m.cls := hown
  obtain ⟨bw2, bw3, bw0, bw1⟩ := hW
  have hW0 : WorldOk WS := ⟨bw2, bw3, bw0, bw1⟩
  refine lv_iconst (v := nI 1) hx hb dX5_oddsLower_0 (by decide) ?_
  refine lv_istore_n (lv' := [(1, .int (nI 1)), (0, .ref Wh)]) hx hb dX5_oddsLower_1 rfl hl (by decide) rfl (fun ls hl => ?_)
  refine lv_iconst (v := nI 0) hx hb dX5_oddsLower_2 (by decide) ?_
  refine lv_istore_n (lv' := [(2, .int (nI 0)), (1, .int (nI 1)), (0, .ref Wh)]) hx hb dX5_oddsLower_3 rfl hl (by decide) rfl (fun ls hl => ?_)
  refine loopW (D := D) (A := A) (fun i => [(Wh, .inr (5, [.ref Wa0, .ref Wa1, .int (nI (WS 2 0)), .int (nI (WS 3 0))])), (Wa0, .inl (cI, 6, .inl (nF (WS 0)))), (Wa1, .inl (cI, 6, .inl (nF (WS 1))))]) (fun i => [(0, .ref Wh), (1, .int (nI (10 ^ i))), (2, .int (nI i))]) 4 3 (WS 2 0) 0 (Nat.zero_le _) ?_ ?_ _ _ ls (by first | exact hP | (rw [fill_0]; exact hP)) (by first | exact hD | (rw [fill_0]; exact hD)) hS (lv_sub hl [2, 1, 0] rfl)
  · intro H locs ls hP hD hS hl
    have hl : lv_has ls 3 [(0, .ref Wh), (1, .int (nI (10 ^ (WS 2 0)))), (2, .int (nI (WS 2 0)))] := hl
    obtain ⟨hP, hD⟩ : wPD D A [(Wh, .inr (5, [.ref Wa0, .ref Wa1, .int (nI (WS 2 0)), .int (nI (WS 3 0))])), (Wa0, .inl (cI, 6, .inl (nF (WS 0)))), (Wa1, .inl (cI, 6, .inl (nF (WS 1))))] H := ⟨hP, hD⟩
    refine lv_iload_n hx hb dX5_oddsLower_4 rfl (lv_at hl 2 rfl) ?_
    refine lv_aload_n hx hb dX5_oddsLower_5 rfl (lv_at hl 0 rfl) ?_
    refine va_get (D := D) (ci := 5) (v := .int (nI (WS 2 0))) (C := RX5) (T := TX5) (N := 4) hx hb hts in_X5_oddsLower_5 hown hK.1 hP 0 rfl rfl 2 (by decide) (hts (.fieldLink RX5 18 "ChildCoins$World" "coins" "I") (List.mem_of_getElem? (i := 1) rfl)) (fun _ h9 => h9) rfl dX5_oddsLower_6 ?_
    refine nb_icmp_ge (tgt := 23) hx hb dX5_oddsLower_9 (by decide) (by omega) (by omega) (fun hq1 => ?_) (fun hq1 => absurd hq1 (by omega))
    refine lv_iload_n hx hb dX5_oddsLower_23 rfl (lv_at hl 1 rfl) ?_
    exact en_i hx hb hr hlk hP hD hS () [0, 1, 2] (by decide) rfl (Nat.le_of_ble_eq_true rfl) (Nat.le_of_ble_eq_true rfl) dX5_oddsLower_24 rfl
  · intro i hi0 hi ih H locs ls hP hD hS hl
    have hl : lv_has ls 3 [(0, .ref Wh), (1, .int (nI (10 ^ i))), (2, .int (nI i))] := hl
    obtain ⟨hP, hD⟩ : wPD D A [(Wh, .inr (5, [.ref Wa0, .ref Wa1, .int (nI (WS 2 0)), .int (nI (WS 3 0))])), (Wa0, .inl (cI, 6, .inl (nF (WS 0)))), (Wa1, .inl (cI, 6, .inl (nF (WS 1))))] H := ⟨hP, hD⟩
    refine lv_iload_n hx hb dX5_oddsLower_4 rfl (lv_at hl 2 rfl) ?_
    refine lv_aload_n hx hb dX5_oddsLower_5 rfl (lv_at hl 0 rfl) ?_
    refine va_get (D := D) (ci := 5) (v := .int (nI (WS 2 0))) (C := RX5) (T := TX5) (N := 4) hx hb hts in_X5_oddsLower_5 hown hK.1 hP 0 rfl rfl 2 (by decide) (hts (.fieldLink RX5 18 "ChildCoins$World" "coins" "I") (List.mem_of_getElem? (i := 1) rfl)) (fun _ h9 => h9) rfl dX5_oddsLower_6 ?_
    refine nb_icmp_ge (tgt := 23) hx hb dX5_oddsLower_9 (by decide) (by omega) (by omega) (fun hq2 => absurd hq2 (by omega)) (fun hq2 => ?_)
    refine lv_iload_n hx hb dX5_oddsLower_12 rfl (lv_at hl 1 rfl) ?_
    refine lv_bipush (v := nI 10) hx hb dX5_oddsLower_13 (by decide) ?_
    refine lv_imul hx hb dX5_oddsLower_15 ?_
    refine set_i (y := nI ((10 ^ i) * 10)) (pk_mul (10 ^ i) 10) ?_
    refine lv_istore_n (lv' := [(1, .int (nI ((10 ^ i) * 10))), (0, .ref Wh), (2, .int (nI i))]) hx hb dX5_oddsLower_16 rfl hl (by decide) rfl (fun ls hl => ?_)
    refine lv_iinc (v := nI (i + 1)) (lv' := [(2, .int (nI (i + 1))), (1, .int (nI ((10 ^ i) * 10))), (0, .ref Wh)]) hx hb dX5_oddsLower_17 hl (k := 2) rfl (nI_add i 1) (by decide) rfl (fun ls hl => ?_)
    refine lv_goto (tgt := 4) hx hb dX5_oddsLower_20 (by decide) ?_
    have hl : lv_has ls 3 [(0, .ref Wh), (1, .int (nI ((10 ^ i) * 10))), (2, .int (nI (i + 1)))] := lv_sub hl [2, 1, 0] rfl
    rw [← Nat.pow_succ] at hl
    exact ih _ _ _ hP hD hS hl
set_option maxRecDepth 20000 in
theorem dAX5_chance : decA cX5_chance [(0, .iconst 1, 1), (1, .istore_n 3, 1), (2, .iconst 0, 1), (3, .istore 4, 2), (5, .iload 4, 2), (7, .aload_n 0, 1), (8, .getfield 18, 3), (11, .if_icmp .ge 30, 3), (14, .iload_n 3, 1), (15, .iload_n 1, 1), (16, .iload 4, 2), (18, .ishr, 1), (19, .iconst 1, 1), (20, .iand, 1), (21, .iconst 1, 1), (22, .if_icmp .ne 7, 3), (25, .iload_n 2, 1), (26, .goto 7, 3), (29, .bipush 10, 2), (31, .iload_n 2, 1), (32, .isub, 1), (33, .imul, 1), (34, .istore_n 3, 1), (35, .iinc 4 1, 3), (38, .goto (-33), 3), (41, .iload_n 3, 1), (42, .ireturn, 1)] = true := by decide +kernel
theorem dX5_chance_0 : decode cX5_chance 0 = .ok (.iconst 1, 1) := decA_get dAX5_chance 0 rfl
theorem dX5_chance_1 : decode cX5_chance 1 = .ok (.istore_n 3, 1) := decA_get dAX5_chance 1 rfl
theorem dX5_chance_2 : decode cX5_chance 2 = .ok (.iconst 0, 1) := decA_get dAX5_chance 2 rfl
theorem dX5_chance_3 : decode cX5_chance 3 = .ok (.istore 4, 2) := decA_get dAX5_chance 3 rfl
theorem dX5_chance_5 : decode cX5_chance 5 = .ok (.iload 4, 2) := decA_get dAX5_chance 4 rfl
theorem dX5_chance_7 : decode cX5_chance 7 = .ok (.aload_n 0, 1) := decA_get dAX5_chance 5 rfl
theorem dX5_chance_8 : decode cX5_chance 8 = .ok (.getfield 18, 3) := decA_get dAX5_chance 6 rfl
theorem in_X5_chance_5 : ∀ w ∈ wsX50, w ∈ wsX5_chance := fun w h => (gd_ids wi_X5_chance wm_X5_chance wi_X50 (by decide +kernel) w h).1
theorem dX5_chance_11 : decode cX5_chance 11 = .ok (.if_icmp .ge 30, 3) := decA_get dAX5_chance 7 rfl
theorem dX5_chance_41 : decode cX5_chance 41 = .ok (.iload_n 3, 1) := decA_get dAX5_chance 25 rfl
theorem dX5_chance_42 : decode cX5_chance 42 = .ok (.ireturn, 1) := decA_get dAX5_chance 26 rfl
theorem dX5_chance_14 : decode cX5_chance 14 = .ok (.iload_n 3, 1) := decA_get dAX5_chance 8 rfl
theorem dX5_chance_15 : decode cX5_chance 15 = .ok (.iload_n 1, 1) := decA_get dAX5_chance 9 rfl
theorem dX5_chance_16 : decode cX5_chance 16 = .ok (.iload 4, 2) := decA_get dAX5_chance 10 rfl
theorem dX5_chance_18 : decode cX5_chance 18 = .ok (.ishr, 1) := decA_get dAX5_chance 11 rfl
theorem dX5_chance_19 : decode cX5_chance 19 = .ok (.iconst 1, 1) := decA_get dAX5_chance 12 rfl
theorem dX5_chance_20 : decode cX5_chance 20 = .ok (.iand, 1) := decA_get dAX5_chance 13 rfl
theorem dX5_chance_21 : decode cX5_chance 21 = .ok (.iconst 1, 1) := decA_get dAX5_chance 14 rfl
theorem dX5_chance_22 : decode cX5_chance 22 = .ok (.if_icmp .ne 7, 3) := decA_get dAX5_chance 15 rfl
theorem dX5_chance_29 : decode cX5_chance 29 = .ok (.bipush 10, 2) := decA_get dAX5_chance 18 rfl
theorem dX5_chance_31 : decode cX5_chance 31 = .ok (.iload_n 2, 1) := decA_get dAX5_chance 19 rfl
theorem dX5_chance_32 : decode cX5_chance 32 = .ok (.isub, 1) := decA_get dAX5_chance 20 rfl
theorem dX5_chance_33 : decode cX5_chance 33 = .ok (.imul, 1) := decA_get dAX5_chance 21 rfl
theorem dX5_chance_34 : decode cX5_chance 34 = .ok (.istore_n 3, 1) := decA_get dAX5_chance 22 rfl
theorem dX5_chance_35 : decode cX5_chance 35 = .ok (.iinc 4 1, 3) := decA_get dAX5_chance 23 rfl
theorem dX5_chance_38 : decode cX5_chance 38 = .ok (.goto (-33), 3) := decA_get dAX5_chance 24 rfl
theorem dX5_chance_25 : decode cX5_chance 25 = .ok (.iload_n 2, 1) := decA_get dAX5_chance 16 rfl
theorem dX5_chance_26 : decode cX5_chance 26 = .ok (.goto 7, 3) := decA_get dAX5_chance 17 rfl
set_option maxHeartbeats 4000000 in
set_option maxRecDepth 100000 in
theorem g_chance (l : Launch) (D : va_G) (cI cB cZ cN : ClassId) (Wh : Nat) (Wa0 : Nat) (Wa1 : Nat) (WS : Nat → Nat → Nat) (v_l : Nat) (v_x : Nat) (hW : WorldOk WS) (hl6 : v_l < 64) (hx : v_x ≤ 10) : Ci (S := Unit) l D cI cB cZ cN yX5_chance wsX5_chance ({ frames := 0, cells := 0, slots := 0, locals := 0 } : Room) [.ref Wh, .int (nI v_l), .int (nI v_x)] [(Wh, .inr (5, [.ref Wa0, .ref Wa1, .int (nI (WS 2 0)), .int (nI (WS 3 0))])), (Wa0, .inl (cI, 6, .inl (nF (WS 0)))), (Wa1, .inl (cI, 6, .inl (nF (WS 1))))] (fun (r : Int32) (_ : Unit) => r = nI (chN v_l v_x (WS 2 0))) (fun u => [(Wh, .inr (5, [.ref Wa0, .ref Wa1, .int (nI (WS 2 0)), .int (nI (WS 3 0))])), (Wa0, .inl (cI, 6, .inl (nF (WS 0)))), (Wa1, .inl (cI, 6, .inl (nF (WS 1))))]) := by
  refine bx_of (D := D) (cI := cI) (cB := cB) (cZ := cZ) (cN := cN) (y := yX5_chance) (wd := wsX5_chance) (rm := ({ frames := 0, cells := 0, slots := 0, locals := 0 } : Room)) (av := [.ref Wh, .int (nI v_l), .int (nI v_x)]) (wc := [(Wh, .inr (5, [.ref Wa0, .ref Wa1, .int (nI (WS 2 0)), .int (nI (WS 3 0))])), (Wa0, .inl (cI, 6, .inl (nF (WS 0)))), (Wa1, .inl (cI, 6, .inl (nF (WS 1))))]) (cc := cX5_chance) (maxL := 5) (ret := (some .int)) (Qc := fun _ A => va_Qi (S := Unit) (fun (r : Int32) (_ : Unit) => r = nI (chN v_l v_x (WS 2 0))) (Aft D (fun (u : Unit) => [(Wh, .inr (5, [.ref Wa0, .ref Wa1, .int (nI (WS 2 0)), .int (nI (WS 3 0))])), (Wa0, .inl (cI, 6, .inl (nF (WS 0)))), (Wa1, .inl (cI, 6, .inl (nF (WS 1))))]) A) A) (by decide) rfl (Nat.le_of_ble_eq_true rfl) ?_
  intro p e s m below meth c A H locs ⟨hx, hb, hr, hml, hown, hts, hlk, hnm⟩ hK hP hD hS hA ls hl
  have hl : lv_has ls 5 [(0, .ref Wh), (1, .int (nI v_l)), (2, .int (nI v_x))] := hl
  have hown : s.vm.findClass RX5 = some m.cls := hown
  obtain ⟨bw2, bw3, bw0, bw1⟩ := hW
  have hW0 : WorldOk WS := ⟨bw2, bw3, bw0, bw1⟩
  refine lv_iconst (v := nI 1) hx hb dX5_chance_0 (by decide) ?_
  refine lv_istore_n (lv' := [(3, .int (nI 1)), (0, .ref Wh), (1, .int (nI v_l)), (2, .int (nI v_x))]) hx hb dX5_chance_1 rfl hl (by decide) rfl (fun ls hl => ?_)
  refine lv_iconst (v := nI 0) hx hb dX5_chance_2 (by decide) ?_
  refine lv_istore (lv' := [(4, .int (nI 0)), (3, .int (nI 1)), (0, .ref Wh), (1, .int (nI v_l)), (2, .int (nI v_x))]) hx hb dX5_chance_3 hl (by decide) rfl (fun ls hl => ?_)
  refine loopW (D := D) (A := A) (fun i => [(Wh, .inr (5, [.ref Wa0, .ref Wa1, .int (nI (WS 2 0)), .int (nI (WS 3 0))])), (Wa0, .inl (cI, 6, .inl (nF (WS 0)))), (Wa1, .inl (cI, 6, .inl (nF (WS 1))))]) (fun i => [(0, .ref Wh), (1, .int (nI v_l)), (2, .int (nI v_x)), (3, .int (nI (chN v_l v_x i))), (4, .int (nI i))]) 5 5 (WS 2 0) 0 (Nat.zero_le _) ?_ ?_ _ _ ls (by first | exact hP | (rw [fill_0]; exact hP)) (by first | exact hD | (rw [fill_0]; exact hD)) hS (lv_sub hl [2, 3, 4, 1, 0] rfl)
  · intro H locs ls hP hD hS hl
    have hl : lv_has ls 5 [(0, .ref Wh), (1, .int (nI v_l)), (2, .int (nI v_x)), (3, .int (nI (chN v_l v_x (WS 2 0)))), (4, .int (nI (WS 2 0)))] := hl
    obtain ⟨hP, hD⟩ : wPD D A [(Wh, .inr (5, [.ref Wa0, .ref Wa1, .int (nI (WS 2 0)), .int (nI (WS 3 0))])), (Wa0, .inl (cI, 6, .inl (nF (WS 0)))), (Wa1, .inl (cI, 6, .inl (nF (WS 1))))] H := ⟨hP, hD⟩
    refine lv_iload hx hb dX5_chance_5 (lv_at hl 4 rfl) ?_
    refine lv_aload_n hx hb dX5_chance_7 rfl (lv_at hl 0 rfl) ?_
    refine va_get (D := D) (ci := 5) (v := .int (nI (WS 2 0))) (C := RX5) (T := TX5) (N := 4) hx hb hts in_X5_chance_5 hown hK.1 hP 0 rfl rfl 2 (by decide) (hts (.fieldLink RX5 18 "ChildCoins$World" "coins" "I") (List.mem_of_getElem? (i := 1) rfl)) (fun _ h9 => h9) rfl dX5_chance_8 ?_
    refine nb_icmp_ge (tgt := 41) hx hb dX5_chance_11 (by decide) (by omega) (by omega) (fun hq1 => ?_) (fun hq1 => absurd hq1 (by omega))
    refine lv_iload_n hx hb dX5_chance_41 rfl (lv_at hl 3 rfl) ?_
    exact en_i hx hb hr hlk hP hD hS () [0, 1, 2] (by decide) rfl (Nat.le_of_ble_eq_true rfl) (Nat.le_of_ble_eq_true rfl) dX5_chance_42 rfl
  · intro i hi0 hi ih H locs ls hP hD hS hl
    have hl : lv_has ls 5 [(0, .ref Wh), (1, .int (nI v_l)), (2, .int (nI v_x)), (3, .int (nI (chN v_l v_x i))), (4, .int (nI i))] := hl
    obtain ⟨hP, hD⟩ : wPD D A [(Wh, .inr (5, [.ref Wa0, .ref Wa1, .int (nI (WS 2 0)), .int (nI (WS 3 0))])), (Wa0, .inl (cI, 6, .inl (nF (WS 0)))), (Wa1, .inl (cI, 6, .inl (nF (WS 1))))] H := ⟨hP, hD⟩
    refine lv_iload hx hb dX5_chance_5 (lv_at hl 4 rfl) ?_
    refine lv_aload_n hx hb dX5_chance_7 rfl (lv_at hl 0 rfl) ?_
    refine va_get (D := D) (ci := 5) (v := .int (nI (WS 2 0))) (C := RX5) (T := TX5) (N := 4) hx hb hts in_X5_chance_5 hown hK.1 hP 0 rfl rfl 2 (by decide) (hts (.fieldLink RX5 18 "ChildCoins$World" "coins" "I") (List.mem_of_getElem? (i := 1) rfl)) (fun _ h9 => h9) rfl dX5_chance_8 ?_
    refine nb_icmp_ge (tgt := 41) hx hb dX5_chance_11 (by decide) (by omega) (by omega) (fun hq2 => absurd hq2 (by omega)) (fun hq2 => ?_)
    have bdv := Nat.div_le_self v_l (2 ^ i)
    refine lv_iload_n hx hb dX5_chance_14 rfl (lv_at hl 3 rfl) ?_
    refine lv_iload_n hx hb dX5_chance_15 rfl (lv_at hl 1 rfl) ?_
    refine lv_iload hx hb dX5_chance_16 (lv_at hl 4 rfl) ?_
    refine lv_ishr hx hb dX5_chance_18 ?_
    refine set_i (y := nI (v_l / 2 ^ i)) (nI_shr (by omega) (by omega)) ?_
    refine lv_iconst (v := nI 1) hx hb dX5_chance_19 (by decide) ?_
    refine lv_iand hx hb dX5_chance_20 ?_
    refine set_i (y := nI ((v_l / 2 ^ i) % 2)) (nI_and1 (by omega)) ?_
    refine lv_iconst (v := nI 1) hx hb dX5_chance_21 (by decide) ?_
    refine nb_icmp_ne (tgt := 29) hx hb dX5_chance_22 (by decide) (by omega) (by omega) (fun hq3 => ?_) (fun hq3 => ?_)
    · skip
      refine lv_bipush (v := nI 10) hx hb dX5_chance_29 (by decide) ?_
      refine lv_iload_n hx hb dX5_chance_31 rfl (lv_at hl 2 rfl) ?_
      refine lv_isub hx hb dX5_chance_32 ?_
      refine set_i (y := nI (10 - v_x)) (pk_sub (by omega)) ?_
      refine lv_imul hx hb dX5_chance_33 ?_
      refine set_i (y := nI ((chN v_l v_x i) * (10 - v_x))) (pk_mul (chN v_l v_x i) (10 - v_x)) ?_
      refine lv_istore_n (lv' := [(3, .int (nI ((chN v_l v_x i) * (10 - v_x)))), (0, .ref Wh), (1, .int (nI v_l)), (2, .int (nI v_x)), (4, .int (nI i))]) hx hb dX5_chance_34 rfl hl (by decide) rfl (fun ls hl => ?_)
      refine lv_iinc (v := nI (i + 1)) (lv' := [(4, .int (nI (i + 1))), (3, .int (nI ((chN v_l v_x i) * (10 - v_x)))), (0, .ref Wh), (1, .int (nI v_l)), (2, .int (nI v_x))]) hx hb dX5_chance_35 hl (k := 4) rfl (nI_add i 1) (by decide) rfl (fun ls hl => ?_)
      refine lv_goto (tgt := 5) hx hb dX5_chance_38 (by decide) ?_
      have hl : lv_has ls 5 [(0, .ref Wh), (1, .int (nI v_l)), (2, .int (nI v_x)), (3, .int (nI ((chN v_l v_x i) * (10 - v_x)))), (4, .int (nI (i + 1)))] := lv_sub hl [2, 3, 4, 1, 0] rfl
      rw [chN_f (lost := v_l) (x := v_x) (i := i) hq3] at hl
      exact ih _ _ _ hP hD hS hl
    · skip
      refine lv_iload_n hx hb dX5_chance_25 rfl (lv_at hl 2 rfl) ?_
      refine lv_goto (tgt := 33) hx hb dX5_chance_26 (by decide) ?_
      refine lv_imul hx hb dX5_chance_33 ?_
      refine set_i (y := nI ((chN v_l v_x i) * v_x)) (pk_mul (chN v_l v_x i) v_x) ?_
      refine lv_istore_n (lv' := [(3, .int (nI ((chN v_l v_x i) * v_x))), (0, .ref Wh), (1, .int (nI v_l)), (2, .int (nI v_x)), (4, .int (nI i))]) hx hb dX5_chance_34 rfl hl (by decide) rfl (fun ls hl => ?_)
      refine lv_iinc (v := nI (i + 1)) (lv' := [(4, .int (nI (i + 1))), (3, .int (nI ((chN v_l v_x i) * v_x))), (0, .ref Wh), (1, .int (nI v_l)), (2, .int (nI v_x))]) hx hb dX5_chance_35 hl (k := 4) rfl (nI_add i 1) (by decide) rfl (fun ls hl => ?_)
      refine lv_goto (tgt := 5) hx hb dX5_chance_38 (by decide) ?_
      have hl : lv_has ls 5 [(0, .ref Wh), (1, .int (nI v_l)), (2, .int (nI v_x)), (3, .int (nI ((chN v_l v_x i) * v_x))), (4, .int (nI (i + 1)))] := lv_sub hl [2, 3, 4, 1, 0] rfl
      rw [chN_t (lost := v_l) (x := v_x) (i := i) hq3] at hl
      exact ih _ _ _ hP hD hS hl
set_option maxRecDepth 20000 in
theorem dAX5_oddsUpper : decA cX5_oddsUpper [(0, .iconst 0, 1), (1, .istore_n 2, 1), (2, .iconst 0, 1), (3, .istore_n 3, 1), (4, .iload_n 3, 1), (5, .iconst 1, 1), (6, .aload_n 0, 1), (7, .getfield 18, 3), (10, .ishl, 1), (11, .if_icmp .ge 26, 3), (14, .aload_n 0, 1), (15, .iload_n 3, 1), (16, .invokevirtual 44, 3), (19, .ifCond .eq 12, 3), (22, .iload_n 2, 1), (23, .aload_n 0, 1), (24, .iload_n 3, 1), (25, .iload_n 1, 1), (26, .invokevirtual 53, 3), (29, .iadd, 1), (30, .istore_n 2, 1), (31, .iinc 3 1, 3), (34, .goto (-30), 3), (37, .iload_n 2, 1), (38, .ireturn, 1)] = true := by decide +kernel
theorem dX5_oddsUpper_0 : decode cX5_oddsUpper 0 = .ok (.iconst 0, 1) := decA_get dAX5_oddsUpper 0 rfl
theorem dX5_oddsUpper_1 : decode cX5_oddsUpper 1 = .ok (.istore_n 2, 1) := decA_get dAX5_oddsUpper 1 rfl
theorem dX5_oddsUpper_2 : decode cX5_oddsUpper 2 = .ok (.iconst 0, 1) := decA_get dAX5_oddsUpper 2 rfl
theorem dX5_oddsUpper_3 : decode cX5_oddsUpper 3 = .ok (.istore_n 3, 1) := decA_get dAX5_oddsUpper 3 rfl
theorem dX5_oddsUpper_4 : decode cX5_oddsUpper 4 = .ok (.iload_n 3, 1) := decA_get dAX5_oddsUpper 4 rfl
theorem dX5_oddsUpper_5 : decode cX5_oddsUpper 5 = .ok (.iconst 1, 1) := decA_get dAX5_oddsUpper 5 rfl
theorem dX5_oddsUpper_6 : decode cX5_oddsUpper 6 = .ok (.aload_n 0, 1) := decA_get dAX5_oddsUpper 6 rfl
theorem dX5_oddsUpper_7 : decode cX5_oddsUpper 7 = .ok (.getfield 18, 3) := decA_get dAX5_oddsUpper 7 rfl
theorem in_X5_oddsUpper_5 : ∀ w ∈ wsX50, w ∈ wsX5_oddsUpper := fun w h => (gd_ids wi_X5_oddsUpper wm_X5_oddsUpper wi_X50 (by decide +kernel) w h).1
theorem dX5_oddsUpper_10 : decode cX5_oddsUpper 10 = .ok (.ishl, 1) := decA_get dAX5_oddsUpper 8 rfl
theorem dX5_oddsUpper_11 : decode cX5_oddsUpper 11 = .ok (.if_icmp .ge 26, 3) := decA_get dAX5_oddsUpper 9 rfl
theorem dX5_oddsUpper_37 : decode cX5_oddsUpper 37 = .ok (.iload_n 2, 1) := decA_get dAX5_oddsUpper 23 rfl
theorem dX5_oddsUpper_38 : decode cX5_oddsUpper 38 = .ok (.ireturn, 1) := decA_get dAX5_oddsUpper 24 rfl
theorem dX5_oddsUpper_14 : decode cX5_oddsUpper 14 = .ok (.aload_n 0, 1) := decA_get dAX5_oddsUpper 10 rfl
theorem dX5_oddsUpper_15 : decode cX5_oddsUpper 15 = .ok (.iload_n 3, 1) := decA_get dAX5_oddsUpper 11 rfl
theorem dX5_oddsUpper_16 : decode cX5_oddsUpper 16 = .ok (.invokevirtual 44, 3) := decA_get dAX5_oddsUpper 12 rfl
set_option maxRecDepth 20000 in
theorem ggX5_oddsUpper_X5_paysWithout : GoodIn wsX5_oddsUpper wsX5_paysWithout := gd_ids wi_X5_oddsUpper wm_X5_oddsUpper wi_X5_paysWithout (by decide +kernel)
set_option maxRecDepth 20000 in
theorem gX5_oddsUpper_X5_paysWithout : GoodIn wsX5_oddsUpper (wsV RX5 44 RX5 yX5_paysWithout wsX5_paysWithout) := goodIn_app (gd_ids wi_X5_oddsUpper wm_X5_oddsUpper (b := [280, 281, 282, 283]) rfl (by decide +kernel)) ggX5_oddsUpper_X5_paysWithout
theorem dX5_oddsUpper_19 : decode cX5_oddsUpper 19 = .ok (.ifCond .eq 12, 3) := decA_get dAX5_oddsUpper 13 rfl
theorem dX5_oddsUpper_31 : decode cX5_oddsUpper 31 = .ok (.iinc 3 1, 3) := decA_get dAX5_oddsUpper 21 rfl
theorem dX5_oddsUpper_34 : decode cX5_oddsUpper 34 = .ok (.goto (-30), 3) := decA_get dAX5_oddsUpper 22 rfl
theorem dX5_oddsUpper_22 : decode cX5_oddsUpper 22 = .ok (.iload_n 2, 1) := decA_get dAX5_oddsUpper 14 rfl
theorem dX5_oddsUpper_23 : decode cX5_oddsUpper 23 = .ok (.aload_n 0, 1) := decA_get dAX5_oddsUpper 15 rfl
theorem dX5_oddsUpper_24 : decode cX5_oddsUpper 24 = .ok (.iload_n 3, 1) := decA_get dAX5_oddsUpper 16 rfl
theorem dX5_oddsUpper_25 : decode cX5_oddsUpper 25 = .ok (.iload_n 1, 1) := decA_get dAX5_oddsUpper 17 rfl
theorem dX5_oddsUpper_26 : decode cX5_oddsUpper 26 = .ok (.invokevirtual 53, 3) := decA_get dAX5_oddsUpper 18 rfl
set_option maxRecDepth 20000 in
theorem ggX5_oddsUpper_X5_chance : GoodIn wsX5_oddsUpper wsX5_chance := gd_ids wi_X5_oddsUpper wm_X5_oddsUpper wi_X5_chance (by decide +kernel)
set_option maxRecDepth 20000 in
theorem gX5_oddsUpper_X5_chance : GoodIn wsX5_oddsUpper (wsV RX5 53 RX5 yX5_chance wsX5_chance) := goodIn_app (gd_ids wi_X5_oddsUpper wm_X5_oddsUpper (b := [287, 288, 289, 283]) rfl (by decide +kernel)) ggX5_oddsUpper_X5_chance
theorem dX5_oddsUpper_29 : decode cX5_oddsUpper 29 = .ok (.iadd, 1) := decA_get dAX5_oddsUpper 19 rfl
theorem dX5_oddsUpper_30 : decode cX5_oddsUpper 30 = .ok (.istore_n 2, 1) := decA_get dAX5_oddsUpper 20 rfl
