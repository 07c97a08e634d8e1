set_option maxRecDepth 20000 in
theorem dAX5_gather : decA cX5_gather [(0, .aload_n 0, 1), (1, .aload_n 1, 1), (2, .getfield 25, 3), (5, .putfield 18, 3), (8, .aload_n 0, 1), (9, .aload_n 1, 1), (10, .getfield 28, 3), (13, .iload_n 3, 1), (14, .iaload, 1), (15, .putfield 22, 3), (18, .aload_n 2, 1), (19, .iload_n 3, 1), (20, .invokevirtual 30, 3), (23, .istore 4, 2), (25, .iconst 0, 1), (26, .istore 5, 2), (28, .iload 5, 2), (30, .aload_n 0, 1), (31, .getfield 18, 3), (34, .if_icmp .ge 51, 3), (37, .aload_n 0, 1), (38, .getfield 15, 3), (41, .iload 5, 2), (43, .aload_n 1, 1), (44, .getfield 36, 3), (47, .iload 5, 2), (49, .iaload, 1), (50, .iastore, 1), (51, .aload_n 0, 1), (52, .getfield 9, 3), (55, .iload 5, 2), (57, .aload_n 1, 1), (58, .iload 5, 2), (60, .iload 4, 2), (62, .invokevirtual 37, 3), (65, .ifCond .eq 12, 3), (68, .aload_n 2, 1), (69, .iload 5, 2), (71, .invokevirtual 41, 3), (74, .goto 4, 3), (77, .iconst 0, 1), (78, .iastore, 1), (79, .iinc 5 1, 3), (82, .goto (-54), 3), (85, .return_, 1)] = true := by decide +kernel
theorem dX5_gather_0 : decode cX5_gather 0 = .ok (.aload_n 0, 1) := decA_get dAX5_gather 0 rfl
theorem dX5_gather_1 : decode cX5_gather 1 = .ok (.aload_n 1, 1) := decA_get dAX5_gather 1 rfl
theorem dX5_gather_2 : decode cX5_gather 2 = .ok (.getfield 25, 3) := decA_get dAX5_gather 2 rfl
theorem in_X5_gather_0 : ∀ w ∈ wsX00, w ∈ wsX5_gather := fun w h => (gd_ids wi_X5_gather wm_X5_gather wi_X00 (by decide +kernel) w h).1
theorem dX5_gather_5 : decode cX5_gather 5 = .ok (.putfield 18, 3) := decA_get dAX5_gather 3 rfl
theorem in_X5_gather_5 : ∀ w ∈ wsX50, w ∈ wsX5_gather := fun w h => (gd_ids wi_X5_gather wm_X5_gather wi_X50 (by decide +kernel) w h).1
theorem dX5_gather_8 : decode cX5_gather 8 = .ok (.aload_n 0, 1) := decA_get dAX5_gather 4 rfl
theorem dX5_gather_9 : decode cX5_gather 9 = .ok (.aload_n 1, 1) := decA_get dAX5_gather 5 rfl
theorem dX5_gather_10 : decode cX5_gather 10 = .ok (.getfield 28, 3) := decA_get dAX5_gather 6 rfl
theorem dX5_gather_13 : decode cX5_gather 13 = .ok (.iload_n 3, 1) := decA_get dAX5_gather 7 rfl
theorem dX5_gather_14 : decode cX5_gather 14 = .ok (.iaload, 1) := decA_get dAX5_gather 8 rfl
theorem dX5_gather_15 : decode cX5_gather 15 = .ok (.putfield 22, 3) := decA_get dAX5_gather 9 rfl
theorem dX5_gather_18 : decode cX5_gather 18 = .ok (.aload_n 2, 1) := decA_get dAX5_gather 10 rfl
theorem dX5_gather_19 : decode cX5_gather 19 = .ok (.iload_n 3, 1) := decA_get dAX5_gather 11 rfl
theorem dX5_gather_20 : decode cX5_gather 20 = .ok (.invokevirtual 30, 3) := decA_get dAX5_gather 12 rfl
set_option maxRecDepth 20000 in
theorem ggX5_gather_X1_creditor : GoodIn wsX5_gather wsX1_creditor := gd_ids wi_X5_gather wm_X5_gather wi_X1_creditor (by decide +kernel)
theorem dX5_gather_23 : decode cX5_gather 23 = .ok (.istore 4, 2) := decA_get dAX5_gather 13 rfl
theorem dX5_gather_25 : decode cX5_gather 25 = .ok (.iconst 0, 1) := decA_get dAX5_gather 14 rfl
theorem dX5_gather_26 : decode cX5_gather 26 = .ok (.istore 5, 2) := decA_get dAX5_gather 15 rfl
theorem dX5_gather_28 : decode cX5_gather 28 = .ok (.iload 5, 2) := decA_get dAX5_gather 16 rfl
theorem dX5_gather_30 : decode cX5_gather 30 = .ok (.aload_n 0, 1) := decA_get dAX5_gather 17 rfl
theorem dX5_gather_31 : decode cX5_gather 31 = .ok (.getfield 18, 3) := decA_get dAX5_gather 18 rfl
theorem dX5_gather_34 : decode cX5_gather 34 = .ok (.if_icmp .ge 51, 3) := decA_get dAX5_gather 19 rfl
theorem dX5_gather_85 : decode cX5_gather 85 = .ok (.return_, 1) := decA_get dAX5_gather 44 rfl
theorem dX5_gather_37 : decode cX5_gather 37 = .ok (.aload_n 0, 1) := decA_get dAX5_gather 20 rfl
theorem dX5_gather_38 : decode cX5_gather 38 = .ok (.getfield 15, 3) := decA_get dAX5_gather 21 rfl
theorem dX5_gather_41 : decode cX5_gather 41 = .ok (.iload 5, 2) := decA_get dAX5_gather 22 rfl
theorem dX5_gather_43 : decode cX5_gather 43 = .ok (.aload_n 1, 1) := decA_get dAX5_gather 23 rfl
theorem dX5_gather_44 : decode cX5_gather 44 = .ok (.getfield 36, 3) := decA_get dAX5_gather 24 rfl
theorem dX5_gather_47 : decode cX5_gather 47 = .ok (.iload 5, 2) := decA_get dAX5_gather 25 rfl
theorem dX5_gather_49 : decode cX5_gather 49 = .ok (.iaload, 1) := decA_get dAX5_gather 26 rfl
theorem dX5_gather_50 : decode cX5_gather 50 = .ok (.iastore, 1) := decA_get dAX5_gather 27 rfl
theorem dX5_gather_51 : decode cX5_gather 51 = .ok (.aload_n 0, 1) := decA_get dAX5_gather 28 rfl
theorem dX5_gather_52 : decode cX5_gather 52 = .ok (.getfield 9, 3) := decA_get dAX5_gather 29 rfl
theorem dX5_gather_55 : decode cX5_gather 55 = .ok (.iload 5, 2) := decA_get dAX5_gather 30 rfl
theorem dX5_gather_57 : decode cX5_gather 57 = .ok (.aload_n 1, 1) := decA_get dAX5_gather 31 rfl
theorem dX5_gather_58 : decode cX5_gather 58 = .ok (.iload 5, 2) := decA_get dAX5_gather 32 rfl
theorem dX5_gather_60 : decode cX5_gather 60 = .ok (.iload 4, 2) := decA_get dAX5_gather 33 rfl
theorem dX5_gather_62 : decode cX5_gather 62 = .ok (.invokevirtual 37, 3) := decA_get dAX5_gather 34 rfl
set_option maxRecDepth 20000 in
theorem ggX5_gather_X0_does : GoodIn wsX5_gather wsX0_does := gd_ids wi_X5_gather wm_X5_gather wi_X0_does (by decide +kernel)
theorem dX5_gather_65 : decode cX5_gather 65 = .ok (.ifCond .eq 12, 3) := decA_get dAX5_gather 35 rfl
theorem dX5_gather_77 : decode cX5_gather 77 = .ok (.iconst 0, 1) := decA_get dAX5_gather 40 rfl
theorem dX5_gather_78 : decode cX5_gather 78 = .ok (.iastore, 1) := decA_get dAX5_gather 41 rfl
theorem dX5_gather_79 : decode cX5_gather 79 = .ok (.iinc 5 1, 3) := decA_get dAX5_gather 42 rfl
theorem dX5_gather_82 : decode cX5_gather 82 = .ok (.goto (-54), 3) := decA_get dAX5_gather 43 rfl
theorem dX5_gather_68 : decode cX5_gather 68 = .ok (.aload_n 2, 1) := decA_get dAX5_gather 36 rfl
theorem dX5_gather_69 : decode cX5_gather 69 = .ok (.iload 5, 2) := decA_get dAX5_gather 37 rfl
theorem dX5_gather_71 : decode cX5_gather 71 = .ok (.invokevirtual 41, 3) := decA_get dAX5_gather 38 rfl
set_option maxRecDepth 20000 in
theorem ggX5_gather_X1_inAll : GoodIn wsX5_gather wsX1_inAll := gd_ids wi_X5_gather wm_X5_gather wi_X1_inAll (by decide +kernel)
theorem dX5_gather_74 : decode cX5_gather 74 = .ok (.goto 4, 3) := decA_get dAX5_gather 39 rfl
set_option maxHeartbeats 4000000 in
set_option maxRecDepth 100000 in
theorem g_gather (l : Launch) (D : va_G) (cI cB cZ cN : ClassId) (Wh : Nat) (Wa0 : Nat) (Wa1 : Nat) (WS : Nat → Nat → Nat) (Lh : Nat) (La1 : Nat) (La2 : Nat) (La4 : Nat) (La5 : Nat) (La7 : Nat) (La8 : Nat) (La9 : Nat) (LS : Nat → Nat → Nat) (Nh : Nat) (Na0 : Nat) (Na1 : Nat) (NS : Nat → Nat → Nat) (v_d : Nat) (hL : LandOk LS) (hN : NowOk NS) (hW : WorldOk WS) (hd : v_d < 5) : Cv (S := (Nat → Nat → Nat)) l D cI cB cZ cN yX5_gather wsX5_gather ({ frames := 2, cells := 0, slots := 0, locals := 45 } : Room) [.ref Wh, .ref Lh, .ref Nh, .int (nI v_d)] [(Wh, .inr (5, [.ref Wa0, .ref Wa1, .int (nI (WS 2 0)), .int (nI (WS 3 0))])), (Wa0, .inl (cI, 6, .inl (nF (WS 0)))), (Wa1, .inl (cI, 6, .inl (nF (WS 1)))), (Lh, .inr (0, [.int (nI (LS 0 0)), .ref La1, .ref La2, .int (nI (LS 3 0)), .ref La4, .ref La5, .int (nI (LS 6 0)), .ref La7, .ref La8, .ref La9, .int (nI (LS 10 0)), .int (nI (LS 11 0))])), (La1, .inl (cI, 6, .inl (nF (LS 1)))), (La2, .inl (cI, 6, .inl (nF (LS 2)))), (La4, .inl (cI, 5, .inl (nF (LS 4)))), (La5, .inl (cI, 30, .inl (nF (LS 5)))), (La7, .inl (cI, 5, .inl (nF (LS 7)))), (La8, .inl (cI, 5, .inl (nF (LS 8)))), (La9, .inl (cI, 5, .inl (nF (LS 9)))), (Nh, .inr (1, [.ref Na0, .ref Na1, .int (nI (NS 2 0))])), (Na0, .inl (cI, 36, .inl (nF (NS 0)))), (Na1, .inl (cI, 360, .inl (nF (NS 1))))] (fun (u : (Nat → Nat → Nat)) => WorldOk u ∧ u 2 0 = LS 0 0 ∧ u 3 0 = LS 9 v_d ∧ WI (u 0) (u 1) LS NS (NS 0 (30 + v_d)) (LS 0 0)) (fun u => [(Wh, .inr (5, [.ref Wa0, .ref Wa1, .int (nI (u 2 0)), .int (nI (u 3 0))])), (Wa0, .inl (cI, 6, .inl (nF (u 0)))), (Wa1, .inl (cI, 6, .inl (nF (u 1)))), (Lh, .inr (0, [.int (nI (LS 0 0)), .ref La1, .ref La2, .int (nI (LS 3 0)), .ref La4, .ref La5, .int (nI (LS 6 0)), .ref La7, .ref La8, .ref La9, .int (nI (LS 10 0)), .int (nI (LS 11 0))])), (La1, .inl (cI, 6, .inl (nF (LS 1)))), (La2, .inl (cI, 6, .inl (nF (LS 2)))), (La4, .inl (cI, 5, .inl (nF (LS 4)))), (La5, .inl (cI, 30, .inl (nF (LS 5)))), (La7, .inl (cI, 5, .inl (nF (LS 7)))), (La8, .inl (cI, 5, .inl (nF (LS 8)))), (La9, .inl (cI, 5, .inl (nF (LS 9)))), (Nh, .inr (1, [.ref Na0, .ref Na1, .int (nI (NS 2 0))])), (Na0, .inl (cI, 36, .inl (nF (NS 0)))), (Na1, .inl (cI, 360, .inl (nF (NS 1))))]) := by
  refine bx_of (D := D) (cI := cI) (cB := cB) (cZ := cZ) (cN := cN) (y := yX5_gather) (wd := wsX5_gather) (rm := ({ frames := 2, cells := 0, slots := 0, locals := 45 } : Room)) (av := [.ref Wh, .ref Lh, .ref Nh, .int (nI v_d)]) (wc := [(Wh, .inr (5, [.ref Wa0, .ref Wa1, .int (nI (WS 2 0)), .int (nI (WS 3 0))])), (Wa0, .inl (cI, 6, .inl (nF (WS 0)))), (Wa1, .inl (cI, 6, .inl (nF (WS 1)))), (Lh, .inr (0, [.int (nI (LS 0 0)), .ref La1, .ref La2, .int (nI (LS 3 0)), .ref La4, .ref La5, .int (nI (LS 6 0)), .ref La7, .ref La8, .ref La9, .int (nI (LS 10 0)), .int (nI (LS 11 0))])), (La1, .inl (cI, 6, .inl (nF (LS 1)))), (La2, .inl (cI, 6, .inl (nF (LS 2)))), (La4, .inl (cI, 5, .inl (nF (LS 4)))), (La5, .inl (cI, 30, .inl (nF (LS 5)))), (La7, .inl (cI, 5, .inl (nF (LS 7)))), (La8, .inl (cI, 5, .inl (nF (LS 8)))), (La9, .inl (cI, 5, .inl (nF (LS 9)))), (Nh, .inr (1, [.ref Na0, .ref Na1, .int (nI (NS 2 0))])), (Na0, .inl (cI, 36, .inl (nF (NS 0)))), (Na1, .inl (cI, 360, .inl (nF (NS 1))))]) (cc := cX5_gather) (maxL := 6) (ret := none) (Qc := fun _ A => va_Qv (S := (Nat → Nat → Nat)) (fun (u : (Nat → Nat → Nat)) => WorldOk u ∧ u 2 0 = LS 0 0 ∧ u 3 0 = LS 9 v_d ∧ WI (u 0) (u 1) LS NS (NS 0 (30 + v_d)) (LS 0 0)) (Aft D (fun (u : (Nat → Nat → Nat)) => [(Wh, .inr (5, [.ref Wa0, .ref Wa1, .int (nI (u 2 0)), .int (nI (u 3 0))])), (Wa0, .inl (cI, 6, .inl (nF (u 0)))), (Wa1, .inl (cI, 6, .inl (nF (u 1)))), (Lh, .inr (0, [.int (nI (LS 0 0)), .ref La1, .ref La2, .int (nI (LS 3 0)), .ref La4, .ref La5, .int (nI (LS 6 0)), .ref La7, .ref La8, .ref La9, .int (nI (LS 10 0)), .int (nI (LS 11 0))])), (La1, .inl (cI, 6, .inl (nF (LS 1)))), (La2, .inl (cI, 6, .inl (nF (LS 2)))), (La4, .inl (cI, 5, .inl (nF (LS 4)))), (La5, .inl (cI, 30, .inl (nF (LS 5)))), (La7, .inl (cI, 5, .inl (nF (LS 7)))), (La8, .inl (cI, 5, .inl (nF (LS 8)))), (La9, .inl (cI, 5, .inl (nF (LS 9)))), (Nh, .inr (1, [.ref Na0, .ref Na1, .int (nI (NS 2 0))])), (Na0, .inl (cI, 36, .inl (nF (NS 0)))), (Na1, .inl (cI, 360, .inl (nF (NS 1))))]) A) A) (by decide) rfl (Nat.le_of_ble_eq_true rfl) ?_
  intro p e s m below meth c A H locs ⟨hx, hb, hr, hml, hown, hts, hlk, hnm⟩ hK hP hD hS hA ls hl
  have hl : lv_has ls 6 [(0, .ref Wh), (1, .ref Lh), (2, .ref Nh), (3, .int (nI v_d))] := hl
  have hown : s.vm.findClass RX5 = some m.cls := hown
  have hL0 := hL
  obtain ⟨bl0, bl3, bl6, bl10, bl11, bl1, bl2, bl4, bl5, bl7, bl8, bl9⟩ := hL
  have bn0 := hN.c99
  have bcr := hN.cr hd
  refine lv_aload_n hx hb dX5_gather_0 rfl (lv_at hl 0 rfl) ?_
  refine lv_aload_n hx hb dX5_gather_1 rfl (lv_at hl 1 rfl) ?_
  refine va_getN (D := D) (ci := 0) (v := .int (nI (LS 0 0))) (C := RX0) (T := TX0) (N := 12) hx hb hts in_X5_gather_0 hown hK.1 hP 3 rfl rfl 0 (by decide) (nfX5_25 hK.2) (fun _ h9 => h9) rfl dX5_gather_2 ?_
  refine va_put (D := D) (ci := 5) (v := .int (nI (LS 0 0))) (ty := tyX5 2) (C := RX5) (T := TX5) (N := 4) hx hb hts in_X5_gather_5 tyX5 tyX5_ok nmX5 hown hK.1 hP hD hS 0 rfl rfl 2 (by decide) (hts (.fieldLink RX5 18 "ChildCoins$World" "coins" "I") (List.mem_of_getElem? (i := 1) rfl)) (fun _ h9 => h9) rfl (tyX5_ok 2 (by decide)) rfl rfl (Nat.le_of_ble_eq_true rfl) dX5_gather_5 (fun H locs hP hD hS => ?_)
  obtain ⟨hP, hD⟩ : wPD D A [(Wh, .inr (5, [.ref Wa0, .ref Wa1, .int (nI (LS 0 0)), .int (nI (WS 3 0))])), (Wa0, .inl (cI, 6, .inl (nF (WS 0)))), (Wa1, .inl (cI, 6, .inl (nF (WS 1)))), (Lh, .inr (0, [.int (nI (LS 0 0)), .ref La1, .ref La2, .int (nI (LS 3 0)), .ref La4, .ref La5, .int (nI (LS 6 0)), .ref La7, .ref La8, .ref La9, .int (nI (LS 10 0)), .int (nI (LS 11 0))])), (La1, .inl (cI, 6, .inl (nF (LS 1)))), (La2, .inl (cI, 6, .inl (nF (LS 2)))), (La4, .inl (cI, 5, .inl (nF (LS 4)))), (La5, .inl (cI, 30, .inl (nF (LS 5)))), (La7, .inl (cI, 5, .inl (nF (LS 7)))), (La8, .inl (cI, 5, .inl (nF (LS 8)))), (La9, .inl (cI, 5, .inl (nF (LS 9)))), (Nh, .inr (1, [.ref Na0, .ref Na1, .int (nI (NS 2 0))])), (Na0, .inl (cI, 36, .inl (nF (NS 0)))), (Na1, .inl (cI, 360, .inl (nF (NS 1))))] H := ⟨hP, hD⟩
  refine lv_aload_n hx hb dX5_gather_8 rfl (lv_at hl 0 rfl) ?_
  refine lv_aload_n hx hb dX5_gather_9 rfl (lv_at hl 1 rfl) ?_
  refine va_getN (D := D) (ci := 0) (v := .ref La9) (C := RX0) (T := TX0) (N := 12) hx hb hts in_X5_gather_0 hown hK.1 hP 3 rfl rfl 9 (by decide) (nfX5_28 hK.2) (fun _ h9 => h9) rfl dX5_gather_10 ?_
  refine lv_iload_n hx hb dX5_gather_13 rfl (lv_at hl 3 rfl) ?_
  refine va_iald hx hb hK.1 hP 10 0 rfl rfl (vp_in_nI (n := v_d) (N := 5) (by omega) (by decide)) dX5_gather_14 ?_
  refine set_i (y := nI (LS 9 v_d)) (nF_ld (by omega)) ?_
  have b1 := bl9 v_d
  refine va_put (D := D) (ci := 5) (v := .int (nI (LS 9 v_d))) (ty := tyX5 3) (C := RX5) (T := TX5) (N := 4) hx hb hts in_X5_gather_5 tyX5 tyX5_ok nmX5 hown hK.1 hP hD hS 0 rfl rfl 3 (by decide) (hts (.fieldLink RX5 22 "ChildCoins$World" "sum" "I") (List.mem_of_getElem? (i := 2) rfl)) (fun _ h9 => h9) rfl (tyX5_ok 3 (by decide)) rfl rfl (Nat.le_of_ble_eq_true rfl) dX5_gather_15 (fun H locs hP hD hS => ?_)
  obtain ⟨hP, hD⟩ : wPD D A [(Wh, .inr (5, [.ref Wa0, .ref Wa1, .int (nI (LS 0 0)), .int (nI (LS 9 v_d))])), (Wa0, .inl (cI, 6, .inl (nF (WS 0)))), (Wa1, .inl (cI, 6, .inl (nF (WS 1)))), (Lh, .inr (0, [.int (nI (LS 0 0)), .ref La1, .ref La2, .int (nI (LS 3 0)), .ref La4, .ref La5, .int (nI (LS 6 0)), .ref La7, .ref La8, .ref La9, .int (nI (LS 10 0)), .int (nI (LS 11 0))])), (La1, .inl (cI, 6, .inl (nF (LS 1)))), (La2, .inl (cI, 6, .inl (nF (LS 2)))), (La4, .inl (cI, 5, .inl (nF (LS 4)))), (La5, .inl (cI, 30, .inl (nF (LS 5)))), (La7, .inl (cI, 5, .inl (nF (LS 7)))), (La8, .inl (cI, 5, .inl (nF (LS 8)))), (La9, .inl (cI, 5, .inl (nF (LS 9)))), (Nh, .inr (1, [.ref Na0, .ref Na1, .int (nI (NS 2 0))])), (Na0, .inl (cI, 36, .inl (nF (NS 0)))), (Na1, .inl (cI, 360, .inl (nF (NS 1))))] H := ⟨hP, hD⟩
  refine lv_aload_n hx hb dX5_gather_18 rfl (lv_at hl 2 rfl) ?_
  refine lv_iload_n hx hb dX5_gather_19 rfl (lv_at hl 3 rfl) ?_
  refine be_i0 (ru_N (C := RX1) (host := "ChildCoins") (As := [.int (nI v_d)]) (rest := []) ⟨hx, hb, hml, hown, hts⟩ (g_creditor l D cI cB cZ cN Nh Na0 Na1 NS v_d hN hd H.size) ggX5_gather_X1_creditor rfl (nmX5_30 hK.2) (hts (.initialized RX1) (List.mem_of_getElem? (i := 6) rfl)) (hts (.instanceMethod yX1_creditor) (List.mem_of_getElem? (i := 5) rfl)) (hts (.selects RX1 yX1_creditor yX1_creditor) (List.mem_of_getElem? (i := 7) rfl)) ⟨by decide, by decide, (show Option.map (fun d => d.parameters.length) (parseMethodDescriptor yX1_creditor.desc) = some 1 by decide +kernel)⟩ ⟨Nat.le_of_ble_eq_true rfl, Nat.le_of_ble_eq_true rfl⟩ hK hP hD 1 11 rfl rfl [11, 12, 13] (by decide) rfl hl.1 rfl (Nat.le_of_ble_eq_true rfl) dX5_gather_20 ⟨Nat.le_of_ble_eq_true rfl, Nat.le_of_ble_eq_true rfl⟩) hP hD hS hA [11, 12, 13] rfl (fun r3 u2 H locs w4 hP hS => ?_)
  obtain rfl : r3 = nI (NS 0 (30 + v_d)) := w4
  refine lv_istore (lv' := [(4, .int (nI (NS 0 (30 + v_d)))), (0, .ref Wh), (1, .ref Lh), (2, .ref Nh), (3, .int (nI v_d))]) hx hb dX5_gather_23 hl (by decide) rfl (fun ls hl => ?_)
  refine lv_iconst (v := nI 0) hx hb dX5_gather_25 (by decide) ?_
  refine lv_istore (lv' := [(5, .int (nI 0)), (4, .int (nI (NS 0 (30 + v_d)))), (0, .ref Wh), (1, .ref Lh), (2, .ref Nh), (3, .int (nI v_d))]) hx hb dX5_gather_26 hl (by decide) rfl (fun ls hl => ?_)
  refine loopS (σ := (Nat → Nat) × (Nat → Nat)) (D := D) (A := A) (fun i1 z1 => WI z1.1 z1.2 LS NS (NS 0 (30 + v_d)) i1) (fun i1 z1 => [(Wh, .inr (5, [.ref Wa0, .ref Wa1, .int (nI (LS 0 0)), .int (nI (LS 9 v_d))])), (Wa0, .inl (cI, 6, .inl (nF (z1.1)))), (Wa1, .inl (cI, 6, .inl (nF (z1.2)))), (Lh, .inr (0, [.int (nI (LS 0 0)), .ref La1, .ref La2, .int (nI (LS 3 0)), .ref La4, .ref La5, .int (nI (LS 6 0)), .ref La7, .ref La8, .ref La9, .int (nI (LS 10 0)), .int (nI (LS 11 0))])), (La1, .inl (cI, 6, .inl (nF (LS 1)))), (La2, .inl (cI, 6, .inl (nF (LS 2)))), (La4, .inl (cI, 5, .inl (nF (LS 4)))), (La5, .inl (cI, 30, .inl (nF (LS 5)))), (La7, .inl (cI, 5, .inl (nF (LS 7)))), (La8, .inl (cI, 5, .inl (nF (LS 8)))), (La9, .inl (cI, 5, .inl (nF (LS 9)))), (Nh, .inr (1, [.ref Na0, .ref Na1, .int (nI (NS 2 0))])), (Na0, .inl (cI, 36, .inl (nF (NS 0)))), (Na1, .inl (cI, 360, .inl (nF (NS 1))))]) (fun i1 z1 => [(0, .ref Wh), (1, .ref Lh), (2, .ref Nh), (3, .int (nI v_d)), (4, .int (nI (NS 0 (30 + v_d)))), (5, .int (nI i1))]) 28 6 (LS 0 0) 0 (Nat.zero_le _) ?_ ?_ (WS 0, WS 1) ⟨hW.2.2.1, hW.2.2.2, fun j hj => absurd hj (by omega)⟩ _ _ ls (by first | exact hP) (by first | exact hD) hS (lv_sub hl [2, 3, 4, 5, 1, 0] rfl)
  · intro z1 hI1 H locs ls hP hD hS hl
    have hl : lv_has ls 6 [(0, .ref Wh), (1, .ref Lh), (2, .ref Nh), (3, .int (nI v_d)), (4, .int (nI (NS 0 (30 + v_d)))), (5, .int (nI (LS 0 0)))] := hl
    obtain ⟨hP, hD⟩ : wPD D A [(Wh, .inr (5, [.ref Wa0, .ref Wa1, .int (nI (LS 0 0)), .int (nI (LS 9 v_d))])), (Wa0, .inl (cI, 6, .inl (nF (z1.1)))), (Wa1, .inl (cI, 6, .inl (nF (z1.2)))), (Lh, .inr (0, [.int (nI (LS 0 0)), .ref La1, .ref La2, .int (nI (LS 3 0)), .ref La4, .ref La5, .int (nI (LS 6 0)), .ref La7, .ref La8, .ref La9, .int (nI (LS 10 0)), .int (nI (LS 11 0))])), (La1, .inl (cI, 6, .inl (nF (LS 1)))), (La2, .inl (cI, 6, .inl (nF (LS 2)))), (La4, .inl (cI, 5, .inl (nF (LS 4)))), (La5, .inl (cI, 30, .inl (nF (LS 5)))), (La7, .inl (cI, 5, .inl (nF (LS 7)))), (La8, .inl (cI, 5, .inl (nF (LS 8)))), (La9, .inl (cI, 5, .inl (nF (LS 9)))), (Nh, .inr (1, [.ref Na0, .ref Na1, .int (nI (NS 2 0))])), (Na0, .inl (cI, 36, .inl (nF (NS 0)))), (Na1, .inl (cI, 360, .inl (nF (NS 1))))] H := ⟨hP, hD⟩
    refine lv_iload hx hb dX5_gather_28 (lv_at hl 5 rfl) ?_
    refine lv_aload_n hx hb dX5_gather_30 rfl (lv_at hl 0 rfl) ?_
    refine va_get (D := D) (ci := 5) (v := .int (nI (LS 0 0))) (C := RX5) (T := TX5) (N := 4) hx hb hts in_X5_gather_5 hown hK.1 hP 0 rfl rfl 2 (by decide) (hts (.fieldLink RX5 18 "ChildCoins$World" "coins" "I") (List.mem_of_getElem? (i := 1) rfl)) (fun _ h9 => h9) rfl dX5_gather_31 ?_
    refine nb_icmp_ge (tgt := 85) hx hb dX5_gather_34 (by decide) (by omega) (by omega) (fun hq5 => ?_) (fun hq5 => absurd hq5 (by omega))
    exact en_v hx hb hr hlk hP hD hS (ua (ua (ua (ua WS 0 (z1.1)) 1 (z1.2)) 2 (fun _ => LS 0 0)) 3 (fun _ => LS 9 v_d)) [0, 1, 2, 3, 4, 5, 6, 7, 8, 9, 10, 11, 12, 13] (by decide) rfl (Nat.le_of_ble_eq_true rfl) (Nat.le_of_ble_eq_true rfl) dX5_gather_85 ⟨⟨bl0, bl9 _, hI1.1, hI1.2.1⟩, rfl, rfl, hI1⟩
  · intro i1 hi01 hi1 z1 hI1 ih1 H locs ls hP hD hS hl
    have hl : lv_has ls 6 [(0, .ref Wh), (1, .ref Lh), (2, .ref Nh), (3, .int (nI v_d)), (4, .int (nI (NS 0 (30 + v_d)))), (5, .int (nI i1))] := hl
    obtain ⟨hP, hD⟩ : wPD D A [(Wh, .inr (5, [.ref Wa0, .ref Wa1, .int (nI (LS 0 0)), .int (nI (LS 9 v_d))])), (Wa0, .inl (cI, 6, .inl (nF (z1.1)))), (Wa1, .inl (cI, 6, .inl (nF (z1.2)))), (Lh, .inr (0, [.int (nI (LS 0 0)), .ref La1, .ref La2, .int (nI (LS 3 0)), .ref La4, .ref La5, .int (nI (LS 6 0)), .ref La7, .ref La8, .ref La9, .int (nI (LS 10 0)), .int (nI (LS 11 0))])), (La1, .inl (cI, 6, .inl (nF (LS 1)))), (La2, .inl (cI, 6, .inl (nF (LS 2)))), (La4, .inl (cI, 5, .inl (nF (LS 4)))), (La5, .inl (cI, 30, .inl (nF (LS 5)))), (La7, .inl (cI, 5, .inl (nF (LS 7)))), (La8, .inl (cI, 5, .inl (nF (LS 8)))), (La9, .inl (cI, 5, .inl (nF (LS 9)))), (Nh, .inr (1, [.ref Na0, .ref Na1, .int (nI (NS 2 0))])), (Na0, .inl (cI, 36, .inl (nF (NS 0)))), (Na1, .inl (cI, 360, .inl (nF (NS 1))))] H := ⟨hP, hD⟩
    refine lv_iload hx hb dX5_gather_28 (lv_at hl 5 rfl) ?_
    refine lv_aload_n hx hb dX5_gather_30 rfl (lv_at hl 0 rfl) ?_
    refine va_get (D := D) (ci := 5) (v := .int (nI (LS 0 0))) (C := RX5) (T := TX5) (N := 4) hx hb hts in_X5_gather_5 hown hK.1 hP 0 rfl rfl 2 (by decide) (hts (.fieldLink RX5 18 "ChildCoins$World" "coins" "I") (List.mem_of_getElem? (i := 1) rfl)) (fun _ h9 => h9) rfl dX5_gather_31 ?_
    refine nb_icmp_ge (tgt := 85) hx hb dX5_gather_34 (by decide) (by omega) (by omega) (fun hq6 => absurd hq6 (by omega)) (fun hq6 => ?_)
    refine lv_aload_n hx hb dX5_gather_37 rfl (lv_at hl 0 rfl) ?_
    refine va_get (D := D) (ci := 5) (v := .ref Wa1) (C := RX5) (T := TX5) (N := 4) hx hb hts in_X5_gather_5 hown hK.1 hP 0 rfl rfl 1 (by decide) (hts (.fieldLink RX5 15 "ChildCoins$World" "worth" "[I") (List.mem_of_getElem? (i := 3) rfl)) (fun _ h9 => h9) rfl dX5_gather_38 ?_
    refine lv_iload hx hb dX5_gather_41 (lv_at hl 5 rfl) ?_
    refine lv_aload_n hx hb dX5_gather_43 rfl (lv_at hl 1 rfl) ?_
    refine va_getN (D := D) (ci := 0) (v := .ref La2) (C := RX0) (T := TX0) (N := 12) hx hb hts in_X5_gather_0 hown hK.1 hP 3 rfl rfl 2 (by decide) (nfX5_36 hK.2) (fun _ h9 => h9) rfl dX5_gather_44 ?_
    refine lv_iload hx hb dX5_gather_47 (lv_at hl 5 rfl) ?_
    refine va_iald hx hb hK.1 hP 5 0 rfl rfl (vp_in_nI (n := i1) (N := 6) (by omega) (by decide)) dX5_gather_49 ?_
    refine set_i (y := nI (LS 2 i1)) (nF_ld (by omega)) ?_
    have b7 := bl2 i1
    refine va_iast hx hb hK.1 hP hD hS 2 0 rfl rfl (vp_in_nI (n := i1) (N := 6) (by omega) (by decide)) dX5_gather_50 (fun H locs hP hD hS => ?_)
    obtain ⟨hP, hD⟩ : wPD D A [(Wh, .inr (5, [.ref Wa0, .ref Wa1, .int (nI (LS 0 0)), .int (nI (LS 9 v_d))])), (Wa0, .inl (cI, 6, .inl (nF (z1.1)))), (Wa1, .inl (cI, 6, .inl (upd (nF (z1.2)) (nI i1).toNatClampNeg (nI (LS 2 i1))))), (Lh, .inr (0, [.int (nI (LS 0 0)), .ref La1, .ref La2, .int (nI (LS 3 0)), .ref La4, .ref La5, .int (nI (LS 6 0)), .ref La7, .ref La8, .ref La9, .int (nI (LS 10 0)), .int (nI (LS 11 0))])), (La1, .inl (cI, 6, .inl (nF (LS 1)))), (La2, .inl (cI, 6, .inl (nF (LS 2)))), (La4, .inl (cI, 5, .inl (nF (LS 4)))), (La5, .inl (cI, 30, .inl (nF (LS 5)))), (La7, .inl (cI, 5, .inl (nF (LS 7)))), (La8, .inl (cI, 5, .inl (nF (LS 8)))), (La9, .inl (cI, 5, .inl (nF (LS 9)))), (Nh, .inr (1, [.ref Na0, .ref Na1, .int (nI (NS 2 0))])), (Na0, .inl (cI, 36, .inl (nF (NS 0)))), (Na1, .inl (cI, 360, .inl (nF (NS 1))))] H := ⟨hP, hD⟩
    rw [nF_st (by omega)] at hP hD
    refine lv_aload_n hx hb dX5_gather_51 rfl (lv_at hl 0 rfl) ?_
    refine va_get (D := D) (ci := 5) (v := .ref Wa0) (C := RX5) (T := TX5) (N := 4) hx hb hts in_X5_gather_5 hown hK.1 hP 0 rfl rfl 0 (by decide) (hts (.fieldLink RX5 9 "ChildCoins$World" "stock" "[I") (List.mem_of_getElem? (i := 4) rfl)) (fun _ h9 => h9) rfl dX5_gather_52 ?_
    refine lv_iload hx hb dX5_gather_55 (lv_at hl 5 rfl) ?_
    refine lv_aload_n hx hb dX5_gather_57 rfl (lv_at hl 1 rfl) ?_
    refine lv_iload hx hb dX5_gather_58 (lv_at hl 5 rfl) ?_
    refine lv_iload hx hb dX5_gather_60 (lv_at hl 4 rfl) ?_
    refine be_i0 (ru_N (C := RX0) (host := "ChildCoins") (As := [.int (nI i1), .int (nI (NS 0 (30 + v_d)))]) (rest := [.int (nI i1), .ref Wa0]) ⟨hx, hb, hml, hown, hts⟩ (g_does l D cI cB cZ cN Lh La1 La2 La4 La5 La7 La8 La9 LS i1 (NS 0 (30 + v_d)) hL0 (by omega) (by omega) H.size) ggX5_gather_X0_does rfl (nmX5_37 hK.2) (hts (.initialized RX0) (List.mem_of_getElem? (i := 11) rfl)) (hts (.instanceMethod yX0_does) (List.mem_of_getElem? (i := 10) rfl)) (hts (.selects RX0 yX0_does yX0_does) (List.mem_of_getElem? (i := 12) rfl)) ⟨by decide, by decide, (show Option.map (fun d => d.parameters.length) (parseMethodDescriptor yX0_does.desc) = some 2 by decide +kernel)⟩ ⟨Nat.le_of_ble_eq_true rfl, Nat.le_of_ble_eq_true rfl⟩ hK hP hD 0 3 rfl rfl [3, 4, 5, 6, 7, 8, 9, 10] (by decide) rfl hl.1 rfl (Nat.le_of_ble_eq_true rfl) dX5_gather_62 ⟨Nat.le_of_ble_eq_true rfl, Nat.le_of_ble_eq_true rfl⟩) hP hD hS hA [3, 4, 5, 6, 7, 8, 9, 10] rfl (fun r9 u8 H locs w10 hP hS => ?_)
    obtain rfl : r9 = nI (doN LS i1 (NS 0 (30 + v_d))) := w10
    have b11 := doN_le LS i1 (NS 0 (30 + v_d))
    refine nb_if_eq (tgt := 77) hx hb dX5_gather_65 (by decide) (by omega) (fun hq12 => ?_) (fun hq12 => ?_)
    · skip
      refine lv_iconst (v := nI 0) hx hb dX5_gather_77 (by decide) ?_
      refine va_iast hx hb hK.1 hP hD hS 1 0 rfl rfl (vp_in_nI (n := i1) (N := 6) (by omega) (by decide)) dX5_gather_78 (fun H locs hP hD hS => ?_)
      obtain ⟨hP, hD⟩ : wPD D A [(Wh, .inr (5, [.ref Wa0, .ref Wa1, .int (nI (LS 0 0)), .int (nI (LS 9 v_d))])), (Wa0, .inl (cI, 6, .inl (upd (nF (z1.1)) (nI i1).toNatClampNeg (nI 0)))), (Wa1, .inl (cI, 6, .inl (nF (un (z1.2) i1 (LS 2 i1))))), (Lh, .inr (0, [.int (nI (LS 0 0)), .ref La1, .ref La2, .int (nI (LS 3 0)), .ref La4, .ref La5, .int (nI (LS 6 0)), .ref La7, .ref La8, .ref La9, .int (nI (LS 10 0)), .int (nI (LS 11 0))])), (La1, .inl (cI, 6, .inl (nF (LS 1)))), (La2, .inl (cI, 6, .inl (nF (LS 2)))), (La4, .inl (cI, 5, .inl (nF (LS 4)))), (La5, .inl (cI, 30, .inl (nF (LS 5)))), (La7, .inl (cI, 5, .inl (nF (LS 7)))), (La8, .inl (cI, 5, .inl (nF (LS 8)))), (La9, .inl (cI, 5, .inl (nF (LS 9)))), (Nh, .inr (1, [.ref Na0, .ref Na1, .int (nI (NS 2 0))])), (Na0, .inl (cI, 36, .inl (nF (NS 0)))), (Na1, .inl (cI, 360, .inl (nF (NS 1))))] H := ⟨hP, hD⟩
      rw [nF_st (by omega)] at hP hD
      refine lv_iinc (v := nI (i1 + 1)) (lv' := [(5, .int (nI (i1 + 1))), (0, .ref Wh), (1, .ref Lh), (2, .ref Nh), (3, .int (nI v_d)), (4, .int (nI (NS 0 (30 + v_d))))]) hx hb dX5_gather_79 hl (k := 5) rfl (nI_add i1 1) (by decide) rfl (fun ls hl => ?_)
      refine lv_goto (tgt := 28) hx hb dX5_gather_82 (by decide) ?_
      have hl : lv_has ls 6 [(0, .ref Wh), (1, .ref Lh), (2, .ref Nh), (3, .int (nI v_d)), (4, .int (nI (NS 0 (30 + v_d)))), (5, .int (nI (i1 + 1)))] := lv_sub hl [1, 2, 3, 4, 5, 0] rfl
      exact ih1 (un (z1.1) i1 0, un (z1.2) i1 (LS 2 i1)) (WI_st hI1 (Nat.zero_le _) (bl2 _) (if_pos hq12).symm) _ _ _ hP hD hS hl
    · skip
      refine lv_aload_n hx hb dX5_gather_68 rfl (lv_at hl 2 rfl) ?_
      refine lv_iload hx hb dX5_gather_69 (lv_at hl 5 rfl) ?_
      refine be_i0 (ru_N (C := RX1) (host := "ChildCoins") (As := [.int (nI i1)]) (rest := [.int (nI i1), .ref Wa0]) ⟨hx, hb, hml, hown, hts⟩ (g_inAll l D cI cB cZ cN Nh Na0 Na1 NS i1 hN (by omega) H.size) ggX5_gather_X1_inAll rfl (nmX5_41 hK.2) (hts (.initialized RX1) (List.mem_of_getElem? (i := 6) rfl)) (hts (.instanceMethod yX1_inAll) (List.mem_of_getElem? (i := 21) rfl)) (hts (.selects RX1 yX1_inAll yX1_inAll) (List.mem_of_getElem? (i := 22) rfl)) ⟨by decide, by decide, (show Option.map (fun d => d.parameters.length) (parseMethodDescriptor yX1_inAll.desc) = some 1 by decide +kernel)⟩ ⟨Nat.le_of_ble_eq_true rfl, Nat.le_of_ble_eq_true rfl⟩ hK hP hD 1 11 rfl rfl [11, 12, 13] (by decide) rfl hl.1 rfl (Nat.le_of_ble_eq_true rfl) dX5_gather_71 ⟨Nat.le_of_ble_eq_true rfl, Nat.le_of_ble_eq_true rfl⟩) hP hD hS hA [11, 12, 13] rfl (fun r14 u13 H locs w15 hP hS => ?_)
      obtain rfl : r14 = nI (sumN (fun q => NS 0 (q * 6 + i1)) 5) := w15
      refine lv_goto (tgt := 78) hx hb dX5_gather_74 (by decide) ?_
      refine va_iast hx hb hK.1 hP hD hS 1 0 rfl rfl (vp_in_nI (n := i1) (N := 6) (by omega) (by decide)) dX5_gather_78 (fun H locs hP hD hS => ?_)
      obtain ⟨hP, hD⟩ : wPD D A [(Wh, .inr (5, [.ref Wa0, .ref Wa1, .int (nI (LS 0 0)), .int (nI (LS 9 v_d))])), (Wa0, .inl (cI, 6, .inl (upd (nF (z1.1)) (nI i1).toNatClampNeg (nI (sumN (fun q => NS 0 (q * 6 + i1)) 5))))), (Wa1, .inl (cI, 6, .inl (nF (un (z1.2) i1 (LS 2 i1))))), (Lh, .inr (0, [.int (nI (LS 0 0)), .ref La1, .ref La2, .int (nI (LS 3 0)), .ref La4, .ref La5, .int (nI (LS 6 0)), .ref La7, .ref La8, .ref La9, .int (nI (LS 10 0)), .int (nI (LS 11 0))])), (La1, .inl (cI, 6, .inl (nF (LS 1)))), (La2, .inl (cI, 6, .inl (nF (LS 2)))), (La4, .inl (cI, 5, .inl (nF (LS 4)))), (La5, .inl (cI, 30, .inl (nF (LS 5)))), (La7, .inl (cI, 5, .inl (nF (LS 7)))), (La8, .inl (cI, 5, .inl (nF (LS 8)))), (La9, .inl (cI, 5, .inl (nF (LS 9)))), (Nh, .inr (1, [.ref Na0, .ref Na1, .int (nI (NS 2 0))])), (Na0, .inl (cI, 36, .inl (nF (NS 0)))), (Na1, .inl (cI, 360, .inl (nF (NS 1))))] H := ⟨hP, hD⟩
      rw [nF_st (by omega)] at hP hD
      refine lv_iinc (v := nI (i1 + 1)) (lv' := [(5, .int (nI (i1 + 1))), (0, .ref Wh), (1, .ref Lh), (2, .ref Nh), (3, .int (nI v_d)), (4, .int (nI (NS 0 (30 + v_d))))]) hx hb dX5_gather_79 hl (k := 5) rfl (nI_add i1 1) (by decide) rfl (fun ls hl => ?_)
      refine lv_goto (tgt := 28) hx hb dX5_gather_82 (by decide) ?_
      have hl : lv_has ls 6 [(0, .ref Wh), (1, .ref Lh), (2, .ref Nh), (3, .int (nI v_d)), (4, .int (nI (NS 0 (30 + v_d)))), (5, .int (nI (i1 + 1)))] := lv_sub hl [1, 2, 3, 4, 5, 0] rfl
      exact ih1 (un (z1.1) i1 (sumN (fun q => NS 0 (q * 6 + i1)) 5), un (z1.2) i1 (LS 2 i1)) (WI_st hI1 (sumN_le (fun j => hN.c99 _) 5) (bl2 _) (if_neg (Nat.ne_of_gt hq12)).symm) _ _ _ hP hD hS hl
