set_option maxRecDepth 20000 in
theorem dAX3_read : decA cX3_read [(0, .aload_n 0, 1), (1, .aload_n 1, 1), (2, .putfield 9, 3), (5, .aload_n 0, 1), (6, .iload_n 2, 1), (7, .aload_n 1, 1), (8, .arraylength, 1), (9, .invokestatic 31, 3), (12, .putfield 15, 3), (15, .aload_n 0, 1), (16, .iconst 0, 1), (17, .putfield 19, 3), (20, .aload_n 3, 1), (21, .invokevirtual 37, 3), (24, .iconst 0, 1), (25, .istore 4, 2), (27, .iconst 0, 1), (28, .istore 5, 2), (30, .iload 5, 2), (32, .sipush 180, 3), (35, .if_icmp .gt 42, 3), (38, .aload_n 0, 1), (39, .invokevirtual 42, 3), (42, .aload_n 0, 1), (43, .getfield 25, 3), (46, .ifCond .ne 6, 3), (49, .goto 28, 3), (52, .aload_n 0, 1), (53, .aload_n 3, 1), (54, .invokevirtual 45, 3), (57, .ifCond .ne 11, 3), (60, .bipush (-10), 2), (62, .aload_n 0, 1), (63, .getfield 22, 3), (66, .isub, 1), (67, .ireturn, 1), (68, .iinc 4 1, 3), (71, .iinc 5 1, 3), (74, .goto (-44), 3), (77, .iload 4, 2), (79, .ireturn, 1)] = true := by decide +kernel
theorem dX3_read_0 : decode cX3_read 0 = .ok (.aload_n 0, 1) := decA_get dAX3_read 0 rfl
theorem dX3_read_1 : decode cX3_read 1 = .ok (.aload_n 1, 1) := decA_get dAX3_read 1 rfl
theorem dX3_read_2 : decode cX3_read 2 = .ok (.putfield 9, 3) := decA_get dAX3_read 2 rfl
theorem in_X3_read_3 : ∀ w ∈ wsX30, w ∈ wsX3_read := fun w h => (gd_ids wi_X3_read wm_X3_read wi_X30 (by decide +kernel) w h).1
theorem dX3_read_5 : decode cX3_read 5 = .ok (.aload_n 0, 1) := decA_get dAX3_read 3 rfl
theorem dX3_read_6 : decode cX3_read 6 = .ok (.iload_n 2, 1) := decA_get dAX3_read 4 rfl
theorem dX3_read_7 : decode cX3_read 7 = .ok (.aload_n 1, 1) := decA_get dAX3_read 5 rfl
theorem dX3_read_8 : decode cX3_read 8 = .ok (.arraylength, 1) := decA_get dAX3_read 6 rfl
theorem dX3_read_9 : decode cX3_read 9 = .ok (.invokestatic 31, 3) := decA_get dAX3_read 7 rfl
theorem dX3_read_12 : decode cX3_read 12 = .ok (.putfield 15, 3) := decA_get dAX3_read 8 rfl
theorem dX3_read_15 : decode cX3_read 15 = .ok (.aload_n 0, 1) := decA_get dAX3_read 9 rfl
theorem dX3_read_16 : decode cX3_read 16 = .ok (.iconst 0, 1) := decA_get dAX3_read 10 rfl
theorem dX3_read_17 : decode cX3_read 17 = .ok (.putfield 19, 3) := decA_get dAX3_read 11 rfl
theorem dX3_read_20 : decode cX3_read 20 = .ok (.aload_n 3, 1) := decA_get dAX3_read 12 rfl
theorem dX3_read_21 : decode cX3_read 21 = .ok (.invokevirtual 37, 3) := decA_get dAX3_read 13 rfl
set_option maxRecDepth 20000 in
theorem ggX3_read_X0_empty : GoodIn wsX3_read wsX0_empty := gd_ids wi_X3_read wm_X3_read wi_X0_empty (by decide +kernel)
theorem dX3_read_24 : decode cX3_read 24 = .ok (.iconst 0, 1) := decA_get dAX3_read 14 rfl
theorem dX3_read_25 : decode cX3_read 25 = .ok (.istore 4, 2) := decA_get dAX3_read 15 rfl
theorem dX3_read_27 : decode cX3_read 27 = .ok (.iconst 0, 1) := decA_get dAX3_read 16 rfl
theorem dX3_read_28 : decode cX3_read 28 = .ok (.istore 5, 2) := decA_get dAX3_read 17 rfl
theorem dX3_read_30 : decode cX3_read 30 = .ok (.iload 5, 2) := decA_get dAX3_read 18 rfl
theorem dX3_read_32 : decode cX3_read 32 = .ok (.sipush 180, 3) := decA_get dAX3_read 19 rfl
theorem dX3_read_35 : decode cX3_read 35 = .ok (.if_icmp .gt 42, 3) := decA_get dAX3_read 20 rfl
theorem dX3_read_77 : decode cX3_read 77 = .ok (.iload 4, 2) := decA_get dAX3_read 39 rfl
theorem dX3_read_79 : decode cX3_read 79 = .ok (.ireturn, 1) := decA_get dAX3_read 40 rfl
theorem dX3_read_38 : decode cX3_read 38 = .ok (.aload_n 0, 1) := decA_get dAX3_read 21 rfl
theorem dX3_read_39 : decode cX3_read 39 = .ok (.invokevirtual 42, 3) := decA_get dAX3_read 22 rfl
set_option maxRecDepth 20000 in
theorem ggX3_read_X3_step : GoodIn wsX3_read wsX3_step := gd_ids wi_X3_read wm_X3_read wi_X3_step (by decide +kernel)
set_option maxRecDepth 20000 in
theorem gX3_read_X3_step : GoodIn wsX3_read (wsV RX3 42 RX3 yX3_step wsX3_step) := goodIn_app (gd_ids wi_X3_read wm_X3_read (b := [188, 189, 190, 180]) rfl (by decide +kernel)) ggX3_read_X3_step
theorem dX3_read_42 : decode cX3_read 42 = .ok (.aload_n 0, 1) := decA_get dAX3_read 23 rfl
theorem dX3_read_43 : decode cX3_read 43 = .ok (.getfield 25, 3) := decA_get dAX3_read 24 rfl
theorem dX3_read_46 : decode cX3_read 46 = .ok (.ifCond .ne 6, 3) := decA_get dAX3_read 25 rfl
theorem dX3_read_52 : decode cX3_read 52 = .ok (.aload_n 0, 1) := decA_get dAX3_read 27 rfl
theorem dX3_read_53 : decode cX3_read 53 = .ok (.aload_n 3, 1) := decA_get dAX3_read 28 rfl
theorem dX3_read_54 : decode cX3_read 54 = .ok (.invokevirtual 45, 3) := decA_get dAX3_read 29 rfl
set_option maxRecDepth 20000 in
theorem ggX3_read_X3_readItem : GoodIn wsX3_read wsX3_readItem := gd_ids wi_X3_read wm_X3_read wi_X3_readItem (by decide +kernel)
set_option maxRecDepth 20000 in
theorem gX3_read_X3_readItem : GoodIn wsX3_read (wsV RX3 45 RX3 yX3_readItem wsX3_readItem) := goodIn_app (gd_ids wi_X3_read wm_X3_read (b := [225, 226, 227, 180]) rfl (by decide +kernel)) ggX3_read_X3_readItem
theorem dX3_read_57 : decode cX3_read 57 = .ok (.ifCond .ne 11, 3) := decA_get dAX3_read 30 rfl
theorem dX3_read_68 : decode cX3_read 68 = .ok (.iinc 4 1, 3) := decA_get dAX3_read 36 rfl
theorem dX3_read_71 : decode cX3_read 71 = .ok (.iinc 5 1, 3) := decA_get dAX3_read 37 rfl
theorem dX3_read_74 : decode cX3_read 74 = .ok (.goto (-44), 3) := decA_get dAX3_read 38 rfl
theorem dX3_read_60 : decode cX3_read 60 = .ok (.bipush (-10), 2) := decA_get dAX3_read 31 rfl
theorem dX3_read_62 : decode cX3_read 62 = .ok (.aload_n 0, 1) := decA_get dAX3_read 32 rfl
theorem dX3_read_63 : decode cX3_read 63 = .ok (.getfield 22, 3) := decA_get dAX3_read 33 rfl
theorem dX3_read_66 : decode cX3_read 66 = .ok (.isub, 1) := decA_get dAX3_read 34 rfl
theorem dX3_read_67 : decode cX3_read 67 = .ok (.ireturn, 1) := decA_get dAX3_read 35 rfl
theorem dX3_read_49 : decode cX3_read 49 = .ok (.goto 28, 3) := decA_get dAX3_read 26 rfl
set_option maxHeartbeats 4000000 in
set_option maxRecDepth 100000 in
theorem g_read (l : Launch) (D : va_G) (cI cB cZ cN : ClassId) (Rh : Nat) (Rr0 : Nat) (RS : Nat → Nat → Nat) (Th : Nat) (TS : Nat → Nat → Nat) (Lh : Nat) (La1 : Nat) (La2 : Nat) (La4 : Nat) (La5 : Nat) (La7 : Nat) (La8 : Nat) (La9 : Nat) (LS : Nat → Nat → Nat) (v_n : Nat) (hT : ∀ j, TS 0 j < 256) (hn : v_n ≤ 180) (hL : LandOk LS) : Ci (S := (Nat → Nat → Nat) × (Nat → Nat → Nat)) l D cI cB cZ cN yX3_read wsX3_read ({ frames := 5, cells := 0, slots := 0, locals := 108 } : Room) [.ref Rh, .ref Th, .int (nI v_n), .ref Lh] [(Rh, .inr (3, [.ref Rr0, .int (nI (RS 1 0)), .int (nI (RS 2 0)), .int (nI (RS 3 0)), .int (nI (RS 4 0)), .int (nI (RS 5 0))])), (Th, .inl (cI, 180, .inl (nF (TS 0)))), (Lh, .inr (0, [.int (nI (LS 0 0)), .ref La1, .ref La2, .int (nI (LS 3 0)), .ref La4, .ref La5, .int (nI (LS 6 0)), .ref La7, .ref La8, .ref La9, .int (nI (LS 10 0)), .int (nI (LS 11 0))])), (La1, .inl (cI, 6, .inl (nF (LS 1)))), (La2, .inl (cI, 6, .inl (nF (LS 2)))), (La4, .inl (cI, 5, .inl (nF (LS 4)))), (La5, .inl (cI, 30, .inl (nF (LS 5)))), (La7, .inl (cI, 5, .inl (nF (LS 7)))), (La8, .inl (cI, 5, .inl (nF (LS 8)))), (La9, .inl (cI, 5, .inl (nF (LS 9))))] (fun (r : Int32) (u : (Nat → Nat → Nat) × (Nat → Nat → Nat)) => r = (rdF (TS 0) v_n 181 0 0 (emptyN LS)).1 ∧ u.2 = (rdF (TS 0) v_n 181 0 0 (emptyN LS)).2 ∧ LandOk u.2) (fun u => [(Rh, .inr (3, [.ref Th, .int (nI (u.1 1 0)), .int (nI (u.1 2 0)), .int (nI (u.1 3 0)), .int (nI (u.1 4 0)), .int (nI (u.1 5 0))])), (Th, .inl (cI, 180, .inl (nF (TS 0)))), (Lh, .inr (0, [.int (nI (u.2 0 0)), .ref La1, .ref La2, .int (nI (u.2 3 0)), .ref La4, .ref La5, .int (nI (u.2 6 0)), .ref La7, .ref La8, .ref La9, .int (nI (u.2 10 0)), .int (nI (u.2 11 0))])), (La1, .inl (cI, 6, .inl (nF (u.2 1)))), (La2, .inl (cI, 6, .inl (nF (u.2 2)))), (La4, .inl (cI, 5, .inl (nF (u.2 4)))), (La5, .inl (cI, 30, .inl (nF (u.2 5)))), (La7, .inl (cI, 5, .inl (nF (u.2 7)))), (La8, .inl (cI, 5, .inl (nF (u.2 8)))), (La9, .inl (cI, 5, .inl (nF (u.2 9))))]) := by
  refine bx_of (D := D) (cI := cI) (cB := cB) (cZ := cZ) (cN := cN) (y := yX3_read) (wd := wsX3_read) (rm := ({ frames := 5, cells := 0, slots := 0, locals := 108 } : Room)) (av := [.ref Rh, .ref Th, .int (nI v_n), .ref Lh]) (wc := [(Rh, .inr (3, [.ref Rr0, .int (nI (RS 1 0)), .int (nI (RS 2 0)), .int (nI (RS 3 0)), .int (nI (RS 4 0)), .int (nI (RS 5 0))])), (Th, .inl (cI, 180, .inl (nF (TS 0)))), (Lh, .inr (0, [.int (nI (LS 0 0)), .ref La1, .ref La2, .int (nI (LS 3 0)), .ref La4, .ref La5, .int (nI (LS 6 0)), .ref La7, .ref La8, .ref La9, .int (nI (LS 10 0)), .int (nI (LS 11 0))])), (La1, .inl (cI, 6, .inl (nF (LS 1)))), (La2, .inl (cI, 6, .inl (nF (LS 2)))), (La4, .inl (cI, 5, .inl (nF (LS 4)))), (La5, .inl (cI, 30, .inl (nF (LS 5)))), (La7, .inl (cI, 5, .inl (nF (LS 7)))), (La8, .inl (cI, 5, .inl (nF (LS 8)))), (La9, .inl (cI, 5, .inl (nF (LS 9))))]) (cc := cX3_read) (maxL := 6) (ret := (some .int)) (Qc := fun _ A => va_Qi (S := (Nat → Nat → Nat) × (Nat → Nat → Nat)) (fun (r : Int32) (u : (Nat → Nat → Nat) × (Nat → Nat → Nat)) => r = (rdF (TS 0) v_n 181 0 0 (emptyN LS)).1 ∧ u.2 = (rdF (TS 0) v_n 181 0 0 (emptyN LS)).2 ∧ LandOk u.2) (Aft D (fun (u : (Nat → Nat → Nat) × (Nat → Nat → Nat)) => [(Rh, .inr (3, [.ref Th, .int (nI (u.1 1 0)), .int (nI (u.1 2 0)), .int (nI (u.1 3 0)), .int (nI (u.1 4 0)), .int (nI (u.1 5 0))])), (Th, .inl (cI, 180, .inl (nF (TS 0)))), (Lh, .inr (0, [.int (nI (u.2 0 0)), .ref La1, .ref La2, .int (nI (u.2 3 0)), .ref La4, .ref La5, .int (nI (u.2 6 0)), .ref La7, .ref La8, .ref La9, .int (nI (u.2 10 0)), .int (nI (u.2 11 0))])), (La1, .inl (cI, 6, .inl (nF (u.2 1)))), (La2, .inl (cI, 6, .inl (nF (u.2 2)))), (La4, .inl (cI, 5, .inl (nF (u.2 4)))), (La5, .inl (cI, 30, .inl (nF (u.2 5)))), (La7, .inl (cI, 5, .inl (nF (u.2 7)))), (La8, .inl (cI, 5, .inl (nF (u.2 8)))), (La9, .inl (cI, 5, .inl (nF (u.2 9))))]) A) A) (by decide) rfl (Nat.le_of_ble_eq_true rfl) ?_
  intro p e s m below meth c A H locs ⟨hx, hb, hr, hml, hown, hts, hlk, hnm⟩ hK hP hD hS hA ls hl
  have hl : lv_has ls 6 [(0, .ref Rh), (1, .ref Th), (2, .int (nI v_n)), (3, .ref Lh)] := hl
  have hown : s.vm.findClass RX3 = some m.cls := hown
  have hL0 := hL
  refine lv_aload_n hx hb dX3_read_0 rfl (lv_at hl 0 rfl) ?_
  refine lv_aload_n hx hb dX3_read_1 rfl (lv_at hl 1 rfl) ?_
  refine va_put (D := D) (ci := 3) (v := .ref Th) (ty := tyX3 0) (C := RX3) (T := TX3) (N := 6) hx hb hts in_X3_read_3 tyX3 tyX3_ok nmX3 hown hK.1 hP hD hS 0 rfl rfl 0 (by decide) (hts (.fieldLink RX3 9 "ChildCoins$Reader" "bytes" "[I") (List.mem_of_getElem? (i := 1) rfl)) (fun _ h9 => h9) rfl (tyX3_ok 0 (by decide)) rfl rfl (Nat.le_of_ble_eq_true rfl) dX3_read_2 (fun H locs hP hD hS => ?_)
  obtain ⟨hP, hD⟩ : wPD D A [(Rh, .inr (3, [.ref Th, .int (nI (RS 1 0)), .int (nI (RS 2 0)), .int (nI (RS 3 0)), .int (nI (RS 4 0)), .int (nI (RS 5 0))])), (Th, .inl (cI, 180, .inl (nF (TS 0)))), (Lh, .inr (0, [.int (nI (LS 0 0)), .ref La1, .ref La2, .int (nI (LS 3 0)), .ref La4, .ref La5, .int (nI (LS 6 0)), .ref La7, .ref La8, .ref La9, .int (nI (LS 10 0)), .int (nI (LS 11 0))])), (La1, .inl (cI, 6, .inl (nF (LS 1)))), (La2, .inl (cI, 6, .inl (nF (LS 2)))), (La4, .inl (cI, 5, .inl (nF (LS 4)))), (La5, .inl (cI, 30, .inl (nF (LS 5)))), (La7, .inl (cI, 5, .inl (nF (LS 7)))), (La8, .inl (cI, 5, .inl (nF (LS 8)))), (La9, .inl (cI, 5, .inl (nF (LS 9))))] H := ⟨hP, hD⟩
  refine lv_aload_n hx hb dX3_read_5 rfl (lv_at hl 0 rfl) ?_
  refine lv_iload_n hx hb dX3_read_6 rfl (lv_at hl 2 rfl) ?_
  refine lv_aload_n hx hb dX3_read_7 rfl (lv_at hl 1 rfl) ?_
  refine va_alen hx hb hK.1 hP 1 0 rfl rfl (v := nI 180) rfl dX3_read_8 ?_
  refine va_mmin hx hb (hml.trans hl.1.symm) hown (hts (.methodLink RX3 31 Lib.Math.min.name) (List.mem_of_getElem? (i := 2) rfl)) (hts (.static Lib.Math.min.name) (List.mem_of_getElem? (i := 3) rfl)) (hts (.initialized "java/lang/Math") (List.mem_of_getElem? (i := 4) rfl)) (hts (.code Lib.Math.min.name Lib.Math.min.code 2 (some .int)) (List.mem_of_getElem? (i := 5) rfl)) (Nat.le_of_ble_eq_true rfl) (Nat.le_of_ble_eq_true rfl) (Nat.le_of_ble_eq_true rfl) (Nat.le_of_ble_eq_true rfl) dX3_read_9 ?_
  refine set_i (y := nI v_n) (min_r (by omega) (by decide)) ?_
  refine va_put (D := D) (ci := 3) (v := .int (nI v_n)) (ty := tyX3 1) (C := RX3) (T := TX3) (N := 6) hx hb hts in_X3_read_3 tyX3 tyX3_ok nmX3 hown hK.1 hP hD hS 0 rfl rfl 1 (by decide) (hts (.fieldLink RX3 15 "ChildCoins$Reader" "length" "I") (List.mem_of_getElem? (i := 6) rfl)) (fun _ h9 => h9) rfl (tyX3_ok 1 (by decide)) rfl rfl (Nat.le_of_ble_eq_true rfl) dX3_read_12 (fun H locs hP hD hS => ?_)
  obtain ⟨hP, hD⟩ : wPD D A [(Rh, .inr (3, [.ref Th, .int (nI v_n), .int (nI (RS 2 0)), .int (nI (RS 3 0)), .int (nI (RS 4 0)), .int (nI (RS 5 0))])), (Th, .inl (cI, 180, .inl (nF (TS 0)))), (Lh, .inr (0, [.int (nI (LS 0 0)), .ref La1, .ref La2, .int (nI (LS 3 0)), .ref La4, .ref La5, .int (nI (LS 6 0)), .ref La7, .ref La8, .ref La9, .int (nI (LS 10 0)), .int (nI (LS 11 0))])), (La1, .inl (cI, 6, .inl (nF (LS 1)))), (La2, .inl (cI, 6, .inl (nF (LS 2)))), (La4, .inl (cI, 5, .inl (nF (LS 4)))), (La5, .inl (cI, 30, .inl (nF (LS 5)))), (La7, .inl (cI, 5, .inl (nF (LS 7)))), (La8, .inl (cI, 5, .inl (nF (LS 8)))), (La9, .inl (cI, 5, .inl (nF (LS 9))))] H := ⟨hP, hD⟩
  refine lv_aload_n hx hb dX3_read_15 rfl (lv_at hl 0 rfl) ?_
  refine lv_iconst (v := nI 0) hx hb dX3_read_16 (by decide) ?_
  refine va_put (D := D) (ci := 3) (v := .int (nI 0)) (ty := tyX3 2) (C := RX3) (T := TX3) (N := 6) hx hb hts in_X3_read_3 tyX3 tyX3_ok nmX3 hown hK.1 hP hD hS 0 rfl rfl 2 (by decide) (hts (.fieldLink RX3 19 "ChildCoins$Reader" "at" "I") (List.mem_of_getElem? (i := 7) rfl)) (fun _ h9 => h9) rfl (tyX3_ok 2 (by decide)) rfl rfl (Nat.le_of_ble_eq_true rfl) dX3_read_17 (fun H locs hP hD hS => ?_)
  obtain ⟨hP, hD⟩ : wPD D A [(Rh, .inr (3, [.ref Th, .int (nI v_n), .int (nI 0), .int (nI (RS 3 0)), .int (nI (RS 4 0)), .int (nI (RS 5 0))])), (Th, .inl (cI, 180, .inl (nF (TS 0)))), (Lh, .inr (0, [.int (nI (LS 0 0)), .ref La1, .ref La2, .int (nI (LS 3 0)), .ref La4, .ref La5, .int (nI (LS 6 0)), .ref La7, .ref La8, .ref La9, .int (nI (LS 10 0)), .int (nI (LS 11 0))])), (La1, .inl (cI, 6, .inl (nF (LS 1)))), (La2, .inl (cI, 6, .inl (nF (LS 2)))), (La4, .inl (cI, 5, .inl (nF (LS 4)))), (La5, .inl (cI, 30, .inl (nF (LS 5)))), (La7, .inl (cI, 5, .inl (nF (LS 7)))), (La8, .inl (cI, 5, .inl (nF (LS 8)))), (La9, .inl (cI, 5, .inl (nF (LS 9))))] H := ⟨hP, hD⟩
  refine lv_aload_n hx hb dX3_read_20 rfl (lv_at hl 3 rfl) ?_
  refine be_v (free := fun _ => False) (wr := [(Rh, .inr (3, [.ref Th, .int (nI v_n), .int (nI 0), .int (nI (RS 3 0)), .int (nI (RS 4 0)), .int (nI (RS 5 0))])), (Th, .inl (cI, 180, .inl (nF (TS 0))))]) (ru_N (C := RX0) (host := "ChildCoins") (As := []) (rest := []) ⟨hx, hb, hml, hown, hts⟩ (g_empty l D cI cB cZ cN Lh La1 La2 La4 La5 La7 La8 La9 LS H.size) ggX3_read_X0_empty rfl (nmX3_37 hK.2) (hts (.initialized RX0) (List.mem_of_getElem? (i := 11) rfl)) (hts (.instanceMethod yX0_empty) (List.mem_of_getElem? (i := 10) rfl)) (hts (.selects RX0 yX0_empty yX0_empty) (List.mem_of_getElem? (i := 12) rfl)) ⟨by decide, by decide, (show Option.map (fun d => d.parameters.length) (parseMethodDescriptor yX0_empty.desc) = some 0 by decide +kernel)⟩ ⟨Nat.le_of_ble_eq_true rfl, Nat.le_of_ble_eq_true rfl⟩ hK hP hD 0 2 rfl rfl [2, 3, 4, 5, 6, 7, 8, 9] (by decide) rfl hl.1 rfl (Nat.le_of_ble_eq_true rfl) dX3_read_21 ⟨Nat.le_of_ble_eq_true rfl, Nat.le_of_ble_eq_true rfl⟩) hP hD hS hA [2, 3, 4, 5, 6, 7, 8, 9] [0, 1] rfl rfl (by decide) (by decide) (fun u1 H locs w3 hP hD hS => ?_)
  subst w3
  obtain ⟨hP, hD⟩ : wPD D A [(Rh, .inr (3, [.ref Th, .int (nI v_n), .int (nI 0), .int (nI (RS 3 0)), .int (nI (RS 4 0)), .int (nI (RS 5 0))])), (Th, .inl (cI, 180, .inl (nF (TS 0)))), (Lh, .inr (0, [.int (nI ((emptyN LS) 0 0)), .ref La1, .ref La2, .int (nI ((emptyN LS) 3 0)), .ref La4, .ref La5, .int (nI ((emptyN LS) 6 0)), .ref La7, .ref La8, .ref La9, .int (nI ((emptyN LS) 10 0)), .int (nI ((emptyN LS) 11 0))])), (La1, .inl (cI, 6, .inl (nF ((emptyN LS) 1)))), (La2, .inl (cI, 6, .inl (nF ((emptyN LS) 2)))), (La4, .inl (cI, 5, .inl (nF ((emptyN LS) 4)))), (La5, .inl (cI, 30, .inl (nF ((emptyN LS) 5)))), (La7, .inl (cI, 5, .inl (nF ((emptyN LS) 7)))), (La8, .inl (cI, 5, .inl (nF ((emptyN LS) 8)))), (La9, .inl (cI, 5, .inl (nF ((emptyN LS) 9))))] H := ⟨hP, hD⟩
  refine lv_iconst (v := nI 0) hx hb dX3_read_24 (by decide) ?_
  refine lv_istore (lv' := [(4, .int (nI 0)), (0, .ref Rh), (1, .ref Th), (2, .int (nI v_n)), (3, .ref Lh)]) hx hb dX3_read_25 hl (by decide) rfl (fun ls hl => ?_)
  refine lv_iconst (v := nI 0) hx hb dX3_read_27 (by decide) ?_
  refine lv_istore (lv' := [(5, .int (nI 0)), (4, .int (nI 0)), (0, .ref Rh), (1, .ref Th), (2, .int (nI v_n)), (3, .ref Lh)]) hx hb dX3_read_28 hl (by decide) rfl (fun ls hl => ?_)
  refine loopS (σ := Ls × Ls × Nat) (D := D) (A := A) (fun i z => z.1 1 0 = v_n ∧ z.1 2 0 = z.2.2 ∧ z.2.2 ≤ v_n ∧ LandOk z.2.1 ∧ rdF (TS 0) v_n (181 - i) z.2.2 i z.2.1 = rdF (TS 0) v_n 181 0 0 (emptyN LS)) (fun i z => [(Rh, .inr (3, [.ref Th, .int (nI (z.1 1 0)), .int (nI (z.1 2 0)), .int (nI (z.1 3 0)), .int (nI (z.1 4 0)), .int (nI (z.1 5 0))])), (Th, .inl (cI, 180, .inl (nF (TS 0)))), (Lh, .inr (0, [.int (nI (z.2.1 0 0)), .ref La1, .ref La2, .int (nI (z.2.1 3 0)), .ref La4, .ref La5, .int (nI (z.2.1 6 0)), .ref La7, .ref La8, .ref La9, .int (nI (z.2.1 10 0)), .int (nI (z.2.1 11 0))])), (La1, .inl (cI, 6, .inl (nF (z.2.1 1)))), (La2, .inl (cI, 6, .inl (nF (z.2.1 2)))), (La4, .inl (cI, 5, .inl (nF (z.2.1 4)))), (La5, .inl (cI, 30, .inl (nF (z.2.1 5)))), (La7, .inl (cI, 5, .inl (nF (z.2.1 7)))), (La8, .inl (cI, 5, .inl (nF (z.2.1 8)))), (La9, .inl (cI, 5, .inl (nF (z.2.1 9))))]) (fun i z => [(0, .ref Rh), (1, .ref Th), (2, .int (nI v_n)), (3, .ref Lh), (4, .int (nI i)), (5, .int (nI i))]) 30 6 181 0 (Nat.zero_le _) ?_ ?_ (ua (ua RS 1 (fun _ => v_n)) 2 (fun _ => 0), emptyN LS, 0) ⟨rfl, rfl, Nat.zero_le _, emptyN_ok hL0, rfl⟩ _ _ ls hP hD hS (lv_sub hl [2, 3, 4, 5, 1, 0] rfl)
  · intro z hI H locs ls hP hD hS hl
    have hl : lv_has ls 6 [(0, .ref Rh), (1, .ref Th), (2, .int (nI v_n)), (3, .ref Lh), (4, .int (nI 181)), (5, .int (nI 181))] := hl
    obtain ⟨j1, j2, j3, j4, j5⟩ := hI
    obtain ⟨hP, hD⟩ : wPD D A [(Rh, .inr (3, [.ref Th, .int (nI (z.1 1 0)), .int (nI (z.1 2 0)), .int (nI (z.1 3 0)), .int (nI (z.1 4 0)), .int (nI (z.1 5 0))])), (Th, .inl (cI, 180, .inl (nF (TS 0)))), (Lh, .inr (0, [.int (nI (z.2.1 0 0)), .ref La1, .ref La2, .int (nI (z.2.1 3 0)), .ref La4, .ref La5, .int (nI (z.2.1 6 0)), .ref La7, .ref La8, .ref La9, .int (nI (z.2.1 10 0)), .int (nI (z.2.1 11 0))])), (La1, .inl (cI, 6, .inl (nF (z.2.1 1)))), (La2, .inl (cI, 6, .inl (nF (z.2.1 2)))), (La4, .inl (cI, 5, .inl (nF (z.2.1 4)))), (La5, .inl (cI, 30, .inl (nF (z.2.1 5)))), (La7, .inl (cI, 5, .inl (nF (z.2.1 7)))), (La8, .inl (cI, 5, .inl (nF (z.2.1 8)))), (La9, .inl (cI, 5, .inl (nF (z.2.1 9))))] H := ⟨hP, hD⟩
    refine lv_iload hx hb dX3_read_30 (lv_at hl 5 rfl) ?_
    refine lv_sipush (v := nI 180) hx hb dX3_read_32 (by decide) ?_
    refine nb_icmp_gt (tgt := 77) hx hb dX3_read_35 (by decide) (by omega) (by omega) (fun hq4 => ?_) (fun hq4 => absurd hq4 (by omega))
    refine lv_iload hx hb dX3_read_77 (lv_at hl 4 rfl) ?_
    exact en_i hx hb hr hlk hP hD hS (z.1, z.2.1) [0, 1, 2, 3, 4, 5, 6, 7, 8, 9] (by decide) rfl (Nat.le_of_ble_eq_true rfl) (Nat.le_of_ble_eq_true rfl) dX3_read_79 ⟨congrArg Prod.fst j5, congrArg Prod.snd j5, j4⟩
  · intro i hi0 hi z hI ih H locs ls hP hD hS hl
    have hl : lv_has ls 6 [(0, .ref Rh), (1, .ref Th), (2, .int (nI v_n)), (3, .ref Lh), (4, .int (nI i)), (5, .int (nI i))] := hl
    obtain ⟨j1, j2, j3, j4, j5⟩ := hI
    obtain ⟨hP, hD⟩ : wPD D A [(Rh, .inr (3, [.ref Th, .int (nI (z.1 1 0)), .int (nI (z.1 2 0)), .int (nI (z.1 3 0)), .int (nI (z.1 4 0)), .int (nI (z.1 5 0))])), (Th, .inl (cI, 180, .inl (nF (TS 0)))), (Lh, .inr (0, [.int (nI (z.2.1 0 0)), .ref La1, .ref La2, .int (nI (z.2.1 3 0)), .ref La4, .ref La5, .int (nI (z.2.1 6 0)), .ref La7, .ref La8, .ref La9, .int (nI (z.2.1 10 0)), .int (nI (z.2.1 11 0))])), (La1, .inl (cI, 6, .inl (nF (z.2.1 1)))), (La2, .inl (cI, 6, .inl (nF (z.2.1 2)))), (La4, .inl (cI, 5, .inl (nF (z.2.1 4)))), (La5, .inl (cI, 30, .inl (nF (z.2.1 5)))), (La7, .inl (cI, 5, .inl (nF (z.2.1 7)))), (La8, .inl (cI, 5, .inl (nF (z.2.1 8)))), (La9, .inl (cI, 5, .inl (nF (z.2.1 9))))] H := ⟨hP, hD⟩
    refine lv_iload hx hb dX3_read_30 (lv_at hl 5 rfl) ?_
    refine lv_sipush (v := nI 180) hx hb dX3_read_32 (by decide) ?_
    refine nb_icmp_gt (tgt := 77) hx hb dX3_read_35 (by decide) (by omega) (by omega) (fun hq5 => absurd hq5 (by omega)) (fun hq5 => ?_)
    refine lv_aload_n hx hb dX3_read_38 rfl (lv_at hl 0 rfl) ?_
    refine be_v (free := fun _ => False) (wr := [(Lh, .inr (0, [.int (nI (z.2.1 0 0)), .ref La1, .ref La2, .int (nI (z.2.1 3 0)), .ref La4, .ref La5, .int (nI (z.2.1 6 0)), .ref La7, .ref La8, .ref La9, .int (nI (z.2.1 10 0)), .int (nI (z.2.1 11 0))])), (La1, .inl (cI, 6, .inl (nF (z.2.1 1)))), (La2, .inl (cI, 6, .inl (nF (z.2.1 2)))), (La4, .inl (cI, 5, .inl (nF (z.2.1 4)))), (La5, .inl (cI, 30, .inl (nF (z.2.1 5)))), (La7, .inl (cI, 5, .inl (nF (z.2.1 7)))), (La8, .inl (cI, 5, .inl (nF (z.2.1 8)))), (La9, .inl (cI, 5, .inl (nF (z.2.1 9))))]) (ru_V (As := []) (rest := []) ⟨hx, hb, hml, hown, hts⟩ (g_step l D cI cB cZ cN Rh z.1 Th TS hT (by omega) (by omega) H.size) gX3_read_X3_step rfl ⟨rfl, by decide, by decide, (show Option.map (fun d => d.parameters.length) (parseMethodDescriptor yX3_step.desc) = some 0 by decide +kernel)⟩ ⟨Nat.le_of_ble_eq_true rfl, Nat.le_of_ble_eq_true rfl⟩ hK hP hD 3 0 rfl rfl [0, 1] (by decide) rfl hl.1 rfl (Nat.le_of_ble_eq_true rfl) dX3_read_39 ⟨Nat.le_of_ble_eq_true rfl, Nat.le_of_ble_eq_true rfl⟩) hP hD hS hA [0, 1] [2, 3, 4, 5, 6, 7, 8, 9] rfl rfl (by decide) (by decide) (fun u6 H locs w8 hP hD hS => ?_)
    have k9 : RdAt u6 (TS 0) (z.1 1 0) (z.1 2 0) := w8
    rw [j1, j2] at k9
    have k9k := pK_le (TS 0) v_n z.2.2
    have k9b := pE_le (t := TS 0) j3
    obtain ⟨hP, hD⟩ : wPD D A [(Lh, .inr (0, [.int (nI (z.2.1 0 0)), .ref La1, .ref La2, .int (nI (z.2.1 3 0)), .ref La4, .ref La5, .int (nI (z.2.1 6 0)), .ref La7, .ref La8, .ref La9, .int (nI (z.2.1 10 0)), .int (nI (z.2.1 11 0))])), (La1, .inl (cI, 6, .inl (nF (z.2.1 1)))), (La2, .inl (cI, 6, .inl (nF (z.2.1 2)))), (La4, .inl (cI, 5, .inl (nF (z.2.1 4)))), (La5, .inl (cI, 30, .inl (nF (z.2.1 5)))), (La7, .inl (cI, 5, .inl (nF (z.2.1 7)))), (La8, .inl (cI, 5, .inl (nF (z.2.1 8)))), (La9, .inl (cI, 5, .inl (nF (z.2.1 9)))), (Rh, .inr (3, [.ref Th, .int (nI (u6 1 0)), .int (nI (u6 2 0)), .int (nI (u6 3 0)), .int (nI (u6 4 0)), .int (nI (u6 5 0))])), (Th, .inl (cI, 180, .inl (nF (TS 0))))] H := ⟨hP, hD⟩
    refine lv_aload_n hx hb dX3_read_42 rfl (lv_at hl 0 rfl) ?_
    refine va_get (D := D) (ci := 3) (v := .int (nI (u6 4 0))) (C := RX3) (T := TX3) (N := 6) hx hb hts in_X3_read_3 hown hK.1 hP 8 rfl rfl 4 (by decide) (hts (.fieldLink RX3 25 "ChildCoins$Reader" "token" "I") (List.mem_of_getElem? (i := 8) rfl)) (fun _ h9 => h9) rfl dX3_read_43 ?_
    refine set_i (y := nI (pK (TS 0) v_n z.2.2)) (congrArg nI k9.2.2.2.1) ?_
    refine nb_if_ne (tgt := 52) hx hb dX3_read_46 (by decide) (by omega) (fun hq10 => ?_) (fun hq10 => ?_)
    · skip
      refine lv_aload_n hx hb dX3_read_52 rfl (lv_at hl 0 rfl) ?_
      refine lv_aload_n hx hb dX3_read_53 rfl (lv_at hl 3 rfl) ?_
      refine be_i (free := fun _ => False) (wr := []) (ru_V (As := [.ref Lh]) (rest := []) ⟨hx, hb, hml, hown, hts⟩ (g_readItem l D cI cB cZ cN Rh u6 Th TS Lh La1 La2 La4 La5 La7 La8 La9 z.2.1 z.2.2 hT (by rw [k9.1]; exact hn) (by rw [k9.1]; exact k9) (by rw [k9.1]; exact j3) j4 H.size) gX3_read_X3_readItem rfl ⟨rfl, by decide, by decide, (show Option.map (fun d => d.parameters.length) (parseMethodDescriptor yX3_readItem.desc) = some 1 by decide +kernel)⟩ ⟨Nat.le_of_ble_eq_true rfl, Nat.le_of_ble_eq_true rfl⟩ hK hP hD 3 8 rfl rfl [8, 9, 0, 1, 2, 3, 4, 5, 6, 7] (by decide) rfl hl.1 rfl (Nat.le_of_ble_eq_true rfl) dX3_read_54 ⟨Nat.le_of_ble_eq_true rfl, Nat.le_of_ble_eq_true rfl⟩) hP hD hS hA [8, 9, 0, 1, 2, 3, 4, 5, 6, 7] [] rfl rfl (by decide) (by decide) (fun r12 u11 H locs w13 hP hD hS => ?_)
      rw [k9.1] at w13
      obtain ⟨k14e, k14, k14L⟩ := w13
      subst k14e
      have k141 := itemF_1 (TS 0) v_n z.2.2 z.2.1
      have k14b := itemF_b (t := TS 0) (L := z.2.1) j3
      have k14o := itemF_ok (t := TS 0) (n := v_n) (b := z.2.2) j4
      obtain ⟨hP, hD⟩ : wPD D A [(Rh, .inr (3, [.ref Th, .int (nI (u11.1 1 0)), .int (nI (u11.1 2 0)), .int (nI (u11.1 3 0)), .int (nI (u11.1 4 0)), .int (nI (u11.1 5 0))])), (Th, .inl (cI, 180, .inl (nF (TS 0)))), (Lh, .inr (0, [.int (nI (u11.2 0 0)), .ref La1, .ref La2, .int (nI (u11.2 3 0)), .ref La4, .ref La5, .int (nI (u11.2 6 0)), .ref La7, .ref La8, .ref La9, .int (nI (u11.2 10 0)), .int (nI (u11.2 11 0))])), (La1, .inl (cI, 6, .inl (nF (u11.2 1)))), (La2, .inl (cI, 6, .inl (nF (u11.2 2)))), (La4, .inl (cI, 5, .inl (nF (u11.2 4)))), (La5, .inl (cI, 30, .inl (nF (u11.2 5)))), (La7, .inl (cI, 5, .inl (nF (u11.2 7)))), (La8, .inl (cI, 5, .inl (nF (u11.2 8)))), (La9, .inl (cI, 5, .inl (nF (u11.2 9))))] H := ⟨hP, hD⟩
      refine nb_if_ne (tgt := 68) hx hb dX3_read_57 (by decide) (by omega) (fun hq15 => ?_) (fun hq15 => ?_)
      · skip
        refine lv_iinc (v := nI (i + 1)) (lv' := [(4, .int (nI (i + 1))), (0, .ref Rh), (1, .ref Th), (2, .int (nI v_n)), (3, .ref Lh), (5, .int (nI i))]) hx hb dX3_read_68 hl (k := 4) rfl (nI_add i 1) (by decide) rfl (fun ls hl => ?_)
        refine lv_iinc (v := nI (i + 1)) (lv' := [(5, .int (nI (i + 1))), (4, .int (nI (i + 1))), (0, .ref Rh), (1, .ref Th), (2, .int (nI v_n)), (3, .ref Lh)]) hx hb dX3_read_71 hl (k := 5) rfl (nI_add i 1) (by decide) rfl (fun ls hl => ?_)
        refine lv_goto (tgt := 30) hx hb dX3_read_74 (by decide) ?_
        have hP := hP.sub (ws' := [(Rh, .inr (3, [.ref Th, .int (nI (u11.1 1 0)), .int (nI (u11.1 2 0)), .int (nI (u11.1 3 0)), .int (nI (u11.1 4 0)), .int (nI (u11.1 5 0))])), (Th, .inl (cI, 180, .inl (nF (TS 0)))), (Lh, .inr (0, [.int (nI (u11.2 0 0)), .ref La1, .ref La2, .int (nI (u11.2 3 0)), .ref La4, .ref La5, .int (nI (u11.2 6 0)), .ref La7, .ref La8, .ref La9, .int (nI (u11.2 10 0)), .int (nI (u11.2 11 0))])), (La1, .inl (cI, 6, .inl (nF (u11.2 1)))), (La2, .inl (cI, 6, .inl (nF (u11.2 2)))), (La4, .inl (cI, 5, .inl (nF (u11.2 4)))), (La5, .inl (cI, 30, .inl (nF (u11.2 5)))), (La7, .inl (cI, 5, .inl (nF (u11.2 7)))), (La8, .inl (cI, 5, .inl (nF (u11.2 8)))), (La9, .inl (cI, 5, .inl (nF (u11.2 9))))]) [0, 1, 2, 3, 4, 5, 6, 7, 8, 9] rfl
        have hD := hD.sub (ws' := [(Rh, .inr (3, [.ref Th, .int (nI (u11.1 1 0)), .int (nI (u11.1 2 0)), .int (nI (u11.1 3 0)), .int (nI (u11.1 4 0)), .int (nI (u11.1 5 0))])), (Th, .inl (cI, 180, .inl (nF (TS 0)))), (Lh, .inr (0, [.int (nI (u11.2 0 0)), .ref La1, .ref La2, .int (nI (u11.2 3 0)), .ref La4, .ref La5, .int (nI (u11.2 6 0)), .ref La7, .ref La8, .ref La9, .int (nI (u11.2 10 0)), .int (nI (u11.2 11 0))])), (La1, .inl (cI, 6, .inl (nF (u11.2 1)))), (La2, .inl (cI, 6, .inl (nF (u11.2 2)))), (La4, .inl (cI, 5, .inl (nF (u11.2 4)))), (La5, .inl (cI, 30, .inl (nF (u11.2 5)))), (La7, .inl (cI, 5, .inl (nF (u11.2 7)))), (La8, .inl (cI, 5, .inl (nF (u11.2 8)))), (La9, .inl (cI, 5, .inl (nF (u11.2 9))))]) [0, 1, 2, 3, 4, 5, 6, 7, 8, 9] (by decide) rfl
        have ej := (rdF_s (f := 181 - i) (by omega) hq10 hq15).symm.trans j5
        rw [show 181 - i - 1 = 181 - (i + 1) by omega, ← k14L] at ej
        exact ih (u11.1, u11.2, pE (TS 0) v_n (itemF (TS 0) v_n z.2.2 z.2.1).2.1) ⟨k14.1, k14.2.2.1, (pE_le (t := TS 0) k14b.2).2, (by show LandOk u11.2; rw [k14L]; exact k14o), ej⟩ _ _ _ hP hD hS (lv_sub hl [2, 3, 4, 5, 1, 0] rfl)
      · skip
        refine lv_bipush (v := -10) hx hb dX3_read_60 (by decide) ?_
        refine lv_aload_n hx hb dX3_read_62 rfl (lv_at hl 0 rfl) ?_
        refine va_get (D := D) (ci := 3) (v := .int (nI (u11.1 3 0))) (C := RX3) (T := TX3) (N := 6) hx hb hts in_X3_read_3 hown hK.1 hP 0 rfl rfl 3 (by decide) (hts (.fieldLink RX3 22 "ChildCoins$Reader" "start" "I") (List.mem_of_getElem? (i := 9) rfl)) (fun _ h9 => h9) rfl dX3_read_63 ?_
        refine set_i (y := nI (pS (TS 0) v_n (itemF (TS 0) v_n z.2.2 z.2.1).2.1)) (congrArg nI k14.2.1) ?_
        refine lv_isub hx hb dX3_read_66 ?_
        exact en_i hx hb hr hlk hP hD hS (u11.1, u11.2) [0, 1, 2, 3, 4, 5, 6, 7, 8, 9] (by decide) rfl (Nat.le_of_ble_eq_true rfl) (Nat.le_of_ble_eq_true rfl) dX3_read_67 (by have ej := (rdF_b (f := 181 - i) (by omega) hq10 hq15).symm.trans j5; have e1 := congrArg Prod.fst ej; have e2 := congrArg Prod.snd ej; dsimp only at e1 e2; exact ⟨e1, k14L.trans e2, (by show LandOk u11.2; rw [k14L]; exact k14o)⟩)
    · skip
      refine lv_goto (tgt := 77) hx hb dX3_read_49 (by decide) ?_
      refine lv_iload hx hb dX3_read_77 (lv_at hl 4 rfl) ?_
      exact en_i hx hb hr hlk hP hD hS (u6, z.2.1) [8, 9, 0, 1, 2, 3, 4, 5, 6, 7] (by decide) rfl (Nat.le_of_ble_eq_true rfl) (Nat.le_of_ble_eq_true rfl) dX3_read_79 (by have ej := (rdF_e (f := 181 - i) (by omega) hq10).symm.trans j5; exact ⟨congrArg Prod.fst ej, congrArg Prod.snd ej, j4⟩)
