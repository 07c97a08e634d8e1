set_option maxRecDepth 20000 in
theorem dAX0_empty : decA cX0_empty [(0, .aload_n 0, 1), (1, .iconst 0, 1), (2, .putfield 9, 3), (5, .aload_n 0, 1), (6, .iconst 0, 1), (7, .putfield 22, 3), (10, .aload_n 0, 1), (11, .iconst 0, 1), (12, .putfield 31, 3), (15, .aload_n 0, 1), (16, .bipush 9, 2), (18, .putfield 43, 3), (21, .aload_n 0, 1), (22, .iconst 0, 1), (23, .putfield 46, 3), (26, .iconst 0, 1), (27, .istore_n 1, 1), (28, .iload_n 1, 1), (29, .aload_n 0, 1), (30, .getfield 28, 3), (33, .arraylength, 1), (34, .if_icmp .ge 16, 3), (37, .aload_n 0, 1), (38, .getfield 28, 3), (41, .iload_n 1, 1), (42, .iconst 0, 1), (43, .iastore, 1), (44, .iinc 1 1, 3), (47, .goto (-19), 3), (50, .return_, 1)] = true := by decide +kernel
theorem dX0_empty_0 : decode cX0_empty 0 = .ok (.aload_n 0, 1) := decA_get dAX0_empty 0 rfl
theorem dX0_empty_1 : decode cX0_empty 1 = .ok (.iconst 0, 1) := decA_get dAX0_empty 1 rfl
theorem dX0_empty_2 : decode cX0_empty 2 = .ok (.putfield 9, 3) := decA_get dAX0_empty 2 rfl
theorem in_X0_empty_0 : ∀ w ∈ wsX00, w ∈ wsX0_empty := fun w h => (gd_ids wi_X0_empty wm_X0_empty wi_X00 (by decide +kernel) w h).1
theorem dX0_empty_5 : decode cX0_empty 5 = .ok (.aload_n 0, 1) := decA_get dAX0_empty 3 rfl
theorem dX0_empty_6 : decode cX0_empty 6 = .ok (.iconst 0, 1) := decA_get dAX0_empty 4 rfl
theorem dX0_empty_7 : decode cX0_empty 7 = .ok (.putfield 22, 3) := decA_get dAX0_empty 5 rfl
theorem dX0_empty_10 : decode cX0_empty 10 = .ok (.aload_n 0, 1) := decA_get dAX0_empty 6 rfl
theorem dX0_empty_11 : decode cX0_empty 11 = .ok (.iconst 0, 1) := decA_get dAX0_empty 7 rfl
theorem dX0_empty_12 : decode cX0_empty 12 = .ok (.putfield 31, 3) := decA_get dAX0_empty 8 rfl
theorem dX0_empty_15 : decode cX0_empty 15 = .ok (.aload_n 0, 1) := decA_get dAX0_empty 9 rfl
theorem dX0_empty_16 : decode cX0_empty 16 = .ok (.bipush 9, 2) := decA_get dAX0_empty 10 rfl
theorem dX0_empty_18 : decode cX0_empty 18 = .ok (.putfield 43, 3) := decA_get dAX0_empty 11 rfl
theorem dX0_empty_21 : decode cX0_empty 21 = .ok (.aload_n 0, 1) := decA_get dAX0_empty 12 rfl
theorem dX0_empty_22 : decode cX0_empty 22 = .ok (.iconst 0, 1) := decA_get dAX0_empty 13 rfl
theorem dX0_empty_23 : decode cX0_empty 23 = .ok (.putfield 46, 3) := decA_get dAX0_empty 14 rfl
theorem dX0_empty_26 : decode cX0_empty 26 = .ok (.iconst 0, 1) := decA_get dAX0_empty 15 rfl
theorem dX0_empty_27 : decode cX0_empty 27 = .ok (.istore_n 1, 1) := decA_get dAX0_empty 16 rfl
theorem dX0_empty_28 : decode cX0_empty 28 = .ok (.iload_n 1, 1) := decA_get dAX0_empty 17 rfl
theorem dX0_empty_29 : decode cX0_empty 29 = .ok (.aload_n 0, 1) := decA_get dAX0_empty 18 rfl
theorem dX0_empty_30 : decode cX0_empty 30 = .ok (.getfield 28, 3) := decA_get dAX0_empty 19 rfl
theorem dX0_empty_33 : decode cX0_empty 33 = .ok (.arraylength, 1) := decA_get dAX0_empty 20 rfl
theorem dX0_empty_34 : decode cX0_empty 34 = .ok (.if_icmp .ge 16, 3) := decA_get dAX0_empty 21 rfl
theorem dX0_empty_50 : decode cX0_empty 50 = .ok (.return_, 1) := decA_get dAX0_empty 29 rfl
theorem dX0_empty_37 : decode cX0_empty 37 = .ok (.aload_n 0, 1) := decA_get dAX0_empty 22 rfl
theorem dX0_empty_38 : decode cX0_empty 38 = .ok (.getfield 28, 3) := decA_get dAX0_empty 23 rfl
theorem dX0_empty_41 : decode cX0_empty 41 = .ok (.iload_n 1, 1) := decA_get dAX0_empty 24 rfl
theorem dX0_empty_42 : decode cX0_empty 42 = .ok (.iconst 0, 1) := decA_get dAX0_empty 25 rfl
theorem dX0_empty_43 : decode cX0_empty 43 = .ok (.iastore, 1) := decA_get dAX0_empty 26 rfl
theorem dX0_empty_44 : decode cX0_empty 44 = .ok (.iinc 1 1, 3) := decA_get dAX0_empty 27 rfl
theorem dX0_empty_47 : decode cX0_empty 47 = .ok (.goto (-19), 3) := decA_get dAX0_empty 28 rfl
set_option maxHeartbeats 4000000 in
set_option maxRecDepth 100000 in
theorem g_empty (l : Launch) (D : va_G) (cI cB cZ cN : ClassId) (Lh : Nat) (La1 : Nat) (La2 : Nat) (La4 : Nat) (La5 : Nat) (La7 : Nat) (La8 : Nat) (La9 : Nat) (LS : Nat → Nat → Nat)  : Cv (S := (Nat → Nat → Nat)) l D cI cB cZ cN yX0_empty wsX0_empty ({ frames := 0, cells := 0, slots := 0, locals := 0 } : Room) [.ref Lh] [(Lh, .inr (0, [.int (nI (LS 0 0)), .ref La1, .ref La2, .int (nI (LS 3 0)), .ref La4, .ref La5, .int (nI (LS 6 0)), .ref La7, .ref La8, .ref La9, .int (nI (LS 10 0)), .int (nI (LS 11 0))])), (La1, .inl (cI, 6, .inl (nF (LS 1)))), (La2, .inl (cI, 6, .inl (nF (LS 2)))), (La4, .inl (cI, 5, .inl (nF (LS 4)))), (La5, .inl (cI, 30, .inl (nF (LS 5)))), (La7, .inl (cI, 5, .inl (nF (LS 7)))), (La8, .inl (cI, 5, .inl (nF (LS 8)))), (La9, .inl (cI, 5, .inl (nF (LS 9))))] (fun (u : (Nat → Nat → Nat)) => u = emptyN LS) (fun u => [(Lh, .inr (0, [.int (nI (u 0 0)), .ref La1, .ref La2, .int (nI (u 3 0)), .ref La4, .ref La5, .int (nI (u 6 0)), .ref La7, .ref La8, .ref La9, .int (nI (u 10 0)), .int (nI (u 11 0))])), (La1, .inl (cI, 6, .inl (nF (u 1)))), (La2, .inl (cI, 6, .inl (nF (u 2)))), (La4, .inl (cI, 5, .inl (nF (u 4)))), (La5, .inl (cI, 30, .inl (nF (u 5)))), (La7, .inl (cI, 5, .inl (nF (u 7)))), (La8, .inl (cI, 5, .inl (nF (u 8)))), (La9, .inl (cI, 5, .inl (nF (u 9))))]) := by
  refine bx_of (D := D) (cI := cI) (cB := cB) (cZ := cZ) (cN := cN) (y := yX0_empty) (wd := wsX0_empty) (rm := ({ frames := 0, cells := 0, slots := 0, locals := 0 } : Room)) (av := [.ref Lh]) (wc := [(Lh, .inr (0, [.int (nI (LS 0 0)), .ref La1, .ref La2, .int (nI (LS 3 0)), .ref La4, .ref La5, .int (nI (LS 6 0)), .ref La7, .ref La8, .ref La9, .int (nI (LS 10 0)), .int (nI (LS 11 0))])), (La1, .inl (cI, 6, .inl (nF (LS 1)))), (La2, .inl (cI, 6, .inl (nF (LS 2)))), (La4, .inl (cI, 5, .inl (nF (LS 4)))), (La5, .inl (cI, 30, .inl (nF (LS 5)))), (La7, .inl (cI, 5, .inl (nF (LS 7)))), (La8, .inl (cI, 5, .inl (nF (LS 8)))), (La9, .inl (cI, 5, .inl (nF (LS 9))))]) (cc := cX0_empty) (maxL := 2) (ret := none) (Qc := fun _ A => va_Qv (S := (Nat → Nat → Nat)) (fun (u : (Nat → Nat → Nat)) => u = emptyN LS) (Aft D (fun (u : (Nat → Nat → Nat)) => [(Lh, .inr (0, [.int (nI (u 0 0)), .ref La1, .ref La2, .int (nI (u 3 0)), .ref La4, .ref La5, .int (nI (u 6 0)), .ref La7, .ref La8, .ref La9, .int (nI (u 10 0)), .int (nI (u 11 0))])), (La1, .inl (cI, 6, .inl (nF (u 1)))), (La2, .inl (cI, 6, .inl (nF (u 2)))), (La4, .inl (cI, 5, .inl (nF (u 4)))), (La5, .inl (cI, 30, .inl (nF (u 5)))), (La7, .inl (cI, 5, .inl (nF (u 7)))), (La8, .inl (cI, 5, .inl (nF (u 8)))), (La9, .inl (cI, 5, .inl (nF (u 9))))]) A) A) (by decide) rfl (Nat.le_of_ble_eq_true rfl) ?_
  intro p e s m below meth c A H locs ⟨hx, hb, hr, hml, hown, hts, hlk, hnm⟩ hK hP hD hS hA ls hl
  have hl : lv_has ls 2 [(0, .ref Lh)] := hl
  have hown : s.vm.findClass RX0 = some m.cls := hown
  refine lv_aload_n hx hb dX0_empty_0 rfl (lv_at hl 0 rfl) ?_
  refine lv_iconst (v := nI 0) hx hb dX0_empty_1 (by decide) ?_
  refine va_put (D := D) (ci := 0) (v := .int (nI 0)) (ty := tyX0 0) (C := RX0) (T := TX0) (N := 12) hx hb hts in_X0_empty_0 tyX0 tyX0_ok nmX0 hown hK.1 hP hD hS 0 rfl rfl 0 (by decide) (hts (.fieldLink RX0 9 "ChildCoins$Land" "coins" "I") (List.mem_of_getElem? (i := 1) rfl)) (fun _ h9 => h9) rfl (tyX0_ok 0 (by decide)) rfl rfl (Nat.le_of_ble_eq_true rfl) dX0_empty_2 (fun H locs hP hD hS => ?_)
  obtain ⟨hP, hD⟩ : wPD D A [(Lh, .inr (0, [.int (nI 0), .ref La1, .ref La2, .int (nI (LS 3 0)), .ref La4, .ref La5, .int (nI (LS 6 0)), .ref La7, .ref La8, .ref La9, .int (nI (LS 10 0)), .int (nI (LS 11 0))])), (La1, .inl (cI, 6, .inl (nF (LS 1)))), (La2, .inl (cI, 6, .inl (nF (LS 2)))), (La4, .inl (cI, 5, .inl (nF (LS 4)))), (La5, .inl (cI, 30, .inl (nF (LS 5)))), (La7, .inl (cI, 5, .inl (nF (LS 7)))), (La8, .inl (cI, 5, .inl (nF (LS 8)))), (La9, .inl (cI, 5, .inl (nF (LS 9))))] H := ⟨hP, hD⟩
  refine lv_aload_n hx hb dX0_empty_5 rfl (lv_at hl 0 rfl) ?_
  refine lv_iconst (v := nI 0) hx hb dX0_empty_6 (by decide) ?_
  refine va_put (D := D) (ci := 0) (v := .int (nI 0)) (ty := tyX0 3) (C := RX0) (T := TX0) (N := 12) hx hb hts in_X0_empty_0 tyX0 tyX0_ok nmX0 hown hK.1 hP hD hS 0 rfl rfl 3 (by decide) (hts (.fieldLink RX0 22 "ChildCoins$Land" "people" "I") (List.mem_of_getElem? (i := 2) rfl)) (fun _ h9 => h9) rfl (tyX0_ok 3 (by decide)) rfl rfl (Nat.le_of_ble_eq_true rfl) dX0_empty_7 (fun H locs hP hD hS => ?_)
  obtain ⟨hP, hD⟩ : wPD D A [(Lh, .inr (0, [.int (nI 0), .ref La1, .ref La2, .int (nI 0), .ref La4, .ref La5, .int (nI (LS 6 0)), .ref La7, .ref La8, .ref La9, .int (nI (LS 10 0)), .int (nI (LS 11 0))])), (La1, .inl (cI, 6, .inl (nF (LS 1)))), (La2, .inl (cI, 6, .inl (nF (LS 2)))), (La4, .inl (cI, 5, .inl (nF (LS 4)))), (La5, .inl (cI, 30, .inl (nF (LS 5)))), (La7, .inl (cI, 5, .inl (nF (LS 7)))), (La8, .inl (cI, 5, .inl (nF (LS 8)))), (La9, .inl (cI, 5, .inl (nF (LS 9))))] H := ⟨hP, hD⟩
  refine lv_aload_n hx hb dX0_empty_10 rfl (lv_at hl 0 rfl) ?_
  refine lv_iconst (v := nI 0) hx hb dX0_empty_11 (by decide) ?_
  refine va_put (D := D) (ci := 0) (v := .int (nI 0)) (ty := tyX0 6) (C := RX0) (T := TX0) (N := 12) hx hb hts in_X0_empty_0 tyX0 tyX0_ok nmX0 hown hK.1 hP hD hS 0 rfl rfl 6 (by decide) (hts (.fieldLink RX0 31 "ChildCoins$Land" "debts" "I") (List.mem_of_getElem? (i := 3) rfl)) (fun _ h9 => h9) rfl (tyX0_ok 6 (by decide)) rfl rfl (Nat.le_of_ble_eq_true rfl) dX0_empty_12 (fun H locs hP hD hS => ?_)
  obtain ⟨hP, hD⟩ : wPD D A [(Lh, .inr (0, [.int (nI 0), .ref La1, .ref La2, .int (nI 0), .ref La4, .ref La5, .int (nI 0), .ref La7, .ref La8, .ref La9, .int (nI (LS 10 0)), .int (nI (LS 11 0))])), (La1, .inl (cI, 6, .inl (nF (LS 1)))), (La2, .inl (cI, 6, .inl (nF (LS 2)))), (La4, .inl (cI, 5, .inl (nF (LS 4)))), (La5, .inl (cI, 30, .inl (nF (LS 5)))), (La7, .inl (cI, 5, .inl (nF (LS 7)))), (La8, .inl (cI, 5, .inl (nF (LS 8)))), (La9, .inl (cI, 5, .inl (nF (LS 9))))] H := ⟨hP, hD⟩
  refine lv_aload_n hx hb dX0_empty_15 rfl (lv_at hl 0 rfl) ?_
  refine lv_bipush (v := nI 9) hx hb dX0_empty_16 (by decide) ?_
  refine va_put (D := D) (ci := 0) (v := .int (nI 9)) (ty := tyX0 10) (C := RX0) (T := TX0) (N := 12) hx hb hts in_X0_empty_0 tyX0 tyX0_ok nmX0 hown hK.1 hP hD hS 0 rfl rfl 10 (by decide) (hts (.fieldLink RX0 43 "ChildCoins$Land" "span" "I") (List.mem_of_getElem? (i := 4) rfl)) (fun _ h9 => h9) rfl (tyX0_ok 10 (by decide)) rfl rfl (Nat.le_of_ble_eq_true rfl) dX0_empty_18 (fun H locs hP hD hS => ?_)
  obtain ⟨hP, hD⟩ : wPD D A [(Lh, .inr (0, [.int (nI 0), .ref La1, .ref La2, .int (nI 0), .ref La4, .ref La5, .int (nI 0), .ref La7, .ref La8, .ref La9, .int (nI 9), .int (nI (LS 11 0))])), (La1, .inl (cI, 6, .inl (nF (LS 1)))), (La2, .inl (cI, 6, .inl (nF (LS 2)))), (La4, .inl (cI, 5, .inl (nF (LS 4)))), (La5, .inl (cI, 30, .inl (nF (LS 5)))), (La7, .inl (cI, 5, .inl (nF (LS 7)))), (La8, .inl (cI, 5, .inl (nF (LS 8)))), (La9, .inl (cI, 5, .inl (nF (LS 9))))] H := ⟨hP, hD⟩
  refine lv_aload_n hx hb dX0_empty_21 rfl (lv_at hl 0 rfl) ?_
  refine lv_iconst (v := nI 0) hx hb dX0_empty_22 (by decide) ?_
  refine va_put (D := D) (ci := 0) (v := .int (nI 0)) (ty := tyX0 11) (C := RX0) (T := TX0) (N := 12) hx hb hts in_X0_empty_0 tyX0 tyX0_ok nmX0 hown hK.1 hP hD hS 0 rfl rfl 11 (by decide) (hts (.fieldLink RX0 46 "ChildCoins$Land" "spanTold" "Z") (List.mem_of_getElem? (i := 5) rfl)) (fun _ h9 => h9) rfl (tyX0_ok 11 (by decide)) rfl rfl (Nat.le_of_ble_eq_true rfl) dX0_empty_23 (fun H locs hP hD hS => ?_)
  obtain ⟨hP, hD⟩ : wPD D A [(Lh, .inr (0, [.int (nI 0), .ref La1, .ref La2, .int (nI 0), .ref La4, .ref La5, .int (nI 0), .ref La7, .ref La8, .ref La9, .int (nI 9), .int (nI 0)])), (La1, .inl (cI, 6, .inl (nF (LS 1)))), (La2, .inl (cI, 6, .inl (nF (LS 2)))), (La4, .inl (cI, 5, .inl (nF (LS 4)))), (La5, .inl (cI, 30, .inl (nF (LS 5)))), (La7, .inl (cI, 5, .inl (nF (LS 7)))), (La8, .inl (cI, 5, .inl (nF (LS 8)))), (La9, .inl (cI, 5, .inl (nF (LS 9))))] H := ⟨hP, hD⟩
  refine lv_iconst (v := nI 0) hx hb dX0_empty_26 (by decide) ?_
  refine lv_istore_n (lv' := [(1, .int (nI 0)), (0, .ref Lh)]) hx hb dX0_empty_27 rfl hl (by decide) rfl (fun ls hl => ?_)
  refine loopW (D := D) (A := A) (fun i => [(Lh, .inr (0, [.int (nI 0), .ref La1, .ref La2, .int (nI 0), .ref La4, .ref La5, .int (nI 0), .ref La7, .ref La8, .ref La9, .int (nI 9), .int (nI 0)])), (La1, .inl (cI, 6, .inl (nF (LS 1)))), (La2, .inl (cI, 6, .inl (nF (LS 2)))), (La4, .inl (cI, 5, .inl (nF (LS 4)))), (La5, .inl (cI, 30, .inl (nF (fun j => if j < i then 0 else LS 5 j)))), (La7, .inl (cI, 5, .inl (nF (LS 7)))), (La8, .inl (cI, 5, .inl (nF (LS 8)))), (La9, .inl (cI, 5, .inl (nF (LS 9))))]) (fun i => [(0, .ref Lh), (1, .int (nI i))]) 28 2 30 0 (Nat.le_of_ble_eq_true rfl) ?_ ?_ _ _ ls (by first | exact hP | (rw [fill_0]; exact hP)) (by first | exact hD | (rw [fill_0]; exact hD)) hS (lv_sub hl [1, 0] rfl)
  · intro H locs ls hP hD hS hl
    have hl : lv_has ls 2 [(0, .ref Lh), (1, .int (nI 30))] := hl
    obtain ⟨hP, hD⟩ : wPD D A [(Lh, .inr (0, [.int (nI 0), .ref La1, .ref La2, .int (nI 0), .ref La4, .ref La5, .int (nI 0), .ref La7, .ref La8, .ref La9, .int (nI 9), .int (nI 0)])), (La1, .inl (cI, 6, .inl (nF (LS 1)))), (La2, .inl (cI, 6, .inl (nF (LS 2)))), (La4, .inl (cI, 5, .inl (nF (LS 4)))), (La5, .inl (cI, 30, .inl (nF (fun j => if j < 30 then 0 else LS 5 j)))), (La7, .inl (cI, 5, .inl (nF (LS 7)))), (La8, .inl (cI, 5, .inl (nF (LS 8)))), (La9, .inl (cI, 5, .inl (nF (LS 9))))] H := ⟨hP, hD⟩
    refine lv_iload_n hx hb dX0_empty_28 rfl (lv_at hl 1 rfl) ?_
    refine lv_aload_n hx hb dX0_empty_29 rfl (lv_at hl 0 rfl) ?_
    refine va_get (D := D) (ci := 0) (v := .ref La5) (C := RX0) (T := TX0) (N := 12) hx hb hts in_X0_empty_0 hown hK.1 hP 0 rfl rfl 5 (by decide) (hts (.fieldLink RX0 28 "ChildCoins$Land" "toldHolds" "[I") (List.mem_of_getElem? (i := 6) rfl)) (fun _ h9 => h9) rfl dX0_empty_30 ?_
    refine va_alen hx hb hK.1 hP 4 0 rfl rfl (v := nI 30) rfl dX0_empty_33 ?_
    refine nb_icmp_ge (tgt := 50) hx hb dX0_empty_34 (by decide) (by omega) (by omega) (fun hq1 => ?_) (fun hq1 => absurd hq1 (by omega))
    exact en_v hx hb hr hlk hP hD hS (ua (ua (ua (ua (ua (ua LS 0 (fun _ => 0)) 3 (fun _ => 0)) 5 (fun j => if j < 30 then 0 else LS 5 j)) 6 (fun _ => 0)) 10 (fun _ => 9)) 11 (fun _ => 0)) [0, 1, 2, 3, 4, 5, 6, 7] (by decide) rfl (Nat.le_of_ble_eq_true rfl) (Nat.le_of_ble_eq_true rfl) dX0_empty_50 rfl
  · intro i hi0 hi ih H locs ls hP hD hS hl
    have hl : lv_has ls 2 [(0, .ref Lh), (1, .int (nI i))] := hl
    obtain ⟨hP, hD⟩ : wPD D A [(Lh, .inr (0, [.int (nI 0), .ref La1, .ref La2, .int (nI 0), .ref La4, .ref La5, .int (nI 0), .ref La7, .ref La8, .ref La9, .int (nI 9), .int (nI 0)])), (La1, .inl (cI, 6, .inl (nF (LS 1)))), (La2, .inl (cI, 6, .inl (nF (LS 2)))), (La4, .inl (cI, 5, .inl (nF (LS 4)))), (La5, .inl (cI, 30, .inl (nF (fun j => if j < i then 0 else LS 5 j)))), (La7, .inl (cI, 5, .inl (nF (LS 7)))), (La8, .inl (cI, 5, .inl (nF (LS 8)))), (La9, .inl (cI, 5, .inl (nF (LS 9))))] H := ⟨hP, hD⟩
    refine lv_iload_n hx hb dX0_empty_28 rfl (lv_at hl 1 rfl) ?_
    refine lv_aload_n hx hb dX0_empty_29 rfl (lv_at hl 0 rfl) ?_
    refine va_get (D := D) (ci := 0) (v := .ref La5) (C := RX0) (T := TX0) (N := 12) hx hb hts in_X0_empty_0 hown hK.1 hP 0 rfl rfl 5 (by decide) (hts (.fieldLink RX0 28 "ChildCoins$Land" "toldHolds" "[I") (List.mem_of_getElem? (i := 6) rfl)) (fun _ h9 => h9) rfl dX0_empty_30 ?_
    refine va_alen hx hb hK.1 hP 4 0 rfl rfl (v := nI 30) rfl dX0_empty_33 ?_
    refine nb_icmp_ge (tgt := 50) hx hb dX0_empty_34 (by decide) (by omega) (by omega) (fun hq2 => absurd hq2 (by omega)) (fun hq2 => ?_)
    refine lv_aload_n hx hb dX0_empty_37 rfl (lv_at hl 0 rfl) ?_
    refine va_get (D := D) (ci := 0) (v := .ref La5) (C := RX0) (T := TX0) (N := 12) hx hb hts in_X0_empty_0 hown hK.1 hP 0 rfl rfl 5 (by decide) (hts (.fieldLink RX0 28 "ChildCoins$Land" "toldHolds" "[I") (List.mem_of_getElem? (i := 6) rfl)) (fun _ h9 => h9) rfl dX0_empty_38 ?_
    refine lv_iload_n hx hb dX0_empty_41 rfl (lv_at hl 1 rfl) ?_
    refine lv_iconst (v := nI 0) hx hb dX0_empty_42 (by decide) ?_
    refine va_iast hx hb hK.1 hP hD hS 4 0 rfl rfl (vp_in_nI (n := i) (N := 30) (by omega) (by decide)) dX0_empty_43 (fun H locs hP hD hS => ?_)
    obtain ⟨hP, hD⟩ : wPD D A [(Lh, .inr (0, [.int (nI 0), .ref La1, .ref La2, .int (nI 0), .ref La4, .ref La5, .int (nI 0), .ref La7, .ref La8, .ref La9, .int (nI 9), .int (nI 0)])), (La1, .inl (cI, 6, .inl (nF (LS 1)))), (La2, .inl (cI, 6, .inl (nF (LS 2)))), (La4, .inl (cI, 5, .inl (nF (LS 4)))), (La5, .inl (cI, 30, .inl (upd (nF (fun j => if j < i then 0 else LS 5 j)) (nI i).toNatClampNeg (nI 0)))), (La7, .inl (cI, 5, .inl (nF (LS 7)))), (La8, .inl (cI, 5, .inl (nF (LS 8)))), (La9, .inl (cI, 5, .inl (nF (LS 9))))] H := ⟨hP, hD⟩
    rw [nF_st (by omega)] at hP hD
    refine lv_iinc (v := nI (i + 1)) (lv' := [(1, .int (nI (i + 1))), (0, .ref Lh)]) hx hb dX0_empty_44 hl (k := 1) rfl (nI_add i 1) (by decide) rfl (fun ls hl => ?_)
    refine lv_goto (tgt := 28) hx hb dX0_empty_47 (by decide) ?_
    have hl : lv_has ls 2 [(0, .ref Lh), (1, .int (nI (i + 1)))] := lv_sub hl [1, 0] rfl
    rw [fill_s] at hP hD
    exact ih _ _ _ hP hD hS hl
