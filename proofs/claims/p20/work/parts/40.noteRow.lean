set_option maxRecDepth 20000 in
theorem dAX4_noteRow : decA cX4_noteRow [(0, .iload_n 1, 1), (1, .aload_n 0, 1), (2, .getfield 25, 3), (5, .if_icmp .gt 4, 3), (8, .return_, 1), (9, .aload_n 0, 1), (10, .iload_n 1, 1), (11, .putfield 25, 3), (14, .aload_n 0, 1), (15, .getfield 18, 3), (18, .iconst 0, 1), (19, .aload_n 0, 1), (20, .getfield 22, 3), (23, .iconst 0, 1), (24, .iload_n 1, 1), (25, .invokestatic 85, 3), (28, .return_, 1)] = true := by decide +kernel
theorem dX4_noteRow_0 : decode cX4_noteRow 0 = .ok (.iload_n 1, 1) := decA_get dAX4_noteRow 0 rfl
theorem dX4_noteRow_1 : decode cX4_noteRow 1 = .ok (.aload_n 0, 1) := decA_get dAX4_noteRow 1 rfl
theorem dX4_noteRow_2 : decode cX4_noteRow 2 = .ok (.getfield 25, 3) := decA_get dAX4_noteRow 2 rfl
theorem in_X4_noteRow_4 : ∀ w ∈ wsX40, w ∈ wsX4_noteRow := fun w h => (gd_ids wi_X4_noteRow wm_X4_noteRow wi_X40 (by decide +kernel) w h).1
theorem dX4_noteRow_5 : decode cX4_noteRow 5 = .ok (.if_icmp .gt 4, 3) := decA_get dAX4_noteRow 3 rfl
theorem dX4_noteRow_9 : decode cX4_noteRow 9 = .ok (.aload_n 0, 1) := decA_get dAX4_noteRow 5 rfl
theorem dX4_noteRow_10 : decode cX4_noteRow 10 = .ok (.iload_n 1, 1) := decA_get dAX4_noteRow 6 rfl
theorem dX4_noteRow_11 : decode cX4_noteRow 11 = .ok (.putfield 25, 3) := decA_get dAX4_noteRow 7 rfl
theorem dX4_noteRow_14 : decode cX4_noteRow 14 = .ok (.aload_n 0, 1) := decA_get dAX4_noteRow 8 rfl
theorem dX4_noteRow_15 : decode cX4_noteRow 15 = .ok (.getfield 18, 3) := decA_get dAX4_noteRow 9 rfl
theorem dX4_noteRow_18 : decode cX4_noteRow 18 = .ok (.iconst 0, 1) := decA_get dAX4_noteRow 10 rfl
theorem dX4_noteRow_19 : decode cX4_noteRow 19 = .ok (.aload_n 0, 1) := decA_get dAX4_noteRow 11 rfl
theorem dX4_noteRow_20 : decode cX4_noteRow 20 = .ok (.getfield 22, 3) := decA_get dAX4_noteRow 12 rfl
theorem dX4_noteRow_23 : decode cX4_noteRow 23 = .ok (.iconst 0, 1) := decA_get dAX4_noteRow 13 rfl
theorem dX4_noteRow_24 : decode cX4_noteRow 24 = .ok (.iload_n 1, 1) := decA_get dAX4_noteRow 14 rfl
theorem dX4_noteRow_25 : decode cX4_noteRow 25 = .ok (.invokestatic 85, 3) := decA_get dAX4_noteRow 15 rfl
theorem dX4_noteRow_28 : decode cX4_noteRow 28 = .ok (.return_, 1) := decA_get dAX4_noteRow 16 rfl
theorem dX4_noteRow_8 : decode cX4_noteRow 8 = .ok (.return_, 1) := decA_get dAX4_noteRow 4 rfl
set_option maxHeartbeats 4000000 in
set_option maxRecDepth 100000 in
theorem g_noteRow (l : Launch) (D : va_G) (cI cB cZ cN : ClassId) (Qh : Nat) (Qa1 : Nat) (Qa2 : Nat) (Qr0 : Nat) (QS : Nat → Nat → Nat) (v_k : Nat) (hQ : RowsOk QS) (hk5 : v_k ≤ 5) : Cv (S := (Nat → Nat → Nat)) l D cI cB cZ cN yX4_noteRow wsX4_noteRow ({ frames := 1, cells := 0, slots := 0, locals := 40 } : Room) [.ref Qh, .int (nI v_k)] [(Qh, .inr (4, [.ref Qr0, .ref Qa1, .ref Qa2, .int (nI (QS 3 0))])), (Qa1, .inl (cI, 5, .inl (nF (QS 1)))), (Qa2, .inl (cI, 5, .inl (nF (QS 2))))] (fun (u : (Nat → Nat → Nat)) => RowsOk u ∧ u 1 = QS 1) (fun u => [(Qh, .inr (4, [.ref Qr0, .ref Qa1, .ref Qa2, .int (nI (u 3 0))])), (Qa1, .inl (cI, 5, .inl (nF (u 1)))), (Qa2, .inl (cI, 5, .inl (nF (u 2))))]) := by
  refine bx_of (D := D) (cI := cI) (cB := cB) (cZ := cZ) (cN := cN) (y := yX4_noteRow) (wd := wsX4_noteRow) (rm := ({ frames := 1, cells := 0, slots := 0, locals := 40 } : Room)) (av := [.ref Qh, .int (nI v_k)]) (wc := [(Qh, .inr (4, [.ref Qr0, .ref Qa1, .ref Qa2, .int (nI (QS 3 0))])), (Qa1, .inl (cI, 5, .inl (nF (QS 1)))), (Qa2, .inl (cI, 5, .inl (nF (QS 2))))]) (cc := cX4_noteRow) (maxL := 2) (ret := none) (Qc := fun _ A => va_Qv (S := (Nat → Nat → Nat)) (fun (u : (Nat → Nat → Nat)) => RowsOk u ∧ u 1 = QS 1) (Aft D (fun (u : (Nat → Nat → Nat)) => [(Qh, .inr (4, [.ref Qr0, .ref Qa1, .ref Qa2, .int (nI (u 3 0))])), (Qa1, .inl (cI, 5, .inl (nF (u 1)))), (Qa2, .inl (cI, 5, .inl (nF (u 2))))]) A) A) (by decide) rfl (Nat.le_of_ble_eq_true rfl) ?_
  intro p e s m below meth c A H locs ⟨hx, hb, hr, hml, hown, hts, hlk, hnm⟩ hK hP hD hS hA ls hl
  have hl : lv_has ls 2 [(0, .ref Qh), (1, .int (nI v_k))] := hl
  have hown : s.vm.findClass RX4 = some m.cls := hown
  have bq3 := hQ.2.2
  refine lv_iload_n hx hb dX4_noteRow_0 rfl (lv_at hl 1 rfl) ?_
  refine lv_aload_n hx hb dX4_noteRow_1 rfl (lv_at hl 0 rfl) ?_
  refine va_get (D := D) (ci := 4) (v := .int (nI (QS 3 0))) (C := RX4) (T := TX4) (N := 4) hx hb hts in_X4_noteRow_4 hown hK.1 hP 0 rfl rfl 3 (by decide) (hts (.fieldLink RX4 25 "ChildCoins$Rows" "bestLength" "I") (List.mem_of_getElem? (i := 1) rfl)) (fun _ h9 => h9) rfl dX4_noteRow_2 ?_
  refine nb_icmp_gt (tgt := 9) hx hb dX4_noteRow_5 (by decide) (by omega) (by omega) (fun hq1 => ?_) (fun hq1 => ?_)
  · skip
    refine lv_aload_n hx hb dX4_noteRow_9 rfl (lv_at hl 0 rfl) ?_
    refine lv_iload_n hx hb dX4_noteRow_10 rfl (lv_at hl 1 rfl) ?_
    refine va_put (D := D) (ci := 4) (v := .int (nI v_k)) (ty := tyX4 3) (C := RX4) (T := TX4) (N := 4) hx hb hts in_X4_noteRow_4 tyX4 tyX4_ok nmX4 hown hK.1 hP hD hS 0 rfl rfl 3 (by decide) (hts (.fieldLink RX4 25 "ChildCoins$Rows" "bestLength" "I") (List.mem_of_getElem? (i := 1) rfl)) (fun _ h9 => h9) rfl (tyX4_ok 3 (by decide)) rfl rfl (Nat.le_of_ble_eq_true rfl) dX4_noteRow_11 (fun H locs hP hD hS => ?_)
    obtain ⟨hP, hD⟩ : wPD D A [(Qh, .inr (4, [.ref Qr0, .ref Qa1, .ref Qa2, .int (nI v_k)])), (Qa1, .inl (cI, 5, .inl (nF (QS 1)))), (Qa2, .inl (cI, 5, .inl (nF (QS 2))))] H := ⟨hP, hD⟩
    refine lv_aload_n hx hb dX4_noteRow_14 rfl (lv_at hl 0 rfl) ?_
    refine va_get (D := D) (ci := 4) (v := .ref Qa1) (C := RX4) (T := TX4) (N := 4) hx hb hts in_X4_noteRow_4 hown hK.1 hP 0 rfl rfl 1 (by decide) (hts (.fieldLink RX4 18 "ChildCoins$Rows" "row" "[I") (List.mem_of_getElem? (i := 2) rfl)) (fun _ h9 => h9) rfl dX4_noteRow_15 ?_
    refine lv_iconst (v := nI 0) hx hb dX4_noteRow_18 (by decide) ?_
    refine lv_aload_n hx hb dX4_noteRow_19 rfl (lv_at hl 0 rfl) ?_
    refine va_get (D := D) (ci := 4) (v := .ref Qa2) (C := RX4) (T := TX4) (N := 4) hx hb hts in_X4_noteRow_4 hown hK.1 hP 0 rfl rfl 2 (by decide) (hts (.fieldLink RX4 22 "ChildCoins$Rows" "best" "[I") (List.mem_of_getElem? (i := 3) rfl)) (fun _ h9 => h9) rfl dX4_noteRow_20 ?_
    refine lv_iconst (v := nI 0) hx hb dX4_noteRow_23 (by decide) ?_
    refine lv_iload_n hx hb dX4_noteRow_24 rfl (lv_at hl 1 rfl) ?_
    refine va_copyi hx hb (hml.trans hl.1.symm) hown (hts (.methodLink RX4 85 arraycopyName) (List.mem_of_getElem? (i := 4) rfl)) (hts (.native arraycopyName) (List.mem_of_getElem? (i := 5) rfl)) (hts (.static arraycopyName) (List.mem_of_getElem? (i := 6) rfl)) (hts (.initialized "java/lang/System") (List.mem_of_getElem? (i := 7) rfl)) hK.1 hP hD hS 1 2 0 0 rfl rfl rfl rfl rfl (nI_pos (by omega)) (nI_pos (by omega)) (nI_pos (by omega)) (by rw [nI_clamp (by omega), nI_clamp (by omega)]; omega) (by rw [nI_clamp (by omega), nI_clamp (by omega)]; omega) (fun i _ => rfl) (Nat.le_of_ble_eq_true rfl) (Nat.le_of_ble_eq_true rfl) dX4_noteRow_25 (fun H locs hP hD hS => ?_)
    obtain ⟨hP, hD⟩ : wPD D A [(Qh, .inr (4, [.ref Qr0, .ref Qa1, .ref Qa2, .int (nI v_k)])), (Qa1, .inl (cI, 5, .inl (nF (QS 1)))), (Qa2, .inl (cI, 5, .inl (va_cpy (nF (QS 1)) (nF (QS 2)) (nI 0).toNatClampNeg (nI 0).toNatClampNeg (nI v_k).toNatClampNeg)))] H := ⟨hP, hD⟩
    rw [nF_cp (by omega) (by omega) (by omega)] at hP hD
    obtain ⟨hP, hD⟩ : wPD D A [(Qh, .inr (4, [.ref Qr0, .ref Qa1, .ref Qa2, .int (nI v_k)])), (Qa1, .inl (cI, 5, .inl (nF (QS 1)))), (Qa2, .inl (cI, 5, .inl (nF (va_cpy (QS 1) (QS 2) 0 0 v_k))))] H := ⟨hP, hD⟩
    exact en_v hx hb hr hlk hP hD hS (ua (ua QS 2 (va_cpy (QS 1) (QS 2) 0 0 v_k)) 3 (fun _ => v_k)) [0, 1, 2] (by decide) rfl (Nat.le_of_ble_eq_true rfl) (Nat.le_of_ble_eq_true rfl) dX4_noteRow_28 ⟨rows_note hQ hk5, rfl⟩
  · skip
    exact en_v hx hb hr hlk hP hD hS QS [0, 1, 2] (by decide) rfl (Nat.le_of_ble_eq_true rfl) (Nat.le_of_ble_eq_true rfl) dX4_noteRow_8 ⟨hQ, rfl⟩
