set_option maxRecDepth 20000 in
theorem dAX3_readNumber : decA cX3_readNumber [(0, .aload_n 0, 1), (1, .invokevirtual 42, 3), (4, .aload_n 0, 1), (5, .getfield 25, 3), (8, .iconst 2, 1), (9, .if_icmp .ne 23, 3), (12, .aload_n 0, 1), (13, .getfield 28, 3), (16, .iload_n 1, 1), (17, .if_icmp .lt 15, 3), (20, .aload_n 0, 1), (21, .getfield 28, 3), (24, .iload_n 2, 1), (25, .if_icmp .gt 7, 3), (28, .iconst 1, 1), (29, .goto 4, 3), (32, .iconst 0, 1), (33, .ireturn, 1)] = true := by decide +kernel
theorem dX3_readNumber_0 : decode cX3_readNumber 0 = .ok (.aload_n 0, 1) := decA_get dAX3_readNumber 0 rfl
theorem dX3_readNumber_1 : decode cX3_readNumber 1 = .ok (.invokevirtual 42, 3) := decA_get dAX3_readNumber 1 rfl
set_option maxRecDepth 20000 in
theorem ggX3_readNumber_X3_step : GoodIn wsX3_readNumber wsX3_step := gd_ids wi_X3_readNumber wm_X3_readNumber wi_X3_step (by decide +kernel)
set_option maxRecDepth 20000 in
theorem gX3_readNumber_X3_step : GoodIn wsX3_readNumber (wsV RX3 42 RX3 yX3_step wsX3_step) := goodIn_app (gd_ids wi_X3_readNumber wm_X3_readNumber (b := [188, 189, 190, 180]) rfl (by decide +kernel)) ggX3_readNumber_X3_step
theorem dX3_readNumber_4 : decode cX3_readNumber 4 = .ok (.aload_n 0, 1) := decA_get dAX3_readNumber 2 rfl
theorem dX3_readNumber_5 : decode cX3_readNumber 5 = .ok (.getfield 25, 3) := decA_get dAX3_readNumber 3 rfl
theorem in_X3_readNumber_3 : ∀ w ∈ wsX30, w ∈ wsX3_readNumber := fun w h => (gd_ids wi_X3_readNumber wm_X3_readNumber wi_X30 (by decide +kernel) w h).1
theorem dX3_readNumber_8 : decode cX3_readNumber 8 = .ok (.iconst 2, 1) := decA_get dAX3_readNumber 4 rfl
theorem dX3_readNumber_9 : decode cX3_readNumber 9 = .ok (.if_icmp .ne 23, 3) := decA_get dAX3_readNumber 5 rfl
theorem dX3_readNumber_32 : decode cX3_readNumber 32 = .ok (.iconst 0, 1) := decA_get dAX3_readNumber 16 rfl
theorem dX3_readNumber_33 : decode cX3_readNumber 33 = .ok (.ireturn, 1) := decA_get dAX3_readNumber 17 rfl
theorem dX3_readNumber_12 : decode cX3_readNumber 12 = .ok (.aload_n 0, 1) := decA_get dAX3_readNumber 6 rfl
theorem dX3_readNumber_13 : decode cX3_readNumber 13 = .ok (.getfield 28, 3) := decA_get dAX3_readNumber 7 rfl
theorem dX3_readNumber_16 : decode cX3_readNumber 16 = .ok (.iload_n 1, 1) := decA_get dAX3_readNumber 8 rfl
theorem dX3_readNumber_17 : decode cX3_readNumber 17 = .ok (.if_icmp .lt 15, 3) := decA_get dAX3_readNumber 9 rfl
theorem dX3_readNumber_20 : decode cX3_readNumber 20 = .ok (.aload_n 0, 1) := decA_get dAX3_readNumber 10 rfl
theorem dX3_readNumber_21 : decode cX3_readNumber 21 = .ok (.getfield 28, 3) := decA_get dAX3_readNumber 11 rfl
theorem dX3_readNumber_24 : decode cX3_readNumber 24 = .ok (.iload_n 2, 1) := decA_get dAX3_readNumber 12 rfl
theorem dX3_readNumber_25 : decode cX3_readNumber 25 = .ok (.if_icmp .gt 7, 3) := decA_get dAX3_readNumber 13 rfl
theorem dX3_readNumber_28 : decode cX3_readNumber 28 = .ok (.iconst 1, 1) := decA_get dAX3_readNumber 14 rfl
theorem dX3_readNumber_29 : decode cX3_readNumber 29 = .ok (.goto 4, 3) := decA_get dAX3_readNumber 15 rfl
set_option maxHeartbeats 4000000 in
set_option maxRecDepth 100000 in
theorem g_readNumberA (l : Launch) (D : va_G) (cI cB cZ cN : ClassId) (Rh : Nat) (RS : Nat → Nat → Nat) (Th : Nat) (TS : Nat → Nat → Nat) (v_lo : Nat) (v_hi : Nat) (hT : ∀ j, TS 0 j < 256) (h1 : RS 2 0 ≤ RS 1 0) (h2 : RS 1 0 ≤ 180) (hlo : v_lo < 100) (hhi : v_hi < 100) : Ci (S := (Nat → Nat → Nat)) l D cI cB cZ cN yX3_readNumber wsX3_readNumber ({ frames := 2, cells := 0, slots := 0, locals := 42 } : Room) [.ref Rh, .int (nI v_lo), .int (nI v_hi)] [(Rh, .inr (3, [.ref Th, .int (nI (RS 1 0)), .int (nI (RS 2 0)), .int (nI (RS 3 0)), .int (nI (RS 4 0)), .int (nI (RS 5 0))])), (Th, .inl (cI, 180, .inl (nF (TS 0))))] (fun (r : Int32) (u : (Nat → Nat → Nat)) => r = nI (okN (TS 0) (RS 1 0) (RS 2 0) v_lo v_hi) ∧ RdAt u (TS 0) (RS 1 0) (RS 2 0)) (fun u => [(Rh, .inr (3, [.ref Th, .int (nI (u 1 0)), .int (nI (u 2 0)), .int (nI (u 3 0)), .int (nI (u 4 0)), .int (nI (u 5 0))])), (Th, .inl (cI, 180, .inl (nF (TS 0))))]) := by
  refine bx_of (D := D) (cI := cI) (cB := cB) (cZ := cZ) (cN := cN) (y := yX3_readNumber) (wd := wsX3_readNumber) (rm := ({ frames := 2, cells := 0, slots := 0, locals := 42 } : Room)) (av := [.ref Rh, .int (nI v_lo), .int (nI v_hi)]) (wc := [(Rh, .inr (3, [.ref Th, .int (nI (RS 1 0)), .int (nI (RS 2 0)), .int (nI (RS 3 0)), .int (nI (RS 4 0)), .int (nI (RS 5 0))])), (Th, .inl (cI, 180, .inl (nF (TS 0))))]) (cc := cX3_readNumber) (maxL := 3) (ret := (some .boolean)) (Qc := fun _ A => va_Qi (S := (Nat → Nat → Nat)) (fun (r : Int32) (u : (Nat → Nat → Nat)) => r = nI (okN (TS 0) (RS 1 0) (RS 2 0) v_lo v_hi) ∧ RdAt u (TS 0) (RS 1 0) (RS 2 0)) (Aft D (fun (u : (Nat → Nat → Nat)) => [(Rh, .inr (3, [.ref Th, .int (nI (u 1 0)), .int (nI (u 2 0)), .int (nI (u 3 0)), .int (nI (u 4 0)), .int (nI (u 5 0))])), (Th, .inl (cI, 180, .inl (nF (TS 0))))]) A) A) (by decide) rfl (Nat.le_of_ble_eq_true rfl) ?_
  intro p e s m below meth c A H locs ⟨hx, hb, hr, hml, hown, hts, hlk, hnm⟩ hK hP hD hS hA ls hl
  have hl : lv_has ls 3 [(0, .ref Rh), (1, .int (nI v_lo)), (2, .int (nI v_hi))] := hl
  have hown : s.vm.findClass RX3 = some m.cls := hown
  refine lv_aload_n hx hb dX3_readNumber_0 rfl (lv_at hl 0 rfl) ?_
  refine be_v (free := fun _ => False) (wr := []) (ru_V (As := []) (rest := []) ⟨hx, hb, hml, hown, hts⟩ (g_step l D cI cB cZ cN Rh RS Th TS hT h1 h2 H.size) gX3_readNumber_X3_step rfl ⟨rfl, by decide, by decide, (show Option.map (fun d => d.parameters.length) (parseMethodDescriptor yX3_step.desc) = some 0 by decide +kernel)⟩ ⟨Nat.le_of_ble_eq_true rfl, Nat.le_of_ble_eq_true rfl⟩ hK hP hD 3 0 rfl rfl [0, 1] (by decide) rfl hl.1 rfl (Nat.le_of_ble_eq_true rfl) dX3_readNumber_1 ⟨Nat.le_of_ble_eq_true rfl, Nat.le_of_ble_eq_true rfl⟩) hP hD hS hA [0, 1] [] rfl rfl (by decide) (by decide) (fun u1 H locs w3 hP hD hS => ?_)
  have k4 : RdAt u1 (TS 0) (RS 1 0) (RS 2 0) := w3
  have k4v := pV_le hT (RS 1 0) (RS 2 0)
  have k4k := pK_le (TS 0) (RS 1 0) (RS 2 0)
  have k44 : u1 4 0 = pK (TS 0) (RS 1 0) (RS 2 0) := k4.2.2.2.1
  have k45 : u1 5 0 = pV (TS 0) (RS 1 0) (RS 2 0) := k4.2.2.2.2
  obtain ⟨hP, hD⟩ : wPD D A [(Rh, .inr (3, [.ref Th, .int (nI (u1 1 0)), .int (nI (u1 2 0)), .int (nI (u1 3 0)), .int (nI (u1 4 0)), .int (nI (u1 5 0))])), (Th, .inl (cI, 180, .inl (nF (TS 0))))] H := ⟨hP, hD⟩
  refine lv_aload_n hx hb dX3_readNumber_4 rfl (lv_at hl 0 rfl) ?_
  refine va_get (D := D) (ci := 3) (v := .int (nI (u1 4 0))) (C := RX3) (T := TX3) (N := 6) hx hb hts in_X3_readNumber_3 hown hK.1 hP 0 rfl rfl 4 (by decide) (hts (.fieldLink RX3 25 "ChildCoins$Reader" "token" "I") (List.mem_of_getElem? (i := 1) rfl)) (fun _ h9 => h9) rfl dX3_readNumber_5 ?_
  refine lv_iconst (v := nI 2) hx hb dX3_readNumber_8 (by decide) ?_
  refine nb_icmp_ne (tgt := 32) hx hb dX3_readNumber_9 (by decide) (by omega) (by omega) (fun hq5 => ?_) (fun hq5 => ?_)
  · skip
    refine lv_iconst (v := nI 0) hx hb dX3_readNumber_32 (by decide) ?_
    exact en_z hx hb hr hlk hP hD hS u1 [0, 1] (by decide) rfl (Nat.le_of_ble_eq_true rfl) (Nat.le_of_ble_eq_true rfl) dX3_readNumber_33 rfl ⟨congrArg nI (by unfold okN; split <;> omega), k4⟩
  · skip
    refine lv_aload_n hx hb dX3_readNumber_12 rfl (lv_at hl 0 rfl) ?_
    refine va_get (D := D) (ci := 3) (v := .int (nI (u1 5 0))) (C := RX3) (T := TX3) (N := 6) hx hb hts in_X3_readNumber_3 hown hK.1 hP 0 rfl rfl 5 (by decide) (hts (.fieldLink RX3 28 "ChildCoins$Reader" "value" "I") (List.mem_of_getElem? (i := 2) rfl)) (fun _ h9 => h9) rfl dX3_readNumber_13 ?_
    refine lv_iload_n hx hb dX3_readNumber_16 rfl (lv_at hl 1 rfl) ?_
    refine nb_icmp_lt (tgt := 32) hx hb dX3_readNumber_17 (by decide) (by omega) (by omega) (fun hq6 => ?_) (fun hq6 => ?_)
    · skip
      refine lv_iconst (v := nI 0) hx hb dX3_readNumber_32 (by decide) ?_
      exact en_z hx hb hr hlk hP hD hS u1 [0, 1] (by decide) rfl (Nat.le_of_ble_eq_true rfl) (Nat.le_of_ble_eq_true rfl) dX3_readNumber_33 rfl ⟨congrArg nI (by unfold okN; split <;> omega), k4⟩
    · skip
      refine lv_aload_n hx hb dX3_readNumber_20 rfl (lv_at hl 0 rfl) ?_
      refine va_get (D := D) (ci := 3) (v := .int (nI (u1 5 0))) (C := RX3) (T := TX3) (N := 6) hx hb hts in_X3_readNumber_3 hown hK.1 hP 0 rfl rfl 5 (by decide) (hts (.fieldLink RX3 28 "ChildCoins$Reader" "value" "I") (List.mem_of_getElem? (i := 2) rfl)) (fun _ h9 => h9) rfl dX3_readNumber_21 ?_
      refine lv_iload_n hx hb dX3_readNumber_24 rfl (lv_at hl 2 rfl) ?_
      refine nb_icmp_gt (tgt := 32) hx hb dX3_readNumber_25 (by decide) (by omega) (by omega) (fun hq7 => ?_) (fun hq7 => ?_)
      · skip
        refine lv_iconst (v := nI 0) hx hb dX3_readNumber_32 (by decide) ?_
        exact en_z hx hb hr hlk hP hD hS u1 [0, 1] (by decide) rfl (Nat.le_of_ble_eq_true rfl) (Nat.le_of_ble_eq_true rfl) dX3_readNumber_33 rfl ⟨congrArg nI (by unfold okN; split <;> omega), k4⟩
      · skip
        refine lv_iconst (v := nI 1) hx hb dX3_readNumber_28 (by decide) ?_
        refine lv_goto (tgt := 33) hx hb dX3_readNumber_29 (by decide) ?_
        exact en_z hx hb hr hlk hP hD hS u1 [0, 1] (by decide) rfl (Nat.le_of_ble_eq_true rfl) (Nat.le_of_ble_eq_true rfl) dX3_readNumber_33 rfl ⟨congrArg nI (by unfold okN; split <;> omega), k4⟩
set_option maxHeartbeats 4000000 in
set_option maxRecDepth 100000 in
theorem g_readNumberB (l : Launch) (D : va_G) (cI cB cZ cN : ClassId) (Rh : Nat) (RS : Nat → Nat → Nat) (Th : Nat) (TS : Nat → Nat → Nat) (v_lo : Nat) (v_h : Nat) (hT : ∀ j, TS 0 j < 256) (h1 : RS 2 0 ≤ RS 1 0) (h2 : RS 1 0 ≤ 180) (hlo : v_lo < 100) (hh : v_h < 100) : Ci (S := (Nat → Nat → Nat)) l D cI cB cZ cN yX3_readNumber wsX3_readNumber ({ frames := 2, cells := 0, slots := 0, locals := 42 } : Room) [.ref Rh, .int (nI v_lo), .int (nI v_h - nI 1)] [(Rh, .inr (3, [.ref Th, .int (nI (RS 1 0)), .int (nI (RS 2 0)), .int (nI (RS 3 0)), .int (nI (RS 4 0)), .int (nI (RS 5 0))])), (Th, .inl (cI, 180, .inl (nF (TS 0))))] (fun (r : Int32) (u : (Nat → Nat → Nat)) => r = nI (ok1 (TS 0) (RS 1 0) (RS 2 0) v_lo v_h) ∧ RdAt u (TS 0) (RS 1 0) (RS 2 0)) (fun u => [(Rh, .inr (3, [.ref Th, .int (nI (u 1 0)), .int (nI (u 2 0)), .int (nI (u 3 0)), .int (nI (u 4 0)), .int (nI (u 5 0))])), (Th, .inl (cI, 180, .inl (nF (TS 0))))]) := by
  refine bx_of (D := D) (cI := cI) (cB := cB) (cZ := cZ) (cN := cN) (y := yX3_readNumber) (wd := wsX3_readNumber) (rm := ({ frames := 2, cells := 0, slots := 0, locals := 42 } : Room)) (av := [.ref Rh, .int (nI v_lo), .int (nI v_h - nI 1)]) (wc := [(Rh, .inr (3, [.ref Th, .int (nI (RS 1 0)), .int (nI (RS 2 0)), .int (nI (RS 3 0)), .int (nI (RS 4 0)), .int (nI (RS 5 0))])), (Th, .inl (cI, 180, .inl (nF (TS 0))))]) (cc := cX3_readNumber) (maxL := 3) (ret := (some .boolean)) (Qc := fun _ A => va_Qi (S := (Nat → Nat → Nat)) (fun (r : Int32) (u : (Nat → Nat → Nat)) => r = nI (ok1 (TS 0) (RS 1 0) (RS 2 0) v_lo v_h) ∧ RdAt u (TS 0) (RS 1 0) (RS 2 0)) (Aft D (fun (u : (Nat → Nat → Nat)) => [(Rh, .inr (3, [.ref Th, .int (nI (u 1 0)), .int (nI (u 2 0)), .int (nI (u 3 0)), .int (nI (u 4 0)), .int (nI (u 5 0))])), (Th, .inl (cI, 180, .inl (nF (TS 0))))]) A) A) (by decide) rfl (Nat.le_of_ble_eq_true rfl) ?_
  intro p e s m below meth c A H locs ⟨hx, hb, hr, hml, hown, hts, hlk, hnm⟩ hK hP hD hS hA ls hl
  have hl : lv_has ls 3 [(0, .ref Rh), (1, .int (nI v_lo)), (2, .int (nI v_h - nI 1))] := hl
  have hown : s.vm.findClass RX3 = some m.cls := hown
  refine lv_aload_n hx hb dX3_readNumber_0 rfl (lv_at hl 0 rfl) ?_
  refine be_v (free := fun _ => False) (wr := []) (ru_V (As := []) (rest := []) ⟨hx, hb, hml, hown, hts⟩ (g_step l D cI cB cZ cN Rh RS Th TS hT h1 h2 H.size) gX3_readNumber_X3_step rfl ⟨rfl, by decide, by decide, (show Option.map (fun d => d.parameters.length) (parseMethodDescriptor yX3_step.desc) = some 0 by decide +kernel)⟩ ⟨Nat.le_of_ble_eq_true rfl, Nat.le_of_ble_eq_true rfl⟩ hK hP hD 3 0 rfl rfl [0, 1] (by decide) rfl hl.1 rfl (Nat.le_of_ble_eq_true rfl) dX3_readNumber_1 ⟨Nat.le_of_ble_eq_true rfl, Nat.le_of_ble_eq_true rfl⟩) hP hD hS hA [0, 1] [] rfl rfl (by decide) (by decide) (fun u1 H locs w3 hP hD hS => ?_)
  have k4 : RdAt u1 (TS 0) (RS 1 0) (RS 2 0) := w3
  have k4v := pV_le hT (RS 1 0) (RS 2 0)
  have k4k := pK_le (TS 0) (RS 1 0) (RS 2 0)
  have k44 : u1 4 0 = pK (TS 0) (RS 1 0) (RS 2 0) := k4.2.2.2.1
  have k45 : u1 5 0 = pV (TS 0) (RS 1 0) (RS 2 0) := k4.2.2.2.2
  obtain ⟨hP, hD⟩ : wPD D A [(Rh, .inr (3, [.ref Th, .int (nI (u1 1 0)), .int (nI (u1 2 0)), .int (nI (u1 3 0)), .int (nI (u1 4 0)), .int (nI (u1 5 0))])), (Th, .inl (cI, 180, .inl (nF (TS 0))))] H := ⟨hP, hD⟩
  refine lv_aload_n hx hb dX3_readNumber_4 rfl (lv_at hl 0 rfl) ?_
  refine va_get (D := D) (ci := 3) (v := .int (nI (u1 4 0))) (C := RX3) (T := TX3) (N := 6) hx hb hts in_X3_readNumber_3 hown hK.1 hP 0 rfl rfl 4 (by decide) (hts (.fieldLink RX3 25 "ChildCoins$Reader" "token" "I") (List.mem_of_getElem? (i := 1) rfl)) (fun _ h9 => h9) rfl dX3_readNumber_5 ?_
  refine lv_iconst (v := nI 2) hx hb dX3_readNumber_8 (by decide) ?_
  refine nb_icmp_ne (tgt := 32) hx hb dX3_readNumber_9 (by decide) (by omega) (by omega) (fun hq5 => ?_) (fun hq5 => ?_)
  · skip
    refine lv_iconst (v := nI 0) hx hb dX3_readNumber_32 (by decide) ?_
    exact en_z hx hb hr hlk hP hD hS u1 [0, 1] (by decide) rfl (Nat.le_of_ble_eq_true rfl) (Nat.le_of_ble_eq_true rfl) dX3_readNumber_33 rfl ⟨congrArg nI (by unfold ok1; split <;> omega), k4⟩
  · skip
    refine lv_aload_n hx hb dX3_readNumber_12 rfl (lv_at hl 0 rfl) ?_
    refine va_get (D := D) (ci := 3) (v := .int (nI (u1 5 0))) (C := RX3) (T := TX3) (N := 6) hx hb hts in_X3_readNumber_3 hown hK.1 hP 0 rfl rfl 5 (by decide) (hts (.fieldLink RX3 28 "ChildCoins$Reader" "value" "I") (List.mem_of_getElem? (i := 2) rfl)) (fun _ h9 => h9) rfl dX3_readNumber_13 ?_
    refine lv_iload_n hx hb dX3_readNumber_16 rfl (lv_at hl 1 rfl) ?_
    refine nb_icmp_lt (tgt := 32) hx hb dX3_readNumber_17 (by decide) (by omega) (by omega) (fun hq6 => ?_) (fun hq6 => ?_)
    · skip
      refine lv_iconst (v := nI 0) hx hb dX3_readNumber_32 (by decide) ?_
      exact en_z hx hb hr hlk hP hD hS u1 [0, 1] (by decide) rfl (Nat.le_of_ble_eq_true rfl) (Nat.le_of_ble_eq_true rfl) dX3_readNumber_33 rfl ⟨congrArg nI (by unfold ok1; split <;> omega), k4⟩
    · skip
      refine lv_aload_n hx hb dX3_readNumber_20 rfl (lv_at hl 0 rfl) ?_
      refine va_get (D := D) (ci := 3) (v := .int (nI (u1 5 0))) (C := RX3) (T := TX3) (N := 6) hx hb hts in_X3_readNumber_3 hown hK.1 hP 0 rfl rfl 5 (by decide) (hts (.fieldLink RX3 28 "ChildCoins$Reader" "value" "I") (List.mem_of_getElem? (i := 2) rfl)) (fun _ h9 => h9) rfl dX3_readNumber_21 ?_
      refine lv_iload_n hx hb dX3_readNumber_24 rfl (lv_at hl 2 rfl) ?_
      refine nb_icmp_gts (tgt := 32) hx hb dX3_readNumber_25 (by decide) (by omega) (by omega) (fun hq7 => ?_) (fun hq7 => ?_)
      · skip
        refine lv_iconst (v := nI 0) hx hb dX3_readNumber_32 (by decide) ?_
        exact en_z hx hb hr hlk hP hD hS u1 [0, 1] (by decide) rfl (Nat.le_of_ble_eq_true rfl) (Nat.le_of_ble_eq_true rfl) dX3_readNumber_33 rfl ⟨congrArg nI (by unfold ok1; split <;> omega), k4⟩
      · skip
        refine lv_iconst (v := nI 1) hx hb dX3_readNumber_28 (by decide) ?_
        refine lv_goto (tgt := 33) hx hb dX3_readNumber_29 (by decide) ?_
        exact en_z hx hb hr hlk hP hD hS u1 [0, 1] (by decide) rfl (Nat.le_of_ble_eq_true rfl) (Nat.le_of_ble_eq_true rfl) dX3_readNumber_33 rfl ⟨congrArg nI (by unfold ok1; split <;> omega), k4⟩
set_option maxRecDepth 20000 in
theorem dAX3_readEnding : decA cX3_readEnding [(0, .aload_n 0, 1), (1, .invokevirtual 42, 3), (4, .aload_n 0, 1), (5, .getfield 25, 3), (8, .iconst 3, 1), (9, .if_icmp .ne 7, 3), (12, .iconst 1, 1), (13, .goto 4, 3), (16, .iconst 0, 1), (17, .ireturn, 1)] = true := by decide +kernel
theorem dX3_readEnding_0 : decode cX3_readEnding 0 = .ok (.aload_n 0, 1) := decA_get dAX3_readEnding 0 rfl
theorem dX3_readEnding_1 : decode cX3_readEnding 1 = .ok (.invokevirtual 42, 3) := decA_get dAX3_readEnding 1 rfl
set_option maxRecDepth 20000 in
theorem ggX3_readEnding_X3_step : GoodIn wsX3_readEnding wsX3_step := gd_ids wi_X3_readEnding wm_X3_readEnding wi_X3_step (by decide +kernel)
set_option maxRecDepth 20000 in
theorem gX3_readEnding_X3_step : GoodIn wsX3_readEnding (wsV RX3 42 RX3 yX3_step wsX3_step) := goodIn_app (gd_ids wi_X3_readEnding wm_X3_readEnding (b := [188, 189, 190, 180]) rfl (by decide +kernel)) ggX3_readEnding_X3_step
theorem dX3_readEnding_4 : decode cX3_readEnding 4 = .ok (.aload_n 0, 1) := decA_get dAX3_readEnding 2 rfl
theorem dX3_readEnding_5 : decode cX3_readEnding 5 = .ok (.getfield 25, 3) := decA_get dAX3_readEnding 3 rfl
theorem in_X3_readEnding_3 : ∀ w ∈ wsX30, w ∈ wsX3_readEnding := fun w h => (gd_ids wi_X3_readEnding wm_X3_readEnding wi_X30 (by decide +kernel) w h).1
theorem dX3_readEnding_8 : decode cX3_readEnding 8 = .ok (.iconst 3, 1) := decA_get dAX3_readEnding 4 rfl
theorem dX3_readEnding_9 : decode cX3_readEnding 9 = .ok (.if_icmp .ne 7, 3) := decA_get dAX3_readEnding 5 rfl
theorem dX3_readEnding_16 : decode cX3_readEnding 16 = .ok (.iconst 0, 1) := decA_get dAX3_readEnding 8 rfl
theorem dX3_readEnding_17 : decode cX3_readEnding 17 = .ok (.ireturn, 1) := decA_get dAX3_readEnding 9 rfl
theorem dX3_readEnding_12 : decode cX3_readEnding 12 = .ok (.iconst 1, 1) := decA_get dAX3_readEnding 6 rfl
theorem dX3_readEnding_13 : decode cX3_readEnding 13 = .ok (.goto 4, 3) := decA_get dAX3_readEnding 7 rfl
set_option maxHeartbeats 4000000 in
set_option maxRecDepth 100000 in
theorem g_readEnding (l : Launch) (D : va_G) (cI cB cZ cN : ClassId) (Rh : Nat) (RS : Nat → Nat → Nat) (Th : Nat) (TS : Nat → Nat → Nat) (hT : ∀ j, TS 0 j < 256) (h1 : RS 2 0 ≤ RS 1 0) (h2 : RS 1 0 ≤ 180) : Ci (S := (Nat → Nat → Nat)) l D cI cB cZ cN yX3_readEnding wsX3_readEnding ({ frames := 2, cells := 0, slots := 0, locals := 42 } : Room) [.ref Rh] [(Rh, .inr (3, [.ref Th, .int (nI (RS 1 0)), .int (nI (RS 2 0)), .int (nI (RS 3 0)), .int (nI (RS 4 0)), .int (nI (RS 5 0))])), (Th, .inl (cI, 180, .inl (nF (TS 0))))] (fun (r : Int32) (u : (Nat → Nat → Nat)) => r = nI (enN (TS 0) (RS 1 0) (RS 2 0)) ∧ RdAt u (TS 0) (RS 1 0) (RS 2 0)) (fun u => [(Rh, .inr (3, [.ref Th, .int (nI (u 1 0)), .int (nI (u 2 0)), .int (nI (u 3 0)), .int (nI (u 4 0)), .int (nI (u 5 0))])), (Th, .inl (cI, 180, .inl (nF (TS 0))))]) := by
  refine bx_of (D := D) (cI := cI) (cB := cB) (cZ := cZ) (cN := cN) (y := yX3_readEnding) (wd := wsX3_readEnding) (rm := ({ frames := 2, cells := 0, slots := 0, locals := 42 } : Room)) (av := [.ref Rh]) (wc := [(Rh, .inr (3, [.ref Th, .int (nI (RS 1 0)), .int (nI (RS 2 0)), .int (nI (RS 3 0)), .int (nI (RS 4 0)), .int (nI (RS 5 0))])), (Th, .inl (cI, 180, .inl (nF (TS 0))))]) (cc := cX3_readEnding) (maxL := 1) (ret := (some .boolean)) (Qc := fun _ A => va_Qi (S := (Nat → Nat → Nat)) (fun (r : Int32) (u : (Nat → Nat → Nat)) => r = nI (enN (TS 0) (RS 1 0) (RS 2 0)) ∧ RdAt u (TS 0) (RS 1 0) (RS 2 0)) (Aft D (fun (u : (Nat → Nat → Nat)) => [(Rh, .inr (3, [.ref Th, .int (nI (u 1 0)), .int (nI (u 2 0)), .int (nI (u 3 0)), .int (nI (u 4 0)), .int (nI (u 5 0))])), (Th, .inl (cI, 180, .inl (nF (TS 0))))]) A) A) (by decide) rfl (Nat.le_of_ble_eq_true rfl) ?_
  intro p e s m below meth c A H locs ⟨hx, hb, hr, hml, hown, hts, hlk, hnm⟩ hK hP hD hS hA ls hl
  have hl : lv_has ls 1 [(0, .ref Rh)] := hl
  have hown : s.vm.findClass RX3 = some m.cls := hown
  refine lv_aload_n hx hb dX3_readEnding_0 rfl (lv_at hl 0 rfl) ?_
  refine be_v (free := fun _ => False) (wr := []) (ru_V (As := []) (rest := []) ⟨hx, hb, hml, hown, hts⟩ (g_step l D cI cB cZ cN Rh RS Th TS hT h1 h2 H.size) gX3_readEnding_X3_step rfl ⟨rfl, by decide, by decide, (show Option.map (fun d => d.parameters.length) (parseMethodDescriptor yX3_step.desc) = some 0 by decide +kernel)⟩ ⟨Nat.le_of_ble_eq_true rfl, Nat.le_of_ble_eq_true rfl⟩ hK hP hD 3 0 rfl rfl [0, 1] (by decide) rfl hl.1 rfl (Nat.le_of_ble_eq_true rfl) dX3_readEnding_1 ⟨Nat.le_of_ble_eq_true rfl, Nat.le_of_ble_eq_true rfl⟩) hP hD hS hA [0, 1] [] rfl rfl (by decide) (by decide) (fun u1 H locs w3 hP hD hS => ?_)
  have k4 : RdAt u1 (TS 0) (RS 1 0) (RS 2 0) := w3
  have k4v := pV_le hT (RS 1 0) (RS 2 0)
  have k4k := pK_le (TS 0) (RS 1 0) (RS 2 0)
  have k44 : u1 4 0 = pK (TS 0) (RS 1 0) (RS 2 0) := k4.2.2.2.1
  have k45 : u1 5 0 = pV (TS 0) (RS 1 0) (RS 2 0) := k4.2.2.2.2
  obtain ⟨hP, hD⟩ : wPD D A [(Rh, .inr (3, [.ref Th, .int (nI (u1 1 0)), .int (nI (u1 2 0)), .int (nI (u1 3 0)), .int (nI (u1 4 0)), .int (nI (u1 5 0))])), (Th, .inl (cI, 180, .inl (nF (TS 0))))] H := ⟨hP, hD⟩
  refine lv_aload_n hx hb dX3_readEnding_4 rfl (lv_at hl 0 rfl) ?_
  refine va_get (D := D) (ci := 3) (v := .int (nI (u1 4 0))) (C := RX3) (T := TX3) (N := 6) hx hb hts in_X3_readEnding_3 hown hK.1 hP 0 rfl rfl 4 (by decide) (hts (.fieldLink RX3 25 "ChildCoins$Reader" "token" "I") (List.mem_of_getElem? (i := 1) rfl)) (fun _ h9 => h9) rfl dX3_readEnding_5 ?_
  refine lv_iconst (v := nI 3) hx hb dX3_readEnding_8 (by decide) ?_
  refine nb_icmp_ne (tgt := 16) hx hb dX3_readEnding_9 (by decide) (by omega) (by omega) (fun hq5 => ?_) (fun hq5 => ?_)
  · skip
    refine lv_iconst (v := nI 0) hx hb dX3_readEnding_16 (by decide) ?_
    exact en_z hx hb hr hlk hP hD hS u1 [0, 1] (by decide) rfl (Nat.le_of_ble_eq_true rfl) (Nat.le_of_ble_eq_true rfl) dX3_readEnding_17 rfl ⟨congrArg nI (by unfold enN; split <;> omega), k4⟩
  · skip
    refine lv_iconst (v := nI 1) hx hb dX3_readEnding_12 (by decide) ?_
    refine lv_goto (tgt := 17) hx hb dX3_readEnding_13 (by decide) ?_
    exact en_z hx hb hr hlk hP hD hS u1 [0, 1] (by decide) rfl (Nat.le_of_ble_eq_true rfl) (Nat.le_of_ble_eq_true rfl) dX3_readEnding_17 rfl ⟨congrArg nI (by unfold enN; split <;> omega), k4⟩
