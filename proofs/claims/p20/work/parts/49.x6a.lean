set_option maxRecDepth 20000 in
theorem dAX6_type : decA cX6_type [(0, .iload_n 1, 1), (1, .ifCond .lt 10, 3), (4, .iload_n 1, 1), (5, .sipush 255, 3), (8, .if_icmp .le 5, 3), (11, .iconst (-1), 1), (12, .ireturn, 1), (13, .aload_n 0, 1), (14, .getfield 13, 3), (17, .sipush 180, 3), (20, .if_icmp .lt 6, 3), (23, .bipush (-3), 2), (25, .ireturn, 1), (26, .aload_n 0, 1), (27, .getfield 9, 3), (30, .aload_n 0, 1), (31, .getfield 13, 3), (34, .iload_n 1, 1), (35, .iastore, 1), (36, .aload_n 0, 1), (37, .dup, 1), (38, .getfield 13, 3), (41, .iconst 1, 1), (42, .iadd, 1), (43, .putfield 13, 3), (46, .aload_n 0, 1), (47, .getfield 13, 3), (50, .ireturn, 1)] = true := by decide +kernel
theorem dX6_type_0 : decode cX6_type 0 = .ok (.iload_n 1, 1) := decA_get dAX6_type 0 rfl
theorem dX6_type_1 : decode cX6_type 1 = .ok (.ifCond .lt 10, 3) := decA_get dAX6_type 1 rfl
theorem dX6_type_11 : decode cX6_type 11 = .ok (.iconst (-1), 1) := decA_get dAX6_type 5 rfl
theorem dX6_type_12 : decode cX6_type 12 = .ok (.ireturn, 1) := decA_get dAX6_type 6 rfl
theorem dX6_type_4 : decode cX6_type 4 = .ok (.iload_n 1, 1) := decA_get dAX6_type 2 rfl
theorem dX6_type_5 : decode cX6_type 5 = .ok (.sipush 255, 3) := decA_get dAX6_type 3 rfl
theorem dX6_type_8 : decode cX6_type 8 = .ok (.if_icmp .le 5, 3) := decA_get dAX6_type 4 rfl
theorem dX6_type_13 : decode cX6_type 13 = .ok (.aload_n 0, 1) := decA_get dAX6_type 7 rfl
theorem dX6_type_14 : decode cX6_type 14 = .ok (.getfield 13, 3) := decA_get dAX6_type 8 rfl
theorem in_X6_type_6 : ∀ w ∈ wsX60, w ∈ wsX6_type := fun w h => (gd_ids wi_X6_type wm_X6_type wi_X60 (by decide +kernel) w h).1
theorem dX6_type_17 : decode cX6_type 17 = .ok (.sipush 180, 3) := decA_get dAX6_type 9 rfl
theorem dX6_type_20 : decode cX6_type 20 = .ok (.if_icmp .lt 6, 3) := decA_get dAX6_type 10 rfl
theorem dX6_type_26 : decode cX6_type 26 = .ok (.aload_n 0, 1) := decA_get dAX6_type 13 rfl
theorem dX6_type_27 : decode cX6_type 27 = .ok (.getfield 9, 3) := decA_get dAX6_type 14 rfl
theorem dX6_type_30 : decode cX6_type 30 = .ok (.aload_n 0, 1) := decA_get dAX6_type 15 rfl
theorem dX6_type_31 : decode cX6_type 31 = .ok (.getfield 13, 3) := decA_get dAX6_type 16 rfl
theorem dX6_type_34 : decode cX6_type 34 = .ok (.iload_n 1, 1) := decA_get dAX6_type 17 rfl
theorem dX6_type_35 : decode cX6_type 35 = .ok (.iastore, 1) := decA_get dAX6_type 18 rfl
theorem dX6_type_36 : decode cX6_type 36 = .ok (.aload_n 0, 1) := decA_get dAX6_type 19 rfl
theorem dX6_type_37 : decode cX6_type 37 = .ok (.dup, 1) := decA_get dAX6_type 20 rfl
theorem dX6_type_38 : decode cX6_type 38 = .ok (.getfield 13, 3) := decA_get dAX6_type 21 rfl
theorem dX6_type_41 : decode cX6_type 41 = .ok (.iconst 1, 1) := decA_get dAX6_type 22 rfl
theorem dX6_type_42 : decode cX6_type 42 = .ok (.iadd, 1) := decA_get dAX6_type 23 rfl
theorem dX6_type_43 : decode cX6_type 43 = .ok (.putfield 13, 3) := decA_get dAX6_type 24 rfl
theorem dX6_type_46 : decode cX6_type 46 = .ok (.aload_n 0, 1) := decA_get dAX6_type 25 rfl
theorem dX6_type_47 : decode cX6_type 47 = .ok (.getfield 13, 3) := decA_get dAX6_type 26 rfl
theorem dX6_type_50 : decode cX6_type 50 = .ok (.ireturn, 1) := decA_get dAX6_type 27 rfl
theorem dX6_type_23 : decode cX6_type 23 = .ok (.bipush (-3), 2) := decA_get dAX6_type 11 rfl
theorem dX6_type_25 : decode cX6_type 25 = .ok (.ireturn, 1) := decA_get dAX6_type 12 rfl
set_option maxHeartbeats 4000000 in
set_option maxRecDepth 100000 in
theorem g_type (l : Launch) (D : va_G) (cI cB cZ cN : ClassId) (Xh : Nat) (Xa6 : Nat) (Xa11 : Nat) (Rh : Nat) (Lh : Nat) (Mh : Nat) (Nh : Nat) (Yh : Nat) (Wh : Nat) (Qh : Nat) (Xt : Int64) (Ih : Nat) (Jh : Nat) (XS : Nat → Nat → Nat) (Th : Nat) (TS : Nat → Nat → Nat) (v_c : Int32) (hT : ∀ j, TS 0 j < 256) (hx1 : XS 1 0 ≤ 180) : Ci (S := (Nat → Nat → Nat) × (Nat → Nat → Nat)) l D cI cB cZ cN yX6_type wsX6_type ({ frames := 0, cells := 0, slots := 0, locals := 0 } : Room) [.ref Xh, .int v_c] [(Xh, .inr (6, [.ref Th, .int (nI (XS 1 0)), .ref Rh, .ref Lh, .ref Mh, .ref Nh, .ref Xa6, .int (nI (XS 7 0)), .ref Yh, .ref Wh, .ref Qh, .ref Xa11, .int (nI (XS 12 0)), .long Xt])), (Xa6, .inl (cN, 2, .inr (.inr (.inr (.inr (va_up (va_up (fun _ => none) 0 (some Ih)) 1 (some Jh))))))), (Xa11, .inl (cI, 6, .inl (nF (XS 11)))), (Th, .inl (cI, 180, .inl (nF (TS 0))))] (fun (r : Int32) (u : (Nat → Nat → Nat) × (Nat → Nat → Nat)) => (¬ inN v_c 256 ∧ r = -1 ∧ u.1 = XS ∧ u.2 = TS) ∨ (inN v_c 256 ∧ XS 1 0 = 180 ∧ r = -3 ∧ u.1 = XS ∧ u.2 = TS) ∨ (∃ k, k < 256 ∧ v_c = nI k ∧ XS 1 0 < 180 ∧ r = nI (XS 1 0 + 1) ∧ u.1 = ua XS 1 (fun _ => XS 1 0 + 1) ∧ u.2 = ua TS 0 (un (TS 0) (XS 1 0) k))) (fun u => [(Xh, .inr (6, [.ref Th, .int (nI (u.1 1 0)), .ref Rh, .ref Lh, .ref Mh, .ref Nh, .ref Xa6, .int (nI (u.1 7 0)), .ref Yh, .ref Wh, .ref Qh, .ref Xa11, .int (nI (u.1 12 0)), .long Xt])), (Xa6, .inl (cN, 2, .inr (.inr (.inr (.inr (va_up (va_up (fun _ => none) 0 (some Ih)) 1 (some Jh))))))), (Xa11, .inl (cI, 6, .inl (nF (u.1 11)))), (Th, .inl (cI, 180, .inl (nF (u.2 0))))]) := by
  refine bx_of (D := D) (cI := cI) (cB := cB) (cZ := cZ) (cN := cN) (y := yX6_type) (wd := wsX6_type) (rm := ({ frames := 0, cells := 0, slots := 0, locals := 0 } : Room)) (av := [.ref Xh, .int v_c]) (wc := [(Xh, .inr (6, [.ref Th, .int (nI (XS 1 0)), .ref Rh, .ref Lh, .ref Mh, .ref Nh, .ref Xa6, .int (nI (XS 7 0)), .ref Yh, .ref Wh, .ref Qh, .ref Xa11, .int (nI (XS 12 0)), .long Xt])), (Xa6, .inl (cN, 2, .inr (.inr (.inr (.inr (va_up (va_up (fun _ => none) 0 (some Ih)) 1 (some Jh))))))), (Xa11, .inl (cI, 6, .inl (nF (XS 11)))), (Th, .inl (cI, 180, .inl (nF (TS 0))))]) (cc := cX6_type) (maxL := 2) (ret := (some .int)) (Qc := fun _ A => va_Qi (S := (Nat → Nat → Nat) × (Nat → Nat → Nat)) (fun (r : Int32) (u : (Nat → Nat → Nat) × (Nat → Nat → Nat)) => (¬ inN v_c 256 ∧ r = -1 ∧ u.1 = XS ∧ u.2 = TS) ∨ (inN v_c 256 ∧ XS 1 0 = 180 ∧ r = -3 ∧ u.1 = XS ∧ u.2 = TS) ∨ (∃ k, k < 256 ∧ v_c = nI k ∧ XS 1 0 < 180 ∧ r = nI (XS 1 0 + 1) ∧ u.1 = ua XS 1 (fun _ => XS 1 0 + 1) ∧ u.2 = ua TS 0 (un (TS 0) (XS 1 0) k))) (Aft D (fun (u : (Nat → Nat → Nat) × (Nat → Nat → Nat)) => [(Xh, .inr (6, [.ref Th, .int (nI (u.1 1 0)), .ref Rh, .ref Lh, .ref Mh, .ref Nh, .ref Xa6, .int (nI (u.1 7 0)), .ref Yh, .ref Wh, .ref Qh, .ref Xa11, .int (nI (u.1 12 0)), .long Xt])), (Xa6, .inl (cN, 2, .inr (.inr (.inr (.inr (va_up (va_up (fun _ => none) 0 (some Ih)) 1 (some Jh))))))), (Xa11, .inl (cI, 6, .inl (nF (u.1 11)))), (Th, .inl (cI, 180, .inl (nF (u.2 0))))]) A) A) (by decide) rfl (Nat.le_of_ble_eq_true rfl) ?_
  intro p e s m below meth c A H locs ⟨hx, hb, hr, hml, hown, hts, hlk, hnm⟩ hK hP hD hS hA ls hl
  have hl : lv_has ls 2 [(0, .ref Xh), (1, .int v_c)] := hl
  have hown : s.vm.findClass RX6 = some m.cls := hown
  refine lv_iload_n hx hb dX6_type_0 rfl (lv_at hl 1 rfl) ?_
  refine lv_if_lt (tgt := 11) hx hb dX6_type_1 (by decide) (fun hq1 => ?_) (fun hq1 => ?_)
  · skip
    refine lv_iconst (v := -1) hx hb dX6_type_11 (by decide) ?_
    exact en_i hx hb hr hlk hP hD hS (XS, TS) [0, 1, 2, 3] (by decide) rfl (Nat.le_of_ble_eq_true rfl) (Nat.le_of_ble_eq_true rfl) dX6_type_12 (Or.inl ⟨inN_neg (by decide) hq1, rfl, rfl, rfl⟩)
  · skip
    refine lv_iload_n hx hb dX6_type_4 rfl (lv_at hl 1 rfl) ?_
    refine lv_sipush (v := nI 255) hx hb dX6_type_5 (by decide) ?_
    refine lv_icmp_le (tgt := 13) hx hb dX6_type_8 (by decide) (fun hq2 => ?_) (fun hq2 => ?_)
    · skip
      obtain ⟨kk, hkk, rfl⟩ := inN_le (n := 255) (by decide) hq1 hq2
      refine lv_aload_n hx hb dX6_type_13 rfl (lv_at hl 0 rfl) ?_
      refine va_get (D := D) (ci := 6) (v := .int (nI (XS 1 0))) (C := RX6) (T := TX6) (N := 14) hx hb hts in_X6_type_6 hown hK.1 hP 0 rfl rfl 1 (by decide) (hts (.fieldLink RX6 13 "ChildCoins" "typed" "I") (List.mem_of_getElem? (i := 1) rfl)) (fun _ h9 => h9) rfl dX6_type_14 ?_
      refine lv_sipush (v := nI 180) hx hb dX6_type_17 (by decide) ?_
      refine nb_icmp_lt (tgt := 26) hx hb dX6_type_20 (by decide) (by omega) (by omega) (fun hq3 => ?_) (fun hq3 => ?_)
      · skip
        refine lv_aload_n hx hb dX6_type_26 rfl (lv_at hl 0 rfl) ?_
        refine va_get (D := D) (ci := 6) (v := .ref Th) (C := RX6) (T := TX6) (N := 14) hx hb hts in_X6_type_6 hown hK.1 hP 0 rfl rfl 0 (by decide) (hts (.fieldLink RX6 9 "ChildCoins" "text" "[I") (List.mem_of_getElem? (i := 2) rfl)) (fun _ h9 => h9) rfl dX6_type_27 ?_
        refine lv_aload_n hx hb dX6_type_30 rfl (lv_at hl 0 rfl) ?_
        refine va_get (D := D) (ci := 6) (v := .int (nI (XS 1 0))) (C := RX6) (T := TX6) (N := 14) hx hb hts in_X6_type_6 hown hK.1 hP 0 rfl rfl 1 (by decide) (hts (.fieldLink RX6 13 "ChildCoins" "typed" "I") (List.mem_of_getElem? (i := 1) rfl)) (fun _ h9 => h9) rfl dX6_type_31 ?_
        refine lv_iload_n hx hb dX6_type_34 rfl (lv_at hl 1 rfl) ?_
        refine va_iast hx hb hK.1 hP hD hS 3 0 rfl rfl (vp_in_nI (n := XS 1 0) (N := 180) (by omega) (by decide)) dX6_type_35 (fun H locs hP hD hS => ?_)
        obtain ⟨hP, hD⟩ : wPD D A [(Xh, .inr (6, [.ref Th, .int (nI (XS 1 0)), .ref Rh, .ref Lh, .ref Mh, .ref Nh, .ref Xa6, .int (nI (XS 7 0)), .ref Yh, .ref Wh, .ref Qh, .ref Xa11, .int (nI (XS 12 0)), .long Xt])), (Xa6, .inl (cN, 2, .inr (.inr (.inr (.inr (va_up (va_up (fun _ => none) 0 (some Ih)) 1 (some Jh))))))), (Xa11, .inl (cI, 6, .inl (nF (XS 11)))), (Th, .inl (cI, 180, .inl (upd (nF (TS 0)) (nI (XS 1 0)).toNatClampNeg (nI kk))))] H := ⟨hP, hD⟩
        rw [nF_st (by omega)] at hP hD
        refine lv_aload_n hx hb dX6_type_36 rfl (lv_at hl 0 rfl) ?_
        refine lv_dup hx hb dX6_type_37 rfl ?_
        refine va_get (D := D) (ci := 6) (v := .int (nI (XS 1 0))) (C := RX6) (T := TX6) (N := 14) hx hb hts in_X6_type_6 hown hK.1 hP 0 rfl rfl 1 (by decide) (hts (.fieldLink RX6 13 "ChildCoins" "typed" "I") (List.mem_of_getElem? (i := 1) rfl)) (fun _ h9 => h9) rfl dX6_type_38 ?_
        refine lv_iconst (v := nI 1) hx hb dX6_type_41 (by decide) ?_
        refine lv_iadd hx hb dX6_type_42 ?_
        refine set_i (y := nI ((XS 1 0) + 1)) (nI_add (XS 1 0) 1) ?_
        refine va_put (D := D) (ci := 6) (v := .int (nI ((XS 1 0) + 1))) (ty := tyX6 1) (C := RX6) (T := TX6) (N := 14) hx hb hts in_X6_type_6 tyX6 tyX6_ok nmX6 hown hK.1 hP hD hS 0 rfl rfl 1 (by decide) (hts (.fieldLink RX6 13 "ChildCoins" "typed" "I") (List.mem_of_getElem? (i := 1) rfl)) (fun _ h9 => h9) rfl (tyX6_ok 1 (by decide)) rfl rfl (Nat.le_of_ble_eq_true rfl) dX6_type_43 (fun H locs hP hD hS => ?_)
        obtain ⟨hP, hD⟩ : wPD D A [(Xh, .inr (6, [.ref Th, .int (nI ((XS 1 0) + 1)), .ref Rh, .ref Lh, .ref Mh, .ref Nh, .ref Xa6, .int (nI (XS 7 0)), .ref Yh, .ref Wh, .ref Qh, .ref Xa11, .int (nI (XS 12 0)), .long Xt])), (Xa6, .inl (cN, 2, .inr (.inr (.inr (.inr (va_up (va_up (fun _ => none) 0 (some Ih)) 1 (some Jh))))))), (Xa11, .inl (cI, 6, .inl (nF (XS 11)))), (Th, .inl (cI, 180, .inl (nF (un (TS 0) (XS 1 0) kk))))] H := ⟨hP, hD⟩
        refine lv_aload_n hx hb dX6_type_46 rfl (lv_at hl 0 rfl) ?_
        refine va_get (D := D) (ci := 6) (v := .int (nI ((XS 1 0) + 1))) (C := RX6) (T := TX6) (N := 14) hx hb hts in_X6_type_6 hown hK.1 hP 0 rfl rfl 1 (by decide) (hts (.fieldLink RX6 13 "ChildCoins" "typed" "I") (List.mem_of_getElem? (i := 1) rfl)) (fun _ h9 => h9) rfl dX6_type_47 ?_
        exact en_i hx hb hr hlk hP hD hS (ua XS 1 (fun _ => (XS 1 0) + 1), ua TS 0 (un (TS 0) (XS 1 0) kk)) [0, 1, 2, 3] (by decide) rfl (Nat.le_of_ble_eq_true rfl) (Nat.le_of_ble_eq_true rfl) dX6_type_50 (Or.inr (Or.inr ⟨kk, by omega, rfl, by omega, rfl, rfl, rfl⟩))
      · skip
        refine lv_bipush (v := -3) hx hb dX6_type_23 (by decide) ?_
        exact en_i hx hb hr hlk hP hD hS (XS, TS) [0, 1, 2, 3] (by decide) rfl (Nat.le_of_ble_eq_true rfl) (Nat.le_of_ble_eq_true rfl) dX6_type_25 (Or.inr (Or.inl ⟨⟨kk, by omega, rfl⟩, by omega, rfl, rfl, rfl⟩))
    · skip
      refine lv_iconst (v := -1) hx hb dX6_type_11 (by decide) ?_
      exact en_i hx hb hr hlk hP hD hS (XS, TS) [0, 1, 2, 3] (by decide) rfl (Nat.le_of_ble_eq_true rfl) (Nat.le_of_ble_eq_true rfl) dX6_type_12 (Or.inl ⟨inN_nle (n := 255) (by decide) hq2, rfl, rfl, rfl⟩)
set_option maxRecDepth 20000 in
theorem dAX6_clear : decA cX6_clear [(0, .aload_n 0, 1), (1, .getfield 13, 3), (4, .istore_n 1, 1), (5, .aload_n 0, 1), (6, .iconst 0, 1), (7, .putfield 13, 3), (10, .iload_n 1, 1), (11, .ireturn, 1)] = true := by decide +kernel
theorem dX6_clear_0 : decode cX6_clear 0 = .ok (.aload_n 0, 1) := decA_get dAX6_clear 0 rfl
theorem dX6_clear_1 : decode cX6_clear 1 = .ok (.getfield 13, 3) := decA_get dAX6_clear 1 rfl
theorem in_X6_clear_6 : ∀ w ∈ wsX60, w ∈ wsX6_clear := fun w h => (gd_ids wi_X6_clear wm_X6_clear wi_X60 (by decide +kernel) w h).1
theorem dX6_clear_4 : decode cX6_clear 4 = .ok (.istore_n 1, 1) := decA_get dAX6_clear 2 rfl
theorem dX6_clear_5 : decode cX6_clear 5 = .ok (.aload_n 0, 1) := decA_get dAX6_clear 3 rfl
theorem dX6_clear_6 : decode cX6_clear 6 = .ok (.iconst 0, 1) := decA_get dAX6_clear 4 rfl
theorem dX6_clear_7 : decode cX6_clear 7 = .ok (.putfield 13, 3) := decA_get dAX6_clear 5 rfl
theorem dX6_clear_10 : decode cX6_clear 10 = .ok (.iload_n 1, 1) := decA_get dAX6_clear 6 rfl
theorem dX6_clear_11 : decode cX6_clear 11 = .ok (.ireturn, 1) := decA_get dAX6_clear 7 rfl
set_option maxHeartbeats 4000000 in
set_option maxRecDepth 100000 in
theorem g_clear (l : Launch) (D : va_G) (cI cB cZ cN : ClassId) (Xh : Nat) (Xa6 : Nat) (Xa11 : Nat) (Th : Nat) (Rh : Nat) (Lh : Nat) (Mh : Nat) (Nh : Nat) (Yh : Nat) (Wh : Nat) (Qh : Nat) (Xt : Int64) (Ih : Nat) (Jh : Nat) (XS : Nat → Nat → Nat)  : Ci (S := (Nat → Nat → Nat)) l D cI cB cZ cN yX6_clear wsX6_clear ({ frames := 0, cells := 0, slots := 0, locals := 0 } : Room) [.ref Xh] [(Xh, .inr (6, [.ref Th, .int (nI (XS 1 0)), .ref Rh, .ref Lh, .ref Mh, .ref Nh, .ref Xa6, .int (nI (XS 7 0)), .ref Yh, .ref Wh, .ref Qh, .ref Xa11, .int (nI (XS 12 0)), .long Xt])), (Xa6, .inl (cN, 2, .inr (.inr (.inr (.inr (va_up (va_up (fun _ => none) 0 (some Ih)) 1 (some Jh))))))), (Xa11, .inl (cI, 6, .inl (nF (XS 11))))] (fun (r : Int32) (u : (Nat → Nat → Nat)) => r = nI (XS 1 0) ∧ u = ua XS 1 (fun _ => 0)) (fun u => [(Xh, .inr (6, [.ref Th, .int (nI (u 1 0)), .ref Rh, .ref Lh, .ref Mh, .ref Nh, .ref Xa6, .int (nI (u 7 0)), .ref Yh, .ref Wh, .ref Qh, .ref Xa11, .int (nI (u 12 0)), .long Xt])), (Xa6, .inl (cN, 2, .inr (.inr (.inr (.inr (va_up (va_up (fun _ => none) 0 (some Ih)) 1 (some Jh))))))), (Xa11, .inl (cI, 6, .inl (nF (u 11))))]) := by
  refine bx_of (D := D) (cI := cI) (cB := cB) (cZ := cZ) (cN := cN) (y := yX6_clear) (wd := wsX6_clear) (rm := ({ frames := 0, cells := 0, slots := 0, locals := 0 } : Room)) (av := [.ref Xh]) (wc := [(Xh, .inr (6, [.ref Th, .int (nI (XS 1 0)), .ref Rh, .ref Lh, .ref Mh, .ref Nh, .ref Xa6, .int (nI (XS 7 0)), .ref Yh, .ref Wh, .ref Qh, .ref Xa11, .int (nI (XS 12 0)), .long Xt])), (Xa6, .inl (cN, 2, .inr (.inr (.inr (.inr (va_up (va_up (fun _ => none) 0 (some Ih)) 1 (some Jh))))))), (Xa11, .inl (cI, 6, .inl (nF (XS 11))))]) (cc := cX6_clear) (maxL := 2) (ret := (some .int)) (Qc := fun _ A => va_Qi (S := (Nat → Nat → Nat)) (fun (r : Int32) (u : (Nat → Nat → Nat)) => r = nI (XS 1 0) ∧ u = ua XS 1 (fun _ => 0)) (Aft D (fun (u : (Nat → Nat → Nat)) => [(Xh, .inr (6, [.ref Th, .int (nI (u 1 0)), .ref Rh, .ref Lh, .ref Mh, .ref Nh, .ref Xa6, .int (nI (u 7 0)), .ref Yh, .ref Wh, .ref Qh, .ref Xa11, .int (nI (u 12 0)), .long Xt])), (Xa6, .inl (cN, 2, .inr (.inr (.inr (.inr (va_up (va_up (fun _ => none) 0 (some Ih)) 1 (some Jh))))))), (Xa11, .inl (cI, 6, .inl (nF (u 11))))]) A) A) (by decide) rfl (Nat.le_of_ble_eq_true rfl) ?_
  intro p e s m below meth c A H locs ⟨hx, hb, hr, hml, hown, hts, hlk, hnm⟩ hK hP hD hS hA ls hl
  have hl : lv_has ls 2 [(0, .ref Xh)] := hl
  have hown : s.vm.findClass RX6 = some m.cls := hown
  refine lv_aload_n hx hb dX6_clear_0 rfl (lv_at hl 0 rfl) ?_
  refine va_get (D := D) (ci := 6) (v := .int (nI (XS 1 0))) (C := RX6) (T := TX6) (N := 14) hx hb hts in_X6_clear_6 hown hK.1 hP 0 rfl rfl 1 (by decide) (hts (.fieldLink RX6 13 "ChildCoins" "typed" "I") (List.mem_of_getElem? (i := 1) rfl)) (fun _ h9 => h9) rfl dX6_clear_1 ?_
  refine lv_istore_n (lv' := [(1, .int (nI (XS 1 0))), (0, .ref Xh)]) hx hb dX6_clear_4 rfl hl (by decide) rfl (fun ls hl => ?_)
  refine lv_aload_n hx hb dX6_clear_5 rfl (lv_at hl 1 rfl) ?_
  refine lv_iconst (v := nI 0) hx hb dX6_clear_6 (by decide) ?_
  refine va_put (D := D) (ci := 6) (v := .int (nI 0)) (ty := tyX6 1) (C := RX6) (T := TX6) (N := 14) hx hb hts in_X6_clear_6 tyX6 tyX6_ok nmX6 hown hK.1 hP hD hS 0 rfl rfl 1 (by decide) (hts (.fieldLink RX6 13 "ChildCoins" "typed" "I") (List.mem_of_getElem? (i := 1) rfl)) (fun _ h9 => h9) rfl (tyX6_ok 1 (by decide)) rfl rfl (Nat.le_of_ble_eq_true rfl) dX6_clear_7 (fun H locs hP hD hS => ?_)
  obtain ⟨hP, hD⟩ : wPD D A [(Xh, .inr (6, [.ref Th, .int (nI 0), .ref Rh, .ref Lh, .ref Mh, .ref Nh, .ref Xa6, .int (nI (XS 7 0)), .ref Yh, .ref Wh, .ref Qh, .ref Xa11, .int (nI (XS 12 0)), .long Xt])), (Xa6, .inl (cN, 2, .inr (.inr (.inr (.inr (va_up (va_up (fun _ => none) 0 (some Ih)) 1 (some Jh))))))), (Xa11, .inl (cI, 6, .inl (nF (XS 11))))] H := ⟨hP, hD⟩
  refine lv_iload_n hx hb dX6_clear_10 rfl (lv_at hl 0 rfl) ?_
  exact en_i hx hb hr hlk hP hD hS (ua XS 1 (fun _ => 0)) [0, 1, 2] (by decide) rfl (Nat.le_of_ble_eq_true rfl) (Nat.le_of_ble_eq_true rfl) dX6_clear_11 ⟨rfl, rfl⟩
set_option maxRecDepth 20000 in
theorem dAX6_forget : decA cX6_forget [(0, .aload_n 0, 1), (1, .getfield 72, 3), (4, .istore_n 1, 1), (5, .aload_n 0, 1), (6, .iconst 0, 1), (7, .putfield 72, 3), (10, .iload_n 1, 1), (11, .ireturn, 1)] = true := by decide +kernel
theorem dX6_forget_0 : decode cX6_forget 0 = .ok (.aload_n 0, 1) := decA_get dAX6_forget 0 rfl
theorem dX6_forget_1 : decode cX6_forget 1 = .ok (.getfield 72, 3) := decA_get dAX6_forget 1 rfl
theorem in_X6_forget_6 : ∀ w ∈ wsX60, w ∈ wsX6_forget := fun w h => (gd_ids wi_X6_forget wm_X6_forget wi_X60 (by decide +kernel) w h).1
theorem dX6_forget_4 : decode cX6_forget 4 = .ok (.istore_n 1, 1) := decA_get dAX6_forget 2 rfl
theorem dX6_forget_5 : decode cX6_forget 5 = .ok (.aload_n 0, 1) := decA_get dAX6_forget 3 rfl
theorem dX6_forget_6 : decode cX6_forget 6 = .ok (.iconst 0, 1) := decA_get dAX6_forget 4 rfl
theorem dX6_forget_7 : decode cX6_forget 7 = .ok (.putfield 72, 3) := decA_get dAX6_forget 5 rfl
theorem dX6_forget_10 : decode cX6_forget 10 = .ok (.iload_n 1, 1) := decA_get dAX6_forget 6 rfl
theorem dX6_forget_11 : decode cX6_forget 11 = .ok (.ireturn, 1) := decA_get dAX6_forget 7 rfl
set_option maxHeartbeats 4000000 in
set_option maxRecDepth 100000 in
theorem g_forget (l : Launch) (D : va_G) (cI cB cZ cN : ClassId) (Xh : Nat) (Xa6 : Nat) (Xa11 : Nat) (Th : Nat) (Rh : Nat) (Lh : Nat) (Mh : Nat) (Nh : Nat) (Yh : Nat) (Wh : Nat) (Qh : Nat) (Xt : Int64) (Ih : Nat) (Jh : Nat) (XS : Nat → Nat → Nat)  : Ci (S := (Nat → Nat → Nat)) l D cI cB cZ cN yX6_forget wsX6_forget ({ frames := 0, cells := 0, slots := 0, locals := 0 } : Room) [.ref Xh] [(Xh, .inr (6, [.ref Th, .int (nI (XS 1 0)), .ref Rh, .ref Lh, .ref Mh, .ref Nh, .ref Xa6, .int (nI (XS 7 0)), .ref Yh, .ref Wh, .ref Qh, .ref Xa11, .int (nI (XS 12 0)), .long Xt])), (Xa6, .inl (cN, 2, .inr (.inr (.inr (.inr (va_up (va_up (fun _ => none) 0 (some Ih)) 1 (some Jh))))))), (Xa11, .inl (cI, 6, .inl (nF (XS 11))))] (fun (r : Int32) (u : (Nat → Nat → Nat)) => r = nI (XS 12 0) ∧ u = ua XS 12 (fun _ => 0)) (fun u => [(Xh, .inr (6, [.ref Th, .int (nI (u 1 0)), .ref Rh, .ref Lh, .ref Mh, .ref Nh, .ref Xa6, .int (nI (u 7 0)), .ref Yh, .ref Wh, .ref Qh, .ref Xa11, .int (nI (u 12 0)), .long Xt])), (Xa6, .inl (cN, 2, .inr (.inr (.inr (.inr (va_up (va_up (fun _ => none) 0 (some Ih)) 1 (some Jh))))))), (Xa11, .inl (cI, 6, .inl (nF (u 11))))]) := by
  refine bx_of (D := D) (cI := cI) (cB := cB) (cZ := cZ) (cN := cN) (y := yX6_forget) (wd := wsX6_forget) (rm := ({ frames := 0, cells := 0, slots := 0, locals := 0 } : Room)) (av := [.ref Xh]) (wc := [(Xh, .inr (6, [.ref Th, .int (nI (XS 1 0)), .ref Rh, .ref Lh, .ref Mh, .ref Nh, .ref Xa6, .int (nI (XS 7 0)), .ref Yh, .ref Wh, .ref Qh, .ref Xa11, .int (nI (XS 12 0)), .long Xt])), (Xa6, .inl (cN, 2, .inr (.inr (.inr (.inr (va_up (va_up (fun _ => none) 0 (some Ih)) 1 (some Jh))))))), (Xa11, .inl (cI, 6, .inl (nF (XS 11))))]) (cc := cX6_forget) (maxL := 2) (ret := (some .int)) (Qc := fun _ A => va_Qi (S := (Nat → Nat → Nat)) (fun (r : Int32) (u : (Nat → Nat → Nat)) => r = nI (XS 12 0) ∧ u = ua XS 12 (fun _ => 0)) (Aft D (fun (u : (Nat → Nat → Nat)) => [(Xh, .inr (6, [.ref Th, .int (nI (u 1 0)), .ref Rh, .ref Lh, .ref Mh, .ref Nh, .ref Xa6, .int (nI (u 7 0)), .ref Yh, .ref Wh, .ref Qh, .ref Xa11, .int (nI (u 12 0)), .long Xt])), (Xa6, .inl (cN, 2, .inr (.inr (.inr (.inr (va_up (va_up (fun _ => none) 0 (some Ih)) 1 (some Jh))))))), (Xa11, .inl (cI, 6, .inl (nF (u 11))))]) A) A) (by decide) rfl (Nat.le_of_ble_eq_true rfl) ?_
  intro p e s m below meth c A H locs ⟨hx, hb, hr, hml, hown, hts, hlk, hnm⟩ hK hP hD hS hA ls hl
  have hl : lv_has ls 2 [(0, .ref Xh)] := hl
  have hown : s.vm.findClass RX6 = some m.cls := hown
  refine lv_aload_n hx hb dX6_forget_0 rfl (lv_at hl 0 rfl) ?_
  refine va_get (D := D) (ci := 6) (v := .int (nI (XS 12 0))) (C := RX6) (T := TX6) (N := 14) hx hb hts in_X6_forget_6 hown hK.1 hP 0 rfl rfl 12 (by decide) (hts (.fieldLink RX6 72 "ChildCoins" "takenCount" "I") (List.mem_of_getElem? (i := 1) rfl)) (fun _ h9 => h9) rfl dX6_forget_1 ?_
  refine lv_istore_n (lv' := [(1, .int (nI (XS 12 0))), (0, .ref Xh)]) hx hb dX6_forget_4 rfl hl (by decide) rfl (fun ls hl => ?_)
  refine lv_aload_n hx hb dX6_forget_5 rfl (lv_at hl 1 rfl) ?_
  refine lv_iconst (v := nI 0) hx hb dX6_forget_6 (by decide) ?_
  refine va_put (D := D) (ci := 6) (v := .int (nI 0)) (ty := tyX6 12) (C := RX6) (T := TX6) (N := 14) hx hb hts in_X6_forget_6 tyX6 tyX6_ok nmX6 hown hK.1 hP hD hS 0 rfl rfl 12 (by decide) (hts (.fieldLink RX6 72 "ChildCoins" "takenCount" "I") (List.mem_of_getElem? (i := 1) rfl)) (fun _ h9 => h9) rfl (tyX6_ok 12 (by decide)) rfl rfl (Nat.le_of_ble_eq_true rfl) dX6_forget_7 (fun H locs hP hD hS => ?_)
  obtain ⟨hP, hD⟩ : wPD D A [(Xh, .inr (6, [.ref Th, .int (nI (XS 1 0)), .ref Rh, .ref Lh, .ref Mh, .ref Nh, .ref Xa6, .int (nI (XS 7 0)), .ref Yh, .ref Wh, .ref Qh, .ref Xa11, .int (nI 0), .long Xt])), (Xa6, .inl (cN, 2, .inr (.inr (.inr (.inr (va_up (va_up (fun _ => none) 0 (some Ih)) 1 (some Jh))))))), (Xa11, .inl (cI, 6, .inl (nF (XS 11))))] H := ⟨hP, hD⟩
  refine lv_iload_n hx hb dX6_forget_10 rfl (lv_at hl 0 rfl) ?_
  exact en_i hx hb hr hlk hP hD hS (ua XS 12 (fun _ => 0)) [0, 1, 2] (by decide) rfl (Nat.le_of_ble_eq_true rfl) (Nat.le_of_ble_eq_true rfl) dX6_forget_11 ⟨rfl, rfl⟩
set_option maxRecDepth 20000 in
theorem dAX6_took : decA cX6_took [(0, .aload_n 0, 1), (1, .getfield 27, 3), (4, .iload_n 1, 1), (5, .invokevirtual 87, 3), (8, .ifCond .ne 5, 3), (11, .iconst (-1), 1), (12, .ireturn, 1), (13, .aload_n 0, 1), (14, .getfield 72, 3), (17, .bipush 6, 2), (19, .if_icmp .lt 6, 3), (22, .bipush (-3), 2), (24, .ireturn, 1), (25, .aload_n 0, 1), (26, .getfield 69, 3), (29, .aload_n 0, 1), (30, .getfield 72, 3), (33, .iload_n 1, 1), (34, .iastore, 1), (35, .aload_n 0, 1), (36, .dup, 1), (37, .getfield 72, 3), (40, .iconst 1, 1), (41, .iadd, 1), (42, .putfield 72, 3), (45, .aload_n 0, 1), (46, .getfield 72, 3), (49, .ireturn, 1)] = true := by decide +kernel
theorem dX6_took_0 : decode cX6_took 0 = .ok (.aload_n 0, 1) := decA_get dAX6_took 0 rfl
theorem dX6_took_1 : decode cX6_took 1 = .ok (.getfield 27, 3) := decA_get dAX6_took 1 rfl
theorem in_X6_took_6 : ∀ w ∈ wsX60, w ∈ wsX6_took := fun w h => (gd_ids wi_X6_took wm_X6_took wi_X60 (by decide +kernel) w h).1
theorem dX6_took_4 : decode cX6_took 4 = .ok (.iload_n 1, 1) := decA_get dAX6_took 2 rfl
theorem dX6_took_5 : decode cX6_took 5 = .ok (.invokevirtual 87, 3) := decA_get dAX6_took 3 rfl
set_option maxRecDepth 20000 in
theorem ggX6_took_X0_hasCoin : GoodIn wsX6_took wsX0_hasCoin := gd_ids wi_X6_took wm_X6_took wi_X0_hasCoin (by decide +kernel)
theorem dX6_took_8 : decode cX6_took 8 = .ok (.ifCond .ne 5, 3) := decA_get dAX6_took 4 rfl
theorem dX6_took_13 : decode cX6_took 13 = .ok (.aload_n 0, 1) := decA_get dAX6_took 7 rfl
theorem dX6_took_14 : decode cX6_took 14 = .ok (.getfield 72, 3) := decA_get dAX6_took 8 rfl
theorem dX6_took_17 : decode cX6_took 17 = .ok (.bipush 6, 2) := decA_get dAX6_took 9 rfl
theorem dX6_took_19 : decode cX6_took 19 = .ok (.if_icmp .lt 6, 3) := decA_get dAX6_took 10 rfl
theorem dX6_took_25 : decode cX6_took 25 = .ok (.aload_n 0, 1) := decA_get dAX6_took 13 rfl
theorem dX6_took_26 : decode cX6_took 26 = .ok (.getfield 69, 3) := decA_get dAX6_took 14 rfl
theorem dX6_took_29 : decode cX6_took 29 = .ok (.aload_n 0, 1) := decA_get dAX6_took 15 rfl
theorem dX6_took_30 : decode cX6_took 30 = .ok (.getfield 72, 3) := decA_get dAX6_took 16 rfl
theorem dX6_took_33 : decode cX6_took 33 = .ok (.iload_n 1, 1) := decA_get dAX6_took 17 rfl
theorem dX6_took_34 : decode cX6_took 34 = .ok (.iastore, 1) := decA_get dAX6_took 18 rfl
theorem dX6_took_35 : decode cX6_took 35 = .ok (.aload_n 0, 1) := decA_get dAX6_took 19 rfl
theorem dX6_took_36 : decode cX6_took 36 = .ok (.dup, 1) := decA_get dAX6_took 20 rfl
theorem dX6_took_37 : decode cX6_took 37 = .ok (.getfield 72, 3) := decA_get dAX6_took 21 rfl
theorem dX6_took_40 : decode cX6_took 40 = .ok (.iconst 1, 1) := decA_get dAX6_took 22 rfl
theorem dX6_took_41 : decode cX6_took 41 = .ok (.iadd, 1) := decA_get dAX6_took 23 rfl
theorem dX6_took_42 : decode cX6_took 42 = .ok (.putfield 72, 3) := decA_get dAX6_took 24 rfl
theorem dX6_took_45 : decode cX6_took 45 = .ok (.aload_n 0, 1) := decA_get dAX6_took 25 rfl
theorem dX6_took_46 : decode cX6_took 46 = .ok (.getfield 72, 3) := decA_get dAX6_took 26 rfl
theorem dX6_took_49 : decode cX6_took 49 = .ok (.ireturn, 1) := decA_get dAX6_took 27 rfl
theorem dX6_took_22 : decode cX6_took 22 = .ok (.bipush (-3), 2) := decA_get dAX6_took 11 rfl
theorem dX6_took_24 : decode cX6_took 24 = .ok (.ireturn, 1) := decA_get dAX6_took 12 rfl
theorem dX6_took_11 : decode cX6_took 11 = .ok (.iconst (-1), 1) := decA_get dAX6_took 5 rfl
theorem dX6_took_12 : decode cX6_took 12 = .ok (.ireturn, 1) := decA_get dAX6_took 6 rfl
set_option maxHeartbeats 4000000 in
set_option maxRecDepth 100000 in
theorem g_took (l : Launch) (D : va_G) (cI cB cZ cN : ClassId) (Xh : Nat) (Xa6 : Nat) (Xa11 : Nat) (Th : Nat) (Rh : Nat) (Mh : Nat) (Nh : Nat) (Yh : Nat) (Wh : Nat) (Qh : Nat) (Xt : Int64) (Ih : Nat) (Jh : Nat) (XS : Nat → Nat → Nat) (Lh : Nat) (La1 : Nat) (La2 : Nat) (La4 : Nat) (La5 : Nat) (La7 : Nat) (La8 : Nat) (La9 : Nat) (LS : Nat → Nat → Nat) (v_c : Int32) (hL : LandOk LS) (hx12 : XS 12 0 ≤ 6) : Ci (S := (Nat → Nat → Nat)) l D cI cB cZ cN yX6_took wsX6_took ({ frames := 1, cells := 0, slots := 0, locals := 21 } : Room) [.ref Xh, .int v_c] [(Xh, .inr (6, [.ref Th, .int (nI (XS 1 0)), .ref Rh, .ref Lh, .ref Mh, .ref Nh, .ref Xa6, .int (nI (XS 7 0)), .ref Yh, .ref Wh, .ref Qh, .ref Xa11, .int (nI (XS 12 0)), .long Xt])), (Xa6, .inl (cN, 2, .inr (.inr (.inr (.inr (va_up (va_up (fun _ => none) 0 (some Ih)) 1 (some Jh))))))), (Xa11, .inl (cI, 6, .inl (nF (XS 11)))), (Lh, .inr (0, [.int (nI (LS 0 0)), .ref La1, .ref La2, .int (nI (LS 3 0)), .ref La4, .ref La5, .int (nI (LS 6 0)), .ref La7, .ref La8, .ref La9, .int (nI (LS 10 0)), .int (nI (LS 11 0))])), (La1, .inl (cI, 6, .inl (nF (LS 1)))), (La2, .inl (cI, 6, .inl (nF (LS 2)))), (La4, .inl (cI, 5, .inl (nF (LS 4)))), (La5, .inl (cI, 30, .inl (nF (LS 5)))), (La7, .inl (cI, 5, .inl (nF (LS 7)))), (La8, .inl (cI, 5, .inl (nF (LS 8)))), (La9, .inl (cI, 5, .inl (nF (LS 9))))] (fun (r : Int32) (u : (Nat → Nat → Nat)) => (¬ inN v_c (LS 0 0) ∧ r = -1 ∧ u = XS) ∨ (inN v_c (LS 0 0) ∧ XS 12 0 = 6 ∧ r = -3 ∧ u = XS) ∨ (∃ k, k < LS 0 0 ∧ v_c = nI k ∧ XS 12 0 < 6 ∧ r = nI (XS 12 0 + 1) ∧ u = ua (ua XS 11 (un (XS 11) (XS 12 0) k)) 12 (fun _ => XS 12 0 + 1))) (fun u => [(Xh, .inr (6, [.ref Th, .int (nI (u 1 0)), .ref Rh, .ref Lh, .ref Mh, .ref Nh, .ref Xa6, .int (nI (u 7 0)), .ref Yh, .ref Wh, .ref Qh, .ref Xa11, .int (nI (u 12 0)), .long Xt])), (Xa6, .inl (cN, 2, .inr (.inr (.inr (.inr (va_up (va_up (fun _ => none) 0 (some Ih)) 1 (some Jh))))))), (Xa11, .inl (cI, 6, .inl (nF (u 11)))), (Lh, .inr (0, [.int (nI (LS 0 0)), .ref La1, .ref La2, .int (nI (LS 3 0)), .ref La4, .ref La5, .int (nI (LS 6 0)), .ref La7, .ref La8, .ref La9, .int (nI (LS 10 0)), .int (nI (LS 11 0))])), (La1, .inl (cI, 6, .inl (nF (LS 1)))), (La2, .inl (cI, 6, .inl (nF (LS 2)))), (La4, .inl (cI, 5, .inl (nF (LS 4)))), (La5, .inl (cI, 30, .inl (nF (LS 5)))), (La7, .inl (cI, 5, .inl (nF (LS 7)))), (La8, .inl (cI, 5, .inl (nF (LS 8)))), (La9, .inl (cI, 5, .inl (nF (LS 9))))]) := by
  refine bx_of (D := D) (cI := cI) (cB := cB) (cZ := cZ) (cN := cN) (y := yX6_took) (wd := wsX6_took) (rm := ({ frames := 1, cells := 0, slots := 0, locals := 21 } : Room)) (av := [.ref Xh, .int v_c]) (wc := [(Xh, .inr (6, [.ref Th, .int (nI (XS 1 0)), .ref Rh, .ref Lh, .ref Mh, .ref Nh, .ref Xa6, .int (nI (XS 7 0)), .ref Yh, .ref Wh, .ref Qh, .ref Xa11, .int (nI (XS 12 0)), .long Xt])), (Xa6, .inl (cN, 2, .inr (.inr (.inr (.inr (va_up (va_up (fun _ => none) 0 (some Ih)) 1 (some Jh))))))), (Xa11, .inl (cI, 6, .inl (nF (XS 11)))), (Lh, .inr (0, [.int (nI (LS 0 0)), .ref La1, .ref La2, .int (nI (LS 3 0)), .ref La4, .ref La5, .int (nI (LS 6 0)), .ref La7, .ref La8, .ref La9, .int (nI (LS 10 0)), .int (nI (LS 11 0))])), (La1, .inl (cI, 6, .inl (nF (LS 1)))), (La2, .inl (cI, 6, .inl (nF (LS 2)))), (La4, .inl (cI, 5, .inl (nF (LS 4)))), (La5, .inl (cI, 30, .inl (nF (LS 5)))), (La7, .inl (cI, 5, .inl (nF (LS 7)))), (La8, .inl (cI, 5, .inl (nF (LS 8)))), (La9, .inl (cI, 5, .inl (nF (LS 9))))]) (cc := cX6_took) (maxL := 2) (ret := (some .int)) (Qc := fun _ A => va_Qi (S := (Nat → Nat → Nat)) (fun (r : Int32) (u : (Nat → Nat → Nat)) => (¬ inN v_c (LS 0 0) ∧ r = -1 ∧ u = XS) ∨ (inN v_c (LS 0 0) ∧ XS 12 0 = 6 ∧ r = -3 ∧ u = XS) ∨ (∃ k, k < LS 0 0 ∧ v_c = nI k ∧ XS 12 0 < 6 ∧ r = nI (XS 12 0 + 1) ∧ u = ua (ua XS 11 (un (XS 11) (XS 12 0) k)) 12 (fun _ => XS 12 0 + 1))) (Aft D (fun (u : (Nat → Nat → Nat)) => [(Xh, .inr (6, [.ref Th, .int (nI (u 1 0)), .ref Rh, .ref Lh, .ref Mh, .ref Nh, .ref Xa6, .int (nI (u 7 0)), .ref Yh, .ref Wh, .ref Qh, .ref Xa11, .int (nI (u 12 0)), .long Xt])), (Xa6, .inl (cN, 2, .inr (.inr (.inr (.inr (va_up (va_up (fun _ => none) 0 (some Ih)) 1 (some Jh))))))), (Xa11, .inl (cI, 6, .inl (nF (u 11)))), (Lh, .inr (0, [.int (nI (LS 0 0)), .ref La1, .ref La2, .int (nI (LS 3 0)), .ref La4, .ref La5, .int (nI (LS 6 0)), .ref La7, .ref La8, .ref La9, .int (nI (LS 10 0)), .int (nI (LS 11 0))])), (La1, .inl (cI, 6, .inl (nF (LS 1)))), (La2, .inl (cI, 6, .inl (nF (LS 2)))), (La4, .inl (cI, 5, .inl (nF (LS 4)))), (La5, .inl (cI, 30, .inl (nF (LS 5)))), (La7, .inl (cI, 5, .inl (nF (LS 7)))), (La8, .inl (cI, 5, .inl (nF (LS 8)))), (La9, .inl (cI, 5, .inl (nF (LS 9))))]) A) A) (by decide) rfl (Nat.le_of_ble_eq_true rfl) ?_
  intro p e s m below meth c A H locs ⟨hx, hb, hr, hml, hown, hts, hlk, hnm⟩ hK hP hD hS hA ls hl
  have hl : lv_has ls 2 [(0, .ref Xh), (1, .int v_c)] := hl
  have hown : s.vm.findClass RX6 = some m.cls := hown
  have hL0 := hL
  obtain ⟨bl0, bl3, bl6, bl10, bl11, bl1, bl2, bl4, bl5, bl7, bl8, bl9⟩ := hL
  refine lv_aload_n hx hb dX6_took_0 rfl (lv_at hl 0 rfl) ?_
  refine va_get (D := D) (ci := 6) (v := .ref Lh) (C := RX6) (T := TX6) (N := 14) hx hb hts in_X6_took_6 hown hK.1 hP 0 rfl rfl 3 (by decide) (hts (.fieldLink RX6 27 "ChildCoins" "ours" "LChildCoins$Land;") (List.mem_of_getElem? (i := 1) rfl)) (fun _ h9 => h9) rfl dX6_took_1 ?_
  refine lv_iload_n hx hb dX6_took_4 rfl (lv_at hl 1 rfl) ?_
  refine be_i0 (ru_N (C := RX0) (host := "ChildCoins") (As := [.int v_c]) (rest := []) ⟨hx, hb, hml, hown, hts⟩ (g_hasCoin l D cI cB cZ cN Lh La1 La2 La4 La5 La7 La8 La9 LS v_c hL0 H.size) ggX6_took_X0_hasCoin rfl (nmX6_87 hK.2) (hts (.initialized RX0) (List.mem_of_getElem? (i := 5) rfl)) (hts (.instanceMethod yX0_hasCoin) (List.mem_of_getElem? (i := 4) rfl)) (hts (.selects RX0 yX0_hasCoin yX0_hasCoin) (List.mem_of_getElem? (i := 6) rfl)) ⟨by decide, by decide, (show Option.map (fun d => d.parameters.length) (parseMethodDescriptor yX0_hasCoin.desc) = some 1 by decide +kernel)⟩ ⟨Nat.le_of_ble_eq_true rfl, Nat.le_of_ble_eq_true rfl⟩ hK hP hD 0 3 rfl rfl [3, 4, 5, 6, 7, 8, 9, 10] (by decide) rfl hl.1 rfl (Nat.le_of_ble_eq_true rfl) dX6_took_5 ⟨Nat.le_of_ble_eq_true rfl, Nat.le_of_ble_eq_true rfl⟩) hP hD hS hA [3, 4, 5, 6, 7, 8, 9, 10] rfl (fun r2 u1 H locs w3 hP hS => ?_)
  rcases w3 with ⟨rfl, hq4⟩ | ⟨rfl, hq4⟩
  · obtain ⟨k5, hq6, rfl⟩ := hq4
    refine nb_if_ne (tgt := 13) hx hb dX6_took_8 (by decide) (by omega) (fun hq7 => ?_) (fun hq7 => absurd hq7 (by omega))
    refine lv_aload_n hx hb dX6_took_13 rfl (lv_at hl 0 rfl) ?_
    refine va_get (D := D) (ci := 6) (v := .int (nI (XS 12 0))) (C := RX6) (T := TX6) (N := 14) hx hb hts in_X6_took_6 hown hK.1 hP 0 rfl rfl 12 (by decide) (hts (.fieldLink RX6 72 "ChildCoins" "takenCount" "I") (List.mem_of_getElem? (i := 2) rfl)) (fun _ h9 => h9) rfl dX6_took_14 ?_
    refine lv_bipush (v := nI 6) hx hb dX6_took_17 (by decide) ?_
    refine nb_icmp_lt (tgt := 25) hx hb dX6_took_19 (by decide) (by omega) (by omega) (fun hq8 => ?_) (fun hq8 => ?_)
    · skip
      refine lv_aload_n hx hb dX6_took_25 rfl (lv_at hl 0 rfl) ?_
      refine va_get (D := D) (ci := 6) (v := .ref Xa11) (C := RX6) (T := TX6) (N := 14) hx hb hts in_X6_took_6 hown hK.1 hP 0 rfl rfl 11 (by decide) (hts (.fieldLink RX6 69 "ChildCoins" "taken" "[I") (List.mem_of_getElem? (i := 3) rfl)) (fun _ h9 => h9) rfl dX6_took_26 ?_
      refine lv_aload_n hx hb dX6_took_29 rfl (lv_at hl 0 rfl) ?_
      refine va_get (D := D) (ci := 6) (v := .int (nI (XS 12 0))) (C := RX6) (T := TX6) (N := 14) hx hb hts in_X6_took_6 hown hK.1 hP 0 rfl rfl 12 (by decide) (hts (.fieldLink RX6 72 "ChildCoins" "takenCount" "I") (List.mem_of_getElem? (i := 2) rfl)) (fun _ h9 => h9) rfl dX6_took_30 ?_
      refine lv_iload_n hx hb dX6_took_33 rfl (lv_at hl 1 rfl) ?_
      refine va_iast hx hb hK.1 hP hD hS 2 0 rfl rfl (vp_in_nI (n := XS 12 0) (N := 6) (by omega) (by decide)) dX6_took_34 (fun H locs hP hD hS => ?_)
      obtain ⟨hP, hD⟩ : wPD D A [(Xh, .inr (6, [.ref Th, .int (nI (XS 1 0)), .ref Rh, .ref Lh, .ref Mh, .ref Nh, .ref Xa6, .int (nI (XS 7 0)), .ref Yh, .ref Wh, .ref Qh, .ref Xa11, .int (nI (XS 12 0)), .long Xt])), (Xa6, .inl (cN, 2, .inr (.inr (.inr (.inr (va_up (va_up (fun _ => none) 0 (some Ih)) 1 (some Jh))))))), (Xa11, .inl (cI, 6, .inl (upd (nF (XS 11)) (nI (XS 12 0)).toNatClampNeg (nI k5)))), (Lh, .inr (0, [.int (nI (LS 0 0)), .ref La1, .ref La2, .int (nI (LS 3 0)), .ref La4, .ref La5, .int (nI (LS 6 0)), .ref La7, .ref La8, .ref La9, .int (nI (LS 10 0)), .int (nI (LS 11 0))])), (La1, .inl (cI, 6, .inl (nF (LS 1)))), (La2, .inl (cI, 6, .inl (nF (LS 2)))), (La4, .inl (cI, 5, .inl (nF (LS 4)))), (La5, .inl (cI, 30, .inl (nF (LS 5)))), (La7, .inl (cI, 5, .inl (nF (LS 7)))), (La8, .inl (cI, 5, .inl (nF (LS 8)))), (La9, .inl (cI, 5, .inl (nF (LS 9))))] H := ⟨hP, hD⟩
      rw [nF_st (by omega)] at hP hD
      refine lv_aload_n hx hb dX6_took_35 rfl (lv_at hl 0 rfl) ?_
      refine lv_dup hx hb dX6_took_36 rfl ?_
      refine va_get (D := D) (ci := 6) (v := .int (nI (XS 12 0))) (C := RX6) (T := TX6) (N := 14) hx hb hts in_X6_took_6 hown hK.1 hP 0 rfl rfl 12 (by decide) (hts (.fieldLink RX6 72 "ChildCoins" "takenCount" "I") (List.mem_of_getElem? (i := 2) rfl)) (fun _ h9 => h9) rfl dX6_took_37 ?_
      refine lv_iconst (v := nI 1) hx hb dX6_took_40 (by decide) ?_
      refine lv_iadd hx hb dX6_took_41 ?_
      refine set_i (y := nI ((XS 12 0) + 1)) (nI_add (XS 12 0) 1) ?_
      refine va_put (D := D) (ci := 6) (v := .int (nI ((XS 12 0) + 1))) (ty := tyX6 12) (C := RX6) (T := TX6) (N := 14) hx hb hts in_X6_took_6 tyX6 tyX6_ok nmX6 hown hK.1 hP hD hS 0 rfl rfl 12 (by decide) (hts (.fieldLink RX6 72 "ChildCoins" "takenCount" "I") (List.mem_of_getElem? (i := 2) rfl)) (fun _ h9 => h9) rfl (tyX6_ok 12 (by decide)) rfl rfl (Nat.le_of_ble_eq_true rfl) dX6_took_42 (fun H locs hP hD hS => ?_)
      obtain ⟨hP, hD⟩ : wPD D A [(Xh, .inr (6, [.ref Th, .int (nI (XS 1 0)), .ref Rh, .ref Lh, .ref Mh, .ref Nh, .ref Xa6, .int (nI (XS 7 0)), .ref Yh, .ref Wh, .ref Qh, .ref Xa11, .int (nI ((XS 12 0) + 1)), .long Xt])), (Xa6, .inl (cN, 2, .inr (.inr (.inr (.inr (va_up (va_up (fun _ => none) 0 (some Ih)) 1 (some Jh))))))), (Xa11, .inl (cI, 6, .inl (nF (un (XS 11) (XS 12 0) k5)))), (Lh, .inr (0, [.int (nI (LS 0 0)), .ref La1, .ref La2, .int (nI (LS 3 0)), .ref La4, .ref La5, .int (nI (LS 6 0)), .ref La7, .ref La8, .ref La9, .int (nI (LS 10 0)), .int (nI (LS 11 0))])), (La1, .inl (cI, 6, .inl (nF (LS 1)))), (La2, .inl (cI, 6, .inl (nF (LS 2)))), (La4, .inl (cI, 5, .inl (nF (LS 4)))), (La5, .inl (cI, 30, .inl (nF (LS 5)))), (La7, .inl (cI, 5, .inl (nF (LS 7)))), (La8, .inl (cI, 5, .inl (nF (LS 8)))), (La9, .inl (cI, 5, .inl (nF (LS 9))))] H := ⟨hP, hD⟩
      refine lv_aload_n hx hb dX6_took_45 rfl (lv_at hl 0 rfl) ?_
      refine va_get (D := D) (ci := 6) (v := .int (nI ((XS 12 0) + 1))) (C := RX6) (T := TX6) (N := 14) hx hb hts in_X6_took_6 hown hK.1 hP 0 rfl rfl 12 (by decide) (hts (.fieldLink RX6 72 "ChildCoins" "takenCount" "I") (List.mem_of_getElem? (i := 2) rfl)) (fun _ h9 => h9) rfl dX6_took_46 ?_
      exact en_i hx hb hr hlk hP hD hS (ua (ua XS 11 (un (XS 11) (XS 12 0) k5)) 12 (fun _ => (XS 12 0) + 1)) [0, 1, 2, 3, 4, 5, 6, 7, 8, 9, 10] (by decide) rfl (Nat.le_of_ble_eq_true rfl) (Nat.le_of_ble_eq_true rfl) dX6_took_49 (Or.inr (Or.inr ⟨k5, hq6, rfl, by omega, rfl, rfl⟩))
    · skip
      refine lv_bipush (v := -3) hx hb dX6_took_22 (by decide) ?_
      exact en_i hx hb hr hlk hP hD hS XS [0, 1, 2, 3, 4, 5, 6, 7, 8, 9, 10] (by decide) rfl (Nat.le_of_ble_eq_true rfl) (Nat.le_of_ble_eq_true rfl) dX6_took_24 (Or.inr (Or.inl ⟨⟨k5, hq6, rfl⟩, by omega, rfl, rfl⟩))
  · skip
    refine nb_if_ne (tgt := 13) hx hb dX6_took_8 (by decide) (by omega) (fun hq9 => absurd hq9 (by omega)) (fun hq9 => ?_)
    refine lv_iconst (v := -1) hx hb dX6_took_11 (by decide) ?_
    exact en_i hx hb hr hlk hP hD hS XS [0, 1, 2, 3, 4, 5, 6, 7, 8, 9, 10] (by decide) rfl (Nat.le_of_ble_eq_true rfl) (Nat.le_of_ble_eq_true rfl) dX6_took_12 (Or.inl ⟨hq4, rfl, rfl⟩)
theorem dX6_trace_0 : decode cX6_trace 0 = .ok (.aload_n 0, 1) := by decide +kernel
theorem dX6_trace_1 : decode cX6_trace 1 = .ok (.getfield 75, 3) := by decide +kernel
theorem in_X6_trace_6 : ∀ w ∈ wsX60, w ∈ wsX6_trace := fun w h => (gd_ids wi_X6_trace wm_X6_trace wi_X60 (by decide +kernel) w h).1
theorem dX6_trace_4 : decode cX6_trace 4 = .ok (.lreturn, 1) := by decide +kernel
set_option maxHeartbeats 4000000 in
set_option maxRecDepth 100000 in
theorem g_trace (l : Launch) (D : va_G) (cI cB cZ cN : ClassId) (Xh : Nat) (Xa6 : Nat) (Xa11 : Nat) (Th : Nat) (Rh : Nat) (Lh : Nat) (Mh : Nat) (Nh : Nat) (Yh : Nat) (Wh : Nat) (Qh : Nat) (Xt : Int64) (Ih : Nat) (Jh : Nat) (XS : Nat → Nat → Nat)  : Cj (S := Unit) l D cI cB cZ cN yX6_trace wsX6_trace ({ frames := 0, cells := 0, slots := 0, locals := 0 } : Room) [.ref Xh] [(Xh, .inr (6, [.ref Th, .int (nI (XS 1 0)), .ref Rh, .ref Lh, .ref Mh, .ref Nh, .ref Xa6, .int (nI (XS 7 0)), .ref Yh, .ref Wh, .ref Qh, .ref Xa11, .int (nI (XS 12 0)), .long Xt])), (Xa6, .inl (cN, 2, .inr (.inr (.inr (.inr (va_up (va_up (fun _ => none) 0 (some Ih)) 1 (some Jh))))))), (Xa11, .inl (cI, 6, .inl (nF (XS 11))))] (fun (r : Int64) (_ : Unit) => r = Xt) (fun u => [(Xh, .inr (6, [.ref Th, .int (nI (XS 1 0)), .ref Rh, .ref Lh, .ref Mh, .ref Nh, .ref Xa6, .int (nI (XS 7 0)), .ref Yh, .ref Wh, .ref Qh, .ref Xa11, .int (nI (XS 12 0)), .long Xt])), (Xa6, .inl (cN, 2, .inr (.inr (.inr (.inr (va_up (va_up (fun _ => none) 0 (some Ih)) 1 (some Jh))))))), (Xa11, .inl (cI, 6, .inl (nF (XS 11))))]) := by
  refine bx_of (D := D) (cI := cI) (cB := cB) (cZ := cZ) (cN := cN) (y := yX6_trace) (wd := wsX6_trace) (rm := ({ frames := 0, cells := 0, slots := 0, locals := 0 } : Room)) (av := [.ref Xh]) (wc := [(Xh, .inr (6, [.ref Th, .int (nI (XS 1 0)), .ref Rh, .ref Lh, .ref Mh, .ref Nh, .ref Xa6, .int (nI (XS 7 0)), .ref Yh, .ref Wh, .ref Qh, .ref Xa11, .int (nI (XS 12 0)), .long Xt])), (Xa6, .inl (cN, 2, .inr (.inr (.inr (.inr (va_up (va_up (fun _ => none) 0 (some Ih)) 1 (some Jh))))))), (Xa11, .inl (cI, 6, .inl (nF (XS 11))))]) (cc := cX6_trace) (maxL := 1) (ret := (some .long)) (Qc := fun _ A => va_Ql (S := Unit) (fun (r : Int64) (_ : Unit) => r = Xt) (Aft D (fun (u : Unit) => [(Xh, .inr (6, [.ref Th, .int (nI (XS 1 0)), .ref Rh, .ref Lh, .ref Mh, .ref Nh, .ref Xa6, .int (nI (XS 7 0)), .ref Yh, .ref Wh, .ref Qh, .ref Xa11, .int (nI (XS 12 0)), .long Xt])), (Xa6, .inl (cN, 2, .inr (.inr (.inr (.inr (va_up (va_up (fun _ => none) 0 (some Ih)) 1 (some Jh))))))), (Xa11, .inl (cI, 6, .inl (nF (XS 11))))]) A) A) (by decide) rfl (Nat.le_of_ble_eq_true rfl) ?_
  intro p e s m below meth c A H locs ⟨hx, hb, hr, hml, hown, hts, hlk, hnm⟩ hK hP hD hS hA ls hl
  have hl : lv_has ls 1 [(0, .ref Xh)] := hl
  have hown : s.vm.findClass RX6 = some m.cls := hown
  refine lv_aload_n hx hb dX6_trace_0 rfl (lv_at hl 0 rfl) ?_
  refine va_get (D := D) (ci := 6) (v := .long Xt) (C := RX6) (T := TX6) (N := 14) hx hb hts in_X6_trace_6 hown hK.1 hP 0 rfl rfl 13 (by decide) (hts (.fieldLink RX6 75 "ChildCoins" "traced" "J") (List.mem_of_getElem? (i := 1) rfl)) (fun _ h9 => h9) rfl dX6_trace_1 ?_
  exact en_j hx hb hr hlk hP hD hS () [0, 1, 2] (by decide) rfl (Nat.le_of_ble_eq_true rfl) (Nat.le_of_ble_eq_true rfl) dX6_trace_4 rfl
set_option maxRecDepth 20000 in
theorem dAX6_count : decA cX6_count [(0, .iload_n 1, 1), (1, .tableswitch 93 0 6 #[43, 51, 59, 67, 75, 80, 88], 43), (44, .aload_n 0, 1), (45, .getfield 27, 3), (48, .getfield 254, 3), (51, .ireturn, 1), (52, .aload_n 0, 1), (53, .getfield 27, 3), (56, .getfield 201, 3), (59, .ireturn, 1), (60, .aload_n 0, 1), (61, .getfield 27, 3), (64, .getfield 257, 3), (67, .ireturn, 1), (68, .aload_n 0, 1), (69, .getfield 27, 3), (72, .getfield 260, 3), (75, .ireturn, 1), (76, .aload_n 0, 1), (77, .getfield 72, 3), (80, .ireturn, 1), (81, .aload_n 0, 1), (82, .getfield 37, 3), (85, .getfield 172, 3), (88, .ireturn, 1), (89, .aload_n 0, 1), (90, .getfield 13, 3), (93, .ireturn, 1), (94, .iconst (-1), 1), (95, .ireturn, 1)] = true := by decide +kernel
theorem dX6_count_0 : decode cX6_count 0 = .ok (.iload_n 1, 1) := decA_get dAX6_count 0 rfl
theorem dX6_count_1 : decode cX6_count 1 = .ok (.tableswitch 93 0 6 #[43, 51, 59, 67, 75, 80, 88], 43) := decA_get dAX6_count 1 rfl
theorem dX6_count_44 : decode cX6_count 44 = .ok (.aload_n 0, 1) := decA_get dAX6_count 2 rfl
theorem dX6_count_45 : decode cX6_count 45 = .ok (.getfield 27, 3) := decA_get dAX6_count 3 rfl
theorem in_X6_count_6 : ∀ w ∈ wsX60, w ∈ wsX6_count := fun w h => (gd_ids wi_X6_count wm_X6_count wi_X60 (by decide +kernel) w h).1
theorem dX6_count_48 : decode cX6_count 48 = .ok (.getfield 254, 3) := decA_get dAX6_count 4 rfl
theorem in_X6_count_0 : ∀ w ∈ wsX00, w ∈ wsX6_count := fun w h => (gd_ids wi_X6_count wm_X6_count wi_X00 (by decide +kernel) w h).1
theorem dX6_count_51 : decode cX6_count 51 = .ok (.ireturn, 1) := decA_get dAX6_count 5 rfl
theorem dX6_count_52 : decode cX6_count 52 = .ok (.aload_n 0, 1) := decA_get dAX6_count 6 rfl
theorem dX6_count_53 : decode cX6_count 53 = .ok (.getfield 27, 3) := decA_get dAX6_count 7 rfl
theorem dX6_count_56 : decode cX6_count 56 = .ok (.getfield 201, 3) := decA_get dAX6_count 8 rfl
theorem dX6_count_59 : decode cX6_count 59 = .ok (.ireturn, 1) := decA_get dAX6_count 9 rfl
theorem dX6_count_60 : decode cX6_count 60 = .ok (.aload_n 0, 1) := decA_get dAX6_count 10 rfl
theorem dX6_count_61 : decode cX6_count 61 = .ok (.getfield 27, 3) := decA_get dAX6_count 11 rfl
theorem dX6_count_64 : decode cX6_count 64 = .ok (.getfield 257, 3) := decA_get dAX6_count 12 rfl
theorem dX6_count_67 : decode cX6_count 67 = .ok (.ireturn, 1) := decA_get dAX6_count 13 rfl
theorem dX6_count_68 : decode cX6_count 68 = .ok (.aload_n 0, 1) := decA_get dAX6_count 14 rfl
theorem dX6_count_69 : decode cX6_count 69 = .ok (.getfield 27, 3) := decA_get dAX6_count 15 rfl
theorem dX6_count_72 : decode cX6_count 72 = .ok (.getfield 260, 3) := decA_get dAX6_count 16 rfl
theorem dX6_count_75 : decode cX6_count 75 = .ok (.ireturn, 1) := decA_get dAX6_count 17 rfl
theorem dX6_count_76 : decode cX6_count 76 = .ok (.aload_n 0, 1) := decA_get dAX6_count 18 rfl
theorem dX6_count_77 : decode cX6_count 77 = .ok (.getfield 72, 3) := decA_get dAX6_count 19 rfl
theorem dX6_count_80 : decode cX6_count 80 = .ok (.ireturn, 1) := decA_get dAX6_count 20 rfl
theorem dX6_count_81 : decode cX6_count 81 = .ok (.aload_n 0, 1) := decA_get dAX6_count 21 rfl
theorem dX6_count_82 : decode cX6_count 82 = .ok (.getfield 37, 3) := decA_get dAX6_count 22 rfl
theorem dX6_count_85 : decode cX6_count 85 = .ok (.getfield 172, 3) := decA_get dAX6_count 23 rfl
theorem in_X6_count_1 : ∀ w ∈ wsX10, w ∈ wsX6_count := fun w h => (gd_ids wi_X6_count wm_X6_count wi_X10 (by decide +kernel) w h).1
theorem dX6_count_88 : decode cX6_count 88 = .ok (.ireturn, 1) := decA_get dAX6_count 24 rfl
theorem dX6_count_89 : decode cX6_count 89 = .ok (.aload_n 0, 1) := decA_get dAX6_count 25 rfl
theorem dX6_count_90 : decode cX6_count 90 = .ok (.getfield 13, 3) := decA_get dAX6_count 26 rfl
theorem dX6_count_93 : decode cX6_count 93 = .ok (.ireturn, 1) := decA_get dAX6_count 27 rfl
theorem dX6_count_94 : decode cX6_count 94 = .ok (.iconst (-1), 1) := decA_get dAX6_count 28 rfl
theorem dX6_count_95 : decode cX6_count 95 = .ok (.ireturn, 1) := decA_get dAX6_count 29 rfl
