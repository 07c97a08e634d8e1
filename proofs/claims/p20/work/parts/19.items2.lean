set_option maxRecDepth 20000 in
theorem dAX3_readCoin : decA cX3_readCoin [(0, .aload_n 1, 1), (1, .getfield 64, 3), (4, .bipush 6, 2), (6, .if_icmp .lt 5, 3), (9, .iconst 0, 1), (10, .ireturn, 1), (11, .aload_n 0, 1), (12, .iconst 0, 1), (13, .bipush 60, 2), (15, .invokevirtual 67, 3), (18, .ifCond .ne 5, 3), (21, .iconst 0, 1), (22, .ireturn, 1), (23, .aload_n 1, 1), (24, .getfield 71, 3), (27, .aload_n 1, 1), (28, .getfield 64, 3), (31, .aload_n 0, 1), (32, .getfield 28, 3), (35, .iastore, 1), (36, .aload_n 0, 1), (37, .iconst 1, 1), (38, .bipush 9, 2), (40, .invokevirtual 67, 3), (43, .ifCond .ne 5, 3), (46, .iconst 0, 1), (47, .ireturn, 1), (48, .aload_n 1, 1), (49, .getfield 74, 3), (52, .aload_n 1, 1), (53, .getfield 64, 3), (56, .aload_n 0, 1), (57, .getfield 28, 3), (60, .iastore, 1), (61, .aload_n 1, 1), (62, .dup, 1), (63, .getfield 64, 3), (66, .iconst 1, 1), (67, .iadd, 1), (68, .putfield 64, 3), (71, .aload_n 0, 1), (72, .invokevirtual 77, 3), (75, .ireturn, 1)] = true := by decide +kernel
theorem dX3_readCoin_0 : decode cX3_readCoin 0 = .ok (.aload_n 1, 1) := decA_get dAX3_readCoin 0 rfl
theorem dX3_readCoin_1 : decode cX3_readCoin 1 = .ok (.getfield 64, 3) := decA_get dAX3_readCoin 1 rfl
theorem in_X3_readCoin_0 : ∀ w ∈ wsX00, w ∈ wsX3_readCoin := fun w h => (gd_ids wi_X3_readCoin wm_X3_readCoin wi_X00 (by decide +kernel) w h).1
theorem dX3_readCoin_4 : decode cX3_readCoin 4 = .ok (.bipush 6, 2) := decA_get dAX3_readCoin 2 rfl
theorem dX3_readCoin_6 : decode cX3_readCoin 6 = .ok (.if_icmp .lt 5, 3) := decA_get dAX3_readCoin 3 rfl
theorem dX3_readCoin_11 : decode cX3_readCoin 11 = .ok (.aload_n 0, 1) := decA_get dAX3_readCoin 6 rfl
theorem dX3_readCoin_12 : decode cX3_readCoin 12 = .ok (.iconst 0, 1) := decA_get dAX3_readCoin 7 rfl
theorem dX3_readCoin_13 : decode cX3_readCoin 13 = .ok (.bipush 60, 2) := decA_get dAX3_readCoin 8 rfl
theorem dX3_readCoin_15 : decode cX3_readCoin 15 = .ok (.invokevirtual 67, 3) := decA_get dAX3_readCoin 9 rfl
set_option maxRecDepth 20000 in
theorem ggX3_readCoin_X3_readNumber : GoodIn wsX3_readCoin wsX3_readNumber := gd_ids wi_X3_readCoin wm_X3_readCoin wi_X3_readNumber (by decide +kernel)
set_option maxRecDepth 20000 in
theorem gX3_readCoin_X3_readNumber : GoodIn wsX3_readCoin (wsV RX3 67 RX3 yX3_readNumber wsX3_readNumber) := goodIn_app (gd_ids wi_X3_readCoin wm_X3_readCoin (b := [192, 193, 194, 180]) rfl (by decide +kernel)) ggX3_readCoin_X3_readNumber
theorem dX3_readCoin_18 : decode cX3_readCoin 18 = .ok (.ifCond .ne 5, 3) := decA_get dAX3_readCoin 10 rfl
theorem dX3_readCoin_23 : decode cX3_readCoin 23 = .ok (.aload_n 1, 1) := decA_get dAX3_readCoin 13 rfl
theorem dX3_readCoin_24 : decode cX3_readCoin 24 = .ok (.getfield 71, 3) := decA_get dAX3_readCoin 14 rfl
theorem dX3_readCoin_27 : decode cX3_readCoin 27 = .ok (.aload_n 1, 1) := decA_get dAX3_readCoin 15 rfl
theorem dX3_readCoin_28 : decode cX3_readCoin 28 = .ok (.getfield 64, 3) := decA_get dAX3_readCoin 16 rfl
theorem dX3_readCoin_31 : decode cX3_readCoin 31 = .ok (.aload_n 0, 1) := decA_get dAX3_readCoin 17 rfl
theorem dX3_readCoin_32 : decode cX3_readCoin 32 = .ok (.getfield 28, 3) := decA_get dAX3_readCoin 18 rfl
theorem in_X3_readCoin_3 : ∀ w ∈ wsX30, w ∈ wsX3_readCoin := fun w h => (gd_ids wi_X3_readCoin wm_X3_readCoin wi_X30 (by decide +kernel) w h).1
theorem dX3_readCoin_35 : decode cX3_readCoin 35 = .ok (.iastore, 1) := decA_get dAX3_readCoin 19 rfl
theorem dX3_readCoin_36 : decode cX3_readCoin 36 = .ok (.aload_n 0, 1) := decA_get dAX3_readCoin 20 rfl
theorem dX3_readCoin_37 : decode cX3_readCoin 37 = .ok (.iconst 1, 1) := decA_get dAX3_readCoin 21 rfl
theorem dX3_readCoin_38 : decode cX3_readCoin 38 = .ok (.bipush 9, 2) := decA_get dAX3_readCoin 22 rfl
theorem dX3_readCoin_40 : decode cX3_readCoin 40 = .ok (.invokevirtual 67, 3) := decA_get dAX3_readCoin 23 rfl
theorem dX3_readCoin_43 : decode cX3_readCoin 43 = .ok (.ifCond .ne 5, 3) := decA_get dAX3_readCoin 24 rfl
theorem dX3_readCoin_48 : decode cX3_readCoin 48 = .ok (.aload_n 1, 1) := decA_get dAX3_readCoin 27 rfl
theorem dX3_readCoin_49 : decode cX3_readCoin 49 = .ok (.getfield 74, 3) := decA_get dAX3_readCoin 28 rfl
theorem dX3_readCoin_52 : decode cX3_readCoin 52 = .ok (.aload_n 1, 1) := decA_get dAX3_readCoin 29 rfl
theorem dX3_readCoin_53 : decode cX3_readCoin 53 = .ok (.getfield 64, 3) := decA_get dAX3_readCoin 30 rfl
theorem dX3_readCoin_56 : decode cX3_readCoin 56 = .ok (.aload_n 0, 1) := decA_get dAX3_readCoin 31 rfl
theorem dX3_readCoin_57 : decode cX3_readCoin 57 = .ok (.getfield 28, 3) := decA_get dAX3_readCoin 32 rfl
theorem dX3_readCoin_60 : decode cX3_readCoin 60 = .ok (.iastore, 1) := decA_get dAX3_readCoin 33 rfl
theorem dX3_readCoin_61 : decode cX3_readCoin 61 = .ok (.aload_n 1, 1) := decA_get dAX3_readCoin 34 rfl
theorem dX3_readCoin_62 : decode cX3_readCoin 62 = .ok (.dup, 1) := decA_get dAX3_readCoin 35 rfl
theorem dX3_readCoin_63 : decode cX3_readCoin 63 = .ok (.getfield 64, 3) := decA_get dAX3_readCoin 36 rfl
theorem dX3_readCoin_66 : decode cX3_readCoin 66 = .ok (.iconst 1, 1) := decA_get dAX3_readCoin 37 rfl
theorem dX3_readCoin_67 : decode cX3_readCoin 67 = .ok (.iadd, 1) := decA_get dAX3_readCoin 38 rfl
theorem dX3_readCoin_68 : decode cX3_readCoin 68 = .ok (.putfield 64, 3) := decA_get dAX3_readCoin 39 rfl
theorem dX3_readCoin_71 : decode cX3_readCoin 71 = .ok (.aload_n 0, 1) := decA_get dAX3_readCoin 40 rfl
theorem dX3_readCoin_72 : decode cX3_readCoin 72 = .ok (.invokevirtual 77, 3) := decA_get dAX3_readCoin 41 rfl
set_option maxRecDepth 20000 in
theorem ggX3_readCoin_X3_readEnding : GoodIn wsX3_readCoin wsX3_readEnding := gd_ids wi_X3_readCoin wm_X3_readCoin wi_X3_readEnding (by decide +kernel)
set_option maxRecDepth 20000 in
theorem gX3_readCoin_X3_readEnding : GoodIn wsX3_readCoin (wsV RX3 77 RX3 yX3_readEnding wsX3_readEnding) := goodIn_app (gd_ids wi_X3_readCoin wm_X3_readCoin (b := [195, 196, 197, 180]) rfl (by decide +kernel)) ggX3_readCoin_X3_readEnding
theorem dX3_readCoin_75 : decode cX3_readCoin 75 = .ok (.ireturn, 1) := decA_get dAX3_readCoin 42 rfl
theorem dX3_readCoin_46 : decode cX3_readCoin 46 = .ok (.iconst 0, 1) := decA_get dAX3_readCoin 25 rfl
theorem dX3_readCoin_47 : decode cX3_readCoin 47 = .ok (.ireturn, 1) := decA_get dAX3_readCoin 26 rfl
theorem dX3_readCoin_21 : decode cX3_readCoin 21 = .ok (.iconst 0, 1) := decA_get dAX3_readCoin 11 rfl
theorem dX3_readCoin_22 : decode cX3_readCoin 22 = .ok (.ireturn, 1) := decA_get dAX3_readCoin 12 rfl
theorem dX3_readCoin_9 : decode cX3_readCoin 9 = .ok (.iconst 0, 1) := decA_get dAX3_readCoin 4 rfl
theorem dX3_readCoin_10 : decode cX3_readCoin 10 = .ok (.ireturn, 1) := decA_get dAX3_readCoin 5 rfl
set_option maxHeartbeats 4000000 in
set_option maxRecDepth 100000 in
theorem g_readCoin (l : Launch) (D : va_G) (cI cB cZ cN : ClassId) (Rh : Nat) (RS : Nat → Nat → Nat) (Th : Nat) (TS : Nat → Nat → Nat) (Lh : Nat) (La1 : Nat) (La2 : Nat) (La4 : Nat) (La5 : Nat) (La7 : Nat) (La8 : Nat) (La9 : Nat) (LS : Nat → Nat → Nat) (v_b : Nat) (hT : ∀ j, TS 0 j < 256) (h2 : RS 1 0 ≤ 180) (hR : RdAt RS (TS 0) (RS 1 0) v_b) (hvb : v_b ≤ RS 1 0) (hL : LandOk LS) : Ci (S := (Nat → Nat → Nat) × (Nat → Nat → Nat)) l D cI cB cZ cN yX3_readCoin wsX3_readCoin ({ frames := 3, cells := 0, slots := 0, locals := 64 } : Room) [.ref Rh, .ref Lh] [(Rh, .inr (3, [.ref Th, .int (nI (RS 1 0)), .int (nI (RS 2 0)), .int (nI (RS 3 0)), .int (nI (RS 4 0)), .int (nI (RS 5 0))])), (Th, .inl (cI, 180, .inl (nF (TS 0)))), (Lh, .inr (0, [.int (nI (LS 0 0)), .ref La1, .ref La2, .int (nI (LS 3 0)), .ref La4, .ref La5, .int (nI (LS 6 0)), .ref La7, .ref La8, .ref La9, .int (nI (LS 10 0)), .int (nI (LS 11 0))])), (La1, .inl (cI, 6, .inl (nF (LS 1)))), (La2, .inl (cI, 6, .inl (nF (LS 2)))), (La4, .inl (cI, 5, .inl (nF (LS 4)))), (La5, .inl (cI, 30, .inl (nF (LS 5)))), (La7, .inl (cI, 5, .inl (nF (LS 7)))), (La8, .inl (cI, 5, .inl (nF (LS 8)))), (La9, .inl (cI, 5, .inl (nF (LS 9))))] (fun (r : Int32) (u : (Nat → Nat → Nat) × (Nat → Nat → Nat)) => r = nI (coinF (TS 0) (RS 1 0) v_b LS).1 ∧ RdAt u.1 (TS 0) (RS 1 0) (coinF (TS 0) (RS 1 0) v_b LS).2.1 ∧ u.2 = (coinF (TS 0) (RS 1 0) v_b LS).2.2) (fun u => [(Rh, .inr (3, [.ref Th, .int (nI (u.1 1 0)), .int (nI (u.1 2 0)), .int (nI (u.1 3 0)), .int (nI (u.1 4 0)), .int (nI (u.1 5 0))])), (Th, .inl (cI, 180, .inl (nF (TS 0)))), (Lh, .inr (0, [.int (nI (u.2 0 0)), .ref La1, .ref La2, .int (nI (u.2 3 0)), .ref La4, .ref La5, .int (nI (u.2 6 0)), .ref La7, .ref La8, .ref La9, .int (nI (u.2 10 0)), .int (nI (u.2 11 0))])), (La1, .inl (cI, 6, .inl (nF (u.2 1)))), (La2, .inl (cI, 6, .inl (nF (u.2 2)))), (La4, .inl (cI, 5, .inl (nF (u.2 4)))), (La5, .inl (cI, 30, .inl (nF (u.2 5)))), (La7, .inl (cI, 5, .inl (nF (u.2 7)))), (La8, .inl (cI, 5, .inl (nF (u.2 8)))), (La9, .inl (cI, 5, .inl (nF (u.2 9))))]) := by
  refine bx_of (D := D) (cI := cI) (cB := cB) (cZ := cZ) (cN := cN) (y := yX3_readCoin) (wd := wsX3_readCoin) (rm := ({ frames := 3, cells := 0, slots := 0, locals := 64 } : Room)) (av := [.ref Rh, .ref Lh]) (wc := [(Rh, .inr (3, [.ref Th, .int (nI (RS 1 0)), .int (nI (RS 2 0)), .int (nI (RS 3 0)), .int (nI (RS 4 0)), .int (nI (RS 5 0))])), (Th, .inl (cI, 180, .inl (nF (TS 0)))), (Lh, .inr (0, [.int (nI (LS 0 0)), .ref La1, .ref La2, .int (nI (LS 3 0)), .ref La4, .ref La5, .int (nI (LS 6 0)), .ref La7, .ref La8, .ref La9, .int (nI (LS 10 0)), .int (nI (LS 11 0))])), (La1, .inl (cI, 6, .inl (nF (LS 1)))), (La2, .inl (cI, 6, .inl (nF (LS 2)))), (La4, .inl (cI, 5, .inl (nF (LS 4)))), (La5, .inl (cI, 30, .inl (nF (LS 5)))), (La7, .inl (cI, 5, .inl (nF (LS 7)))), (La8, .inl (cI, 5, .inl (nF (LS 8)))), (La9, .inl (cI, 5, .inl (nF (LS 9))))]) (cc := cX3_readCoin) (maxL := 2) (ret := (some .boolean)) (Qc := fun _ A => va_Qi (S := (Nat → Nat → Nat) × (Nat → Nat → Nat)) (fun (r : Int32) (u : (Nat → Nat → Nat) × (Nat → Nat → Nat)) => r = nI (coinF (TS 0) (RS 1 0) v_b LS).1 ∧ RdAt u.1 (TS 0) (RS 1 0) (coinF (TS 0) (RS 1 0) v_b LS).2.1 ∧ u.2 = (coinF (TS 0) (RS 1 0) v_b LS).2.2) (Aft D (fun (u : (Nat → Nat → Nat) × (Nat → Nat → Nat)) => [(Rh, .inr (3, [.ref Th, .int (nI (u.1 1 0)), .int (nI (u.1 2 0)), .int (nI (u.1 3 0)), .int (nI (u.1 4 0)), .int (nI (u.1 5 0))])), (Th, .inl (cI, 180, .inl (nF (TS 0)))), (Lh, .inr (0, [.int (nI (u.2 0 0)), .ref La1, .ref La2, .int (nI (u.2 3 0)), .ref La4, .ref La5, .int (nI (u.2 6 0)), .ref La7, .ref La8, .ref La9, .int (nI (u.2 10 0)), .int (nI (u.2 11 0))])), (La1, .inl (cI, 6, .inl (nF (u.2 1)))), (La2, .inl (cI, 6, .inl (nF (u.2 2)))), (La4, .inl (cI, 5, .inl (nF (u.2 4)))), (La5, .inl (cI, 30, .inl (nF (u.2 5)))), (La7, .inl (cI, 5, .inl (nF (u.2 7)))), (La8, .inl (cI, 5, .inl (nF (u.2 8)))), (La9, .inl (cI, 5, .inl (nF (u.2 9))))]) A) A) (by decide) rfl (Nat.le_of_ble_eq_true rfl) ?_
  intro p e s m below meth c A H locs ⟨hx, hb, hr, hml, hown, hts, hlk, hnm⟩ hK hP hD hS hA ls hl
  have hl : lv_has ls 2 [(0, .ref Rh), (1, .ref Lh)] := hl
  have hown : s.vm.findClass RX3 = some m.cls := hown
  have hL0 := hL
  obtain ⟨bl0, bl3, bl6, bl10, bl11, bl1, bl2, bl4, bl5, bl7, bl8, bl9⟩ := hL
  refine lv_aload_n hx hb dX3_readCoin_0 rfl (lv_at hl 1 rfl) ?_
  refine va_getN (D := D) (ci := 0) (v := .int (nI (LS 0 0))) (C := RX0) (T := TX0) (N := 12) hx hb hts in_X3_readCoin_0 hown hK.1 hP 2 rfl rfl 0 (by decide) (nfX3_64 hK.2) (fun _ h9 => h9) rfl dX3_readCoin_1 ?_
  refine lv_bipush (v := nI 6) hx hb dX3_readCoin_4 (by decide) ?_
  refine nb_icmp_lt (tgt := 11) hx hb dX3_readCoin_6 (by decide) (by omega) (by omega) (fun hq1 => ?_) (fun hq1 => ?_)
  · skip
    refine lv_aload_n hx hb dX3_readCoin_11 rfl (lv_at hl 0 rfl) ?_
    refine lv_iconst (v := nI 0) hx hb dX3_readCoin_12 (by decide) ?_
    refine lv_bipush (v := nI 60) hx hb dX3_readCoin_13 (by decide) ?_
    refine be_i (free := fun _ => False) (wr := [(Lh, .inr (0, [.int (nI (LS 0 0)), .ref La1, .ref La2, .int (nI (LS 3 0)), .ref La4, .ref La5, .int (nI (LS 6 0)), .ref La7, .ref La8, .ref La9, .int (nI (LS 10 0)), .int (nI (LS 11 0))])), (La1, .inl (cI, 6, .inl (nF (LS 1)))), (La2, .inl (cI, 6, .inl (nF (LS 2)))), (La4, .inl (cI, 5, .inl (nF (LS 4)))), (La5, .inl (cI, 30, .inl (nF (LS 5)))), (La7, .inl (cI, 5, .inl (nF (LS 7)))), (La8, .inl (cI, 5, .inl (nF (LS 8)))), (La9, .inl (cI, 5, .inl (nF (LS 9))))]) (ru_V (As := [.int (nI 0), .int (nI 60)]) (rest := []) ⟨hx, hb, hml, hown, hts⟩ (g_readNumberA l D cI cB cZ cN Rh RS Th TS 0 60 hT (by rw [hR.2.2.1, hR.1]; exact (pE_le hvb).2) (by rw [hR.1]; exact h2) (by omega) (by omega) H.size) gX3_readCoin_X3_readNumber rfl ⟨rfl, by decide, by decide, (show Option.map (fun d => d.parameters.length) (parseMethodDescriptor yX3_readNumber.desc) = some 2 by decide +kernel)⟩ ⟨Nat.le_of_ble_eq_true rfl, Nat.le_of_ble_eq_true rfl⟩ hK hP hD 3 0 rfl rfl [0, 1] (by decide) rfl hl.1 rfl (Nat.le_of_ble_eq_true rfl) dX3_readCoin_15 ⟨Nat.le_of_ble_eq_true rfl, Nat.le_of_ble_eq_true rfl⟩) hP hD hS hA [0, 1] [2, 3, 4, 5, 6, 7, 8, 9] rfl rfl (by decide) (by decide) (fun r3 u2 H locs w4 hP hD hS => ?_)
    obtain ⟨k5e, k5⟩ := w4
    have k5q : okN (TS 0) (RS 1 0) (RS 2 0) 0 60 = okN (TS 0) (RS 1 0) (pE (TS 0) (RS 1 0) v_b) 0 60 := by rw [hR.2.2.1, hR.1]
    have k5 : RdAt u2 (TS 0) (RS 1 0) (pE (TS 0) (RS 1 0) v_b) := by rw [hR.2.2.1, hR.1] at k5; exact k5
    have k5l := (pE_le (t := (TS 0)) hvb).2
    rw [k5q] at k5e
    subst k5e
    have k5b := okN_le (TS 0) (RS 1 0) (pE (TS 0) (RS 1 0) v_b) 0 60
    obtain ⟨hP, hD⟩ : wPD D A [(Lh, .inr (0, [.int (nI (LS 0 0)), .ref La1, .ref La2, .int (nI (LS 3 0)), .ref La4, .ref La5, .int (nI (LS 6 0)), .ref La7, .ref La8, .ref La9, .int (nI (LS 10 0)), .int (nI (LS 11 0))])), (La1, .inl (cI, 6, .inl (nF (LS 1)))), (La2, .inl (cI, 6, .inl (nF (LS 2)))), (La4, .inl (cI, 5, .inl (nF (LS 4)))), (La5, .inl (cI, 30, .inl (nF (LS 5)))), (La7, .inl (cI, 5, .inl (nF (LS 7)))), (La8, .inl (cI, 5, .inl (nF (LS 8)))), (La9, .inl (cI, 5, .inl (nF (LS 9)))), (Rh, .inr (3, [.ref Th, .int (nI (u2 1 0)), .int (nI (u2 2 0)), .int (nI (u2 3 0)), .int (nI (u2 4 0)), .int (nI (u2 5 0))])), (Th, .inl (cI, 180, .inl (nF (TS 0))))] H := ⟨hP, hD⟩
    refine nb_if_ne (tgt := 23) hx hb dX3_readCoin_18 (by decide) (by omega) (fun hq6 => ?_) (fun hq6 => ?_)
    · skip
      refine lv_aload_n hx hb dX3_readCoin_23 rfl (lv_at hl 1 rfl) ?_
      refine va_getN (D := D) (ci := 0) (v := .ref La1) (C := RX0) (T := TX0) (N := 12) hx hb hts in_X3_readCoin_0 hown hK.1 hP 0 rfl rfl 1 (by decide) (nfX3_71 hK.2) (fun _ h9 => h9) rfl dX3_readCoin_24 ?_
      refine lv_aload_n hx hb dX3_readCoin_27 rfl (lv_at hl 1 rfl) ?_
      refine va_getN (D := D) (ci := 0) (v := .int (nI (LS 0 0))) (C := RX0) (T := TX0) (N := 12) hx hb hts in_X3_readCoin_0 hown hK.1 hP 0 rfl rfl 0 (by decide) (nfX3_64 hK.2) (fun _ h9 => h9) rfl dX3_readCoin_28 ?_
      refine lv_aload_n hx hb dX3_readCoin_31 rfl (lv_at hl 0 rfl) ?_
      refine va_get (D := D) (ci := 3) (v := .int (nI (u2 5 0))) (C := RX3) (T := TX3) (N := 6) hx hb hts in_X3_readCoin_3 hown hK.1 hP 8 rfl rfl 5 (by decide) (hts (.fieldLink RX3 28 "ChildCoins$Reader" "value" "I") (List.mem_of_getElem? (i := 1) rfl)) (fun _ h9 => h9) rfl dX3_readCoin_32 ?_
      refine set_i (y := nI (pV (TS 0) (RS 1 0) (pE (TS 0) (RS 1 0) v_b))) (congrArg nI k5.2.2.2.2) ?_
      have b7 := pV_le hT (RS 1 0) (pE (TS 0) (RS 1 0) v_b)
      refine va_iast hx hb hK.1 hP hD hS 1 0 rfl rfl (vp_in_nI (n := LS 0 0) (N := 6) (by omega) (by decide)) dX3_readCoin_35 (fun H locs hP hD hS => ?_)
      obtain ⟨hP, hD⟩ : wPD D A [(Lh, .inr (0, [.int (nI (LS 0 0)), .ref La1, .ref La2, .int (nI (LS 3 0)), .ref La4, .ref La5, .int (nI (LS 6 0)), .ref La7, .ref La8, .ref La9, .int (nI (LS 10 0)), .int (nI (LS 11 0))])), (La1, .inl (cI, 6, .inl (upd (nF (LS 1)) (nI (LS 0 0)).toNatClampNeg (nI (pV (TS 0) (RS 1 0) (pE (TS 0) (RS 1 0) v_b)))))), (La2, .inl (cI, 6, .inl (nF (LS 2)))), (La4, .inl (cI, 5, .inl (nF (LS 4)))), (La5, .inl (cI, 30, .inl (nF (LS 5)))), (La7, .inl (cI, 5, .inl (nF (LS 7)))), (La8, .inl (cI, 5, .inl (nF (LS 8)))), (La9, .inl (cI, 5, .inl (nF (LS 9)))), (Rh, .inr (3, [.ref Th, .int (nI (u2 1 0)), .int (nI (u2 2 0)), .int (nI (u2 3 0)), .int (nI (u2 4 0)), .int (nI (u2 5 0))])), (Th, .inl (cI, 180, .inl (nF (TS 0))))] H := ⟨hP, hD⟩
      rw [nF_st (by omega)] at hP hD
      refine lv_aload_n hx hb dX3_readCoin_36 rfl (lv_at hl 0 rfl) ?_
      refine lv_iconst (v := nI 1) hx hb dX3_readCoin_37 (by decide) ?_
      refine lv_bipush (v := nI 9) hx hb dX3_readCoin_38 (by decide) ?_
      refine be_i (free := fun _ => False) (wr := [(Lh, .inr (0, [.int (nI (LS 0 0)), .ref La1, .ref La2, .int (nI (LS 3 0)), .ref La4, .ref La5, .int (nI (LS 6 0)), .ref La7, .ref La8, .ref La9, .int (nI (LS 10 0)), .int (nI (LS 11 0))])), (La1, .inl (cI, 6, .inl (nF (un (LS 1) (LS 0 0) (pV (TS 0) (RS 1 0) (pE (TS 0) (RS 1 0) v_b)))))), (La2, .inl (cI, 6, .inl (nF (LS 2)))), (La4, .inl (cI, 5, .inl (nF (LS 4)))), (La5, .inl (cI, 30, .inl (nF (LS 5)))), (La7, .inl (cI, 5, .inl (nF (LS 7)))), (La8, .inl (cI, 5, .inl (nF (LS 8)))), (La9, .inl (cI, 5, .inl (nF (LS 9))))]) (ru_V (As := [.int (nI 1), .int (nI 9)]) (rest := []) ⟨hx, hb, hml, hown, hts⟩ (g_readNumberA l D cI cB cZ cN Rh u2 Th TS 1 9 hT (by rw [k5.2.2.1, k5.1]; exact (pE_le k5l).2) (by rw [k5.1]; exact h2) (by omega) (by omega) H.size) gX3_readCoin_X3_readNumber rfl ⟨rfl, by decide, by decide, (show Option.map (fun d => d.parameters.length) (parseMethodDescriptor yX3_readNumber.desc) = some 2 by decide +kernel)⟩ ⟨Nat.le_of_ble_eq_true rfl, Nat.le_of_ble_eq_true rfl⟩ hK hP hD 3 8 rfl rfl [8, 9] (by decide) rfl hl.1 rfl (Nat.le_of_ble_eq_true rfl) dX3_readCoin_40 ⟨Nat.le_of_ble_eq_true rfl, Nat.le_of_ble_eq_true rfl⟩) hP hD hS hA [8, 9] [0, 1, 2, 3, 4, 5, 6, 7] rfl rfl (by decide) (by decide) (fun r9 u8 H locs w10 hP hD hS => ?_)
      obtain ⟨k11e, k11⟩ := w10
      have k11q : okN (TS 0) (u2 1 0) (u2 2 0) 1 9 = okN (TS 0) (RS 1 0) (pE (TS 0) (RS 1 0) (pE (TS 0) (RS 1 0) v_b)) 1 9 := by rw [k5.2.2.1, k5.1]
      have k11 : RdAt u8 (TS 0) (RS 1 0) (pE (TS 0) (RS 1 0) (pE (TS 0) (RS 1 0) v_b)) := by rw [k5.2.2.1, k5.1] at k11; exact k11
      have k11l := (pE_le (t := (TS 0)) k5l).2
      rw [k11q] at k11e
      subst k11e
      have k11b := okN_le (TS 0) (RS 1 0) (pE (TS 0) (RS 1 0) (pE (TS 0) (RS 1 0) v_b)) 1 9
      obtain ⟨hP, hD⟩ : wPD D A [(Lh, .inr (0, [.int (nI (LS 0 0)), .ref La1, .ref La2, .int (nI (LS 3 0)), .ref La4, .ref La5, .int (nI (LS 6 0)), .ref La7, .ref La8, .ref La9, .int (nI (LS 10 0)), .int (nI (LS 11 0))])), (La1, .inl (cI, 6, .inl (nF (un (LS 1) (LS 0 0) (pV (TS 0) (RS 1 0) (pE (TS 0) (RS 1 0) v_b)))))), (La2, .inl (cI, 6, .inl (nF (LS 2)))), (La4, .inl (cI, 5, .inl (nF (LS 4)))), (La5, .inl (cI, 30, .inl (nF (LS 5)))), (La7, .inl (cI, 5, .inl (nF (LS 7)))), (La8, .inl (cI, 5, .inl (nF (LS 8)))), (La9, .inl (cI, 5, .inl (nF (LS 9)))), (Rh, .inr (3, [.ref Th, .int (nI (u8 1 0)), .int (nI (u8 2 0)), .int (nI (u8 3 0)), .int (nI (u8 4 0)), .int (nI (u8 5 0))])), (Th, .inl (cI, 180, .inl (nF (TS 0))))] H := ⟨hP, hD⟩
      refine nb_if_ne (tgt := 48) hx hb dX3_readCoin_43 (by decide) (by omega) (fun hq12 => ?_) (fun hq12 => ?_)
      · skip
        refine lv_aload_n hx hb dX3_readCoin_48 rfl (lv_at hl 1 rfl) ?_
        refine va_getN (D := D) (ci := 0) (v := .ref La2) (C := RX0) (T := TX0) (N := 12) hx hb hts in_X3_readCoin_0 hown hK.1 hP 0 rfl rfl 2 (by decide) (nfX3_74 hK.2) (fun _ h9 => h9) rfl dX3_readCoin_49 ?_
        refine lv_aload_n hx hb dX3_readCoin_52 rfl (lv_at hl 1 rfl) ?_
        refine va_getN (D := D) (ci := 0) (v := .int (nI (LS 0 0))) (C := RX0) (T := TX0) (N := 12) hx hb hts in_X3_readCoin_0 hown hK.1 hP 0 rfl rfl 0 (by decide) (nfX3_64 hK.2) (fun _ h9 => h9) rfl dX3_readCoin_53 ?_
        refine lv_aload_n hx hb dX3_readCoin_56 rfl (lv_at hl 0 rfl) ?_
        refine va_get (D := D) (ci := 3) (v := .int (nI (u8 5 0))) (C := RX3) (T := TX3) (N := 6) hx hb hts in_X3_readCoin_3 hown hK.1 hP 8 rfl rfl 5 (by decide) (hts (.fieldLink RX3 28 "ChildCoins$Reader" "value" "I") (List.mem_of_getElem? (i := 1) rfl)) (fun _ h9 => h9) rfl dX3_readCoin_57 ?_
        refine set_i (y := nI (pV (TS 0) (RS 1 0) (pE (TS 0) (RS 1 0) (pE (TS 0) (RS 1 0) v_b)))) (congrArg nI k11.2.2.2.2) ?_
        have b13 := pV_le hT (RS 1 0) (pE (TS 0) (RS 1 0) (pE (TS 0) (RS 1 0) v_b))
        refine va_iast hx hb hK.1 hP hD hS 2 0 rfl rfl (vp_in_nI (n := LS 0 0) (N := 6) (by omega) (by decide)) dX3_readCoin_60 (fun H locs hP hD hS => ?_)
        obtain ⟨hP, hD⟩ : wPD D A [(Lh, .inr (0, [.int (nI (LS 0 0)), .ref La1, .ref La2, .int (nI (LS 3 0)), .ref La4, .ref La5, .int (nI (LS 6 0)), .ref La7, .ref La8, .ref La9, .int (nI (LS 10 0)), .int (nI (LS 11 0))])), (La1, .inl (cI, 6, .inl (nF (un (LS 1) (LS 0 0) (pV (TS 0) (RS 1 0) (pE (TS 0) (RS 1 0) v_b)))))), (La2, .inl (cI, 6, .inl (upd (nF (LS 2)) (nI (LS 0 0)).toNatClampNeg (nI (pV (TS 0) (RS 1 0) (pE (TS 0) (RS 1 0) (pE (TS 0) (RS 1 0) v_b))))))), (La4, .inl (cI, 5, .inl (nF (LS 4)))), (La5, .inl (cI, 30, .inl (nF (LS 5)))), (La7, .inl (cI, 5, .inl (nF (LS 7)))), (La8, .inl (cI, 5, .inl (nF (LS 8)))), (La9, .inl (cI, 5, .inl (nF (LS 9)))), (Rh, .inr (3, [.ref Th, .int (nI (u8 1 0)), .int (nI (u8 2 0)), .int (nI (u8 3 0)), .int (nI (u8 4 0)), .int (nI (u8 5 0))])), (Th, .inl (cI, 180, .inl (nF (TS 0))))] H := ⟨hP, hD⟩
        rw [nF_st (by omega)] at hP hD
        refine lv_aload_n hx hb dX3_readCoin_61 rfl (lv_at hl 1 rfl) ?_
        refine lv_dup hx hb dX3_readCoin_62 rfl ?_
        refine va_getN (D := D) (ci := 0) (v := .int (nI (LS 0 0))) (C := RX0) (T := TX0) (N := 12) hx hb hts in_X3_readCoin_0 hown hK.1 hP 0 rfl rfl 0 (by decide) (nfX3_64 hK.2) (fun _ h9 => h9) rfl dX3_readCoin_63 ?_
        refine lv_iconst (v := nI 1) hx hb dX3_readCoin_66 (by decide) ?_
        refine lv_iadd hx hb dX3_readCoin_67 ?_
        refine set_i (y := nI ((LS 0 0) + 1)) (nI_add (LS 0 0) 1) ?_
        refine va_putN (D := D) (ci := 0) (v := .int (nI ((LS 0 0) + 1))) (ty := tyX0 0) (C := RX0) (T := TX0) (N := 12) hx hb hts in_X3_readCoin_0 tyX0 tyX0_ok nmX0 hown hK.1 hP hD hS 0 rfl rfl 0 (by decide) (nfX3_64 hK.2) (fun _ h9 => h9) rfl (tyX0_ok 0 (by decide)) rfl rfl (Nat.le_of_ble_eq_true rfl) dX3_readCoin_68 (fun H locs hP hD hS => ?_)
        obtain ⟨hP, hD⟩ : wPD D A [(Lh, .inr (0, [.int (nI ((LS 0 0) + 1)), .ref La1, .ref La2, .int (nI (LS 3 0)), .ref La4, .ref La5, .int (nI (LS 6 0)), .ref La7, .ref La8, .ref La9, .int (nI (LS 10 0)), .int (nI (LS 11 0))])), (La1, .inl (cI, 6, .inl (nF (un (LS 1) (LS 0 0) (pV (TS 0) (RS 1 0) (pE (TS 0) (RS 1 0) v_b)))))), (La2, .inl (cI, 6, .inl (nF (un (LS 2) (LS 0 0) (pV (TS 0) (RS 1 0) (pE (TS 0) (RS 1 0) (pE (TS 0) (RS 1 0) v_b))))))), (La4, .inl (cI, 5, .inl (nF (LS 4)))), (La5, .inl (cI, 30, .inl (nF (LS 5)))), (La7, .inl (cI, 5, .inl (nF (LS 7)))), (La8, .inl (cI, 5, .inl (nF (LS 8)))), (La9, .inl (cI, 5, .inl (nF (LS 9)))), (Rh, .inr (3, [.ref Th, .int (nI (u8 1 0)), .int (nI (u8 2 0)), .int (nI (u8 3 0)), .int (nI (u8 4 0)), .int (nI (u8 5 0))])), (Th, .inl (cI, 180, .inl (nF (TS 0))))] H := ⟨hP, hD⟩
        refine lv_aload_n hx hb dX3_readCoin_71 rfl (lv_at hl 0 rfl) ?_
        refine be_i (free := fun _ => False) (wr := [(Lh, .inr (0, [.int (nI ((LS 0 0) + 1)), .ref La1, .ref La2, .int (nI (LS 3 0)), .ref La4, .ref La5, .int (nI (LS 6 0)), .ref La7, .ref La8, .ref La9, .int (nI (LS 10 0)), .int (nI (LS 11 0))])), (La1, .inl (cI, 6, .inl (nF (un (LS 1) (LS 0 0) (pV (TS 0) (RS 1 0) (pE (TS 0) (RS 1 0) v_b)))))), (La2, .inl (cI, 6, .inl (nF (un (LS 2) (LS 0 0) (pV (TS 0) (RS 1 0) (pE (TS 0) (RS 1 0) (pE (TS 0) (RS 1 0) v_b))))))), (La4, .inl (cI, 5, .inl (nF (LS 4)))), (La5, .inl (cI, 30, .inl (nF (LS 5)))), (La7, .inl (cI, 5, .inl (nF (LS 7)))), (La8, .inl (cI, 5, .inl (nF (LS 8)))), (La9, .inl (cI, 5, .inl (nF (LS 9))))]) (ru_V (As := []) (rest := []) ⟨hx, hb, hml, hown, hts⟩ (g_readEnding l D cI cB cZ cN Rh u8 Th TS hT (by rw [k11.2.2.1, k11.1]; exact (pE_le k11l).2) (by rw [k11.1]; exact h2) H.size) gX3_readCoin_X3_readEnding rfl ⟨rfl, by decide, by decide, (show Option.map (fun d => d.parameters.length) (parseMethodDescriptor yX3_readEnding.desc) = some 0 by decide +kernel)⟩ ⟨Nat.le_of_ble_eq_true rfl, Nat.le_of_ble_eq_true rfl⟩ hK hP hD 3 8 rfl rfl [8, 9] (by decide) rfl hl.1 rfl (Nat.le_of_ble_eq_true rfl) dX3_readCoin_72 ⟨Nat.le_of_ble_eq_true rfl, Nat.le_of_ble_eq_true rfl⟩) hP hD hS hA [8, 9] [0, 1, 2, 3, 4, 5, 6, 7] rfl rfl (by decide) (by decide) (fun r15 u14 H locs w16 hP hD hS => ?_)
        obtain ⟨k17e, k17⟩ := w16
        have k17q : enN (TS 0) (u8 1 0) (u8 2 0) = enN (TS 0) (RS 1 0) (pE (TS 0) (RS 1 0) (pE (TS 0) (RS 1 0) (pE (TS 0) (RS 1 0) v_b))) := by rw [k11.2.2.1, k11.1]
        have k17 : RdAt u14 (TS 0) (RS 1 0) (pE (TS 0) (RS 1 0) (pE (TS 0) (RS 1 0) (pE (TS 0) (RS 1 0) v_b))) := by rw [k11.2.2.1, k11.1] at k17; exact k17
        have k17l := (pE_le (t := (TS 0)) k11l).2
        rw [k17q] at k17e
        subst k17e
        have k17b := enN_le (TS 0) (RS 1 0) (pE (TS 0) (RS 1 0) (pE (TS 0) (RS 1 0) (pE (TS 0) (RS 1 0) v_b)))
        obtain ⟨hP, hD⟩ : wPD D A [(Lh, .inr (0, [.int (nI ((LS 0 0) + 1)), .ref La1, .ref La2, .int (nI (LS 3 0)), .ref La4, .ref La5, .int (nI (LS 6 0)), .ref La7, .ref La8, .ref La9, .int (nI (LS 10 0)), .int (nI (LS 11 0))])), (La1, .inl (cI, 6, .inl (nF (un (LS 1) (LS 0 0) (pV (TS 0) (RS 1 0) (pE (TS 0) (RS 1 0) v_b)))))), (La2, .inl (cI, 6, .inl (nF (un (LS 2) (LS 0 0) (pV (TS 0) (RS 1 0) (pE (TS 0) (RS 1 0) (pE (TS 0) (RS 1 0) v_b))))))), (La4, .inl (cI, 5, .inl (nF (LS 4)))), (La5, .inl (cI, 30, .inl (nF (LS 5)))), (La7, .inl (cI, 5, .inl (nF (LS 7)))), (La8, .inl (cI, 5, .inl (nF (LS 8)))), (La9, .inl (cI, 5, .inl (nF (LS 9)))), (Rh, .inr (3, [.ref Th, .int (nI (u14 1 0)), .int (nI (u14 2 0)), .int (nI (u14 3 0)), .int (nI (u14 4 0)), .int (nI (u14 5 0))])), (Th, .inl (cI, 180, .inl (nF (TS 0))))] H := ⟨hP, hD⟩
        exact en_z hx hb hr hlk hP hD hS (u14, ua (ua (ua LS 0 (fun _ => (LS 0 0) + 1)) 1 (un (LS 1) (LS 0 0) (pV (TS 0) (RS 1 0) (pE (TS 0) (RS 1 0) v_b)))) 2 (un (LS 2) (LS 0 0) (pV (TS 0) (RS 1 0) (pE (TS 0) (RS 1 0) (pE (TS 0) (RS 1 0) v_b))))) [8, 9, 0, 1, 2, 3, 4, 5, 6, 7] (by decide) rfl (Nat.le_of_ble_eq_true rfl) (Nat.le_of_ble_eq_true rfl) dX3_readCoin_75 (b01 (by omega)) (by unfold coinF; rw [if_neg (show ¬ 6 ≤ LS 0 0 by omega), if_neg (show ¬ okN (TS 0) (RS 1 0) (pE (TS 0) (RS 1 0) v_b) 0 60 = 0 by omega), if_neg (show ¬ okN (TS 0) (RS 1 0) (pE (TS 0) (RS 1 0) (pE (TS 0) (RS 1 0) v_b)) 1 9 = 0 by omega)]; exact ⟨rfl, k17, rfl⟩)
      · skip
        refine lv_iconst (v := nI 0) hx hb dX3_readCoin_46 (by decide) ?_
        exact en_z hx hb hr hlk hP hD hS (u8, ua LS 1 (un (LS 1) (LS 0 0) (pV (TS 0) (RS 1 0) (pE (TS 0) (RS 1 0) v_b)))) [8, 9, 0, 1, 2, 3, 4, 5, 6, 7] (by decide) rfl (Nat.le_of_ble_eq_true rfl) (Nat.le_of_ble_eq_true rfl) dX3_readCoin_47 rfl (by unfold coinF; rw [if_neg (show ¬ 6 ≤ LS 0 0 by omega), if_neg (show ¬ okN (TS 0) (RS 1 0) (pE (TS 0) (RS 1 0) v_b) 0 60 = 0 by omega), if_pos (show okN (TS 0) (RS 1 0) (pE (TS 0) (RS 1 0) (pE (TS 0) (RS 1 0) v_b)) 1 9 = 0 by omega)]; exact ⟨rfl, k11, rfl⟩)
    · skip
      refine lv_iconst (v := nI 0) hx hb dX3_readCoin_21 (by decide) ?_
      exact en_z hx hb hr hlk hP hD hS (u2, LS) [8, 9, 0, 1, 2, 3, 4, 5, 6, 7] (by decide) rfl (Nat.le_of_ble_eq_true rfl) (Nat.le_of_ble_eq_true rfl) dX3_readCoin_22 rfl (by unfold coinF; rw [if_neg (show ¬ 6 ≤ LS 0 0 by omega), if_pos (show okN (TS 0) (RS 1 0) (pE (TS 0) (RS 1 0) v_b) 0 60 = 0 by omega)]; exact ⟨rfl, k5, rfl⟩)
  · skip
    refine lv_iconst (v := nI 0) hx hb dX3_readCoin_9 (by decide) ?_
    exact en_z hx hb hr hlk hP hD hS (RS, LS) [0, 1, 2, 3, 4, 5, 6, 7, 8, 9] (by decide) rfl (Nat.le_of_ble_eq_true rfl) (Nat.le_of_ble_eq_true rfl) dX3_readCoin_10 rfl (by unfold coinF; rw [if_pos (show 6 ≤ LS 0 0 by omega)]; exact ⟨rfl, hR, rfl⟩)
set_option maxRecDepth 20000 in
theorem dAX3_readPerson : decA cX3_readPerson [(0, .aload_n 1, 1), (1, .getfield 81, 3), (4, .iconst 5, 1), (5, .if_icmp .lt 5, 3), (8, .iconst 0, 1), (9, .ireturn, 1), (10, .aload_n 0, 1), (11, .iconst 0, 1), (12, .bipush 60, 2), (14, .invokevirtual 67, 3), (17, .ifCond .ne 5, 3), (20, .iconst 0, 1), (21, .ireturn, 1), (22, .aload_n 1, 1), (23, .getfield 84, 3), (26, .aload_n 1, 1), (27, .getfield 81, 3), (30, .aload_n 0, 1), (31, .getfield 28, 3), (34, .iastore, 1), (35, .aload_n 1, 1), (36, .dup, 1), (37, .getfield 81, 3), (40, .iconst 1, 1), (41, .iadd, 1), (42, .putfield 81, 3), (45, .aload_n 0, 1), (46, .invokevirtual 77, 3), (49, .ireturn, 1)] = true := by decide +kernel
theorem dX3_readPerson_0 : decode cX3_readPerson 0 = .ok (.aload_n 1, 1) := decA_get dAX3_readPerson 0 rfl
theorem dX3_readPerson_1 : decode cX3_readPerson 1 = .ok (.getfield 81, 3) := decA_get dAX3_readPerson 1 rfl
theorem in_X3_readPerson_0 : ∀ w ∈ wsX00, w ∈ wsX3_readPerson := fun w h => (gd_ids wi_X3_readPerson wm_X3_readPerson wi_X00 (by decide +kernel) w h).1
theorem dX3_readPerson_4 : decode cX3_readPerson 4 = .ok (.iconst 5, 1) := decA_get dAX3_readPerson 2 rfl
theorem dX3_readPerson_5 : decode cX3_readPerson 5 = .ok (.if_icmp .lt 5, 3) := decA_get dAX3_readPerson 3 rfl
theorem dX3_readPerson_10 : decode cX3_readPerson 10 = .ok (.aload_n 0, 1) := decA_get dAX3_readPerson 6 rfl
theorem dX3_readPerson_11 : decode cX3_readPerson 11 = .ok (.iconst 0, 1) := decA_get dAX3_readPerson 7 rfl
theorem dX3_readPerson_12 : decode cX3_readPerson 12 = .ok (.bipush 60, 2) := decA_get dAX3_readPerson 8 rfl
theorem dX3_readPerson_14 : decode cX3_readPerson 14 = .ok (.invokevirtual 67, 3) := decA_get dAX3_readPerson 9 rfl
set_option maxRecDepth 20000 in
theorem ggX3_readPerson_X3_readNumber : GoodIn wsX3_readPerson wsX3_readNumber := gd_ids wi_X3_readPerson wm_X3_readPerson wi_X3_readNumber (by decide +kernel)
set_option maxRecDepth 20000 in
theorem gX3_readPerson_X3_readNumber : GoodIn wsX3_readPerson (wsV RX3 67 RX3 yX3_readNumber wsX3_readNumber) := goodIn_app (gd_ids wi_X3_readPerson wm_X3_readPerson (b := [192, 193, 194, 180]) rfl (by decide +kernel)) ggX3_readPerson_X3_readNumber
theorem dX3_readPerson_17 : decode cX3_readPerson 17 = .ok (.ifCond .ne 5, 3) := decA_get dAX3_readPerson 10 rfl
theorem dX3_readPerson_22 : decode cX3_readPerson 22 = .ok (.aload_n 1, 1) := decA_get dAX3_readPerson 13 rfl
theorem dX3_readPerson_23 : decode cX3_readPerson 23 = .ok (.getfield 84, 3) := decA_get dAX3_readPerson 14 rfl
theorem dX3_readPerson_26 : decode cX3_readPerson 26 = .ok (.aload_n 1, 1) := decA_get dAX3_readPerson 15 rfl
theorem dX3_readPerson_27 : decode cX3_readPerson 27 = .ok (.getfield 81, 3) := decA_get dAX3_readPerson 16 rfl
theorem dX3_readPerson_30 : decode cX3_readPerson 30 = .ok (.aload_n 0, 1) := decA_get dAX3_readPerson 17 rfl
theorem dX3_readPerson_31 : decode cX3_readPerson 31 = .ok (.getfield 28, 3) := decA_get dAX3_readPerson 18 rfl
theorem in_X3_readPerson_3 : ∀ w ∈ wsX30, w ∈ wsX3_readPerson := fun w h => (gd_ids wi_X3_readPerson wm_X3_readPerson wi_X30 (by decide +kernel) w h).1
theorem dX3_readPerson_34 : decode cX3_readPerson 34 = .ok (.iastore, 1) := decA_get dAX3_readPerson 19 rfl
theorem dX3_readPerson_35 : decode cX3_readPerson 35 = .ok (.aload_n 1, 1) := decA_get dAX3_readPerson 20 rfl
theorem dX3_readPerson_36 : decode cX3_readPerson 36 = .ok (.dup, 1) := decA_get dAX3_readPerson 21 rfl
theorem dX3_readPerson_37 : decode cX3_readPerson 37 = .ok (.getfield 81, 3) := decA_get dAX3_readPerson 22 rfl
theorem dX3_readPerson_40 : decode cX3_readPerson 40 = .ok (.iconst 1, 1) := decA_get dAX3_readPerson 23 rfl
theorem dX3_readPerson_41 : decode cX3_readPerson 41 = .ok (.iadd, 1) := decA_get dAX3_readPerson 24 rfl
theorem dX3_readPerson_42 : decode cX3_readPerson 42 = .ok (.putfield 81, 3) := decA_get dAX3_readPerson 25 rfl
theorem dX3_readPerson_45 : decode cX3_readPerson 45 = .ok (.aload_n 0, 1) := decA_get dAX3_readPerson 26 rfl
theorem dX3_readPerson_46 : decode cX3_readPerson 46 = .ok (.invokevirtual 77, 3) := decA_get dAX3_readPerson 27 rfl
set_option maxRecDepth 20000 in
theorem ggX3_readPerson_X3_readEnding : GoodIn wsX3_readPerson wsX3_readEnding := gd_ids wi_X3_readPerson wm_X3_readPerson wi_X3_readEnding (by decide +kernel)
set_option maxRecDepth 20000 in
theorem gX3_readPerson_X3_readEnding : GoodIn wsX3_readPerson (wsV RX3 77 RX3 yX3_readEnding wsX3_readEnding) := goodIn_app (gd_ids wi_X3_readPerson wm_X3_readPerson (b := [195, 196, 197, 180]) rfl (by decide +kernel)) ggX3_readPerson_X3_readEnding
theorem dX3_readPerson_49 : decode cX3_readPerson 49 = .ok (.ireturn, 1) := decA_get dAX3_readPerson 28 rfl
theorem dX3_readPerson_20 : decode cX3_readPerson 20 = .ok (.iconst 0, 1) := decA_get dAX3_readPerson 11 rfl
theorem dX3_readPerson_21 : decode cX3_readPerson 21 = .ok (.ireturn, 1) := decA_get dAX3_readPerson 12 rfl
theorem dX3_readPerson_8 : decode cX3_readPerson 8 = .ok (.iconst 0, 1) := decA_get dAX3_readPerson 4 rfl
theorem dX3_readPerson_9 : decode cX3_readPerson 9 = .ok (.ireturn, 1) := decA_get dAX3_readPerson 5 rfl
set_option maxHeartbeats 4000000 in
set_option maxRecDepth 100000 in
theorem g_readPerson (l : Launch) (D : va_G) (cI cB cZ cN : ClassId) (Rh : Nat) (RS : Nat → Nat → Nat) (Th : Nat) (TS : Nat → Nat → Nat) (Lh : Nat) (La1 : Nat) (La2 : Nat) (La4 : Nat) (La5 : Nat) (La7 : Nat) (La8 : Nat) (La9 : Nat) (LS : Nat → Nat → Nat) (v_b : Nat) (hT : ∀ j, TS 0 j < 256) (h2 : RS 1 0 ≤ 180) (hR : RdAt RS (TS 0) (RS 1 0) v_b) (hvb : v_b ≤ RS 1 0) (hL : LandOk LS) : Ci (S := (Nat → Nat → Nat) × (Nat → Nat → Nat)) l D cI cB cZ cN yX3_readPerson wsX3_readPerson ({ frames := 3, cells := 0, slots := 0, locals := 64 } : Room) [.ref Rh, .ref Lh] [(Rh, .inr (3, [.ref Th, .int (nI (RS 1 0)), .int (nI (RS 2 0)), .int (nI (RS 3 0)), .int (nI (RS 4 0)), .int (nI (RS 5 0))])), (Th, .inl (cI, 180, .inl (nF (TS 0)))), (Lh, .inr (0, [.int (nI (LS 0 0)), .ref La1, .ref La2, .int (nI (LS 3 0)), .ref La4, .ref La5, .int (nI (LS 6 0)), .ref La7, .ref La8, .ref La9, .int (nI (LS 10 0)), .int (nI (LS 11 0))])), (La1, .inl (cI, 6, .inl (nF (LS 1)))), (La2, .inl (cI, 6, .inl (nF (LS 2)))), (La4, .inl (cI, 5, .inl (nF (LS 4)))), (La5, .inl (cI, 30, .inl (nF (LS 5)))), (La7, .inl (cI, 5, .inl (nF (LS 7)))), (La8, .inl (cI, 5, .inl (nF (LS 8)))), (La9, .inl (cI, 5, .inl (nF (LS 9))))] (fun (r : Int32) (u : (Nat → Nat → Nat) × (Nat → Nat → Nat)) => r = nI (persF (TS 0) (RS 1 0) v_b LS).1 ∧ RdAt u.1 (TS 0) (RS 1 0) (persF (TS 0) (RS 1 0) v_b LS).2.1 ∧ u.2 = (persF (TS 0) (RS 1 0) v_b LS).2.2) (fun u => [(Rh, .inr (3, [.ref Th, .int (nI (u.1 1 0)), .int (nI (u.1 2 0)), .int (nI (u.1 3 0)), .int (nI (u.1 4 0)), .int (nI (u.1 5 0))])), (Th, .inl (cI, 180, .inl (nF (TS 0)))), (Lh, .inr (0, [.int (nI (u.2 0 0)), .ref La1, .ref La2, .int (nI (u.2 3 0)), .ref La4, .ref La5, .int (nI (u.2 6 0)), .ref La7, .ref La8, .ref La9, .int (nI (u.2 10 0)), .int (nI (u.2 11 0))])), (La1, .inl (cI, 6, .inl (nF (u.2 1)))), (La2, .inl (cI, 6, .inl (nF (u.2 2)))), (La4, .inl (cI, 5, .inl (nF (u.2 4)))), (La5, .inl (cI, 30, .inl (nF (u.2 5)))), (La7, .inl (cI, 5, .inl (nF (u.2 7)))), (La8, .inl (cI, 5, .inl (nF (u.2 8)))), (La9, .inl (cI, 5, .inl (nF (u.2 9))))]) := by
  refine bx_of (D := D) (cI := cI) (cB := cB) (cZ := cZ) (cN := cN) (y := yX3_readPerson) (wd := wsX3_readPerson) (rm := ({ frames := 3, cells := 0, slots := 0, locals := 64 } : Room)) (av := [.ref Rh, .ref Lh]) (wc := [(Rh, .inr (3, [.ref Th, .int (nI (RS 1 0)), .int (nI (RS 2 0)), .int (nI (RS 3 0)), .int (nI (RS 4 0)), .int (nI (RS 5 0))])), (Th, .inl (cI, 180, .inl (nF (TS 0)))), (Lh, .inr (0, [.int (nI (LS 0 0)), .ref La1, .ref La2, .int (nI (LS 3 0)), .ref La4, .ref La5, .int (nI (LS 6 0)), .ref La7, .ref La8, .ref La9, .int (nI (LS 10 0)), .int (nI (LS 11 0))])), (La1, .inl (cI, 6, .inl (nF (LS 1)))), (La2, .inl (cI, 6, .inl (nF (LS 2)))), (La4, .inl (cI, 5, .inl (nF (LS 4)))), (La5, .inl (cI, 30, .inl (nF (LS 5)))), (La7, .inl (cI, 5, .inl (nF (LS 7)))), (La8, .inl (cI, 5, .inl (nF (LS 8)))), (La9, .inl (cI, 5, .inl (nF (LS 9))))]) (cc := cX3_readPerson) (maxL := 2) (ret := (some .boolean)) (Qc := fun _ A => va_Qi (S := (Nat → Nat → Nat) × (Nat → Nat → Nat)) (fun (r : Int32) (u : (Nat → Nat → Nat) × (Nat → Nat → Nat)) => r = nI (persF (TS 0) (RS 1 0) v_b LS).1 ∧ RdAt u.1 (TS 0) (RS 1 0) (persF (TS 0) (RS 1 0) v_b LS).2.1 ∧ u.2 = (persF (TS 0) (RS 1 0) v_b LS).2.2) (Aft D (fun (u : (Nat → Nat → Nat) × (Nat → Nat → Nat)) => [(Rh, .inr (3, [.ref Th, .int (nI (u.1 1 0)), .int (nI (u.1 2 0)), .int (nI (u.1 3 0)), .int (nI (u.1 4 0)), .int (nI (u.1 5 0))])), (Th, .inl (cI, 180, .inl (nF (TS 0)))), (Lh, .inr (0, [.int (nI (u.2 0 0)), .ref La1, .ref La2, .int (nI (u.2 3 0)), .ref La4, .ref La5, .int (nI (u.2 6 0)), .ref La7, .ref La8, .ref La9, .int (nI (u.2 10 0)), .int (nI (u.2 11 0))])), (La1, .inl (cI, 6, .inl (nF (u.2 1)))), (La2, .inl (cI, 6, .inl (nF (u.2 2)))), (La4, .inl (cI, 5, .inl (nF (u.2 4)))), (La5, .inl (cI, 30, .inl (nF (u.2 5)))), (La7, .inl (cI, 5, .inl (nF (u.2 7)))), (La8, .inl (cI, 5, .inl (nF (u.2 8)))), (La9, .inl (cI, 5, .inl (nF (u.2 9))))]) A) A) (by decide) rfl (Nat.le_of_ble_eq_true rfl) ?_
  intro p e s m below meth c A H locs ⟨hx, hb, hr, hml, hown, hts, hlk, hnm⟩ hK hP hD hS hA ls hl
  have hl : lv_has ls 2 [(0, .ref Rh), (1, .ref Lh)] := hl
  have hown : s.vm.findClass RX3 = some m.cls := hown
  have hL0 := hL
  obtain ⟨bl0, bl3, bl6, bl10, bl11, bl1, bl2, bl4, bl5, bl7, bl8, bl9⟩ := hL
  refine lv_aload_n hx hb dX3_readPerson_0 rfl (lv_at hl 1 rfl) ?_
  refine va_getN (D := D) (ci := 0) (v := .int (nI (LS 3 0))) (C := RX0) (T := TX0) (N := 12) hx hb hts in_X3_readPerson_0 hown hK.1 hP 2 rfl rfl 3 (by decide) (nfX3_81 hK.2) (fun _ h9 => h9) rfl dX3_readPerson_1 ?_
  refine lv_iconst (v := nI 5) hx hb dX3_readPerson_4 (by decide) ?_
  refine nb_icmp_lt (tgt := 10) hx hb dX3_readPerson_5 (by decide) (by omega) (by omega) (fun hq1 => ?_) (fun hq1 => ?_)
  · skip
    refine lv_aload_n hx hb dX3_readPerson_10 rfl (lv_at hl 0 rfl) ?_
    refine lv_iconst (v := nI 0) hx hb dX3_readPerson_11 (by decide) ?_
    refine lv_bipush (v := nI 60) hx hb dX3_readPerson_12 (by decide) ?_
    refine be_i (free := fun _ => False) (wr := [(Lh, .inr (0, [.int (nI (LS 0 0)), .ref La1, .ref La2, .int (nI (LS 3 0)), .ref La4, .ref La5, .int (nI (LS 6 0)), .ref La7, .ref La8, .ref La9, .int (nI (LS 10 0)), .int (nI (LS 11 0))])), (La1, .inl (cI, 6, .inl (nF (LS 1)))), (La2, .inl (cI, 6, .inl (nF (LS 2)))), (La4, .inl (cI, 5, .inl (nF (LS 4)))), (La5, .inl (cI, 30, .inl (nF (LS 5)))), (La7, .inl (cI, 5, .inl (nF (LS 7)))), (La8, .inl (cI, 5, .inl (nF (LS 8)))), (La9, .inl (cI, 5, .inl (nF (LS 9))))]) (ru_V (As := [.int (nI 0), .int (nI 60)]) (rest := []) ⟨hx, hb, hml, hown, hts⟩ (g_readNumberA l D cI cB cZ cN Rh RS Th TS 0 60 hT (by rw [hR.2.2.1, hR.1]; exact (pE_le hvb).2) (by rw [hR.1]; exact h2) (by omega) (by omega) H.size) gX3_readPerson_X3_readNumber rfl ⟨rfl, by decide, by decide, (show Option.map (fun d => d.parameters.length) (parseMethodDescriptor yX3_readNumber.desc) = some 2 by decide +kernel)⟩ ⟨Nat.le_of_ble_eq_true rfl, Nat.le_of_ble_eq_true rfl⟩ hK hP hD 3 0 rfl rfl [0, 1] (by decide) rfl hl.1 rfl (Nat.le_of_ble_eq_true rfl) dX3_readPerson_14 ⟨Nat.le_of_ble_eq_true rfl, Nat.le_of_ble_eq_true rfl⟩) hP hD hS hA [0, 1] [2, 3, 4, 5, 6, 7, 8, 9] rfl rfl (by decide) (by decide) (fun r3 u2 H locs w4 hP hD hS => ?_)
    obtain ⟨k5e, k5⟩ := w4
    have k5q : okN (TS 0) (RS 1 0) (RS 2 0) 0 60 = okN (TS 0) (RS 1 0) (pE (TS 0) (RS 1 0) v_b) 0 60 := by rw [hR.2.2.1, hR.1]
    have k5 : RdAt u2 (TS 0) (RS 1 0) (pE (TS 0) (RS 1 0) v_b) := by rw [hR.2.2.1, hR.1] at k5; exact k5
    have k5l := (pE_le (t := (TS 0)) hvb).2
    rw [k5q] at k5e
    subst k5e
    have k5b := okN_le (TS 0) (RS 1 0) (pE (TS 0) (RS 1 0) v_b) 0 60
    obtain ⟨hP, hD⟩ : wPD D A [(Lh, .inr (0, [.int (nI (LS 0 0)), .ref La1, .ref La2, .int (nI (LS 3 0)), .ref La4, .ref La5, .int (nI (LS 6 0)), .ref La7, .ref La8, .ref La9, .int (nI (LS 10 0)), .int (nI (LS 11 0))])), (La1, .inl (cI, 6, .inl (nF (LS 1)))), (La2, .inl (cI, 6, .inl (nF (LS 2)))), (La4, .inl (cI, 5, .inl (nF (LS 4)))), (La5, .inl (cI, 30, .inl (nF (LS 5)))), (La7, .inl (cI, 5, .inl (nF (LS 7)))), (La8, .inl (cI, 5, .inl (nF (LS 8)))), (La9, .inl (cI, 5, .inl (nF (LS 9)))), (Rh, .inr (3, [.ref Th, .int (nI (u2 1 0)), .int (nI (u2 2 0)), .int (nI (u2 3 0)), .int (nI (u2 4 0)), .int (nI (u2 5 0))])), (Th, .inl (cI, 180, .inl (nF (TS 0))))] H := ⟨hP, hD⟩
    refine nb_if_ne (tgt := 22) hx hb dX3_readPerson_17 (by decide) (by omega) (fun hq6 => ?_) (fun hq6 => ?_)
    · skip
      refine lv_aload_n hx hb dX3_readPerson_22 rfl (lv_at hl 1 rfl) ?_
      refine va_getN (D := D) (ci := 0) (v := .ref La4) (C := RX0) (T := TX0) (N := 12) hx hb hts in_X3_readPerson_0 hown hK.1 hP 0 rfl rfl 4 (by decide) (nfX3_84 hK.2) (fun _ h9 => h9) rfl dX3_readPerson_23 ?_
      refine lv_aload_n hx hb dX3_readPerson_26 rfl (lv_at hl 1 rfl) ?_
      refine va_getN (D := D) (ci := 0) (v := .int (nI (LS 3 0))) (C := RX0) (T := TX0) (N := 12) hx hb hts in_X3_readPerson_0 hown hK.1 hP 0 rfl rfl 3 (by decide) (nfX3_81 hK.2) (fun _ h9 => h9) rfl dX3_readPerson_27 ?_
      refine lv_aload_n hx hb dX3_readPerson_30 rfl (lv_at hl 0 rfl) ?_
      refine va_get (D := D) (ci := 3) (v := .int (nI (u2 5 0))) (C := RX3) (T := TX3) (N := 6) hx hb hts in_X3_readPerson_3 hown hK.1 hP 8 rfl rfl 5 (by decide) (hts (.fieldLink RX3 28 "ChildCoins$Reader" "value" "I") (List.mem_of_getElem? (i := 1) rfl)) (fun _ h9 => h9) rfl dX3_readPerson_31 ?_
      refine set_i (y := nI (pV (TS 0) (RS 1 0) (pE (TS 0) (RS 1 0) v_b))) (congrArg nI k5.2.2.2.2) ?_
      have b7 := pV_le hT (RS 1 0) (pE (TS 0) (RS 1 0) v_b)
      refine va_iast hx hb hK.1 hP hD hS 3 0 rfl rfl (vp_in_nI (n := LS 3 0) (N := 5) (by omega) (by decide)) dX3_readPerson_34 (fun H locs hP hD hS => ?_)
      obtain ⟨hP, hD⟩ : wPD D A [(Lh, .inr (0, [.int (nI (LS 0 0)), .ref La1, .ref La2, .int (nI (LS 3 0)), .ref La4, .ref La5, .int (nI (LS 6 0)), .ref La7, .ref La8, .ref La9, .int (nI (LS 10 0)), .int (nI (LS 11 0))])), (La1, .inl (cI, 6, .inl (nF (LS 1)))), (La2, .inl (cI, 6, .inl (nF (LS 2)))), (La4, .inl (cI, 5, .inl (upd (nF (LS 4)) (nI (LS 3 0)).toNatClampNeg (nI (pV (TS 0) (RS 1 0) (pE (TS 0) (RS 1 0) v_b)))))), (La5, .inl (cI, 30, .inl (nF (LS 5)))), (La7, .inl (cI, 5, .inl (nF (LS 7)))), (La8, .inl (cI, 5, .inl (nF (LS 8)))), (La9, .inl (cI, 5, .inl (nF (LS 9)))), (Rh, .inr (3, [.ref Th, .int (nI (u2 1 0)), .int (nI (u2 2 0)), .int (nI (u2 3 0)), .int (nI (u2 4 0)), .int (nI (u2 5 0))])), (Th, .inl (cI, 180, .inl (nF (TS 0))))] H := ⟨hP, hD⟩
      rw [nF_st (by omega)] at hP hD
      refine lv_aload_n hx hb dX3_readPerson_35 rfl (lv_at hl 1 rfl) ?_
      refine lv_dup hx hb dX3_readPerson_36 rfl ?_
      refine va_getN (D := D) (ci := 0) (v := .int (nI (LS 3 0))) (C := RX0) (T := TX0) (N := 12) hx hb hts in_X3_readPerson_0 hown hK.1 hP 0 rfl rfl 3 (by decide) (nfX3_81 hK.2) (fun _ h9 => h9) rfl dX3_readPerson_37 ?_
      refine lv_iconst (v := nI 1) hx hb dX3_readPerson_40 (by decide) ?_
      refine lv_iadd hx hb dX3_readPerson_41 ?_
      refine set_i (y := nI ((LS 3 0) + 1)) (nI_add (LS 3 0) 1) ?_
      refine va_putN (D := D) (ci := 0) (v := .int (nI ((LS 3 0) + 1))) (ty := tyX0 3) (C := RX0) (T := TX0) (N := 12) hx hb hts in_X3_readPerson_0 tyX0 tyX0_ok nmX0 hown hK.1 hP hD hS 0 rfl rfl 3 (by decide) (nfX3_81 hK.2) (fun _ h9 => h9) rfl (tyX0_ok 3 (by decide)) rfl rfl (Nat.le_of_ble_eq_true rfl) dX3_readPerson_42 (fun H locs hP hD hS => ?_)
      obtain ⟨hP, hD⟩ : wPD D A [(Lh, .inr (0, [.int (nI (LS 0 0)), .ref La1, .ref La2, .int (nI ((LS 3 0) + 1)), .ref La4, .ref La5, .int (nI (LS 6 0)), .ref La7, .ref La8, .ref La9, .int (nI (LS 10 0)), .int (nI (LS 11 0))])), (La1, .inl (cI, 6, .inl (nF (LS 1)))), (La2, .inl (cI, 6, .inl (nF (LS 2)))), (La4, .inl (cI, 5, .inl (nF (un (LS 4) (LS 3 0) (pV (TS 0) (RS 1 0) (pE (TS 0) (RS 1 0) v_b)))))), (La5, .inl (cI, 30, .inl (nF (LS 5)))), (La7, .inl (cI, 5, .inl (nF (LS 7)))), (La8, .inl (cI, 5, .inl (nF (LS 8)))), (La9, .inl (cI, 5, .inl (nF (LS 9)))), (Rh, .inr (3, [.ref Th, .int (nI (u2 1 0)), .int (nI (u2 2 0)), .int (nI (u2 3 0)), .int (nI (u2 4 0)), .int (nI (u2 5 0))])), (Th, .inl (cI, 180, .inl (nF (TS 0))))] H := ⟨hP, hD⟩
      refine lv_aload_n hx hb dX3_readPerson_45 rfl (lv_at hl 0 rfl) ?_
      refine be_i (free := fun _ => False) (wr := [(Lh, .inr (0, [.int (nI (LS 0 0)), .ref La1, .ref La2, .int (nI ((LS 3 0) + 1)), .ref La4, .ref La5, .int (nI (LS 6 0)), .ref La7, .ref La8, .ref La9, .int (nI (LS 10 0)), .int (nI (LS 11 0))])), (La1, .inl (cI, 6, .inl (nF (LS 1)))), (La2, .inl (cI, 6, .inl (nF (LS 2)))), (La4, .inl (cI, 5, .inl (nF (un (LS 4) (LS 3 0) (pV (TS 0) (RS 1 0) (pE (TS 0) (RS 1 0) v_b)))))), (La5, .inl (cI, 30, .inl (nF (LS 5)))), (La7, .inl (cI, 5, .inl (nF (LS 7)))), (La8, .inl (cI, 5, .inl (nF (LS 8)))), (La9, .inl (cI, 5, .inl (nF (LS 9))))]) (ru_V (As := []) (rest := []) ⟨hx, hb, hml, hown, hts⟩ (g_readEnding l D cI cB cZ cN Rh u2 Th TS hT (by rw [k5.2.2.1, k5.1]; exact (pE_le k5l).2) (by rw [k5.1]; exact h2) H.size) gX3_readPerson_X3_readEnding rfl ⟨rfl, by decide, by decide, (show Option.map (fun d => d.parameters.length) (parseMethodDescriptor yX3_readEnding.desc) = some 0 by decide +kernel)⟩ ⟨Nat.le_of_ble_eq_true rfl, Nat.le_of_ble_eq_true rfl⟩ hK hP hD 3 8 rfl rfl [8, 9] (by decide) rfl hl.1 rfl (Nat.le_of_ble_eq_true rfl) dX3_readPerson_46 ⟨Nat.le_of_ble_eq_true rfl, Nat.le_of_ble_eq_true rfl⟩) hP hD hS hA [8, 9] [0, 1, 2, 3, 4, 5, 6, 7] rfl rfl (by decide) (by decide) (fun r9 u8 H locs w10 hP hD hS => ?_)
      obtain ⟨k11e, k11⟩ := w10
      have k11q : enN (TS 0) (u2 1 0) (u2 2 0) = enN (TS 0) (RS 1 0) (pE (TS 0) (RS 1 0) (pE (TS 0) (RS 1 0) v_b)) := by rw [k5.2.2.1, k5.1]
      have k11 : RdAt u8 (TS 0) (RS 1 0) (pE (TS 0) (RS 1 0) (pE (TS 0) (RS 1 0) v_b)) := by rw [k5.2.2.1, k5.1] at k11; exact k11
      have k11l := (pE_le (t := (TS 0)) k5l).2
      rw [k11q] at k11e
      subst k11e
      have k11b := enN_le (TS 0) (RS 1 0) (pE (TS 0) (RS 1 0) (pE (TS 0) (RS 1 0) v_b))
      obtain ⟨hP, hD⟩ : wPD D A [(Lh, .inr (0, [.int (nI (LS 0 0)), .ref La1, .ref La2, .int (nI ((LS 3 0) + 1)), .ref La4, .ref La5, .int (nI (LS 6 0)), .ref La7, .ref La8, .ref La9, .int (nI (LS 10 0)), .int (nI (LS 11 0))])), (La1, .inl (cI, 6, .inl (nF (LS 1)))), (La2, .inl (cI, 6, .inl (nF (LS 2)))), (La4, .inl (cI, 5, .inl (nF (un (LS 4) (LS 3 0) (pV (TS 0) (RS 1 0) (pE (TS 0) (RS 1 0) v_b)))))), (La5, .inl (cI, 30, .inl (nF (LS 5)))), (La7, .inl (cI, 5, .inl (nF (LS 7)))), (La8, .inl (cI, 5, .inl (nF (LS 8)))), (La9, .inl (cI, 5, .inl (nF (LS 9)))), (Rh, .inr (3, [.ref Th, .int (nI (u8 1 0)), .int (nI (u8 2 0)), .int (nI (u8 3 0)), .int (nI (u8 4 0)), .int (nI (u8 5 0))])), (Th, .inl (cI, 180, .inl (nF (TS 0))))] H := ⟨hP, hD⟩
      exact en_z hx hb hr hlk hP hD hS (u8, ua (ua LS 3 (fun _ => (LS 3 0) + 1)) 4 (un (LS 4) (LS 3 0) (pV (TS 0) (RS 1 0) (pE (TS 0) (RS 1 0) v_b)))) [8, 9, 0, 1, 2, 3, 4, 5, 6, 7] (by decide) rfl (Nat.le_of_ble_eq_true rfl) (Nat.le_of_ble_eq_true rfl) dX3_readPerson_49 (b01 (by omega)) (by unfold persF; rw [if_neg (show ¬ 5 ≤ LS 3 0 by omega), if_neg (show ¬ okN (TS 0) (RS 1 0) (pE (TS 0) (RS 1 0) v_b) 0 60 = 0 by omega)]; exact ⟨rfl, k11, rfl⟩)
    · skip
      refine lv_iconst (v := nI 0) hx hb dX3_readPerson_20 (by decide) ?_
      exact en_z hx hb hr hlk hP hD hS (u2, LS) [8, 9, 0, 1, 2, 3, 4, 5, 6, 7] (by decide) rfl (Nat.le_of_ble_eq_true rfl) (Nat.le_of_ble_eq_true rfl) dX3_readPerson_21 rfl (by unfold persF; rw [if_neg (show ¬ 5 ≤ LS 3 0 by omega), if_pos (show okN (TS 0) (RS 1 0) (pE (TS 0) (RS 1 0) v_b) 0 60 = 0 by omega)]; exact ⟨rfl, k5, rfl⟩)
  · skip
    refine lv_iconst (v := nI 0) hx hb dX3_readPerson_8 (by decide) ?_
    exact en_z hx hb hr hlk hP hD hS (RS, LS) [0, 1, 2, 3, 4, 5, 6, 7, 8, 9] (by decide) rfl (Nat.le_of_ble_eq_true rfl) (Nat.le_of_ble_eq_true rfl) dX3_readPerson_9 rfl (by unfold persF; rw [if_pos (show 5 ≤ LS 3 0 by omega)]; exact ⟨rfl, hR, rfl⟩)

set_option maxRecDepth 20000 in
theorem dAX3_readSpan : decA cX3_readSpan [(0, .aload_n 1, 1), (1, .getfield 102, 3), (4, .ifCond .eq 5, 3), (7, .iconst 0, 1), (8, .ireturn, 1), (9, .aload_n 0, 1), (10, .iconst 1, 1), (11, .bipush 20, 2), (13, .invokevirtual 67, 3), (16, .ifCond .ne 5, 3), (19, .iconst 0, 1), (20, .ireturn, 1), (21, .aload_n 1, 1), (22, .aload_n 0, 1), (23, .getfield 28, 3), (26, .putfield 106, 3), (29, .aload_n 1, 1), (30, .iconst 1, 1), (31, .putfield 102, 3), (34, .aload_n 0, 1), (35, .invokevirtual 77, 3), (38, .ireturn, 1)] = true := by decide +kernel
theorem dX3_readSpan_0 : decode cX3_readSpan 0 = .ok (.aload_n 1, 1) := decA_get dAX3_readSpan 0 rfl
theorem dX3_readSpan_1 : decode cX3_readSpan 1 = .ok (.getfield 102, 3) := decA_get dAX3_readSpan 1 rfl
theorem in_X3_readSpan_0 : ∀ w ∈ wsX00, w ∈ wsX3_readSpan := fun w h => (gd_ids wi_X3_readSpan wm_X3_readSpan wi_X00 (by decide +kernel) w h).1
theorem dX3_readSpan_4 : decode cX3_readSpan 4 = .ok (.ifCond .eq 5, 3) := decA_get dAX3_readSpan 2 rfl
theorem dX3_readSpan_9 : decode cX3_readSpan 9 = .ok (.aload_n 0, 1) := decA_get dAX3_readSpan 5 rfl
theorem dX3_readSpan_10 : decode cX3_readSpan 10 = .ok (.iconst 1, 1) := decA_get dAX3_readSpan 6 rfl
theorem dX3_readSpan_11 : decode cX3_readSpan 11 = .ok (.bipush 20, 2) := decA_get dAX3_readSpan 7 rfl
theorem dX3_readSpan_13 : decode cX3_readSpan 13 = .ok (.invokevirtual 67, 3) := decA_get dAX3_readSpan 8 rfl
set_option maxRecDepth 20000 in
theorem ggX3_readSpan_X3_readNumber : GoodIn wsX3_readSpan wsX3_readNumber := gd_ids wi_X3_readSpan wm_X3_readSpan wi_X3_readNumber (by decide +kernel)
set_option maxRecDepth 20000 in
theorem gX3_readSpan_X3_readNumber : GoodIn wsX3_readSpan (wsV RX3 67 RX3 yX3_readNumber wsX3_readNumber) := goodIn_app (gd_ids wi_X3_readSpan wm_X3_readSpan (b := [192, 193, 194, 180]) rfl (by decide +kernel)) ggX3_readSpan_X3_readNumber
theorem dX3_readSpan_16 : decode cX3_readSpan 16 = .ok (.ifCond .ne 5, 3) := decA_get dAX3_readSpan 9 rfl
theorem dX3_readSpan_21 : decode cX3_readSpan 21 = .ok (.aload_n 1, 1) := decA_get dAX3_readSpan 12 rfl
theorem dX3_readSpan_22 : decode cX3_readSpan 22 = .ok (.aload_n 0, 1) := decA_get dAX3_readSpan 13 rfl
theorem dX3_readSpan_23 : decode cX3_readSpan 23 = .ok (.getfield 28, 3) := decA_get dAX3_readSpan 14 rfl
theorem in_X3_readSpan_3 : ∀ w ∈ wsX30, w ∈ wsX3_readSpan := fun w h => (gd_ids wi_X3_readSpan wm_X3_readSpan wi_X30 (by decide +kernel) w h).1
theorem dX3_readSpan_26 : decode cX3_readSpan 26 = .ok (.putfield 106, 3) := decA_get dAX3_readSpan 15 rfl
theorem dX3_readSpan_29 : decode cX3_readSpan 29 = .ok (.aload_n 1, 1) := decA_get dAX3_readSpan 16 rfl
theorem dX3_readSpan_30 : decode cX3_readSpan 30 = .ok (.iconst 1, 1) := decA_get dAX3_readSpan 17 rfl
theorem dX3_readSpan_31 : decode cX3_readSpan 31 = .ok (.putfield 102, 3) := decA_get dAX3_readSpan 18 rfl
theorem dX3_readSpan_34 : decode cX3_readSpan 34 = .ok (.aload_n 0, 1) := decA_get dAX3_readSpan 19 rfl
theorem dX3_readSpan_35 : decode cX3_readSpan 35 = .ok (.invokevirtual 77, 3) := decA_get dAX3_readSpan 20 rfl
set_option maxRecDepth 20000 in
theorem ggX3_readSpan_X3_readEnding : GoodIn wsX3_readSpan wsX3_readEnding := gd_ids wi_X3_readSpan wm_X3_readSpan wi_X3_readEnding (by decide +kernel)
set_option maxRecDepth 20000 in
theorem gX3_readSpan_X3_readEnding : GoodIn wsX3_readSpan (wsV RX3 77 RX3 yX3_readEnding wsX3_readEnding) := goodIn_app (gd_ids wi_X3_readSpan wm_X3_readSpan (b := [195, 196, 197, 180]) rfl (by decide +kernel)) ggX3_readSpan_X3_readEnding
theorem dX3_readSpan_38 : decode cX3_readSpan 38 = .ok (.ireturn, 1) := decA_get dAX3_readSpan 21 rfl
theorem dX3_readSpan_19 : decode cX3_readSpan 19 = .ok (.iconst 0, 1) := decA_get dAX3_readSpan 10 rfl
theorem dX3_readSpan_20 : decode cX3_readSpan 20 = .ok (.ireturn, 1) := decA_get dAX3_readSpan 11 rfl
theorem dX3_readSpan_7 : decode cX3_readSpan 7 = .ok (.iconst 0, 1) := decA_get dAX3_readSpan 3 rfl
theorem dX3_readSpan_8 : decode cX3_readSpan 8 = .ok (.ireturn, 1) := decA_get dAX3_readSpan 4 rfl
set_option maxHeartbeats 4000000 in
set_option maxRecDepth 100000 in
theorem g_readSpan (l : Launch) (D : va_G) (cI cB cZ cN : ClassId) (Rh : Nat) (RS : Nat → Nat → Nat) (Th : Nat) (TS : Nat → Nat → Nat) (Lh : Nat) (La1 : Nat) (La2 : Nat) (La4 : Nat) (La5 : Nat) (La7 : Nat) (La8 : Nat) (La9 : Nat) (LS : Nat → Nat → Nat) (v_b : Nat) (hT : ∀ j, TS 0 j < 256) (h2 : RS 1 0 ≤ 180) (hR : RdAt RS (TS 0) (RS 1 0) v_b) (hvb : v_b ≤ RS 1 0) (hL : LandOk LS) : Ci (S := (Nat → Nat → Nat) × (Nat → Nat → Nat)) l D cI cB cZ cN yX3_readSpan wsX3_readSpan ({ frames := 3, cells := 0, slots := 0, locals := 64 } : Room) [.ref Rh, .ref Lh] [(Rh, .inr (3, [.ref Th, .int (nI (RS 1 0)), .int (nI (RS 2 0)), .int (nI (RS 3 0)), .int (nI (RS 4 0)), .int (nI (RS 5 0))])), (Th, .inl (cI, 180, .inl (nF (TS 0)))), (Lh, .inr (0, [.int (nI (LS 0 0)), .ref La1, .ref La2, .int (nI (LS 3 0)), .ref La4, .ref La5, .int (nI (LS 6 0)), .ref La7, .ref La8, .ref La9, .int (nI (LS 10 0)), .int (nI (LS 11 0))])), (La1, .inl (cI, 6, .inl (nF (LS 1)))), (La2, .inl (cI, 6, .inl (nF (LS 2)))), (La4, .inl (cI, 5, .inl (nF (LS 4)))), (La5, .inl (cI, 30, .inl (nF (LS 5)))), (La7, .inl (cI, 5, .inl (nF (LS 7)))), (La8, .inl (cI, 5, .inl (nF (LS 8)))), (La9, .inl (cI, 5, .inl (nF (LS 9))))] (fun (r : Int32) (u : (Nat → Nat → Nat) × (Nat → Nat → Nat)) => r = nI (spanF (TS 0) (RS 1 0) v_b LS).1 ∧ RdAt u.1 (TS 0) (RS 1 0) (spanF (TS 0) (RS 1 0) v_b LS).2.1 ∧ u.2 = (spanF (TS 0) (RS 1 0) v_b LS).2.2) (fun u => [(Rh, .inr (3, [.ref Th, .int (nI (u.1 1 0)), .int (nI (u.1 2 0)), .int (nI (u.1 3 0)), .int (nI (u.1 4 0)), .int (nI (u.1 5 0))])), (Th, .inl (cI, 180, .inl (nF (TS 0)))), (Lh, .inr (0, [.int (nI (u.2 0 0)), .ref La1, .ref La2, .int (nI (u.2 3 0)), .ref La4, .ref La5, .int (nI (u.2 6 0)), .ref La7, .ref La8, .ref La9, .int (nI (u.2 10 0)), .int (nI (u.2 11 0))])), (La1, .inl (cI, 6, .inl (nF (u.2 1)))), (La2, .inl (cI, 6, .inl (nF (u.2 2)))), (La4, .inl (cI, 5, .inl (nF (u.2 4)))), (La5, .inl (cI, 30, .inl (nF (u.2 5)))), (La7, .inl (cI, 5, .inl (nF (u.2 7)))), (La8, .inl (cI, 5, .inl (nF (u.2 8)))), (La9, .inl (cI, 5, .inl (nF (u.2 9))))]) := by
  refine bx_of (D := D) (cI := cI) (cB := cB) (cZ := cZ) (cN := cN) (y := yX3_readSpan) (wd := wsX3_readSpan) (rm := ({ frames := 3, cells := 0, slots := 0, locals := 64 } : Room)) (av := [.ref Rh, .ref Lh]) (wc := [(Rh, .inr (3, [.ref Th, .int (nI (RS 1 0)), .int (nI (RS 2 0)), .int (nI (RS 3 0)), .int (nI (RS 4 0)), .int (nI (RS 5 0))])), (Th, .inl (cI, 180, .inl (nF (TS 0)))), (Lh, .inr (0, [.int (nI (LS 0 0)), .ref La1, .ref La2, .int (nI (LS 3 0)), .ref La4, .ref La5, .int (nI (LS 6 0)), .ref La7, .ref La8, .ref La9, .int (nI (LS 10 0)), .int (nI (LS 11 0))])), (La1, .inl (cI, 6, .inl (nF (LS 1)))), (La2, .inl (cI, 6, .inl (nF (LS 2)))), (La4, .inl (cI, 5, .inl (nF (LS 4)))), (La5, .inl (cI, 30, .inl (nF (LS 5)))), (La7, .inl (cI, 5, .inl (nF (LS 7)))), (La8, .inl (cI, 5, .inl (nF (LS 8)))), (La9, .inl (cI, 5, .inl (nF (LS 9))))]) (cc := cX3_readSpan) (maxL := 2) (ret := (some .boolean)) (Qc := fun _ A => va_Qi (S := (Nat → Nat → Nat) × (Nat → Nat → Nat)) (fun (r : Int32) (u : (Nat → Nat → Nat) × (Nat → Nat → Nat)) => r = nI (spanF (TS 0) (RS 1 0) v_b LS).1 ∧ RdAt u.1 (TS 0) (RS 1 0) (spanF (TS 0) (RS 1 0) v_b LS).2.1 ∧ u.2 = (spanF (TS 0) (RS 1 0) v_b LS).2.2) (Aft D (fun (u : (Nat → Nat → Nat) × (Nat → Nat → Nat)) => [(Rh, .inr (3, [.ref Th, .int (nI (u.1 1 0)), .int (nI (u.1 2 0)), .int (nI (u.1 3 0)), .int (nI (u.1 4 0)), .int (nI (u.1 5 0))])), (Th, .inl (cI, 180, .inl (nF (TS 0)))), (Lh, .inr (0, [.int (nI (u.2 0 0)), .ref La1, .ref La2, .int (nI (u.2 3 0)), .ref La4, .ref La5, .int (nI (u.2 6 0)), .ref La7, .ref La8, .ref La9, .int (nI (u.2 10 0)), .int (nI (u.2 11 0))])), (La1, .inl (cI, 6, .inl (nF (u.2 1)))), (La2, .inl (cI, 6, .inl (nF (u.2 2)))), (La4, .inl (cI, 5, .inl (nF (u.2 4)))), (La5, .inl (cI, 30, .inl (nF (u.2 5)))), (La7, .inl (cI, 5, .inl (nF (u.2 7)))), (La8, .inl (cI, 5, .inl (nF (u.2 8)))), (La9, .inl (cI, 5, .inl (nF (u.2 9))))]) A) A) (by decide) rfl (Nat.le_of_ble_eq_true rfl) ?_
  intro p e s m below meth c A H locs ⟨hx, hb, hr, hml, hown, hts, hlk, hnm⟩ hK hP hD hS hA ls hl
  have hl : lv_has ls 2 [(0, .ref Rh), (1, .ref Lh)] := hl
  have hown : s.vm.findClass RX3 = some m.cls := hown
  have hL0 := hL
  obtain ⟨bl0, bl3, bl6, bl10, bl11, bl1, bl2, bl4, bl5, bl7, bl8, bl9⟩ := hL
  refine lv_aload_n hx hb dX3_readSpan_0 rfl (lv_at hl 1 rfl) ?_
  refine va_getN (D := D) (ci := 0) (v := .int (nI (LS 11 0))) (C := RX0) (T := TX0) (N := 12) hx hb hts in_X3_readSpan_0 hown hK.1 hP 2 rfl rfl 11 (by decide) (nfX3_102 hK.2) (fun _ h9 => h9) rfl dX3_readSpan_1 ?_
  refine nb_if_eq (tgt := 9) hx hb dX3_readSpan_4 (by decide) (by omega) (fun hq1 => ?_) (fun hq1 => ?_)
  · skip
    refine lv_aload_n hx hb dX3_readSpan_9 rfl (lv_at hl 0 rfl) ?_
    refine lv_iconst (v := nI 1) hx hb dX3_readSpan_10 (by decide) ?_
    refine lv_bipush (v := nI 20) hx hb dX3_readSpan_11 (by decide) ?_
    refine be_i (free := fun _ => False) (wr := [(Lh, .inr (0, [.int (nI (LS 0 0)), .ref La1, .ref La2, .int (nI (LS 3 0)), .ref La4, .ref La5, .int (nI (LS 6 0)), .ref La7, .ref La8, .ref La9, .int (nI (LS 10 0)), .int (nI (LS 11 0))])), (La1, .inl (cI, 6, .inl (nF (LS 1)))), (La2, .inl (cI, 6, .inl (nF (LS 2)))), (La4, .inl (cI, 5, .inl (nF (LS 4)))), (La5, .inl (cI, 30, .inl (nF (LS 5)))), (La7, .inl (cI, 5, .inl (nF (LS 7)))), (La8, .inl (cI, 5, .inl (nF (LS 8)))), (La9, .inl (cI, 5, .inl (nF (LS 9))))]) (ru_V (As := [.int (nI 1), .int (nI 20)]) (rest := []) ⟨hx, hb, hml, hown, hts⟩ (g_readNumberA l D cI cB cZ cN Rh RS Th TS 1 20 hT (by rw [hR.2.2.1, hR.1]; exact (pE_le hvb).2) (by rw [hR.1]; exact h2) (by omega) (by omega) H.size) gX3_readSpan_X3_readNumber rfl ⟨rfl, by decide, by decide, (show Option.map (fun d => d.parameters.length) (parseMethodDescriptor yX3_readNumber.desc) = some 2 by decide +kernel)⟩ ⟨Nat.le_of_ble_eq_true rfl, Nat.le_of_ble_eq_true rfl⟩ hK hP hD 3 0 rfl rfl [0, 1] (by decide) rfl hl.1 rfl (Nat.le_of_ble_eq_true rfl) dX3_readSpan_13 ⟨Nat.le_of_ble_eq_true rfl, Nat.le_of_ble_eq_true rfl⟩) hP hD hS hA [0, 1] [2, 3, 4, 5, 6, 7, 8, 9] rfl rfl (by decide) (by decide) (fun r3 u2 H locs w4 hP hD hS => ?_)
    obtain ⟨k5e, k5⟩ := w4
    have k5q : okN (TS 0) (RS 1 0) (RS 2 0) 1 20 = okN (TS 0) (RS 1 0) (pE (TS 0) (RS 1 0) v_b) 1 20 := by rw [hR.2.2.1, hR.1]
    have k5 : RdAt u2 (TS 0) (RS 1 0) (pE (TS 0) (RS 1 0) v_b) := by rw [hR.2.2.1, hR.1] at k5; exact k5
    have k5l := (pE_le (t := (TS 0)) hvb).2
    rw [k5q] at k5e
    subst k5e
    have k5b := okN_le (TS 0) (RS 1 0) (pE (TS 0) (RS 1 0) v_b) 1 20
    obtain ⟨hP, hD⟩ : wPD D A [(Lh, .inr (0, [.int (nI (LS 0 0)), .ref La1, .ref La2, .int (nI (LS 3 0)), .ref La4, .ref La5, .int (nI (LS 6 0)), .ref La7, .ref La8, .ref La9, .int (nI (LS 10 0)), .int (nI (LS 11 0))])), (La1, .inl (cI, 6, .inl (nF (LS 1)))), (La2, .inl (cI, 6, .inl (nF (LS 2)))), (La4, .inl (cI, 5, .inl (nF (LS 4)))), (La5, .inl (cI, 30, .inl (nF (LS 5)))), (La7, .inl (cI, 5, .inl (nF (LS 7)))), (La8, .inl (cI, 5, .inl (nF (LS 8)))), (La9, .inl (cI, 5, .inl (nF (LS 9)))), (Rh, .inr (3, [.ref Th, .int (nI (u2 1 0)), .int (nI (u2 2 0)), .int (nI (u2 3 0)), .int (nI (u2 4 0)), .int (nI (u2 5 0))])), (Th, .inl (cI, 180, .inl (nF (TS 0))))] H := ⟨hP, hD⟩
    refine nb_if_ne (tgt := 21) hx hb dX3_readSpan_16 (by decide) (by omega) (fun hq6 => ?_) (fun hq6 => ?_)
    · skip
      refine lv_aload_n hx hb dX3_readSpan_21 rfl (lv_at hl 1 rfl) ?_
      refine lv_aload_n hx hb dX3_readSpan_22 rfl (lv_at hl 0 rfl) ?_
      refine va_get (D := D) (ci := 3) (v := .int (nI (u2 5 0))) (C := RX3) (T := TX3) (N := 6) hx hb hts in_X3_readSpan_3 hown hK.1 hP 8 rfl rfl 5 (by decide) (hts (.fieldLink RX3 28 "ChildCoins$Reader" "value" "I") (List.mem_of_getElem? (i := 1) rfl)) (fun _ h9 => h9) rfl dX3_readSpan_23 ?_
      refine set_i (y := nI (pV (TS 0) (RS 1 0) (pE (TS 0) (RS 1 0) v_b))) (congrArg nI k5.2.2.2.2) ?_
      have b7 := pV_le hT (RS 1 0) (pE (TS 0) (RS 1 0) v_b)
      refine va_putN (D := D) (ci := 0) (v := .int (nI (pV (TS 0) (RS 1 0) (pE (TS 0) (RS 1 0) v_b)))) (ty := tyX0 10) (C := RX0) (T := TX0) (N := 12) hx hb hts in_X3_readSpan_0 tyX0 tyX0_ok nmX0 hown hK.1 hP hD hS 0 rfl rfl 10 (by decide) (nfX3_106 hK.2) (fun _ h9 => h9) rfl (tyX0_ok 10 (by decide)) rfl rfl (Nat.le_of_ble_eq_true rfl) dX3_readSpan_26 (fun H locs hP hD hS => ?_)
      obtain ⟨hP, hD⟩ : wPD D A [(Lh, .inr (0, [.int (nI (LS 0 0)), .ref La1, .ref La2, .int (nI (LS 3 0)), .ref La4, .ref La5, .int (nI (LS 6 0)), .ref La7, .ref La8, .ref La9, .int (nI (pV (TS 0) (RS 1 0) (pE (TS 0) (RS 1 0) v_b))), .int (nI (LS 11 0))])), (La1, .inl (cI, 6, .inl (nF (LS 1)))), (La2, .inl (cI, 6, .inl (nF (LS 2)))), (La4, .inl (cI, 5, .inl (nF (LS 4)))), (La5, .inl (cI, 30, .inl (nF (LS 5)))), (La7, .inl (cI, 5, .inl (nF (LS 7)))), (La8, .inl (cI, 5, .inl (nF (LS 8)))), (La9, .inl (cI, 5, .inl (nF (LS 9)))), (Rh, .inr (3, [.ref Th, .int (nI (u2 1 0)), .int (nI (u2 2 0)), .int (nI (u2 3 0)), .int (nI (u2 4 0)), .int (nI (u2 5 0))])), (Th, .inl (cI, 180, .inl (nF (TS 0))))] H := ⟨hP, hD⟩
      refine lv_aload_n hx hb dX3_readSpan_29 rfl (lv_at hl 1 rfl) ?_
      refine lv_iconst (v := nI 1) hx hb dX3_readSpan_30 (by decide) ?_
      refine va_putN (D := D) (ci := 0) (v := .int (nI 1)) (ty := tyX0 11) (C := RX0) (T := TX0) (N := 12) hx hb hts in_X3_readSpan_0 tyX0 tyX0_ok nmX0 hown hK.1 hP hD hS 0 rfl rfl 11 (by decide) (nfX3_102 hK.2) (fun _ h9 => h9) rfl (tyX0_ok 11 (by decide)) rfl rfl (Nat.le_of_ble_eq_true rfl) dX3_readSpan_31 (fun H locs hP hD hS => ?_)
      obtain ⟨hP, hD⟩ : wPD D A [(Lh, .inr (0, [.int (nI (LS 0 0)), .ref La1, .ref La2, .int (nI (LS 3 0)), .ref La4, .ref La5, .int (nI (LS 6 0)), .ref La7, .ref La8, .ref La9, .int (nI (pV (TS 0) (RS 1 0) (pE (TS 0) (RS 1 0) v_b))), .int (nI 1)])), (La1, .inl (cI, 6, .inl (nF (LS 1)))), (La2, .inl (cI, 6, .inl (nF (LS 2)))), (La4, .inl (cI, 5, .inl (nF (LS 4)))), (La5, .inl (cI, 30, .inl (nF (LS 5)))), (La7, .inl (cI, 5, .inl (nF (LS 7)))), (La8, .inl (cI, 5, .inl (nF (LS 8)))), (La9, .inl (cI, 5, .inl (nF (LS 9)))), (Rh, .inr (3, [.ref Th, .int (nI (u2 1 0)), .int (nI (u2 2 0)), .int (nI (u2 3 0)), .int (nI (u2 4 0)), .int (nI (u2 5 0))])), (Th, .inl (cI, 180, .inl (nF (TS 0))))] H := ⟨hP, hD⟩
      refine lv_aload_n hx hb dX3_readSpan_34 rfl (lv_at hl 0 rfl) ?_
      refine be_i (free := fun _ => False) (wr := [(Lh, .inr (0, [.int (nI (LS 0 0)), .ref La1, .ref La2, .int (nI (LS 3 0)), .ref La4, .ref La5, .int (nI (LS 6 0)), .ref La7, .ref La8, .ref La9, .int (nI (pV (TS 0) (RS 1 0) (pE (TS 0) (RS 1 0) v_b))), .int (nI 1)])), (La1, .inl (cI, 6, .inl (nF (LS 1)))), (La2, .inl (cI, 6, .inl (nF (LS 2)))), (La4, .inl (cI, 5, .inl (nF (LS 4)))), (La5, .inl (cI, 30, .inl (nF (LS 5)))), (La7, .inl (cI, 5, .inl (nF (LS 7)))), (La8, .inl (cI, 5, .inl (nF (LS 8)))), (La9, .inl (cI, 5, .inl (nF (LS 9))))]) (ru_V (As := []) (rest := []) ⟨hx, hb, hml, hown, hts⟩ (g_readEnding l D cI cB cZ cN Rh u2 Th TS hT (by rw [k5.2.2.1, k5.1]; exact (pE_le k5l).2) (by rw [k5.1]; exact h2) H.size) gX3_readSpan_X3_readEnding rfl ⟨rfl, by decide, by decide, (show Option.map (fun d => d.parameters.length) (parseMethodDescriptor yX3_readEnding.desc) = some 0 by decide +kernel)⟩ ⟨Nat.le_of_ble_eq_true rfl, Nat.le_of_ble_eq_true rfl⟩ hK hP hD 3 8 rfl rfl [8, 9] (by decide) rfl hl.1 rfl (Nat.le_of_ble_eq_true rfl) dX3_readSpan_35 ⟨Nat.le_of_ble_eq_true rfl, Nat.le_of_ble_eq_true rfl⟩) hP hD hS hA [8, 9] [0, 1, 2, 3, 4, 5, 6, 7] rfl rfl (by decide) (by decide) (fun r9 u8 H locs w10 hP hD hS => ?_)
      obtain ⟨k11e, k11⟩ := w10
      have k11q : enN (TS 0) (u2 1 0) (u2 2 0) = enN (TS 0) (RS 1 0) (pE (TS 0) (RS 1 0) (pE (TS 0) (RS 1 0) v_b)) := by rw [k5.2.2.1, k5.1]
      have k11 : RdAt u8 (TS 0) (RS 1 0) (pE (TS 0) (RS 1 0) (pE (TS 0) (RS 1 0) v_b)) := by rw [k5.2.2.1, k5.1] at k11; exact k11
      have k11l := (pE_le (t := (TS 0)) k5l).2
      rw [k11q] at k11e
      subst k11e
      have k11b := enN_le (TS 0) (RS 1 0) (pE (TS 0) (RS 1 0) (pE (TS 0) (RS 1 0) v_b))
      obtain ⟨hP, hD⟩ : wPD D A [(Lh, .inr (0, [.int (nI (LS 0 0)), .ref La1, .ref La2, .int (nI (LS 3 0)), .ref La4, .ref La5, .int (nI (LS 6 0)), .ref La7, .ref La8, .ref La9, .int (nI (pV (TS 0) (RS 1 0) (pE (TS 0) (RS 1 0) v_b))), .int (nI 1)])), (La1, .inl (cI, 6, .inl (nF (LS 1)))), (La2, .inl (cI, 6, .inl (nF (LS 2)))), (La4, .inl (cI, 5, .inl (nF (LS 4)))), (La5, .inl (cI, 30, .inl (nF (LS 5)))), (La7, .inl (cI, 5, .inl (nF (LS 7)))), (La8, .inl (cI, 5, .inl (nF (LS 8)))), (La9, .inl (cI, 5, .inl (nF (LS 9)))), (Rh, .inr (3, [.ref Th, .int (nI (u8 1 0)), .int (nI (u8 2 0)), .int (nI (u8 3 0)), .int (nI (u8 4 0)), .int (nI (u8 5 0))])), (Th, .inl (cI, 180, .inl (nF (TS 0))))] H := ⟨hP, hD⟩
      exact en_z hx hb hr hlk hP hD hS (u8, ua (ua LS 10 (fun _ => pV (TS 0) (RS 1 0) (pE (TS 0) (RS 1 0) v_b))) 11 (fun _ => 1)) [8, 9, 0, 1, 2, 3, 4, 5, 6, 7] (by decide) rfl (Nat.le_of_ble_eq_true rfl) (Nat.le_of_ble_eq_true rfl) dX3_readSpan_38 (b01 (by omega)) (by unfold spanF; rw [if_neg (show ¬ 0 < LS 11 0 by omega), if_neg (show ¬ okN (TS 0) (RS 1 0) (pE (TS 0) (RS 1 0) v_b) 1 20 = 0 by omega)]; exact ⟨rfl, k11, rfl⟩)
    · skip
      refine lv_iconst (v := nI 0) hx hb dX3_readSpan_19 (by decide) ?_
      exact en_z hx hb hr hlk hP hD hS (u2, LS) [8, 9, 0, 1, 2, 3, 4, 5, 6, 7] (by decide) rfl (Nat.le_of_ble_eq_true rfl) (Nat.le_of_ble_eq_true rfl) dX3_readSpan_20 rfl (by unfold spanF; rw [if_neg (show ¬ 0 < LS 11 0 by omega), if_pos (show okN (TS 0) (RS 1 0) (pE (TS 0) (RS 1 0) v_b) 1 20 = 0 by omega)]; exact ⟨rfl, k5, rfl⟩)
  · skip
    refine lv_iconst (v := nI 0) hx hb dX3_readSpan_7 (by decide) ?_
    exact en_z hx hb hr hlk hP hD hS (RS, LS) [0, 1, 2, 3, 4, 5, 6, 7, 8, 9] (by decide) rfl (Nat.le_of_ble_eq_true rfl) (Nat.le_of_ble_eq_true rfl) dX3_readSpan_8 rfl (by unfold spanF; rw [if_pos (show 0 < LS 11 0 by omega)]; exact ⟨rfl, hR, rfl⟩)
