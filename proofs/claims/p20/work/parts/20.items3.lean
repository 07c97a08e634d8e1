set_option maxRecDepth 20000 in
theorem dAX3_readHolds : decA cX3_readHolds [(0, .aload_n 0, 1), (1, .iconst 0, 1), (2, .aload_n 1, 1), (3, .getfield 81, 3), (6, .iconst 1, 1), (7, .isub, 1), (8, .invokevirtual 67, 3), (11, .ifCond .ne 5, 3), (14, .iconst 0, 1), (15, .ireturn, 1), (16, .aload_n 0, 1), (17, .getfield 28, 3), (20, .istore_n 2, 1), (21, .aload_n 0, 1), (22, .iconst 0, 1), (23, .aload_n 1, 1), (24, .getfield 64, 3), (27, .iconst 1, 1), (28, .isub, 1), (29, .invokevirtual 67, 3), (32, .ifCond .ne 5, 3), (35, .iconst 0, 1), (36, .ireturn, 1), (37, .aload_n 0, 1), (38, .getfield 28, 3), (41, .istore_n 3, 1), (42, .aload_n 0, 1), (43, .iconst 0, 1), (44, .bipush 9, 2), (46, .invokevirtual 67, 3), (49, .ifCond .ne 5, 3), (52, .iconst 0, 1), (53, .ireturn, 1), (54, .aload_n 1, 1), (55, .getfield 87, 3), (58, .iload_n 2, 1), (59, .bipush 6, 2), (61, .imul, 1), (62, .iload_n 3, 1), (63, .iadd, 1), (64, .aload_n 0, 1), (65, .getfield 28, 3), (68, .iastore, 1), (69, .aload_n 0, 1), (70, .invokevirtual 77, 3), (73, .ireturn, 1)] = true := by decide +kernel
theorem dX3_readHolds_0 : decode cX3_readHolds 0 = .ok (.aload_n 0, 1) := decA_get dAX3_readHolds 0 rfl
theorem dX3_readHolds_1 : decode cX3_readHolds 1 = .ok (.iconst 0, 1) := decA_get dAX3_readHolds 1 rfl
theorem dX3_readHolds_2 : decode cX3_readHolds 2 = .ok (.aload_n 1, 1) := decA_get dAX3_readHolds 2 rfl
theorem dX3_readHolds_3 : decode cX3_readHolds 3 = .ok (.getfield 81, 3) := decA_get dAX3_readHolds 3 rfl
theorem in_X3_readHolds_0 : ∀ w ∈ wsX00, w ∈ wsX3_readHolds := fun w h => (gd_ids wi_X3_readHolds wm_X3_readHolds wi_X00 (by decide +kernel) w h).1
theorem dX3_readHolds_6 : decode cX3_readHolds 6 = .ok (.iconst 1, 1) := decA_get dAX3_readHolds 4 rfl
theorem dX3_readHolds_7 : decode cX3_readHolds 7 = .ok (.isub, 1) := decA_get dAX3_readHolds 5 rfl
theorem dX3_readHolds_8 : decode cX3_readHolds 8 = .ok (.invokevirtual 67, 3) := decA_get dAX3_readHolds 6 rfl
set_option maxRecDepth 20000 in
theorem ggX3_readHolds_X3_readNumber : GoodIn wsX3_readHolds wsX3_readNumber := gd_ids wi_X3_readHolds wm_X3_readHolds wi_X3_readNumber (by decide +kernel)
set_option maxRecDepth 20000 in
theorem gX3_readHolds_X3_readNumber : GoodIn wsX3_readHolds (wsV RX3 67 RX3 yX3_readNumber wsX3_readNumber) := goodIn_app (gd_ids wi_X3_readHolds wm_X3_readHolds (b := [192, 193, 194, 180]) rfl (by decide +kernel)) ggX3_readHolds_X3_readNumber
theorem dX3_readHolds_11 : decode cX3_readHolds 11 = .ok (.ifCond .ne 5, 3) := decA_get dAX3_readHolds 7 rfl
theorem dX3_readHolds_16 : decode cX3_readHolds 16 = .ok (.aload_n 0, 1) := decA_get dAX3_readHolds 10 rfl
theorem dX3_readHolds_17 : decode cX3_readHolds 17 = .ok (.getfield 28, 3) := decA_get dAX3_readHolds 11 rfl
theorem in_X3_readHolds_3 : ∀ w ∈ wsX30, w ∈ wsX3_readHolds := fun w h => (gd_ids wi_X3_readHolds wm_X3_readHolds wi_X30 (by decide +kernel) w h).1
theorem dX3_readHolds_20 : decode cX3_readHolds 20 = .ok (.istore_n 2, 1) := decA_get dAX3_readHolds 12 rfl
theorem dX3_readHolds_21 : decode cX3_readHolds 21 = .ok (.aload_n 0, 1) := decA_get dAX3_readHolds 13 rfl
theorem dX3_readHolds_22 : decode cX3_readHolds 22 = .ok (.iconst 0, 1) := decA_get dAX3_readHolds 14 rfl
theorem dX3_readHolds_23 : decode cX3_readHolds 23 = .ok (.aload_n 1, 1) := decA_get dAX3_readHolds 15 rfl
theorem dX3_readHolds_24 : decode cX3_readHolds 24 = .ok (.getfield 64, 3) := decA_get dAX3_readHolds 16 rfl
theorem dX3_readHolds_27 : decode cX3_readHolds 27 = .ok (.iconst 1, 1) := decA_get dAX3_readHolds 17 rfl
theorem dX3_readHolds_28 : decode cX3_readHolds 28 = .ok (.isub, 1) := decA_get dAX3_readHolds 18 rfl
theorem dX3_readHolds_29 : decode cX3_readHolds 29 = .ok (.invokevirtual 67, 3) := decA_get dAX3_readHolds 19 rfl
theorem dX3_readHolds_32 : decode cX3_readHolds 32 = .ok (.ifCond .ne 5, 3) := decA_get dAX3_readHolds 20 rfl
theorem dX3_readHolds_37 : decode cX3_readHolds 37 = .ok (.aload_n 0, 1) := decA_get dAX3_readHolds 23 rfl
theorem dX3_readHolds_38 : decode cX3_readHolds 38 = .ok (.getfield 28, 3) := decA_get dAX3_readHolds 24 rfl
theorem dX3_readHolds_41 : decode cX3_readHolds 41 = .ok (.istore_n 3, 1) := decA_get dAX3_readHolds 25 rfl
theorem dX3_readHolds_42 : decode cX3_readHolds 42 = .ok (.aload_n 0, 1) := decA_get dAX3_readHolds 26 rfl
theorem dX3_readHolds_43 : decode cX3_readHolds 43 = .ok (.iconst 0, 1) := decA_get dAX3_readHolds 27 rfl
theorem dX3_readHolds_44 : decode cX3_readHolds 44 = .ok (.bipush 9, 2) := decA_get dAX3_readHolds 28 rfl
theorem dX3_readHolds_46 : decode cX3_readHolds 46 = .ok (.invokevirtual 67, 3) := decA_get dAX3_readHolds 29 rfl
theorem dX3_readHolds_49 : decode cX3_readHolds 49 = .ok (.ifCond .ne 5, 3) := decA_get dAX3_readHolds 30 rfl
theorem dX3_readHolds_54 : decode cX3_readHolds 54 = .ok (.aload_n 1, 1) := decA_get dAX3_readHolds 33 rfl
theorem dX3_readHolds_55 : decode cX3_readHolds 55 = .ok (.getfield 87, 3) := decA_get dAX3_readHolds 34 rfl
theorem dX3_readHolds_58 : decode cX3_readHolds 58 = .ok (.iload_n 2, 1) := decA_get dAX3_readHolds 35 rfl
theorem dX3_readHolds_59 : decode cX3_readHolds 59 = .ok (.bipush 6, 2) := decA_get dAX3_readHolds 36 rfl
theorem dX3_readHolds_61 : decode cX3_readHolds 61 = .ok (.imul, 1) := decA_get dAX3_readHolds 37 rfl
theorem dX3_readHolds_62 : decode cX3_readHolds 62 = .ok (.iload_n 3, 1) := decA_get dAX3_readHolds 38 rfl
theorem dX3_readHolds_63 : decode cX3_readHolds 63 = .ok (.iadd, 1) := decA_get dAX3_readHolds 39 rfl
theorem dX3_readHolds_64 : decode cX3_readHolds 64 = .ok (.aload_n 0, 1) := decA_get dAX3_readHolds 40 rfl
theorem dX3_readHolds_65 : decode cX3_readHolds 65 = .ok (.getfield 28, 3) := decA_get dAX3_readHolds 41 rfl
theorem dX3_readHolds_68 : decode cX3_readHolds 68 = .ok (.iastore, 1) := decA_get dAX3_readHolds 42 rfl
theorem dX3_readHolds_69 : decode cX3_readHolds 69 = .ok (.aload_n 0, 1) := decA_get dAX3_readHolds 43 rfl
theorem dX3_readHolds_70 : decode cX3_readHolds 70 = .ok (.invokevirtual 77, 3) := decA_get dAX3_readHolds 44 rfl
set_option maxRecDepth 20000 in
theorem ggX3_readHolds_X3_readEnding : GoodIn wsX3_readHolds wsX3_readEnding := gd_ids wi_X3_readHolds wm_X3_readHolds wi_X3_readEnding (by decide +kernel)
set_option maxRecDepth 20000 in
theorem gX3_readHolds_X3_readEnding : GoodIn wsX3_readHolds (wsV RX3 77 RX3 yX3_readEnding wsX3_readEnding) := goodIn_app (gd_ids wi_X3_readHolds wm_X3_readHolds (b := [195, 196, 197, 180]) rfl (by decide +kernel)) ggX3_readHolds_X3_readEnding
theorem dX3_readHolds_73 : decode cX3_readHolds 73 = .ok (.ireturn, 1) := decA_get dAX3_readHolds 45 rfl
theorem dX3_readHolds_52 : decode cX3_readHolds 52 = .ok (.iconst 0, 1) := decA_get dAX3_readHolds 31 rfl
theorem dX3_readHolds_53 : decode cX3_readHolds 53 = .ok (.ireturn, 1) := decA_get dAX3_readHolds 32 rfl
theorem dX3_readHolds_35 : decode cX3_readHolds 35 = .ok (.iconst 0, 1) := decA_get dAX3_readHolds 21 rfl
theorem dX3_readHolds_36 : decode cX3_readHolds 36 = .ok (.ireturn, 1) := decA_get dAX3_readHolds 22 rfl
theorem dX3_readHolds_14 : decode cX3_readHolds 14 = .ok (.iconst 0, 1) := decA_get dAX3_readHolds 8 rfl
theorem dX3_readHolds_15 : decode cX3_readHolds 15 = .ok (.ireturn, 1) := decA_get dAX3_readHolds 9 rfl
set_option maxHeartbeats 4000000 in
set_option maxRecDepth 100000 in
theorem g_readHolds (l : Launch) (D : va_G) (cI cB cZ cN : ClassId) (Rh : Nat) (RS : Nat → Nat → Nat) (Th : Nat) (TS : Nat → Nat → Nat) (Lh : Nat) (La1 : Nat) (La2 : Nat) (La4 : Nat) (La5 : Nat) (La7 : Nat) (La8 : Nat) (La9 : Nat) (LS : Nat → Nat → Nat) (v_b : Nat) (hT : ∀ j, TS 0 j < 256) (h2 : RS 1 0 ≤ 180) (hR : RdAt RS (TS 0) (RS 1 0) v_b) (hvb : v_b ≤ RS 1 0) (hL : LandOk LS) : Ci (S := (Nat → Nat → Nat) × (Nat → Nat → Nat)) l D cI cB cZ cN yX3_readHolds wsX3_readHolds ({ frames := 3, cells := 0, slots := 0, locals := 64 } : Room) [.ref Rh, .ref Lh] [(Rh, .inr (3, [.ref Th, .int (nI (RS 1 0)), .int (nI (RS 2 0)), .int (nI (RS 3 0)), .int (nI (RS 4 0)), .int (nI (RS 5 0))])), (Th, .inl (cI, 180, .inl (nF (TS 0)))), (Lh, .inr (0, [.int (nI (LS 0 0)), .ref La1, .ref La2, .int (nI (LS 3 0)), .ref La4, .ref La5, .int (nI (LS 6 0)), .ref La7, .ref La8, .ref La9, .int (nI (LS 10 0)), .int (nI (LS 11 0))])), (La1, .inl (cI, 6, .inl (nF (LS 1)))), (La2, .inl (cI, 6, .inl (nF (LS 2)))), (La4, .inl (cI, 5, .inl (nF (LS 4)))), (La5, .inl (cI, 30, .inl (nF (LS 5)))), (La7, .inl (cI, 5, .inl (nF (LS 7)))), (La8, .inl (cI, 5, .inl (nF (LS 8)))), (La9, .inl (cI, 5, .inl (nF (LS 9))))] (fun (r : Int32) (u : (Nat → Nat → Nat) × (Nat → Nat → Nat)) => r = nI (holdF (TS 0) (RS 1 0) v_b LS).1 ∧ RdAt u.1 (TS 0) (RS 1 0) (holdF (TS 0) (RS 1 0) v_b LS).2.1 ∧ u.2 = (holdF (TS 0) (RS 1 0) v_b LS).2.2) (fun u => [(Rh, .inr (3, [.ref Th, .int (nI (u.1 1 0)), .int (nI (u.1 2 0)), .int (nI (u.1 3 0)), .int (nI (u.1 4 0)), .int (nI (u.1 5 0))])), (Th, .inl (cI, 180, .inl (nF (TS 0)))), (Lh, .inr (0, [.int (nI (u.2 0 0)), .ref La1, .ref La2, .int (nI (u.2 3 0)), .ref La4, .ref La5, .int (nI (u.2 6 0)), .ref La7, .ref La8, .ref La9, .int (nI (u.2 10 0)), .int (nI (u.2 11 0))])), (La1, .inl (cI, 6, .inl (nF (u.2 1)))), (La2, .inl (cI, 6, .inl (nF (u.2 2)))), (La4, .inl (cI, 5, .inl (nF (u.2 4)))), (La5, .inl (cI, 30, .inl (nF (u.2 5)))), (La7, .inl (cI, 5, .inl (nF (u.2 7)))), (La8, .inl (cI, 5, .inl (nF (u.2 8)))), (La9, .inl (cI, 5, .inl (nF (u.2 9))))]) := by
  refine bx_of (D := D) (cI := cI) (cB := cB) (cZ := cZ) (cN := cN) (y := yX3_readHolds) (wd := wsX3_readHolds) (rm := ({ frames := 3, cells := 0, slots := 0, locals := 64 } : Room)) (av := [.ref Rh, .ref Lh]) (wc := [(Rh, .inr (3, [.ref Th, .int (nI (RS 1 0)), .int (nI (RS 2 0)), .int (nI (RS 3 0)), .int (nI (RS 4 0)), .int (nI (RS 5 0))])), (Th, .inl (cI, 180, .inl (nF (TS 0)))), (Lh, .inr (0, [.int (nI (LS 0 0)), .ref La1, .ref La2, .int (nI (LS 3 0)), .ref La4, .ref La5, .int (nI (LS 6 0)), .ref La7, .ref La8, .ref La9, .int (nI (LS 10 0)), .int (nI (LS 11 0))])), (La1, .inl (cI, 6, .inl (nF (LS 1)))), (La2, .inl (cI, 6, .inl (nF (LS 2)))), (La4, .inl (cI, 5, .inl (nF (LS 4)))), (La5, .inl (cI, 30, .inl (nF (LS 5)))), (La7, .inl (cI, 5, .inl (nF (LS 7)))), (La8, .inl (cI, 5, .inl (nF (LS 8)))), (La9, .inl (cI, 5, .inl (nF (LS 9))))]) (cc := cX3_readHolds) (maxL := 4) (ret := (some .boolean)) (Qc := fun _ A => va_Qi (S := (Nat → Nat → Nat) × (Nat → Nat → Nat)) (fun (r : Int32) (u : (Nat → Nat → Nat) × (Nat → Nat → Nat)) => r = nI (holdF (TS 0) (RS 1 0) v_b LS).1 ∧ RdAt u.1 (TS 0) (RS 1 0) (holdF (TS 0) (RS 1 0) v_b LS).2.1 ∧ u.2 = (holdF (TS 0) (RS 1 0) v_b LS).2.2) (Aft D (fun (u : (Nat → Nat → Nat) × (Nat → Nat → Nat)) => [(Rh, .inr (3, [.ref Th, .int (nI (u.1 1 0)), .int (nI (u.1 2 0)), .int (nI (u.1 3 0)), .int (nI (u.1 4 0)), .int (nI (u.1 5 0))])), (Th, .inl (cI, 180, .inl (nF (TS 0)))), (Lh, .inr (0, [.int (nI (u.2 0 0)), .ref La1, .ref La2, .int (nI (u.2 3 0)), .ref La4, .ref La5, .int (nI (u.2 6 0)), .ref La7, .ref La8, .ref La9, .int (nI (u.2 10 0)), .int (nI (u.2 11 0))])), (La1, .inl (cI, 6, .inl (nF (u.2 1)))), (La2, .inl (cI, 6, .inl (nF (u.2 2)))), (La4, .inl (cI, 5, .inl (nF (u.2 4)))), (La5, .inl (cI, 30, .inl (nF (u.2 5)))), (La7, .inl (cI, 5, .inl (nF (u.2 7)))), (La8, .inl (cI, 5, .inl (nF (u.2 8)))), (La9, .inl (cI, 5, .inl (nF (u.2 9))))]) A) A) (by decide) rfl (Nat.le_of_ble_eq_true rfl) ?_
  intro p e s m below meth c A H locs ⟨hx, hb, hr, hml, hown, hts, hlk, hnm⟩ hK hP hD hS hA ls hl
  have hl : lv_has ls 4 [(0, .ref Rh), (1, .ref Lh)] := hl
  have hown : s.vm.findClass RX3 = some m.cls := hown
  have hL0 := hL
  obtain ⟨bl0, bl3, bl6, bl10, bl11, bl1, bl2, bl4, bl5, bl7, bl8, bl9⟩ := hL
  refine lv_aload_n hx hb dX3_readHolds_0 rfl (lv_at hl 0 rfl) ?_
  refine lv_iconst (v := nI 0) hx hb dX3_readHolds_1 (by decide) ?_
  refine lv_aload_n hx hb dX3_readHolds_2 rfl (lv_at hl 1 rfl) ?_
  refine va_getN (D := D) (ci := 0) (v := .int (nI (LS 3 0))) (C := RX0) (T := TX0) (N := 12) hx hb hts in_X3_readHolds_0 hown hK.1 hP 2 rfl rfl 3 (by decide) (nfX3_81 hK.2) (fun _ h9 => h9) rfl dX3_readHolds_3 ?_
  refine lv_iconst (v := nI 1) hx hb dX3_readHolds_6 (by decide) ?_
  refine lv_isub hx hb dX3_readHolds_7 ?_
  refine be_i (free := fun _ => False) (wr := [(Lh, .inr (0, [.int (nI (LS 0 0)), .ref La1, .ref La2, .int (nI (LS 3 0)), .ref La4, .ref La5, .int (nI (LS 6 0)), .ref La7, .ref La8, .ref La9, .int (nI (LS 10 0)), .int (nI (LS 11 0))])), (La1, .inl (cI, 6, .inl (nF (LS 1)))), (La2, .inl (cI, 6, .inl (nF (LS 2)))), (La4, .inl (cI, 5, .inl (nF (LS 4)))), (La5, .inl (cI, 30, .inl (nF (LS 5)))), (La7, .inl (cI, 5, .inl (nF (LS 7)))), (La8, .inl (cI, 5, .inl (nF (LS 8)))), (La9, .inl (cI, 5, .inl (nF (LS 9))))]) (ru_V (As := [.int (nI 0), .int (nI (LS 3 0) - nI 1)]) (rest := []) ⟨hx, hb, hml, hown, hts⟩ (g_readNumberB l D cI cB cZ cN Rh RS Th TS 0 (LS 3 0) hT (by rw [hR.2.2.1, hR.1]; exact (pE_le hvb).2) (by rw [hR.1]; exact h2) (by omega) (by omega) H.size) gX3_readHolds_X3_readNumber rfl ⟨rfl, by decide, by decide, (show Option.map (fun d => d.parameters.length) (parseMethodDescriptor yX3_readNumber.desc) = some 2 by decide +kernel)⟩ ⟨Nat.le_of_ble_eq_true rfl, Nat.le_of_ble_eq_true rfl⟩ hK hP hD 3 0 rfl rfl [0, 1] (by decide) rfl hl.1 rfl (Nat.le_of_ble_eq_true rfl) dX3_readHolds_8 ⟨Nat.le_of_ble_eq_true rfl, Nat.le_of_ble_eq_true rfl⟩) hP hD hS hA [0, 1] [2, 3, 4, 5, 6, 7, 8, 9] rfl rfl (by decide) (by decide) (fun r2 u1 H locs w3 hP hD hS => ?_)
  obtain ⟨k4e, k4⟩ := w3
  have k4q : ok1 (TS 0) (RS 1 0) (RS 2 0) 0 (LS 3 0) = ok1 (TS 0) (RS 1 0) (pE (TS 0) (RS 1 0) v_b) 0 (LS 3 0) := by rw [hR.2.2.1, hR.1]
  have k4 : RdAt u1 (TS 0) (RS 1 0) (pE (TS 0) (RS 1 0) v_b) := by rw [hR.2.2.1, hR.1] at k4; exact k4
  have k4l := (pE_le (t := (TS 0)) hvb).2
  rw [k4q] at k4e
  subst k4e
  have k4b := ok1_le (TS 0) (RS 1 0) (pE (TS 0) (RS 1 0) v_b) 0 (LS 3 0)
  obtain ⟨hP, hD⟩ : wPD D A [(Lh, .inr (0, [.int (nI (LS 0 0)), .ref La1, .ref La2, .int (nI (LS 3 0)), .ref La4, .ref La5, .int (nI (LS 6 0)), .ref La7, .ref La8, .ref La9, .int (nI (LS 10 0)), .int (nI (LS 11 0))])), (La1, .inl (cI, 6, .inl (nF (LS 1)))), (La2, .inl (cI, 6, .inl (nF (LS 2)))), (La4, .inl (cI, 5, .inl (nF (LS 4)))), (La5, .inl (cI, 30, .inl (nF (LS 5)))), (La7, .inl (cI, 5, .inl (nF (LS 7)))), (La8, .inl (cI, 5, .inl (nF (LS 8)))), (La9, .inl (cI, 5, .inl (nF (LS 9)))), (Rh, .inr (3, [.ref Th, .int (nI (u1 1 0)), .int (nI (u1 2 0)), .int (nI (u1 3 0)), .int (nI (u1 4 0)), .int (nI (u1 5 0))])), (Th, .inl (cI, 180, .inl (nF (TS 0))))] H := ⟨hP, hD⟩
  refine nb_if_ne (tgt := 16) hx hb dX3_readHolds_11 (by decide) (by omega) (fun hq5 => ?_) (fun hq5 => ?_)
  · skip
    have g6 := ok1_1 hq5
    refine lv_aload_n hx hb dX3_readHolds_16 rfl (lv_at hl 0 rfl) ?_
    refine va_get (D := D) (ci := 3) (v := .int (nI (u1 5 0))) (C := RX3) (T := TX3) (N := 6) hx hb hts in_X3_readHolds_3 hown hK.1 hP 8 rfl rfl 5 (by decide) (hts (.fieldLink RX3 28 "ChildCoins$Reader" "value" "I") (List.mem_of_getElem? (i := 1) rfl)) (fun _ h9 => h9) rfl dX3_readHolds_17 ?_
    refine set_i (y := nI (pV (TS 0) (RS 1 0) (pE (TS 0) (RS 1 0) v_b))) (congrArg nI k4.2.2.2.2) ?_
    have b7 := pV_le hT (RS 1 0) (pE (TS 0) (RS 1 0) v_b)
    refine lv_istore_n (lv' := [(2, .int (nI (pV (TS 0) (RS 1 0) (pE (TS 0) (RS 1 0) v_b)))), (0, .ref Rh), (1, .ref Lh)]) hx hb dX3_readHolds_20 rfl hl (by decide) rfl (fun ls hl => ?_)
    refine lv_aload_n hx hb dX3_readHolds_21 rfl (lv_at hl 1 rfl) ?_
    refine lv_iconst (v := nI 0) hx hb dX3_readHolds_22 (by decide) ?_
    refine lv_aload_n hx hb dX3_readHolds_23 rfl (lv_at hl 2 rfl) ?_
    refine va_getN (D := D) (ci := 0) (v := .int (nI (LS 0 0))) (C := RX0) (T := TX0) (N := 12) hx hb hts in_X3_readHolds_0 hown hK.1 hP 0 rfl rfl 0 (by decide) (nfX3_64 hK.2) (fun _ h9 => h9) rfl dX3_readHolds_24 ?_
    refine lv_iconst (v := nI 1) hx hb dX3_readHolds_27 (by decide) ?_
    refine lv_isub hx hb dX3_readHolds_28 ?_
    refine be_i (free := fun _ => False) (wr := [(Lh, .inr (0, [.int (nI (LS 0 0)), .ref La1, .ref La2, .int (nI (LS 3 0)), .ref La4, .ref La5, .int (nI (LS 6 0)), .ref La7, .ref La8, .ref La9, .int (nI (LS 10 0)), .int (nI (LS 11 0))])), (La1, .inl (cI, 6, .inl (nF (LS 1)))), (La2, .inl (cI, 6, .inl (nF (LS 2)))), (La4, .inl (cI, 5, .inl (nF (LS 4)))), (La5, .inl (cI, 30, .inl (nF (LS 5)))), (La7, .inl (cI, 5, .inl (nF (LS 7)))), (La8, .inl (cI, 5, .inl (nF (LS 8)))), (La9, .inl (cI, 5, .inl (nF (LS 9))))]) (ru_V (As := [.int (nI 0), .int (nI (LS 0 0) - nI 1)]) (rest := []) ⟨hx, hb, hml, hown, hts⟩ (g_readNumberB l D cI cB cZ cN Rh u1 Th TS 0 (LS 0 0) hT (by rw [k4.2.2.1, k4.1]; exact (pE_le k4l).2) (by rw [k4.1]; exact h2) (by omega) (by omega) H.size) gX3_readHolds_X3_readNumber rfl ⟨rfl, by decide, by decide, (show Option.map (fun d => d.parameters.length) (parseMethodDescriptor yX3_readNumber.desc) = some 2 by decide +kernel)⟩ ⟨Nat.le_of_ble_eq_true rfl, Nat.le_of_ble_eq_true rfl⟩ hK hP hD 3 8 rfl rfl [8, 9] (by decide) rfl hl.1 rfl (Nat.le_of_ble_eq_true rfl) dX3_readHolds_29 ⟨Nat.le_of_ble_eq_true rfl, Nat.le_of_ble_eq_true rfl⟩) hP hD hS hA [8, 9] [0, 1, 2, 3, 4, 5, 6, 7] rfl rfl (by decide) (by decide) (fun r9 u8 H locs w10 hP hD hS => ?_)
    obtain ⟨k11e, k11⟩ := w10
    have k11q : ok1 (TS 0) (u1 1 0) (u1 2 0) 0 (LS 0 0) = ok1 (TS 0) (RS 1 0) (pE (TS 0) (RS 1 0) (pE (TS 0) (RS 1 0) v_b)) 0 (LS 0 0) := by rw [k4.2.2.1, k4.1]
    have k11 : RdAt u8 (TS 0) (RS 1 0) (pE (TS 0) (RS 1 0) (pE (TS 0) (RS 1 0) v_b)) := by rw [k4.2.2.1, k4.1] at k11; exact k11
    have k11l := (pE_le (t := (TS 0)) k4l).2
    rw [k11q] at k11e
    subst k11e
    have k11b := ok1_le (TS 0) (RS 1 0) (pE (TS 0) (RS 1 0) (pE (TS 0) (RS 1 0) v_b)) 0 (LS 0 0)
    obtain ⟨hP, hD⟩ : wPD D A [(Lh, .inr (0, [.int (nI (LS 0 0)), .ref La1, .ref La2, .int (nI (LS 3 0)), .ref La4, .ref La5, .int (nI (LS 6 0)), .ref La7, .ref La8, .ref La9, .int (nI (LS 10 0)), .int (nI (LS 11 0))])), (La1, .inl (cI, 6, .inl (nF (LS 1)))), (La2, .inl (cI, 6, .inl (nF (LS 2)))), (La4, .inl (cI, 5, .inl (nF (LS 4)))), (La5, .inl (cI, 30, .inl (nF (LS 5)))), (La7, .inl (cI, 5, .inl (nF (LS 7)))), (La8, .inl (cI, 5, .inl (nF (LS 8)))), (La9, .inl (cI, 5, .inl (nF (LS 9)))), (Rh, .inr (3, [.ref Th, .int (nI (u8 1 0)), .int (nI (u8 2 0)), .int (nI (u8 3 0)), .int (nI (u8 4 0)), .int (nI (u8 5 0))])), (Th, .inl (cI, 180, .inl (nF (TS 0))))] H := ⟨hP, hD⟩
    refine nb_if_ne (tgt := 37) hx hb dX3_readHolds_32 (by decide) (by omega) (fun hq12 => ?_) (fun hq12 => ?_)
    · skip
      have g13 := ok1_1 hq12
      refine lv_aload_n hx hb dX3_readHolds_37 rfl (lv_at hl 1 rfl) ?_
      refine va_get (D := D) (ci := 3) (v := .int (nI (u8 5 0))) (C := RX3) (T := TX3) (N := 6) hx hb hts in_X3_readHolds_3 hown hK.1 hP 8 rfl rfl 5 (by decide) (hts (.fieldLink RX3 28 "ChildCoins$Reader" "value" "I") (List.mem_of_getElem? (i := 1) rfl)) (fun _ h9 => h9) rfl dX3_readHolds_38 ?_
      refine set_i (y := nI (pV (TS 0) (RS 1 0) (pE (TS 0) (RS 1 0) (pE (TS 0) (RS 1 0) v_b)))) (congrArg nI k11.2.2.2.2) ?_
      have b14 := pV_le hT (RS 1 0) (pE (TS 0) (RS 1 0) (pE (TS 0) (RS 1 0) v_b))
      refine lv_istore_n (lv' := [(3, .int (nI (pV (TS 0) (RS 1 0) (pE (TS 0) (RS 1 0) (pE (TS 0) (RS 1 0) v_b))))), (2, .int (nI (pV (TS 0) (RS 1 0) (pE (TS 0) (RS 1 0) v_b)))), (0, .ref Rh), (1, .ref Lh)]) hx hb dX3_readHolds_41 rfl hl (by decide) rfl (fun ls hl => ?_)
      refine lv_aload_n hx hb dX3_readHolds_42 rfl (lv_at hl 2 rfl) ?_
      refine lv_iconst (v := nI 0) hx hb dX3_readHolds_43 (by decide) ?_
      refine lv_bipush (v := nI 9) hx hb dX3_readHolds_44 (by decide) ?_
      refine be_i (free := fun _ => False) (wr := [(Lh, .inr (0, [.int (nI (LS 0 0)), .ref La1, .ref La2, .int (nI (LS 3 0)), .ref La4, .ref La5, .int (nI (LS 6 0)), .ref La7, .ref La8, .ref La9, .int (nI (LS 10 0)), .int (nI (LS 11 0))])), (La1, .inl (cI, 6, .inl (nF (LS 1)))), (La2, .inl (cI, 6, .inl (nF (LS 2)))), (La4, .inl (cI, 5, .inl (nF (LS 4)))), (La5, .inl (cI, 30, .inl (nF (LS 5)))), (La7, .inl (cI, 5, .inl (nF (LS 7)))), (La8, .inl (cI, 5, .inl (nF (LS 8)))), (La9, .inl (cI, 5, .inl (nF (LS 9))))]) (ru_V (As := [.int (nI 0), .int (nI 9)]) (rest := []) ⟨hx, hb, hml, hown, hts⟩ (g_readNumberA l D cI cB cZ cN Rh u8 Th TS 0 9 hT (by rw [k11.2.2.1, k11.1]; exact (pE_le k11l).2) (by rw [k11.1]; exact h2) (by omega) (by omega) H.size) gX3_readHolds_X3_readNumber rfl ⟨rfl, by decide, by decide, (show Option.map (fun d => d.parameters.length) (parseMethodDescriptor yX3_readNumber.desc) = some 2 by decide +kernel)⟩ ⟨Nat.le_of_ble_eq_true rfl, Nat.le_of_ble_eq_true rfl⟩ hK hP hD 3 8 rfl rfl [8, 9] (by decide) rfl hl.1 rfl (Nat.le_of_ble_eq_true rfl) dX3_readHolds_46 ⟨Nat.le_of_ble_eq_true rfl, Nat.le_of_ble_eq_true rfl⟩) hP hD hS hA [8, 9] [0, 1, 2, 3, 4, 5, 6, 7] rfl rfl (by decide) (by decide) (fun r16 u15 H locs w17 hP hD hS => ?_)
      obtain ⟨k18e, k18⟩ := w17
      have k18q : okN (TS 0) (u8 1 0) (u8 2 0) 0 9 = okN (TS 0) (RS 1 0) (pE (TS 0) (RS 1 0) (pE (TS 0) (RS 1 0) (pE (TS 0) (RS 1 0) v_b))) 0 9 := by rw [k11.2.2.1, k11.1]
      have k18 : RdAt u15 (TS 0) (RS 1 0) (pE (TS 0) (RS 1 0) (pE (TS 0) (RS 1 0) (pE (TS 0) (RS 1 0) v_b))) := by rw [k11.2.2.1, k11.1] at k18; exact k18
      have k18l := (pE_le (t := (TS 0)) k11l).2
      rw [k18q] at k18e
      subst k18e
      have k18b := okN_le (TS 0) (RS 1 0) (pE (TS 0) (RS 1 0) (pE (TS 0) (RS 1 0) (pE (TS 0) (RS 1 0) v_b))) 0 9
      obtain ⟨hP, hD⟩ : wPD D A [(Lh, .inr (0, [.int (nI (LS 0 0)), .ref La1, .ref La2, .int (nI (LS 3 0)), .ref La4, .ref La5, .int (nI (LS 6 0)), .ref La7, .ref La8, .ref La9, .int (nI (LS 10 0)), .int (nI (LS 11 0))])), (La1, .inl (cI, 6, .inl (nF (LS 1)))), (La2, .inl (cI, 6, .inl (nF (LS 2)))), (La4, .inl (cI, 5, .inl (nF (LS 4)))), (La5, .inl (cI, 30, .inl (nF (LS 5)))), (La7, .inl (cI, 5, .inl (nF (LS 7)))), (La8, .inl (cI, 5, .inl (nF (LS 8)))), (La9, .inl (cI, 5, .inl (nF (LS 9)))), (Rh, .inr (3, [.ref Th, .int (nI (u15 1 0)), .int (nI (u15 2 0)), .int (nI (u15 3 0)), .int (nI (u15 4 0)), .int (nI (u15 5 0))])), (Th, .inl (cI, 180, .inl (nF (TS 0))))] H := ⟨hP, hD⟩
      refine nb_if_ne (tgt := 54) hx hb dX3_readHolds_49 (by decide) (by omega) (fun hq19 => ?_) (fun hq19 => ?_)
      · skip
        have g20 := okN_1 hq19
        refine lv_aload_n hx hb dX3_readHolds_54 rfl (lv_at hl 3 rfl) ?_
        refine va_getN (D := D) (ci := 0) (v := .ref La5) (C := RX0) (T := TX0) (N := 12) hx hb hts in_X3_readHolds_0 hown hK.1 hP 0 rfl rfl 5 (by decide) (nfX3_87 hK.2) (fun _ h9 => h9) rfl dX3_readHolds_55 ?_
        refine lv_iload_n hx hb dX3_readHolds_58 rfl (lv_at hl 1 rfl) ?_
        refine lv_bipush (v := nI 6) hx hb dX3_readHolds_59 (by decide) ?_
        refine lv_imul hx hb dX3_readHolds_61 ?_
        refine set_i (y := nI ((pV (TS 0) (RS 1 0) (pE (TS 0) (RS 1 0) v_b)) * 6)) (pk_mul (pV (TS 0) (RS 1 0) (pE (TS 0) (RS 1 0) v_b)) 6) ?_
        refine lv_iload_n hx hb dX3_readHolds_62 rfl (lv_at hl 0 rfl) ?_
        refine lv_iadd hx hb dX3_readHolds_63 ?_
        refine set_i (y := nI (((pV (TS 0) (RS 1 0) (pE (TS 0) (RS 1 0) v_b)) * 6) + (pV (TS 0) (RS 1 0) (pE (TS 0) (RS 1 0) (pE (TS 0) (RS 1 0) v_b))))) (nI_add ((pV (TS 0) (RS 1 0) (pE (TS 0) (RS 1 0) v_b)) * 6) (pV (TS 0) (RS 1 0) (pE (TS 0) (RS 1 0) (pE (TS 0) (RS 1 0) v_b)))) ?_
        refine lv_aload_n hx hb dX3_readHolds_64 rfl (lv_at hl 2 rfl) ?_
        refine va_get (D := D) (ci := 3) (v := .int (nI (u15 5 0))) (C := RX3) (T := TX3) (N := 6) hx hb hts in_X3_readHolds_3 hown hK.1 hP 8 rfl rfl 5 (by decide) (hts (.fieldLink RX3 28 "ChildCoins$Reader" "value" "I") (List.mem_of_getElem? (i := 1) rfl)) (fun _ h9 => h9) rfl dX3_readHolds_65 ?_
        refine set_i (y := nI (pV (TS 0) (RS 1 0) (pE (TS 0) (RS 1 0) (pE (TS 0) (RS 1 0) (pE (TS 0) (RS 1 0) v_b))))) (congrArg nI k18.2.2.2.2) ?_
        have b21 := pV_le hT (RS 1 0) (pE (TS 0) (RS 1 0) (pE (TS 0) (RS 1 0) (pE (TS 0) (RS 1 0) v_b)))
        refine va_iast hx hb hK.1 hP hD hS 4 0 rfl rfl (vp_in_nI (n := ((pV (TS 0) (RS 1 0) (pE (TS 0) (RS 1 0) v_b)) * 6) + (pV (TS 0) (RS 1 0) (pE (TS 0) (RS 1 0) (pE (TS 0) (RS 1 0) v_b)))) (N := 30) (by omega) (by decide)) dX3_readHolds_68 (fun H locs hP hD hS => ?_)
        obtain ⟨hP, hD⟩ : wPD D A [(Lh, .inr (0, [.int (nI (LS 0 0)), .ref La1, .ref La2, .int (nI (LS 3 0)), .ref La4, .ref La5, .int (nI (LS 6 0)), .ref La7, .ref La8, .ref La9, .int (nI (LS 10 0)), .int (nI (LS 11 0))])), (La1, .inl (cI, 6, .inl (nF (LS 1)))), (La2, .inl (cI, 6, .inl (nF (LS 2)))), (La4, .inl (cI, 5, .inl (nF (LS 4)))), (La5, .inl (cI, 30, .inl (upd (nF (LS 5)) (nI (((pV (TS 0) (RS 1 0) (pE (TS 0) (RS 1 0) v_b)) * 6) + (pV (TS 0) (RS 1 0) (pE (TS 0) (RS 1 0) (pE (TS 0) (RS 1 0) v_b))))).toNatClampNeg (nI (pV (TS 0) (RS 1 0) (pE (TS 0) (RS 1 0) (pE (TS 0) (RS 1 0) (pE (TS 0) (RS 1 0) v_b)))))))), (La7, .inl (cI, 5, .inl (nF (LS 7)))), (La8, .inl (cI, 5, .inl (nF (LS 8)))), (La9, .inl (cI, 5, .inl (nF (LS 9)))), (Rh, .inr (3, [.ref Th, .int (nI (u15 1 0)), .int (nI (u15 2 0)), .int (nI (u15 3 0)), .int (nI (u15 4 0)), .int (nI (u15 5 0))])), (Th, .inl (cI, 180, .inl (nF (TS 0))))] H := ⟨hP, hD⟩
        rw [nF_st (by omega)] at hP hD
        refine lv_aload_n hx hb dX3_readHolds_69 rfl (lv_at hl 2 rfl) ?_
        refine be_i (free := fun _ => False) (wr := [(Lh, .inr (0, [.int (nI (LS 0 0)), .ref La1, .ref La2, .int (nI (LS 3 0)), .ref La4, .ref La5, .int (nI (LS 6 0)), .ref La7, .ref La8, .ref La9, .int (nI (LS 10 0)), .int (nI (LS 11 0))])), (La1, .inl (cI, 6, .inl (nF (LS 1)))), (La2, .inl (cI, 6, .inl (nF (LS 2)))), (La4, .inl (cI, 5, .inl (nF (LS 4)))), (La5, .inl (cI, 30, .inl (nF (un (LS 5) (((pV (TS 0) (RS 1 0) (pE (TS 0) (RS 1 0) v_b)) * 6) + (pV (TS 0) (RS 1 0) (pE (TS 0) (RS 1 0) (pE (TS 0) (RS 1 0) v_b)))) (pV (TS 0) (RS 1 0) (pE (TS 0) (RS 1 0) (pE (TS 0) (RS 1 0) (pE (TS 0) (RS 1 0) v_b)))))))), (La7, .inl (cI, 5, .inl (nF (LS 7)))), (La8, .inl (cI, 5, .inl (nF (LS 8)))), (La9, .inl (cI, 5, .inl (nF (LS 9))))]) (ru_V (As := []) (rest := []) ⟨hx, hb, hml, hown, hts⟩ (g_readEnding l D cI cB cZ cN Rh u15 Th TS hT (by rw [k18.2.2.1, k18.1]; exact (pE_le k18l).2) (by rw [k18.1]; exact h2) H.size) gX3_readHolds_X3_readEnding rfl ⟨rfl, by decide, by decide, (show Option.map (fun d => d.parameters.length) (parseMethodDescriptor yX3_readEnding.desc) = some 0 by decide +kernel)⟩ ⟨Nat.le_of_ble_eq_true rfl, Nat.le_of_ble_eq_true rfl⟩ hK hP hD 3 8 rfl rfl [8, 9] (by decide) rfl hl.1 rfl (Nat.le_of_ble_eq_true rfl) dX3_readHolds_70 ⟨Nat.le_of_ble_eq_true rfl, Nat.le_of_ble_eq_true rfl⟩) hP hD hS hA [8, 9] [0, 1, 2, 3, 4, 5, 6, 7] rfl rfl (by decide) (by decide) (fun r23 u22 H locs w24 hP hD hS => ?_)
        obtain ⟨k25e, k25⟩ := w24
        have k25q : enN (TS 0) (u15 1 0) (u15 2 0) = enN (TS 0) (RS 1 0) (pE (TS 0) (RS 1 0) (pE (TS 0) (RS 1 0) (pE (TS 0) (RS 1 0) (pE (TS 0) (RS 1 0) v_b)))) := by rw [k18.2.2.1, k18.1]
        have k25 : RdAt u22 (TS 0) (RS 1 0) (pE (TS 0) (RS 1 0) (pE (TS 0) (RS 1 0) (pE (TS 0) (RS 1 0) (pE (TS 0) (RS 1 0) v_b)))) := by rw [k18.2.2.1, k18.1] at k25; exact k25
        have k25l := (pE_le (t := (TS 0)) k18l).2
        rw [k25q] at k25e
        subst k25e
        have k25b := enN_le (TS 0) (RS 1 0) (pE (TS 0) (RS 1 0) (pE (TS 0) (RS 1 0) (pE (TS 0) (RS 1 0) (pE (TS 0) (RS 1 0) v_b))))
        obtain ⟨hP, hD⟩ : wPD D A [(Lh, .inr (0, [.int (nI (LS 0 0)), .ref La1, .ref La2, .int (nI (LS 3 0)), .ref La4, .ref La5, .int (nI (LS 6 0)), .ref La7, .ref La8, .ref La9, .int (nI (LS 10 0)), .int (nI (LS 11 0))])), (La1, .inl (cI, 6, .inl (nF (LS 1)))), (La2, .inl (cI, 6, .inl (nF (LS 2)))), (La4, .inl (cI, 5, .inl (nF (LS 4)))), (La5, .inl (cI, 30, .inl (nF (un (LS 5) (((pV (TS 0) (RS 1 0) (pE (TS 0) (RS 1 0) v_b)) * 6) + (pV (TS 0) (RS 1 0) (pE (TS 0) (RS 1 0) (pE (TS 0) (RS 1 0) v_b)))) (pV (TS 0) (RS 1 0) (pE (TS 0) (RS 1 0) (pE (TS 0) (RS 1 0) (pE (TS 0) (RS 1 0) v_b)))))))), (La7, .inl (cI, 5, .inl (nF (LS 7)))), (La8, .inl (cI, 5, .inl (nF (LS 8)))), (La9, .inl (cI, 5, .inl (nF (LS 9)))), (Rh, .inr (3, [.ref Th, .int (nI (u22 1 0)), .int (nI (u22 2 0)), .int (nI (u22 3 0)), .int (nI (u22 4 0)), .int (nI (u22 5 0))])), (Th, .inl (cI, 180, .inl (nF (TS 0))))] H := ⟨hP, hD⟩
        exact en_z hx hb hr hlk hP hD hS (u22, ua LS 5 (un (LS 5) (((pV (TS 0) (RS 1 0) (pE (TS 0) (RS 1 0) v_b)) * 6) + (pV (TS 0) (RS 1 0) (pE (TS 0) (RS 1 0) (pE (TS 0) (RS 1 0) v_b)))) (pV (TS 0) (RS 1 0) (pE (TS 0) (RS 1 0) (pE (TS 0) (RS 1 0) (pE (TS 0) (RS 1 0) v_b)))))) [8, 9, 0, 1, 2, 3, 4, 5, 6, 7] (by decide) rfl (Nat.le_of_ble_eq_true rfl) (Nat.le_of_ble_eq_true rfl) dX3_readHolds_73 (b01 (by omega)) (by unfold holdF; rw [if_neg (show ¬ ok1 (TS 0) (RS 1 0) (pE (TS 0) (RS 1 0) v_b) 0 (LS 3 0) = 0 by omega), if_neg (show ¬ ok1 (TS 0) (RS 1 0) (pE (TS 0) (RS 1 0) (pE (TS 0) (RS 1 0) v_b)) 0 (LS 0 0) = 0 by omega), if_neg (show ¬ okN (TS 0) (RS 1 0) (pE (TS 0) (RS 1 0) (pE (TS 0) (RS 1 0) (pE (TS 0) (RS 1 0) v_b))) 0 9 = 0 by omega)]; exact ⟨rfl, k25, rfl⟩)
      · skip
        refine lv_iconst (v := nI 0) hx hb dX3_readHolds_52 (by decide) ?_
        exact en_z hx hb hr hlk hP hD hS (u15, LS) [8, 9, 0, 1, 2, 3, 4, 5, 6, 7] (by decide) rfl (Nat.le_of_ble_eq_true rfl) (Nat.le_of_ble_eq_true rfl) dX3_readHolds_53 rfl (by unfold holdF; rw [if_neg (show ¬ ok1 (TS 0) (RS 1 0) (pE (TS 0) (RS 1 0) v_b) 0 (LS 3 0) = 0 by omega), if_neg (show ¬ ok1 (TS 0) (RS 1 0) (pE (TS 0) (RS 1 0) (pE (TS 0) (RS 1 0) v_b)) 0 (LS 0 0) = 0 by omega), if_pos (show okN (TS 0) (RS 1 0) (pE (TS 0) (RS 1 0) (pE (TS 0) (RS 1 0) (pE (TS 0) (RS 1 0) v_b))) 0 9 = 0 by omega)]; exact ⟨rfl, k18, rfl⟩)
    · skip
      refine lv_iconst (v := nI 0) hx hb dX3_readHolds_35 (by decide) ?_
      exact en_z hx hb hr hlk hP hD hS (u8, LS) [8, 9, 0, 1, 2, 3, 4, 5, 6, 7] (by decide) rfl (Nat.le_of_ble_eq_true rfl) (Nat.le_of_ble_eq_true rfl) dX3_readHolds_36 rfl (by unfold holdF; rw [if_neg (show ¬ ok1 (TS 0) (RS 1 0) (pE (TS 0) (RS 1 0) v_b) 0 (LS 3 0) = 0 by omega), if_pos (show ok1 (TS 0) (RS 1 0) (pE (TS 0) (RS 1 0) (pE (TS 0) (RS 1 0) v_b)) 0 (LS 0 0) = 0 by omega)]; exact ⟨rfl, k11, rfl⟩)
  · skip
    refine lv_iconst (v := nI 0) hx hb dX3_readHolds_14 (by decide) ?_
    exact en_z hx hb hr hlk hP hD hS (u1, LS) [8, 9, 0, 1, 2, 3, 4, 5, 6, 7] (by decide) rfl (Nat.le_of_ble_eq_true rfl) (Nat.le_of_ble_eq_true rfl) dX3_readHolds_15 rfl (by unfold holdF; rw [if_pos (show ok1 (TS 0) (RS 1 0) (pE (TS 0) (RS 1 0) v_b) 0 (LS 3 0) = 0 by omega)]; exact ⟨rfl, k4, rfl⟩)
set_option maxRecDepth 20000 in
theorem dAX3_readDebt : decA cX3_readDebt [(0, .aload_n 1, 1), (1, .getfield 90, 3), (4, .iconst 5, 1), (5, .if_icmp .lt 5, 3), (8, .iconst 0, 1), (9, .ireturn, 1), (10, .aload_n 0, 1), (11, .iconst 0, 1), (12, .aload_n 1, 1), (13, .getfield 81, 3), (16, .iconst 1, 1), (17, .isub, 1), (18, .invokevirtual 67, 3), (21, .ifCond .ne 5, 3), (24, .iconst 0, 1), (25, .ireturn, 1), (26, .aload_n 0, 1), (27, .getfield 28, 3), (30, .istore_n 2, 1), (31, .aload_n 0, 1), (32, .iconst 0, 1), (33, .aload_n 1, 1), (34, .getfield 81, 3), (37, .iconst 1, 1), (38, .isub, 1), (39, .invokevirtual 67, 3), (42, .ifCond .eq 11, 3), (45, .aload_n 0, 1), (46, .getfield 28, 3), (49, .iload_n 2, 1), (50, .if_icmp .ne 5, 3), (53, .iconst 0, 1), (54, .ireturn, 1), (55, .aload_n 0, 1), (56, .getfield 28, 3), (59, .istore_n 3, 1), (60, .aload_n 0, 1), (61, .iconst 1, 1), (62, .bipush 60, 2), (64, .invokevirtual 67, 3), (67, .ifCond .ne 5, 3), (70, .iconst 0, 1), (71, .ireturn, 1), (72, .aload_n 1, 1), (73, .getfield 93, 3), (76, .aload_n 1, 1), (77, .getfield 90, 3), (80, .iload_n 2, 1), (81, .iastore, 1), (82, .aload_n 1, 1), (83, .getfield 96, 3), (86, .aload_n 1, 1), (87, .getfield 90, 3), (90, .iload_n 3, 1), (91, .iastore, 1), (92, .aload_n 1, 1), (93, .getfield 99, 3), (96, .aload_n 1, 1), (97, .getfield 90, 3), (100, .aload_n 0, 1), (101, .getfield 28, 3), (104, .iastore, 1), (105, .aload_n 1, 1), (106, .dup, 1), (107, .getfield 90, 3), (110, .iconst 1, 1), (111, .iadd, 1), (112, .putfield 90, 3), (115, .aload_n 0, 1), (116, .invokevirtual 77, 3), (119, .ireturn, 1)] = true := by decide +kernel
theorem dX3_readDebt_0 : decode cX3_readDebt 0 = .ok (.aload_n 1, 1) := decA_get dAX3_readDebt 0 rfl
theorem dX3_readDebt_1 : decode cX3_readDebt 1 = .ok (.getfield 90, 3) := decA_get dAX3_readDebt 1 rfl
theorem in_X3_readDebt_0 : ∀ w ∈ wsX00, w ∈ wsX3_readDebt := fun w h => (gd_ids wi_X3_readDebt wm_X3_readDebt wi_X00 (by decide +kernel) w h).1
theorem dX3_readDebt_4 : decode cX3_readDebt 4 = .ok (.iconst 5, 1) := decA_get dAX3_readDebt 2 rfl
theorem dX3_readDebt_5 : decode cX3_readDebt 5 = .ok (.if_icmp .lt 5, 3) := decA_get dAX3_readDebt 3 rfl
theorem dX3_readDebt_10 : decode cX3_readDebt 10 = .ok (.aload_n 0, 1) := decA_get dAX3_readDebt 6 rfl
theorem dX3_readDebt_11 : decode cX3_readDebt 11 = .ok (.iconst 0, 1) := decA_get dAX3_readDebt 7 rfl
theorem dX3_readDebt_12 : decode cX3_readDebt 12 = .ok (.aload_n 1, 1) := decA_get dAX3_readDebt 8 rfl
theorem dX3_readDebt_13 : decode cX3_readDebt 13 = .ok (.getfield 81, 3) := decA_get dAX3_readDebt 9 rfl
theorem dX3_readDebt_16 : decode cX3_readDebt 16 = .ok (.iconst 1, 1) := decA_get dAX3_readDebt 10 rfl
theorem dX3_readDebt_17 : decode cX3_readDebt 17 = .ok (.isub, 1) := decA_get dAX3_readDebt 11 rfl
theorem dX3_readDebt_18 : decode cX3_readDebt 18 = .ok (.invokevirtual 67, 3) := decA_get dAX3_readDebt 12 rfl
set_option maxRecDepth 20000 in
theorem ggX3_readDebt_X3_readNumber : GoodIn wsX3_readDebt wsX3_readNumber := gd_ids wi_X3_readDebt wm_X3_readDebt wi_X3_readNumber (by decide +kernel)
set_option maxRecDepth 20000 in
theorem gX3_readDebt_X3_readNumber : GoodIn wsX3_readDebt (wsV RX3 67 RX3 yX3_readNumber wsX3_readNumber) := goodIn_app (gd_ids wi_X3_readDebt wm_X3_readDebt (b := [192, 193, 194, 180]) rfl (by decide +kernel)) ggX3_readDebt_X3_readNumber
theorem dX3_readDebt_21 : decode cX3_readDebt 21 = .ok (.ifCond .ne 5, 3) := decA_get dAX3_readDebt 13 rfl
theorem dX3_readDebt_26 : decode cX3_readDebt 26 = .ok (.aload_n 0, 1) := decA_get dAX3_readDebt 16 rfl
theorem dX3_readDebt_27 : decode cX3_readDebt 27 = .ok (.getfield 28, 3) := decA_get dAX3_readDebt 17 rfl
theorem in_X3_readDebt_3 : ∀ w ∈ wsX30, w ∈ wsX3_readDebt := fun w h => (gd_ids wi_X3_readDebt wm_X3_readDebt wi_X30 (by decide +kernel) w h).1
theorem dX3_readDebt_30 : decode cX3_readDebt 30 = .ok (.istore_n 2, 1) := decA_get dAX3_readDebt 18 rfl
theorem dX3_readDebt_31 : decode cX3_readDebt 31 = .ok (.aload_n 0, 1) := decA_get dAX3_readDebt 19 rfl
theorem dX3_readDebt_32 : decode cX3_readDebt 32 = .ok (.iconst 0, 1) := decA_get dAX3_readDebt 20 rfl
theorem dX3_readDebt_33 : decode cX3_readDebt 33 = .ok (.aload_n 1, 1) := decA_get dAX3_readDebt 21 rfl
theorem dX3_readDebt_34 : decode cX3_readDebt 34 = .ok (.getfield 81, 3) := decA_get dAX3_readDebt 22 rfl
theorem dX3_readDebt_37 : decode cX3_readDebt 37 = .ok (.iconst 1, 1) := decA_get dAX3_readDebt 23 rfl
theorem dX3_readDebt_38 : decode cX3_readDebt 38 = .ok (.isub, 1) := decA_get dAX3_readDebt 24 rfl
theorem dX3_readDebt_39 : decode cX3_readDebt 39 = .ok (.invokevirtual 67, 3) := decA_get dAX3_readDebt 25 rfl
theorem dX3_readDebt_42 : decode cX3_readDebt 42 = .ok (.ifCond .eq 11, 3) := decA_get dAX3_readDebt 26 rfl
theorem dX3_readDebt_53 : decode cX3_readDebt 53 = .ok (.iconst 0, 1) := decA_get dAX3_readDebt 31 rfl
theorem dX3_readDebt_54 : decode cX3_readDebt 54 = .ok (.ireturn, 1) := decA_get dAX3_readDebt 32 rfl
theorem dX3_readDebt_45 : decode cX3_readDebt 45 = .ok (.aload_n 0, 1) := decA_get dAX3_readDebt 27 rfl
theorem dX3_readDebt_46 : decode cX3_readDebt 46 = .ok (.getfield 28, 3) := decA_get dAX3_readDebt 28 rfl
theorem dX3_readDebt_49 : decode cX3_readDebt 49 = .ok (.iload_n 2, 1) := decA_get dAX3_readDebt 29 rfl
theorem dX3_readDebt_50 : decode cX3_readDebt 50 = .ok (.if_icmp .ne 5, 3) := decA_get dAX3_readDebt 30 rfl
theorem dX3_readDebt_55 : decode cX3_readDebt 55 = .ok (.aload_n 0, 1) := decA_get dAX3_readDebt 33 rfl
theorem dX3_readDebt_56 : decode cX3_readDebt 56 = .ok (.getfield 28, 3) := decA_get dAX3_readDebt 34 rfl
theorem dX3_readDebt_59 : decode cX3_readDebt 59 = .ok (.istore_n 3, 1) := decA_get dAX3_readDebt 35 rfl
theorem dX3_readDebt_60 : decode cX3_readDebt 60 = .ok (.aload_n 0, 1) := decA_get dAX3_readDebt 36 rfl
theorem dX3_readDebt_61 : decode cX3_readDebt 61 = .ok (.iconst 1, 1) := decA_get dAX3_readDebt 37 rfl
theorem dX3_readDebt_62 : decode cX3_readDebt 62 = .ok (.bipush 60, 2) := decA_get dAX3_readDebt 38 rfl
theorem dX3_readDebt_64 : decode cX3_readDebt 64 = .ok (.invokevirtual 67, 3) := decA_get dAX3_readDebt 39 rfl
theorem dX3_readDebt_67 : decode cX3_readDebt 67 = .ok (.ifCond .ne 5, 3) := decA_get dAX3_readDebt 40 rfl
theorem dX3_readDebt_72 : decode cX3_readDebt 72 = .ok (.aload_n 1, 1) := decA_get dAX3_readDebt 43 rfl
theorem dX3_readDebt_73 : decode cX3_readDebt 73 = .ok (.getfield 93, 3) := decA_get dAX3_readDebt 44 rfl
theorem dX3_readDebt_76 : decode cX3_readDebt 76 = .ok (.aload_n 1, 1) := decA_get dAX3_readDebt 45 rfl
theorem dX3_readDebt_77 : decode cX3_readDebt 77 = .ok (.getfield 90, 3) := decA_get dAX3_readDebt 46 rfl
theorem dX3_readDebt_80 : decode cX3_readDebt 80 = .ok (.iload_n 2, 1) := decA_get dAX3_readDebt 47 rfl
theorem dX3_readDebt_81 : decode cX3_readDebt 81 = .ok (.iastore, 1) := decA_get dAX3_readDebt 48 rfl
theorem dX3_readDebt_82 : decode cX3_readDebt 82 = .ok (.aload_n 1, 1) := decA_get dAX3_readDebt 49 rfl
theorem dX3_readDebt_83 : decode cX3_readDebt 83 = .ok (.getfield 96, 3) := decA_get dAX3_readDebt 50 rfl
theorem dX3_readDebt_86 : decode cX3_readDebt 86 = .ok (.aload_n 1, 1) := decA_get dAX3_readDebt 51 rfl
theorem dX3_readDebt_87 : decode cX3_readDebt 87 = .ok (.getfield 90, 3) := decA_get dAX3_readDebt 52 rfl
theorem dX3_readDebt_90 : decode cX3_readDebt 90 = .ok (.iload_n 3, 1) := decA_get dAX3_readDebt 53 rfl
theorem dX3_readDebt_91 : decode cX3_readDebt 91 = .ok (.iastore, 1) := decA_get dAX3_readDebt 54 rfl
theorem dX3_readDebt_92 : decode cX3_readDebt 92 = .ok (.aload_n 1, 1) := decA_get dAX3_readDebt 55 rfl
theorem dX3_readDebt_93 : decode cX3_readDebt 93 = .ok (.getfield 99, 3) := decA_get dAX3_readDebt 56 rfl
theorem dX3_readDebt_96 : decode cX3_readDebt 96 = .ok (.aload_n 1, 1) := decA_get dAX3_readDebt 57 rfl
theorem dX3_readDebt_97 : decode cX3_readDebt 97 = .ok (.getfield 90, 3) := decA_get dAX3_readDebt 58 rfl
theorem dX3_readDebt_100 : decode cX3_readDebt 100 = .ok (.aload_n 0, 1) := decA_get dAX3_readDebt 59 rfl
theorem dX3_readDebt_101 : decode cX3_readDebt 101 = .ok (.getfield 28, 3) := decA_get dAX3_readDebt 60 rfl
theorem dX3_readDebt_104 : decode cX3_readDebt 104 = .ok (.iastore, 1) := decA_get dAX3_readDebt 61 rfl
theorem dX3_readDebt_105 : decode cX3_readDebt 105 = .ok (.aload_n 1, 1) := decA_get dAX3_readDebt 62 rfl
theorem dX3_readDebt_106 : decode cX3_readDebt 106 = .ok (.dup, 1) := decA_get dAX3_readDebt 63 rfl
theorem dX3_readDebt_107 : decode cX3_readDebt 107 = .ok (.getfield 90, 3) := decA_get dAX3_readDebt 64 rfl
theorem dX3_readDebt_110 : decode cX3_readDebt 110 = .ok (.iconst 1, 1) := decA_get dAX3_readDebt 65 rfl
theorem dX3_readDebt_111 : decode cX3_readDebt 111 = .ok (.iadd, 1) := decA_get dAX3_readDebt 66 rfl
theorem dX3_readDebt_112 : decode cX3_readDebt 112 = .ok (.putfield 90, 3) := decA_get dAX3_readDebt 67 rfl
theorem dX3_readDebt_115 : decode cX3_readDebt 115 = .ok (.aload_n 0, 1) := decA_get dAX3_readDebt 68 rfl
theorem dX3_readDebt_116 : decode cX3_readDebt 116 = .ok (.invokevirtual 77, 3) := decA_get dAX3_readDebt 69 rfl
set_option maxRecDepth 20000 in
theorem ggX3_readDebt_X3_readEnding : GoodIn wsX3_readDebt wsX3_readEnding := gd_ids wi_X3_readDebt wm_X3_readDebt wi_X3_readEnding (by decide +kernel)
set_option maxRecDepth 20000 in
theorem gX3_readDebt_X3_readEnding : GoodIn wsX3_readDebt (wsV RX3 77 RX3 yX3_readEnding wsX3_readEnding) := goodIn_app (gd_ids wi_X3_readDebt wm_X3_readDebt (b := [195, 196, 197, 180]) rfl (by decide +kernel)) ggX3_readDebt_X3_readEnding
theorem dX3_readDebt_119 : decode cX3_readDebt 119 = .ok (.ireturn, 1) := decA_get dAX3_readDebt 70 rfl
theorem dX3_readDebt_70 : decode cX3_readDebt 70 = .ok (.iconst 0, 1) := decA_get dAX3_readDebt 41 rfl
theorem dX3_readDebt_71 : decode cX3_readDebt 71 = .ok (.ireturn, 1) := decA_get dAX3_readDebt 42 rfl
theorem dX3_readDebt_24 : decode cX3_readDebt 24 = .ok (.iconst 0, 1) := decA_get dAX3_readDebt 14 rfl
theorem dX3_readDebt_25 : decode cX3_readDebt 25 = .ok (.ireturn, 1) := decA_get dAX3_readDebt 15 rfl
theorem dX3_readDebt_8 : decode cX3_readDebt 8 = .ok (.iconst 0, 1) := decA_get dAX3_readDebt 4 rfl
theorem dX3_readDebt_9 : decode cX3_readDebt 9 = .ok (.ireturn, 1) := decA_get dAX3_readDebt 5 rfl
set_option maxHeartbeats 4000000 in
set_option maxRecDepth 100000 in
theorem g_readDebt (l : Launch) (D : va_G) (cI cB cZ cN : ClassId) (Rh : Nat) (RS : Nat → Nat → Nat) (Th : Nat) (TS : Nat → Nat → Nat) (Lh : Nat) (La1 : Nat) (La2 : Nat) (La4 : Nat) (La5 : Nat) (La7 : Nat) (La8 : Nat) (La9 : Nat) (LS : Nat → Nat → Nat) (v_b : Nat) (hT : ∀ j, TS 0 j < 256) (h2 : RS 1 0 ≤ 180) (hR : RdAt RS (TS 0) (RS 1 0) v_b) (hvb : v_b ≤ RS 1 0) (hL : LandOk LS) : Ci (S := (Nat → Nat → Nat) × (Nat → Nat → Nat)) l D cI cB cZ cN yX3_readDebt wsX3_readDebt ({ frames := 3, cells := 0, slots := 0, locals := 64 } : Room) [.ref Rh, .ref Lh] [(Rh, .inr (3, [.ref Th, .int (nI (RS 1 0)), .int (nI (RS 2 0)), .int (nI (RS 3 0)), .int (nI (RS 4 0)), .int (nI (RS 5 0))])), (Th, .inl (cI, 180, .inl (nF (TS 0)))), (Lh, .inr (0, [.int (nI (LS 0 0)), .ref La1, .ref La2, .int (nI (LS 3 0)), .ref La4, .ref La5, .int (nI (LS 6 0)), .ref La7, .ref La8, .ref La9, .int (nI (LS 10 0)), .int (nI (LS 11 0))])), (La1, .inl (cI, 6, .inl (nF (LS 1)))), (La2, .inl (cI, 6, .inl (nF (LS 2)))), (La4, .inl (cI, 5, .inl (nF (LS 4)))), (La5, .inl (cI, 30, .inl (nF (LS 5)))), (La7, .inl (cI, 5, .inl (nF (LS 7)))), (La8, .inl (cI, 5, .inl (nF (LS 8)))), (La9, .inl (cI, 5, .inl (nF (LS 9))))] (fun (r : Int32) (u : (Nat → Nat → Nat) × (Nat → Nat → Nat)) => r = nI (debtF (TS 0) (RS 1 0) v_b LS).1 ∧ RdAt u.1 (TS 0) (RS 1 0) (debtF (TS 0) (RS 1 0) v_b LS).2.1 ∧ u.2 = (debtF (TS 0) (RS 1 0) v_b LS).2.2) (fun u => [(Rh, .inr (3, [.ref Th, .int (nI (u.1 1 0)), .int (nI (u.1 2 0)), .int (nI (u.1 3 0)), .int (nI (u.1 4 0)), .int (nI (u.1 5 0))])), (Th, .inl (cI, 180, .inl (nF (TS 0)))), (Lh, .inr (0, [.int (nI (u.2 0 0)), .ref La1, .ref La2, .int (nI (u.2 3 0)), .ref La4, .ref La5, .int (nI (u.2 6 0)), .ref La7, .ref La8, .ref La9, .int (nI (u.2 10 0)), .int (nI (u.2 11 0))])), (La1, .inl (cI, 6, .inl (nF (u.2 1)))), (La2, .inl (cI, 6, .inl (nF (u.2 2)))), (La4, .inl (cI, 5, .inl (nF (u.2 4)))), (La5, .inl (cI, 30, .inl (nF (u.2 5)))), (La7, .inl (cI, 5, .inl (nF (u.2 7)))), (La8, .inl (cI, 5, .inl (nF (u.2 8)))), (La9, .inl (cI, 5, .inl (nF (u.2 9))))]) := by
  refine bx_of (D := D) (cI := cI) (cB := cB) (cZ := cZ) (cN := cN) (y := yX3_readDebt) (wd := wsX3_readDebt) (rm := ({ frames := 3, cells := 0, slots := 0, locals := 64 } : Room)) (av := [.ref Rh, .ref Lh]) (wc := [(Rh, .inr (3, [.ref Th, .int (nI (RS 1 0)), .int (nI (RS 2 0)), .int (nI (RS 3 0)), .int (nI (RS 4 0)), .int (nI (RS 5 0))])), (Th, .inl (cI, 180, .inl (nF (TS 0)))), (Lh, .inr (0, [.int (nI (LS 0 0)), .ref La1, .ref La2, .int (nI (LS 3 0)), .ref La4, .ref La5, .int (nI (LS 6 0)), .ref La7, .ref La8, .ref La9, .int (nI (LS 10 0)), .int (nI (LS 11 0))])), (La1, .inl (cI, 6, .inl (nF (LS 1)))), (La2, .inl (cI, 6, .inl (nF (LS 2)))), (La4, .inl (cI, 5, .inl (nF (LS 4)))), (La5, .inl (cI, 30, .inl (nF (LS 5)))), (La7, .inl (cI, 5, .inl (nF (LS 7)))), (La8, .inl (cI, 5, .inl (nF (LS 8)))), (La9, .inl (cI, 5, .inl (nF (LS 9))))]) (cc := cX3_readDebt) (maxL := 4) (ret := (some .boolean)) (Qc := fun _ A => va_Qi (S := (Nat → Nat → Nat) × (Nat → Nat → Nat)) (fun (r : Int32) (u : (Nat → Nat → Nat) × (Nat → Nat → Nat)) => r = nI (debtF (TS 0) (RS 1 0) v_b LS).1 ∧ RdAt u.1 (TS 0) (RS 1 0) (debtF (TS 0) (RS 1 0) v_b LS).2.1 ∧ u.2 = (debtF (TS 0) (RS 1 0) v_b LS).2.2) (Aft D (fun (u : (Nat → Nat → Nat) × (Nat → Nat → Nat)) => [(Rh, .inr (3, [.ref Th, .int (nI (u.1 1 0)), .int (nI (u.1 2 0)), .int (nI (u.1 3 0)), .int (nI (u.1 4 0)), .int (nI (u.1 5 0))])), (Th, .inl (cI, 180, .inl (nF (TS 0)))), (Lh, .inr (0, [.int (nI (u.2 0 0)), .ref La1, .ref La2, .int (nI (u.2 3 0)), .ref La4, .ref La5, .int (nI (u.2 6 0)), .ref La7, .ref La8, .ref La9, .int (nI (u.2 10 0)), .int (nI (u.2 11 0))])), (La1, .inl (cI, 6, .inl (nF (u.2 1)))), (La2, .inl (cI, 6, .inl (nF (u.2 2)))), (La4, .inl (cI, 5, .inl (nF (u.2 4)))), (La5, .inl (cI, 30, .inl (nF (u.2 5)))), (La7, .inl (cI, 5, .inl (nF (u.2 7)))), (La8, .inl (cI, 5, .inl (nF (u.2 8)))), (La9, .inl (cI, 5, .inl (nF (u.2 9))))]) A) A) (by decide) rfl (Nat.le_of_ble_eq_true rfl) ?_
  intro p e s m below meth c A H locs ⟨hx, hb, hr, hml, hown, hts, hlk, hnm⟩ hK hP hD hS hA ls hl
  have hl : lv_has ls 4 [(0, .ref Rh), (1, .ref Lh)] := hl
  have hown : s.vm.findClass RX3 = some m.cls := hown
  have hL0 := hL
  obtain ⟨bl0, bl3, bl6, bl10, bl11, bl1, bl2, bl4, bl5, bl7, bl8, bl9⟩ := hL
  refine lv_aload_n hx hb dX3_readDebt_0 rfl (lv_at hl 1 rfl) ?_
  refine va_getN (D := D) (ci := 0) (v := .int (nI (LS 6 0))) (C := RX0) (T := TX0) (N := 12) hx hb hts in_X3_readDebt_0 hown hK.1 hP 2 rfl rfl 6 (by decide) (nfX3_90 hK.2) (fun _ h9 => h9) rfl dX3_readDebt_1 ?_
  refine lv_iconst (v := nI 5) hx hb dX3_readDebt_4 (by decide) ?_
  refine nb_icmp_lt (tgt := 10) hx hb dX3_readDebt_5 (by decide) (by omega) (by omega) (fun hq1 => ?_) (fun hq1 => ?_)
  · skip
    refine lv_aload_n hx hb dX3_readDebt_10 rfl (lv_at hl 0 rfl) ?_
    refine lv_iconst (v := nI 0) hx hb dX3_readDebt_11 (by decide) ?_
    refine lv_aload_n hx hb dX3_readDebt_12 rfl (lv_at hl 1 rfl) ?_
    refine va_getN (D := D) (ci := 0) (v := .int (nI (LS 3 0))) (C := RX0) (T := TX0) (N := 12) hx hb hts in_X3_readDebt_0 hown hK.1 hP 2 rfl rfl 3 (by decide) (nfX3_81 hK.2) (fun _ h9 => h9) rfl dX3_readDebt_13 ?_
    refine lv_iconst (v := nI 1) hx hb dX3_readDebt_16 (by decide) ?_
    refine lv_isub hx hb dX3_readDebt_17 ?_
    refine be_i (free := fun _ => False) (wr := [(Lh, .inr (0, [.int (nI (LS 0 0)), .ref La1, .ref La2, .int (nI (LS 3 0)), .ref La4, .ref La5, .int (nI (LS 6 0)), .ref La7, .ref La8, .ref La9, .int (nI (LS 10 0)), .int (nI (LS 11 0))])), (La1, .inl (cI, 6, .inl (nF (LS 1)))), (La2, .inl (cI, 6, .inl (nF (LS 2)))), (La4, .inl (cI, 5, .inl (nF (LS 4)))), (La5, .inl (cI, 30, .inl (nF (LS 5)))), (La7, .inl (cI, 5, .inl (nF (LS 7)))), (La8, .inl (cI, 5, .inl (nF (LS 8)))), (La9, .inl (cI, 5, .inl (nF (LS 9))))]) (ru_V (As := [.int (nI 0), .int (nI (LS 3 0) - nI 1)]) (rest := []) ⟨hx, hb, hml, hown, hts⟩ (g_readNumberB l D cI cB cZ cN Rh RS Th TS 0 (LS 3 0) hT (by rw [hR.2.2.1, hR.1]; exact (pE_le hvb).2) (by rw [hR.1]; exact h2) (by omega) (by omega) H.size) gX3_readDebt_X3_readNumber rfl ⟨rfl, by decide, by decide, (show Option.map (fun d => d.parameters.length) (parseMethodDescriptor yX3_readNumber.desc) = some 2 by decide +kernel)⟩ ⟨Nat.le_of_ble_eq_true rfl, Nat.le_of_ble_eq_true rfl⟩ hK hP hD 3 0 rfl rfl [0, 1] (by decide) rfl hl.1 rfl (Nat.le_of_ble_eq_true rfl) dX3_readDebt_18 ⟨Nat.le_of_ble_eq_true rfl, Nat.le_of_ble_eq_true rfl⟩) hP hD hS hA [0, 1] [2, 3, 4, 5, 6, 7, 8, 9] rfl rfl (by decide) (by decide) (fun r3 u2 H locs w4 hP hD hS => ?_)
    obtain ⟨k5e, k5⟩ := w4
    have k5q : ok1 (TS 0) (RS 1 0) (RS 2 0) 0 (LS 3 0) = ok1 (TS 0) (RS 1 0) (pE (TS 0) (RS 1 0) v_b) 0 (LS 3 0) := by rw [hR.2.2.1, hR.1]
    have k5 : RdAt u2 (TS 0) (RS 1 0) (pE (TS 0) (RS 1 0) v_b) := by rw [hR.2.2.1, hR.1] at k5; exact k5
    have k5l := (pE_le (t := (TS 0)) hvb).2
    rw [k5q] at k5e
    subst k5e
    have k5b := ok1_le (TS 0) (RS 1 0) (pE (TS 0) (RS 1 0) v_b) 0 (LS 3 0)
    obtain ⟨hP, hD⟩ : wPD D A [(Lh, .inr (0, [.int (nI (LS 0 0)), .ref La1, .ref La2, .int (nI (LS 3 0)), .ref La4, .ref La5, .int (nI (LS 6 0)), .ref La7, .ref La8, .ref La9, .int (nI (LS 10 0)), .int (nI (LS 11 0))])), (La1, .inl (cI, 6, .inl (nF (LS 1)))), (La2, .inl (cI, 6, .inl (nF (LS 2)))), (La4, .inl (cI, 5, .inl (nF (LS 4)))), (La5, .inl (cI, 30, .inl (nF (LS 5)))), (La7, .inl (cI, 5, .inl (nF (LS 7)))), (La8, .inl (cI, 5, .inl (nF (LS 8)))), (La9, .inl (cI, 5, .inl (nF (LS 9)))), (Rh, .inr (3, [.ref Th, .int (nI (u2 1 0)), .int (nI (u2 2 0)), .int (nI (u2 3 0)), .int (nI (u2 4 0)), .int (nI (u2 5 0))])), (Th, .inl (cI, 180, .inl (nF (TS 0))))] H := ⟨hP, hD⟩
    refine nb_if_ne (tgt := 26) hx hb dX3_readDebt_21 (by decide) (by omega) (fun hq6 => ?_) (fun hq6 => ?_)
    · skip
      refine lv_aload_n hx hb dX3_readDebt_26 rfl (lv_at hl 0 rfl) ?_
      refine va_get (D := D) (ci := 3) (v := .int (nI (u2 5 0))) (C := RX3) (T := TX3) (N := 6) hx hb hts in_X3_readDebt_3 hown hK.1 hP 8 rfl rfl 5 (by decide) (hts (.fieldLink RX3 28 "ChildCoins$Reader" "value" "I") (List.mem_of_getElem? (i := 1) rfl)) (fun _ h9 => h9) rfl dX3_readDebt_27 ?_
      refine set_i (y := nI (pV (TS 0) (RS 1 0) (pE (TS 0) (RS 1 0) v_b))) (congrArg nI k5.2.2.2.2) ?_
      have b7 := pV_le hT (RS 1 0) (pE (TS 0) (RS 1 0) v_b)
      refine lv_istore_n (lv' := [(2, .int (nI (pV (TS 0) (RS 1 0) (pE (TS 0) (RS 1 0) v_b)))), (0, .ref Rh), (1, .ref Lh)]) hx hb dX3_readDebt_30 rfl hl (by decide) rfl (fun ls hl => ?_)
      refine lv_aload_n hx hb dX3_readDebt_31 rfl (lv_at hl 1 rfl) ?_
      refine lv_iconst (v := nI 0) hx hb dX3_readDebt_32 (by decide) ?_
      refine lv_aload_n hx hb dX3_readDebt_33 rfl (lv_at hl 2 rfl) ?_
      refine va_getN (D := D) (ci := 0) (v := .int (nI (LS 3 0))) (C := RX0) (T := TX0) (N := 12) hx hb hts in_X3_readDebt_0 hown hK.1 hP 0 rfl rfl 3 (by decide) (nfX3_81 hK.2) (fun _ h9 => h9) rfl dX3_readDebt_34 ?_
      refine lv_iconst (v := nI 1) hx hb dX3_readDebt_37 (by decide) ?_
      refine lv_isub hx hb dX3_readDebt_38 ?_
      refine be_i (free := fun _ => False) (wr := [(Lh, .inr (0, [.int (nI (LS 0 0)), .ref La1, .ref La2, .int (nI (LS 3 0)), .ref La4, .ref La5, .int (nI (LS 6 0)), .ref La7, .ref La8, .ref La9, .int (nI (LS 10 0)), .int (nI (LS 11 0))])), (La1, .inl (cI, 6, .inl (nF (LS 1)))), (La2, .inl (cI, 6, .inl (nF (LS 2)))), (La4, .inl (cI, 5, .inl (nF (LS 4)))), (La5, .inl (cI, 30, .inl (nF (LS 5)))), (La7, .inl (cI, 5, .inl (nF (LS 7)))), (La8, .inl (cI, 5, .inl (nF (LS 8)))), (La9, .inl (cI, 5, .inl (nF (LS 9))))]) (ru_V (As := [.int (nI 0), .int (nI (LS 3 0) - nI 1)]) (rest := []) ⟨hx, hb, hml, hown, hts⟩ (g_readNumberB l D cI cB cZ cN Rh u2 Th TS 0 (LS 3 0) hT (by rw [k5.2.2.1, k5.1]; exact (pE_le k5l).2) (by rw [k5.1]; exact h2) (by omega) (by omega) H.size) gX3_readDebt_X3_readNumber rfl ⟨rfl, by decide, by decide, (show Option.map (fun d => d.parameters.length) (parseMethodDescriptor yX3_readNumber.desc) = some 2 by decide +kernel)⟩ ⟨Nat.le_of_ble_eq_true rfl, Nat.le_of_ble_eq_true rfl⟩ hK hP hD 3 8 rfl rfl [8, 9] (by decide) rfl hl.1 rfl (Nat.le_of_ble_eq_true rfl) dX3_readDebt_39 ⟨Nat.le_of_ble_eq_true rfl, Nat.le_of_ble_eq_true rfl⟩) hP hD hS hA [8, 9] [0, 1, 2, 3, 4, 5, 6, 7] rfl rfl (by decide) (by decide) (fun r9 u8 H locs w10 hP hD hS => ?_)
      obtain ⟨k11e, k11⟩ := w10
      have k11q : ok1 (TS 0) (u2 1 0) (u2 2 0) 0 (LS 3 0) = ok1 (TS 0) (RS 1 0) (pE (TS 0) (RS 1 0) (pE (TS 0) (RS 1 0) v_b)) 0 (LS 3 0) := by rw [k5.2.2.1, k5.1]
      have k11 : RdAt u8 (TS 0) (RS 1 0) (pE (TS 0) (RS 1 0) (pE (TS 0) (RS 1 0) v_b)) := by rw [k5.2.2.1, k5.1] at k11; exact k11
      have k11l := (pE_le (t := (TS 0)) k5l).2
      rw [k11q] at k11e
      subst k11e
      have k11b := ok1_le (TS 0) (RS 1 0) (pE (TS 0) (RS 1 0) (pE (TS 0) (RS 1 0) v_b)) 0 (LS 3 0)
      obtain ⟨hP, hD⟩ : wPD D A [(Lh, .inr (0, [.int (nI (LS 0 0)), .ref La1, .ref La2, .int (nI (LS 3 0)), .ref La4, .ref La5, .int (nI (LS 6 0)), .ref La7, .ref La8, .ref La9, .int (nI (LS 10 0)), .int (nI (LS 11 0))])), (La1, .inl (cI, 6, .inl (nF (LS 1)))), (La2, .inl (cI, 6, .inl (nF (LS 2)))), (La4, .inl (cI, 5, .inl (nF (LS 4)))), (La5, .inl (cI, 30, .inl (nF (LS 5)))), (La7, .inl (cI, 5, .inl (nF (LS 7)))), (La8, .inl (cI, 5, .inl (nF (LS 8)))), (La9, .inl (cI, 5, .inl (nF (LS 9)))), (Rh, .inr (3, [.ref Th, .int (nI (u8 1 0)), .int (nI (u8 2 0)), .int (nI (u8 3 0)), .int (nI (u8 4 0)), .int (nI (u8 5 0))])), (Th, .inl (cI, 180, .inl (nF (TS 0))))] H := ⟨hP, hD⟩
      refine nb_if_eq (tgt := 53) hx hb dX3_readDebt_42 (by decide) (by omega) (fun hq12 => ?_) (fun hq12 => ?_)
      · skip
        refine lv_iconst (v := nI 0) hx hb dX3_readDebt_53 (by decide) ?_
        exact en_z hx hb hr hlk hP hD hS (u8, LS) [8, 9, 0, 1, 2, 3, 4, 5, 6, 7] (by decide) rfl (Nat.le_of_ble_eq_true rfl) (Nat.le_of_ble_eq_true rfl) dX3_readDebt_54 rfl (by unfold debtF; rw [if_neg (show ¬ 5 ≤ LS 6 0 by omega), if_neg (show ¬ ok1 (TS 0) (RS 1 0) (pE (TS 0) (RS 1 0) v_b) 0 (LS 3 0) = 0 by omega), if_pos (show (ok1 (TS 0) (RS 1 0) (pE (TS 0) (RS 1 0) (pE (TS 0) (RS 1 0) v_b)) 0 (LS 3 0) = 0 ∨ pV (TS 0) (RS 1 0) (pE (TS 0) (RS 1 0) (pE (TS 0) (RS 1 0) v_b)) = pV (TS 0) (RS 1 0) (pE (TS 0) (RS 1 0) v_b)) by omega)]; exact ⟨rfl, k11, rfl⟩)
      · skip
        refine lv_aload_n hx hb dX3_readDebt_45 rfl (lv_at hl 1 rfl) ?_
        refine va_get (D := D) (ci := 3) (v := .int (nI (u8 5 0))) (C := RX3) (T := TX3) (N := 6) hx hb hts in_X3_readDebt_3 hown hK.1 hP 8 rfl rfl 5 (by decide) (hts (.fieldLink RX3 28 "ChildCoins$Reader" "value" "I") (List.mem_of_getElem? (i := 1) rfl)) (fun _ h9 => h9) rfl dX3_readDebt_46 ?_
        refine set_i (y := nI (pV (TS 0) (RS 1 0) (pE (TS 0) (RS 1 0) (pE (TS 0) (RS 1 0) v_b)))) (congrArg nI k11.2.2.2.2) ?_
        have b13 := pV_le hT (RS 1 0) (pE (TS 0) (RS 1 0) (pE (TS 0) (RS 1 0) v_b))
        refine lv_iload_n hx hb dX3_readDebt_49 rfl (lv_at hl 0 rfl) ?_
        refine nb_icmp_ne (tgt := 55) hx hb dX3_readDebt_50 (by decide) (by omega) (by omega) (fun hq14 => ?_) (fun hq14 => ?_)
        · skip
          refine lv_aload_n hx hb dX3_readDebt_55 rfl (lv_at hl 1 rfl) ?_
          refine va_get (D := D) (ci := 3) (v := .int (nI (u8 5 0))) (C := RX3) (T := TX3) (N := 6) hx hb hts in_X3_readDebt_3 hown hK.1 hP 8 rfl rfl 5 (by decide) (hts (.fieldLink RX3 28 "ChildCoins$Reader" "value" "I") (List.mem_of_getElem? (i := 1) rfl)) (fun _ h9 => h9) rfl dX3_readDebt_56 ?_
          refine set_i (y := nI (pV (TS 0) (RS 1 0) (pE (TS 0) (RS 1 0) (pE (TS 0) (RS 1 0) v_b)))) (congrArg nI k11.2.2.2.2) ?_
          have b15 := pV_le hT (RS 1 0) (pE (TS 0) (RS 1 0) (pE (TS 0) (RS 1 0) v_b))
          refine lv_istore_n (lv' := [(3, .int (nI (pV (TS 0) (RS 1 0) (pE (TS 0) (RS 1 0) (pE (TS 0) (RS 1 0) v_b))))), (2, .int (nI (pV (TS 0) (RS 1 0) (pE (TS 0) (RS 1 0) v_b)))), (0, .ref Rh), (1, .ref Lh)]) hx hb dX3_readDebt_59 rfl hl (by decide) rfl (fun ls hl => ?_)
          refine lv_aload_n hx hb dX3_readDebt_60 rfl (lv_at hl 2 rfl) ?_
          refine lv_iconst (v := nI 1) hx hb dX3_readDebt_61 (by decide) ?_
          refine lv_bipush (v := nI 60) hx hb dX3_readDebt_62 (by decide) ?_
          refine be_i (free := fun _ => False) (wr := [(Lh, .inr (0, [.int (nI (LS 0 0)), .ref La1, .ref La2, .int (nI (LS 3 0)), .ref La4, .ref La5, .int (nI (LS 6 0)), .ref La7, .ref La8, .ref La9, .int (nI (LS 10 0)), .int (nI (LS 11 0))])), (La1, .inl (cI, 6, .inl (nF (LS 1)))), (La2, .inl (cI, 6, .inl (nF (LS 2)))), (La4, .inl (cI, 5, .inl (nF (LS 4)))), (La5, .inl (cI, 30, .inl (nF (LS 5)))), (La7, .inl (cI, 5, .inl (nF (LS 7)))), (La8, .inl (cI, 5, .inl (nF (LS 8)))), (La9, .inl (cI, 5, .inl (nF (LS 9))))]) (ru_V (As := [.int (nI 1), .int (nI 60)]) (rest := []) ⟨hx, hb, hml, hown, hts⟩ (g_readNumberA l D cI cB cZ cN Rh u8 Th TS 1 60 hT (by rw [k11.2.2.1, k11.1]; exact (pE_le k11l).2) (by rw [k11.1]; exact h2) (by omega) (by omega) H.size) gX3_readDebt_X3_readNumber rfl ⟨rfl, by decide, by decide, (show Option.map (fun d => d.parameters.length) (parseMethodDescriptor yX3_readNumber.desc) = some 2 by decide +kernel)⟩ ⟨Nat.le_of_ble_eq_true rfl, Nat.le_of_ble_eq_true rfl⟩ hK hP hD 3 8 rfl rfl [8, 9] (by decide) rfl hl.1 rfl (Nat.le_of_ble_eq_true rfl) dX3_readDebt_64 ⟨Nat.le_of_ble_eq_true rfl, Nat.le_of_ble_eq_true rfl⟩) hP hD hS hA [8, 9] [0, 1, 2, 3, 4, 5, 6, 7] rfl rfl (by decide) (by decide) (fun r17 u16 H locs w18 hP hD hS => ?_)
          obtain ⟨k19e, k19⟩ := w18
          have k19q : okN (TS 0) (u8 1 0) (u8 2 0) 1 60 = okN (TS 0) (RS 1 0) (pE (TS 0) (RS 1 0) (pE (TS 0) (RS 1 0) (pE (TS 0) (RS 1 0) v_b))) 1 60 := by rw [k11.2.2.1, k11.1]
          have k19 : RdAt u16 (TS 0) (RS 1 0) (pE (TS 0) (RS 1 0) (pE (TS 0) (RS 1 0) (pE (TS 0) (RS 1 0) v_b))) := by rw [k11.2.2.1, k11.1] at k19; exact k19
          have k19l := (pE_le (t := (TS 0)) k11l).2
          rw [k19q] at k19e
          subst k19e
          have k19b := okN_le (TS 0) (RS 1 0) (pE (TS 0) (RS 1 0) (pE (TS 0) (RS 1 0) (pE (TS 0) (RS 1 0) v_b))) 1 60
          obtain ⟨hP, hD⟩ : wPD D A [(Lh, .inr (0, [.int (nI (LS 0 0)), .ref La1, .ref La2, .int (nI (LS 3 0)), .ref La4, .ref La5, .int (nI (LS 6 0)), .ref La7, .ref La8, .ref La9, .int (nI (LS 10 0)), .int (nI (LS 11 0))])), (La1, .inl (cI, 6, .inl (nF (LS 1)))), (La2, .inl (cI, 6, .inl (nF (LS 2)))), (La4, .inl (cI, 5, .inl (nF (LS 4)))), (La5, .inl (cI, 30, .inl (nF (LS 5)))), (La7, .inl (cI, 5, .inl (nF (LS 7)))), (La8, .inl (cI, 5, .inl (nF (LS 8)))), (La9, .inl (cI, 5, .inl (nF (LS 9)))), (Rh, .inr (3, [.ref Th, .int (nI (u16 1 0)), .int (nI (u16 2 0)), .int (nI (u16 3 0)), .int (nI (u16 4 0)), .int (nI (u16 5 0))])), (Th, .inl (cI, 180, .inl (nF (TS 0))))] H := ⟨hP, hD⟩
          refine nb_if_ne (tgt := 72) hx hb dX3_readDebt_67 (by decide) (by omega) (fun hq20 => ?_) (fun hq20 => ?_)
          · skip
            refine lv_aload_n hx hb dX3_readDebt_72 rfl (lv_at hl 3 rfl) ?_
            refine va_getN (D := D) (ci := 0) (v := .ref La7) (C := RX0) (T := TX0) (N := 12) hx hb hts in_X3_readDebt_0 hown hK.1 hP 0 rfl rfl 7 (by decide) (nfX3_93 hK.2) (fun _ h9 => h9) rfl dX3_readDebt_73 ?_
            refine lv_aload_n hx hb dX3_readDebt_76 rfl (lv_at hl 3 rfl) ?_
            refine va_getN (D := D) (ci := 0) (v := .int (nI (LS 6 0))) (C := RX0) (T := TX0) (N := 12) hx hb hts in_X3_readDebt_0 hown hK.1 hP 0 rfl rfl 6 (by decide) (nfX3_90 hK.2) (fun _ h9 => h9) rfl dX3_readDebt_77 ?_
            refine lv_iload_n hx hb dX3_readDebt_80 rfl (lv_at hl 1 rfl) ?_
            refine va_iast hx hb hK.1 hP hD hS 5 0 rfl rfl (vp_in_nI (n := LS 6 0) (N := 5) (by omega) (by decide)) dX3_readDebt_81 (fun H locs hP hD hS => ?_)
            obtain ⟨hP, hD⟩ : wPD D A [(Lh, .inr (0, [.int (nI (LS 0 0)), .ref La1, .ref La2, .int (nI (LS 3 0)), .ref La4, .ref La5, .int (nI (LS 6 0)), .ref La7, .ref La8, .ref La9, .int (nI (LS 10 0)), .int (nI (LS 11 0))])), (La1, .inl (cI, 6, .inl (nF (LS 1)))), (La2, .inl (cI, 6, .inl (nF (LS 2)))), (La4, .inl (cI, 5, .inl (nF (LS 4)))), (La5, .inl (cI, 30, .inl (nF (LS 5)))), (La7, .inl (cI, 5, .inl (upd (nF (LS 7)) (nI (LS 6 0)).toNatClampNeg (nI (pV (TS 0) (RS 1 0) (pE (TS 0) (RS 1 0) v_b)))))), (La8, .inl (cI, 5, .inl (nF (LS 8)))), (La9, .inl (cI, 5, .inl (nF (LS 9)))), (Rh, .inr (3, [.ref Th, .int (nI (u16 1 0)), .int (nI (u16 2 0)), .int (nI (u16 3 0)), .int (nI (u16 4 0)), .int (nI (u16 5 0))])), (Th, .inl (cI, 180, .inl (nF (TS 0))))] H := ⟨hP, hD⟩
            rw [nF_st (by omega)] at hP hD
            refine lv_aload_n hx hb dX3_readDebt_82 rfl (lv_at hl 3 rfl) ?_
            refine va_getN (D := D) (ci := 0) (v := .ref La8) (C := RX0) (T := TX0) (N := 12) hx hb hts in_X3_readDebt_0 hown hK.1 hP 0 rfl rfl 8 (by decide) (nfX3_96 hK.2) (fun _ h9 => h9) rfl dX3_readDebt_83 ?_
            refine lv_aload_n hx hb dX3_readDebt_86 rfl (lv_at hl 3 rfl) ?_
            refine va_getN (D := D) (ci := 0) (v := .int (nI (LS 6 0))) (C := RX0) (T := TX0) (N := 12) hx hb hts in_X3_readDebt_0 hown hK.1 hP 0 rfl rfl 6 (by decide) (nfX3_90 hK.2) (fun _ h9 => h9) rfl dX3_readDebt_87 ?_
            refine lv_iload_n hx hb dX3_readDebt_90 rfl (lv_at hl 0 rfl) ?_
            refine va_iast hx hb hK.1 hP hD hS 6 0 rfl rfl (vp_in_nI (n := LS 6 0) (N := 5) (by omega) (by decide)) dX3_readDebt_91 (fun H locs hP hD hS => ?_)
            obtain ⟨hP, hD⟩ : wPD D A [(Lh, .inr (0, [.int (nI (LS 0 0)), .ref La1, .ref La2, .int (nI (LS 3 0)), .ref La4, .ref La5, .int (nI (LS 6 0)), .ref La7, .ref La8, .ref La9, .int (nI (LS 10 0)), .int (nI (LS 11 0))])), (La1, .inl (cI, 6, .inl (nF (LS 1)))), (La2, .inl (cI, 6, .inl (nF (LS 2)))), (La4, .inl (cI, 5, .inl (nF (LS 4)))), (La5, .inl (cI, 30, .inl (nF (LS 5)))), (La7, .inl (cI, 5, .inl (nF (un (LS 7) (LS 6 0) (pV (TS 0) (RS 1 0) (pE (TS 0) (RS 1 0) v_b)))))), (La8, .inl (cI, 5, .inl (upd (nF (LS 8)) (nI (LS 6 0)).toNatClampNeg (nI (pV (TS 0) (RS 1 0) (pE (TS 0) (RS 1 0) (pE (TS 0) (RS 1 0) v_b))))))), (La9, .inl (cI, 5, .inl (nF (LS 9)))), (Rh, .inr (3, [.ref Th, .int (nI (u16 1 0)), .int (nI (u16 2 0)), .int (nI (u16 3 0)), .int (nI (u16 4 0)), .int (nI (u16 5 0))])), (Th, .inl (cI, 180, .inl (nF (TS 0))))] H := ⟨hP, hD⟩
            rw [nF_st (by omega)] at hP hD
            refine lv_aload_n hx hb dX3_readDebt_92 rfl (lv_at hl 3 rfl) ?_
            refine va_getN (D := D) (ci := 0) (v := .ref La9) (C := RX0) (T := TX0) (N := 12) hx hb hts in_X3_readDebt_0 hown hK.1 hP 0 rfl rfl 9 (by decide) (nfX3_99 hK.2) (fun _ h9 => h9) rfl dX3_readDebt_93 ?_
            refine lv_aload_n hx hb dX3_readDebt_96 rfl (lv_at hl 3 rfl) ?_
            refine va_getN (D := D) (ci := 0) (v := .int (nI (LS 6 0))) (C := RX0) (T := TX0) (N := 12) hx hb hts in_X3_readDebt_0 hown hK.1 hP 0 rfl rfl 6 (by decide) (nfX3_90 hK.2) (fun _ h9 => h9) rfl dX3_readDebt_97 ?_
            refine lv_aload_n hx hb dX3_readDebt_100 rfl (lv_at hl 2 rfl) ?_
            refine va_get (D := D) (ci := 3) (v := .int (nI (u16 5 0))) (C := RX3) (T := TX3) (N := 6) hx hb hts in_X3_readDebt_3 hown hK.1 hP 8 rfl rfl 5 (by decide) (hts (.fieldLink RX3 28 "ChildCoins$Reader" "value" "I") (List.mem_of_getElem? (i := 1) rfl)) (fun _ h9 => h9) rfl dX3_readDebt_101 ?_
            refine set_i (y := nI (pV (TS 0) (RS 1 0) (pE (TS 0) (RS 1 0) (pE (TS 0) (RS 1 0) (pE (TS 0) (RS 1 0) v_b))))) (congrArg nI k19.2.2.2.2) ?_
            have b21 := pV_le hT (RS 1 0) (pE (TS 0) (RS 1 0) (pE (TS 0) (RS 1 0) (pE (TS 0) (RS 1 0) v_b)))
            refine va_iast hx hb hK.1 hP hD hS 7 0 rfl rfl (vp_in_nI (n := LS 6 0) (N := 5) (by omega) (by decide)) dX3_readDebt_104 (fun H locs hP hD hS => ?_)
            obtain ⟨hP, hD⟩ : wPD D A [(Lh, .inr (0, [.int (nI (LS 0 0)), .ref La1, .ref La2, .int (nI (LS 3 0)), .ref La4, .ref La5, .int (nI (LS 6 0)), .ref La7, .ref La8, .ref La9, .int (nI (LS 10 0)), .int (nI (LS 11 0))])), (La1, .inl (cI, 6, .inl (nF (LS 1)))), (La2, .inl (cI, 6, .inl (nF (LS 2)))), (La4, .inl (cI, 5, .inl (nF (LS 4)))), (La5, .inl (cI, 30, .inl (nF (LS 5)))), (La7, .inl (cI, 5, .inl (nF (un (LS 7) (LS 6 0) (pV (TS 0) (RS 1 0) (pE (TS 0) (RS 1 0) v_b)))))), (La8, .inl (cI, 5, .inl (nF (un (LS 8) (LS 6 0) (pV (TS 0) (RS 1 0) (pE (TS 0) (RS 1 0) (pE (TS 0) (RS 1 0) v_b))))))), (La9, .inl (cI, 5, .inl (upd (nF (LS 9)) (nI (LS 6 0)).toNatClampNeg (nI (pV (TS 0) (RS 1 0) (pE (TS 0) (RS 1 0) (pE (TS 0) (RS 1 0) (pE (TS 0) (RS 1 0) v_b)))))))), (Rh, .inr (3, [.ref Th, .int (nI (u16 1 0)), .int (nI (u16 2 0)), .int (nI (u16 3 0)), .int (nI (u16 4 0)), .int (nI (u16 5 0))])), (Th, .inl (cI, 180, .inl (nF (TS 0))))] H := ⟨hP, hD⟩
            rw [nF_st (by omega)] at hP hD
            refine lv_aload_n hx hb dX3_readDebt_105 rfl (lv_at hl 3 rfl) ?_
            refine lv_dup hx hb dX3_readDebt_106 rfl ?_
            refine va_getN (D := D) (ci := 0) (v := .int (nI (LS 6 0))) (C := RX0) (T := TX0) (N := 12) hx hb hts in_X3_readDebt_0 hown hK.1 hP 0 rfl rfl 6 (by decide) (nfX3_90 hK.2) (fun _ h9 => h9) rfl dX3_readDebt_107 ?_
            refine lv_iconst (v := nI 1) hx hb dX3_readDebt_110 (by decide) ?_
            refine lv_iadd hx hb dX3_readDebt_111 ?_
            refine set_i (y := nI ((LS 6 0) + 1)) (nI_add (LS 6 0) 1) ?_
            refine va_putN (D := D) (ci := 0) (v := .int (nI ((LS 6 0) + 1))) (ty := tyX0 6) (C := RX0) (T := TX0) (N := 12) hx hb hts in_X3_readDebt_0 tyX0 tyX0_ok nmX0 hown hK.1 hP hD hS 0 rfl rfl 6 (by decide) (nfX3_90 hK.2) (fun _ h9 => h9) rfl (tyX0_ok 6 (by decide)) rfl rfl (Nat.le_of_ble_eq_true rfl) dX3_readDebt_112 (fun H locs hP hD hS => ?_)
            obtain ⟨hP, hD⟩ : wPD D A [(Lh, .inr (0, [.int (nI (LS 0 0)), .ref La1, .ref La2, .int (nI (LS 3 0)), .ref La4, .ref La5, .int (nI ((LS 6 0) + 1)), .ref La7, .ref La8, .ref La9, .int (nI (LS 10 0)), .int (nI (LS 11 0))])), (La1, .inl (cI, 6, .inl (nF (LS 1)))), (La2, .inl (cI, 6, .inl (nF (LS 2)))), (La4, .inl (cI, 5, .inl (nF (LS 4)))), (La5, .inl (cI, 30, .inl (nF (LS 5)))), (La7, .inl (cI, 5, .inl (nF (un (LS 7) (LS 6 0) (pV (TS 0) (RS 1 0) (pE (TS 0) (RS 1 0) v_b)))))), (La8, .inl (cI, 5, .inl (nF (un (LS 8) (LS 6 0) (pV (TS 0) (RS 1 0) (pE (TS 0) (RS 1 0) (pE (TS 0) (RS 1 0) v_b))))))), (La9, .inl (cI, 5, .inl (nF (un (LS 9) (LS 6 0) (pV (TS 0) (RS 1 0) (pE (TS 0) (RS 1 0) (pE (TS 0) (RS 1 0) (pE (TS 0) (RS 1 0) v_b)))))))), (Rh, .inr (3, [.ref Th, .int (nI (u16 1 0)), .int (nI (u16 2 0)), .int (nI (u16 3 0)), .int (nI (u16 4 0)), .int (nI (u16 5 0))])), (Th, .inl (cI, 180, .inl (nF (TS 0))))] H := ⟨hP, hD⟩
            refine lv_aload_n hx hb dX3_readDebt_115 rfl (lv_at hl 2 rfl) ?_
            refine be_i (free := fun _ => False) (wr := [(Lh, .inr (0, [.int (nI (LS 0 0)), .ref La1, .ref La2, .int (nI (LS 3 0)), .ref La4, .ref La5, .int (nI ((LS 6 0) + 1)), .ref La7, .ref La8, .ref La9, .int (nI (LS 10 0)), .int (nI (LS 11 0))])), (La1, .inl (cI, 6, .inl (nF (LS 1)))), (La2, .inl (cI, 6, .inl (nF (LS 2)))), (La4, .inl (cI, 5, .inl (nF (LS 4)))), (La5, .inl (cI, 30, .inl (nF (LS 5)))), (La7, .inl (cI, 5, .inl (nF (un (LS 7) (LS 6 0) (pV (TS 0) (RS 1 0) (pE (TS 0) (RS 1 0) v_b)))))), (La8, .inl (cI, 5, .inl (nF (un (LS 8) (LS 6 0) (pV (TS 0) (RS 1 0) (pE (TS 0) (RS 1 0) (pE (TS 0) (RS 1 0) v_b))))))), (La9, .inl (cI, 5, .inl (nF (un (LS 9) (LS 6 0) (pV (TS 0) (RS 1 0) (pE (TS 0) (RS 1 0) (pE (TS 0) (RS 1 0) (pE (TS 0) (RS 1 0) v_b))))))))]) (ru_V (As := []) (rest := []) ⟨hx, hb, hml, hown, hts⟩ (g_readEnding l D cI cB cZ cN Rh u16 Th TS hT (by rw [k19.2.2.1, k19.1]; exact (pE_le k19l).2) (by rw [k19.1]; exact h2) H.size) gX3_readDebt_X3_readEnding rfl ⟨rfl, by decide, by decide, (show Option.map (fun d => d.parameters.length) (parseMethodDescriptor yX3_readEnding.desc) = some 0 by decide +kernel)⟩ ⟨Nat.le_of_ble_eq_true rfl, Nat.le_of_ble_eq_true rfl⟩ hK hP hD 3 8 rfl rfl [8, 9] (by decide) rfl hl.1 rfl (Nat.le_of_ble_eq_true rfl) dX3_readDebt_116 ⟨Nat.le_of_ble_eq_true rfl, Nat.le_of_ble_eq_true rfl⟩) hP hD hS hA [8, 9] [0, 1, 2, 3, 4, 5, 6, 7] rfl rfl (by decide) (by decide) (fun r23 u22 H locs w24 hP hD hS => ?_)
            obtain ⟨k25e, k25⟩ := w24
            have k25q : enN (TS 0) (u16 1 0) (u16 2 0) = enN (TS 0) (RS 1 0) (pE (TS 0) (RS 1 0) (pE (TS 0) (RS 1 0) (pE (TS 0) (RS 1 0) (pE (TS 0) (RS 1 0) v_b)))) := by rw [k19.2.2.1, k19.1]
            have k25 : RdAt u22 (TS 0) (RS 1 0) (pE (TS 0) (RS 1 0) (pE (TS 0) (RS 1 0) (pE (TS 0) (RS 1 0) (pE (TS 0) (RS 1 0) v_b)))) := by rw [k19.2.2.1, k19.1] at k25; exact k25
            have k25l := (pE_le (t := (TS 0)) k19l).2
            rw [k25q] at k25e
            subst k25e
            have k25b := enN_le (TS 0) (RS 1 0) (pE (TS 0) (RS 1 0) (pE (TS 0) (RS 1 0) (pE (TS 0) (RS 1 0) (pE (TS 0) (RS 1 0) v_b))))
            obtain ⟨hP, hD⟩ : wPD D A [(Lh, .inr (0, [.int (nI (LS 0 0)), .ref La1, .ref La2, .int (nI (LS 3 0)), .ref La4, .ref La5, .int (nI ((LS 6 0) + 1)), .ref La7, .ref La8, .ref La9, .int (nI (LS 10 0)), .int (nI (LS 11 0))])), (La1, .inl (cI, 6, .inl (nF (LS 1)))), (La2, .inl (cI, 6, .inl (nF (LS 2)))), (La4, .inl (cI, 5, .inl (nF (LS 4)))), (La5, .inl (cI, 30, .inl (nF (LS 5)))), (La7, .inl (cI, 5, .inl (nF (un (LS 7) (LS 6 0) (pV (TS 0) (RS 1 0) (pE (TS 0) (RS 1 0) v_b)))))), (La8, .inl (cI, 5, .inl (nF (un (LS 8) (LS 6 0) (pV (TS 0) (RS 1 0) (pE (TS 0) (RS 1 0) (pE (TS 0) (RS 1 0) v_b))))))), (La9, .inl (cI, 5, .inl (nF (un (LS 9) (LS 6 0) (pV (TS 0) (RS 1 0) (pE (TS 0) (RS 1 0) (pE (TS 0) (RS 1 0) (pE (TS 0) (RS 1 0) v_b)))))))), (Rh, .inr (3, [.ref Th, .int (nI (u22 1 0)), .int (nI (u22 2 0)), .int (nI (u22 3 0)), .int (nI (u22 4 0)), .int (nI (u22 5 0))])), (Th, .inl (cI, 180, .inl (nF (TS 0))))] H := ⟨hP, hD⟩
            exact en_z hx hb hr hlk hP hD hS (u22, ua (ua (ua (ua LS 6 (fun _ => (LS 6 0) + 1)) 7 (un (LS 7) (LS 6 0) (pV (TS 0) (RS 1 0) (pE (TS 0) (RS 1 0) v_b)))) 8 (un (LS 8) (LS 6 0) (pV (TS 0) (RS 1 0) (pE (TS 0) (RS 1 0) (pE (TS 0) (RS 1 0) v_b))))) 9 (un (LS 9) (LS 6 0) (pV (TS 0) (RS 1 0) (pE (TS 0) (RS 1 0) (pE (TS 0) (RS 1 0) (pE (TS 0) (RS 1 0) v_b)))))) [8, 9, 0, 1, 2, 3, 4, 5, 6, 7] (by decide) rfl (Nat.le_of_ble_eq_true rfl) (Nat.le_of_ble_eq_true rfl) dX3_readDebt_119 (b01 (by omega)) (by unfold debtF; rw [if_neg (show ¬ 5 ≤ LS 6 0 by omega), if_neg (show ¬ ok1 (TS 0) (RS 1 0) (pE (TS 0) (RS 1 0) v_b) 0 (LS 3 0) = 0 by omega), if_neg (show ¬ (ok1 (TS 0) (RS 1 0) (pE (TS 0) (RS 1 0) (pE (TS 0) (RS 1 0) v_b)) 0 (LS 3 0) = 0 ∨ pV (TS 0) (RS 1 0) (pE (TS 0) (RS 1 0) (pE (TS 0) (RS 1 0) v_b)) = pV (TS 0) (RS 1 0) (pE (TS 0) (RS 1 0) v_b)) by omega), if_neg (show ¬ okN (TS 0) (RS 1 0) (pE (TS 0) (RS 1 0) (pE (TS 0) (RS 1 0) (pE (TS 0) (RS 1 0) v_b))) 1 60 = 0 by omega)]; exact ⟨rfl, k25, rfl⟩)
          · skip
            refine lv_iconst (v := nI 0) hx hb dX3_readDebt_70 (by decide) ?_
            exact en_z hx hb hr hlk hP hD hS (u16, LS) [8, 9, 0, 1, 2, 3, 4, 5, 6, 7] (by decide) rfl (Nat.le_of_ble_eq_true rfl) (Nat.le_of_ble_eq_true rfl) dX3_readDebt_71 rfl (by unfold debtF; rw [if_neg (show ¬ 5 ≤ LS 6 0 by omega), if_neg (show ¬ ok1 (TS 0) (RS 1 0) (pE (TS 0) (RS 1 0) v_b) 0 (LS 3 0) = 0 by omega), if_neg (show ¬ (ok1 (TS 0) (RS 1 0) (pE (TS 0) (RS 1 0) (pE (TS 0) (RS 1 0) v_b)) 0 (LS 3 0) = 0 ∨ pV (TS 0) (RS 1 0) (pE (TS 0) (RS 1 0) (pE (TS 0) (RS 1 0) v_b)) = pV (TS 0) (RS 1 0) (pE (TS 0) (RS 1 0) v_b)) by omega), if_pos (show okN (TS 0) (RS 1 0) (pE (TS 0) (RS 1 0) (pE (TS 0) (RS 1 0) (pE (TS 0) (RS 1 0) v_b))) 1 60 = 0 by omega)]; exact ⟨rfl, k19, rfl⟩)
        · skip
          refine lv_iconst (v := nI 0) hx hb dX3_readDebt_53 (by decide) ?_
          exact en_z hx hb hr hlk hP hD hS (u8, LS) [8, 9, 0, 1, 2, 3, 4, 5, 6, 7] (by decide) rfl (Nat.le_of_ble_eq_true rfl) (Nat.le_of_ble_eq_true rfl) dX3_readDebt_54 rfl (by unfold debtF; rw [if_neg (show ¬ 5 ≤ LS 6 0 by omega), if_neg (show ¬ ok1 (TS 0) (RS 1 0) (pE (TS 0) (RS 1 0) v_b) 0 (LS 3 0) = 0 by omega), if_pos (show (ok1 (TS 0) (RS 1 0) (pE (TS 0) (RS 1 0) (pE (TS 0) (RS 1 0) v_b)) 0 (LS 3 0) = 0 ∨ pV (TS 0) (RS 1 0) (pE (TS 0) (RS 1 0) (pE (TS 0) (RS 1 0) v_b)) = pV (TS 0) (RS 1 0) (pE (TS 0) (RS 1 0) v_b)) by omega)]; exact ⟨rfl, k11, rfl⟩)
    · skip
      refine lv_iconst (v := nI 0) hx hb dX3_readDebt_24 (by decide) ?_
      exact en_z hx hb hr hlk hP hD hS (u2, LS) [8, 9, 0, 1, 2, 3, 4, 5, 6, 7] (by decide) rfl (Nat.le_of_ble_eq_true rfl) (Nat.le_of_ble_eq_true rfl) dX3_readDebt_25 rfl (by unfold debtF; rw [if_neg (show ¬ 5 ≤ LS 6 0 by omega), if_pos (show ok1 (TS 0) (RS 1 0) (pE (TS 0) (RS 1 0) v_b) 0 (LS 3 0) = 0 by omega)]; exact ⟨rfl, k5, rfl⟩)
  · skip
    refine lv_iconst (v := nI 0) hx hb dX3_readDebt_8 (by decide) ?_
    exact en_z hx hb hr hlk hP hD hS (RS, LS) [0, 1, 2, 3, 4, 5, 6, 7, 8, 9] (by decide) rfl (Nat.le_of_ble_eq_true rfl) (Nat.le_of_ble_eq_true rfl) dX3_readDebt_9 rfl (by unfold debtF; rw [if_pos (show 5 ≤ LS 6 0 by omega)]; exact ⟨rfl, hR, rfl⟩)
