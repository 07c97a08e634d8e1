set_option maxRecDepth 20000 in
theorem dAX3_readItem : decA cX3_readItem [(0, .aload_n 0, 1), (1, .getfield 25, 3), (4, .iconst 1, 1), (5, .if_icmp .eq 5, 3), (8, .iconst 0, 1), (9, .ireturn, 1), (10, .aload_n 0, 1), (11, .getfield 28, 3), (14, .lookupswitch 80 #[(99, 50), (100, 68), (104, 62), (112, 56), (115, 74)], 50), (64, .aload_n 0, 1), (65, .aload_n 1, 1), (66, .invokevirtual 49, 3), (69, .ireturn, 1), (70, .aload_n 0, 1), (71, .aload_n 1, 1), (72, .invokevirtual 52, 3), (75, .ireturn, 1), (76, .aload_n 0, 1), (77, .aload_n 1, 1), (78, .invokevirtual 55, 3), (81, .ireturn, 1), (82, .aload_n 0, 1), (83, .aload_n 1, 1), (84, .invokevirtual 58, 3), (87, .ireturn, 1), (88, .aload_n 0, 1), (89, .aload_n 1, 1), (90, .invokevirtual 61, 3), (93, .ireturn, 1), (94, .iconst 0, 1), (95, .ireturn, 1)] = true := by decide +kernel
theorem dX3_readItem_0 : decode cX3_readItem 0 = .ok (.aload_n 0, 1) := decA_get dAX3_readItem 0 rfl
theorem dX3_readItem_1 : decode cX3_readItem 1 = .ok (.getfield 25, 3) := decA_get dAX3_readItem 1 rfl
theorem in_X3_readItem_3 : ∀ w ∈ wsX30, w ∈ wsX3_readItem := fun w h => (gd_ids wi_X3_readItem wm_X3_readItem wi_X30 (by decide +kernel) w h).1
theorem dX3_readItem_4 : decode cX3_readItem 4 = .ok (.iconst 1, 1) := decA_get dAX3_readItem 2 rfl
theorem dX3_readItem_5 : decode cX3_readItem 5 = .ok (.if_icmp .eq 5, 3) := decA_get dAX3_readItem 3 rfl
theorem dX3_readItem_10 : decode cX3_readItem 10 = .ok (.aload_n 0, 1) := decA_get dAX3_readItem 6 rfl
theorem dX3_readItem_11 : decode cX3_readItem 11 = .ok (.getfield 28, 3) := decA_get dAX3_readItem 7 rfl
theorem dX3_readItem_14 : decode cX3_readItem 14 = .ok (.lookupswitch 80 #[(99, 50), (100, 68), (104, 62), (112, 56), (115, 74)], 50) := decA_get dAX3_readItem 8 rfl
theorem dX3_readItem_64 : decode cX3_readItem 64 = .ok (.aload_n 0, 1) := decA_get dAX3_readItem 9 rfl
theorem dX3_readItem_65 : decode cX3_readItem 65 = .ok (.aload_n 1, 1) := decA_get dAX3_readItem 10 rfl
theorem dX3_readItem_66 : decode cX3_readItem 66 = .ok (.invokevirtual 49, 3) := decA_get dAX3_readItem 11 rfl
set_option maxRecDepth 20000 in
theorem ggX3_readItem_X3_readCoin : GoodIn wsX3_readItem wsX3_readCoin := gd_ids wi_X3_readItem wm_X3_readItem wi_X3_readCoin (by decide +kernel)
set_option maxRecDepth 20000 in
theorem gX3_readItem_X3_readCoin : GoodIn wsX3_readItem (wsV RX3 49 RX3 yX3_readCoin wsX3_readCoin) := goodIn_app (gd_ids wi_X3_readItem wm_X3_readItem (b := [203, 204, 205, 180]) rfl (by decide +kernel)) ggX3_readItem_X3_readCoin
theorem dX3_readItem_69 : decode cX3_readItem 69 = .ok (.ireturn, 1) := decA_get dAX3_readItem 12 rfl
theorem dX3_readItem_82 : decode cX3_readItem 82 = .ok (.aload_n 0, 1) := decA_get dAX3_readItem 21 rfl
theorem dX3_readItem_83 : decode cX3_readItem 83 = .ok (.aload_n 1, 1) := decA_get dAX3_readItem 22 rfl
theorem dX3_readItem_84 : decode cX3_readItem 84 = .ok (.invokevirtual 58, 3) := decA_get dAX3_readItem 23 rfl
set_option maxRecDepth 20000 in
theorem ggX3_readItem_X3_readDebt : GoodIn wsX3_readItem wsX3_readDebt := gd_ids wi_X3_readItem wm_X3_readItem wi_X3_readDebt (by decide +kernel)
set_option maxRecDepth 20000 in
theorem gX3_readItem_X3_readDebt : GoodIn wsX3_readItem (wsV RX3 58 RX3 yX3_readDebt wsX3_readDebt) := goodIn_app (gd_ids wi_X3_readItem wm_X3_readItem (b := [212, 213, 214, 180]) rfl (by decide +kernel)) ggX3_readItem_X3_readDebt
theorem dX3_readItem_87 : decode cX3_readItem 87 = .ok (.ireturn, 1) := decA_get dAX3_readItem 24 rfl
theorem dX3_readItem_76 : decode cX3_readItem 76 = .ok (.aload_n 0, 1) := decA_get dAX3_readItem 17 rfl
theorem dX3_readItem_77 : decode cX3_readItem 77 = .ok (.aload_n 1, 1) := decA_get dAX3_readItem 18 rfl
theorem dX3_readItem_78 : decode cX3_readItem 78 = .ok (.invokevirtual 55, 3) := decA_get dAX3_readItem 19 rfl
set_option maxRecDepth 20000 in
theorem ggX3_readItem_X3_readHolds : GoodIn wsX3_readItem wsX3_readHolds := gd_ids wi_X3_readItem wm_X3_readItem wi_X3_readHolds (by decide +kernel)
set_option maxRecDepth 20000 in
theorem gX3_readItem_X3_readHolds : GoodIn wsX3_readItem (wsV RX3 55 RX3 yX3_readHolds wsX3_readHolds) := goodIn_app (gd_ids wi_X3_readItem wm_X3_readItem (b := [209, 210, 211, 180]) rfl (by decide +kernel)) ggX3_readItem_X3_readHolds
theorem dX3_readItem_81 : decode cX3_readItem 81 = .ok (.ireturn, 1) := decA_get dAX3_readItem 20 rfl
theorem dX3_readItem_70 : decode cX3_readItem 70 = .ok (.aload_n 0, 1) := decA_get dAX3_readItem 13 rfl
theorem dX3_readItem_71 : decode cX3_readItem 71 = .ok (.aload_n 1, 1) := decA_get dAX3_readItem 14 rfl
theorem dX3_readItem_72 : decode cX3_readItem 72 = .ok (.invokevirtual 52, 3) := decA_get dAX3_readItem 15 rfl
set_option maxRecDepth 20000 in
theorem ggX3_readItem_X3_readPerson : GoodIn wsX3_readItem wsX3_readPerson := gd_ids wi_X3_readItem wm_X3_readItem wi_X3_readPerson (by decide +kernel)
set_option maxRecDepth 20000 in
theorem gX3_readItem_X3_readPerson : GoodIn wsX3_readItem (wsV RX3 52 RX3 yX3_readPerson wsX3_readPerson) := goodIn_app (gd_ids wi_X3_readItem wm_X3_readItem (b := [206, 207, 208, 180]) rfl (by decide +kernel)) ggX3_readItem_X3_readPerson
theorem dX3_readItem_75 : decode cX3_readItem 75 = .ok (.ireturn, 1) := decA_get dAX3_readItem 16 rfl
theorem dX3_readItem_88 : decode cX3_readItem 88 = .ok (.aload_n 0, 1) := decA_get dAX3_readItem 25 rfl
theorem dX3_readItem_89 : decode cX3_readItem 89 = .ok (.aload_n 1, 1) := decA_get dAX3_readItem 26 rfl
theorem dX3_readItem_90 : decode cX3_readItem 90 = .ok (.invokevirtual 61, 3) := decA_get dAX3_readItem 27 rfl
set_option maxRecDepth 20000 in
theorem ggX3_readItem_X3_readSpan : GoodIn wsX3_readItem wsX3_readSpan := gd_ids wi_X3_readItem wm_X3_readItem wi_X3_readSpan (by decide +kernel)
set_option maxRecDepth 20000 in
theorem gX3_readItem_X3_readSpan : GoodIn wsX3_readItem (wsV RX3 61 RX3 yX3_readSpan wsX3_readSpan) := goodIn_app (gd_ids wi_X3_readItem wm_X3_readItem (b := [215, 216, 217, 180]) rfl (by decide +kernel)) ggX3_readItem_X3_readSpan
theorem dX3_readItem_93 : decode cX3_readItem 93 = .ok (.ireturn, 1) := decA_get dAX3_readItem 28 rfl
theorem dX3_readItem_94 : decode cX3_readItem 94 = .ok (.iconst 0, 1) := decA_get dAX3_readItem 29 rfl
theorem dX3_readItem_95 : decode cX3_readItem 95 = .ok (.ireturn, 1) := decA_get dAX3_readItem 30 rfl
theorem dX3_readItem_8 : decode cX3_readItem 8 = .ok (.iconst 0, 1) := decA_get dAX3_readItem 4 rfl
theorem dX3_readItem_9 : decode cX3_readItem 9 = .ok (.ireturn, 1) := decA_get dAX3_readItem 5 rfl
set_option maxHeartbeats 4000000 in
set_option maxRecDepth 100000 in
theorem g_readItem (l : Launch) (D : va_G) (cI cB cZ cN : ClassId) (Rh : Nat) (RS : Nat → Nat → Nat) (Th : Nat) (TS : Nat → Nat → Nat) (Lh : Nat) (La1 : Nat) (La2 : Nat) (La4 : Nat) (La5 : Nat) (La7 : Nat) (La8 : Nat) (La9 : Nat) (LS : Nat → Nat → Nat) (v_b : Nat) (hT : ∀ j, TS 0 j < 256) (h2 : RS 1 0 ≤ 180) (hR : RdAt RS (TS 0) (RS 1 0) v_b) (hvb : v_b ≤ RS 1 0) (hL : LandOk LS) : Ci (S := (Nat → Nat → Nat) × (Nat → Nat → Nat)) l D cI cB cZ cN yX3_readItem wsX3_readItem ({ frames := 4, cells := 0, slots := 0, locals := 87 } : Room) [.ref Rh, .ref Lh] [(Rh, .inr (3, [.ref Th, .int (nI (RS 1 0)), .int (nI (RS 2 0)), .int (nI (RS 3 0)), .int (nI (RS 4 0)), .int (nI (RS 5 0))])), (Th, .inl (cI, 180, .inl (nF (TS 0)))), (Lh, .inr (0, [.int (nI (LS 0 0)), .ref La1, .ref La2, .int (nI (LS 3 0)), .ref La4, .ref La5, .int (nI (LS 6 0)), .ref La7, .ref La8, .ref La9, .int (nI (LS 10 0)), .int (nI (LS 11 0))])), (La1, .inl (cI, 6, .inl (nF (LS 1)))), (La2, .inl (cI, 6, .inl (nF (LS 2)))), (La4, .inl (cI, 5, .inl (nF (LS 4)))), (La5, .inl (cI, 30, .inl (nF (LS 5)))), (La7, .inl (cI, 5, .inl (nF (LS 7)))), (La8, .inl (cI, 5, .inl (nF (LS 8)))), (La9, .inl (cI, 5, .inl (nF (LS 9))))] (fun (r : Int32) (u : (Nat → Nat → Nat) × (Nat → Nat → Nat)) => r = nI (itemF (TS 0) (RS 1 0) v_b LS).1 ∧ RdAt u.1 (TS 0) (RS 1 0) (itemF (TS 0) (RS 1 0) v_b LS).2.1 ∧ u.2 = (itemF (TS 0) (RS 1 0) v_b LS).2.2) (fun u => [(Rh, .inr (3, [.ref Th, .int (nI (u.1 1 0)), .int (nI (u.1 2 0)), .int (nI (u.1 3 0)), .int (nI (u.1 4 0)), .int (nI (u.1 5 0))])), (Th, .inl (cI, 180, .inl (nF (TS 0)))), (Lh, .inr (0, [.int (nI (u.2 0 0)), .ref La1, .ref La2, .int (nI (u.2 3 0)), .ref La4, .ref La5, .int (nI (u.2 6 0)), .ref La7, .ref La8, .ref La9, .int (nI (u.2 10 0)), .int (nI (u.2 11 0))])), (La1, .inl (cI, 6, .inl (nF (u.2 1)))), (La2, .inl (cI, 6, .inl (nF (u.2 2)))), (La4, .inl (cI, 5, .inl (nF (u.2 4)))), (La5, .inl (cI, 30, .inl (nF (u.2 5)))), (La7, .inl (cI, 5, .inl (nF (u.2 7)))), (La8, .inl (cI, 5, .inl (nF (u.2 8)))), (La9, .inl (cI, 5, .inl (nF (u.2 9))))]) := by
  refine bx_of (D := D) (cI := cI) (cB := cB) (cZ := cZ) (cN := cN) (y := yX3_readItem) (wd := wsX3_readItem) (rm := ({ frames := 4, cells := 0, slots := 0, locals := 87 } : Room)) (av := [.ref Rh, .ref Lh]) (wc := [(Rh, .inr (3, [.ref Th, .int (nI (RS 1 0)), .int (nI (RS 2 0)), .int (nI (RS 3 0)), .int (nI (RS 4 0)), .int (nI (RS 5 0))])), (Th, .inl (cI, 180, .inl (nF (TS 0)))), (Lh, .inr (0, [.int (nI (LS 0 0)), .ref La1, .ref La2, .int (nI (LS 3 0)), .ref La4, .ref La5, .int (nI (LS 6 0)), .ref La7, .ref La8, .ref La9, .int (nI (LS 10 0)), .int (nI (LS 11 0))])), (La1, .inl (cI, 6, .inl (nF (LS 1)))), (La2, .inl (cI, 6, .inl (nF (LS 2)))), (La4, .inl (cI, 5, .inl (nF (LS 4)))), (La5, .inl (cI, 30, .inl (nF (LS 5)))), (La7, .inl (cI, 5, .inl (nF (LS 7)))), (La8, .inl (cI, 5, .inl (nF (LS 8)))), (La9, .inl (cI, 5, .inl (nF (LS 9))))]) (cc := cX3_readItem) (maxL := 2) (ret := (some .boolean)) (Qc := fun _ A => va_Qi (S := (Nat → Nat → Nat) × (Nat → Nat → Nat)) (fun (r : Int32) (u : (Nat → Nat → Nat) × (Nat → Nat → Nat)) => r = nI (itemF (TS 0) (RS 1 0) v_b LS).1 ∧ RdAt u.1 (TS 0) (RS 1 0) (itemF (TS 0) (RS 1 0) v_b LS).2.1 ∧ u.2 = (itemF (TS 0) (RS 1 0) v_b LS).2.2) (Aft D (fun (u : (Nat → Nat → Nat) × (Nat → Nat → Nat)) => [(Rh, .inr (3, [.ref Th, .int (nI (u.1 1 0)), .int (nI (u.1 2 0)), .int (nI (u.1 3 0)), .int (nI (u.1 4 0)), .int (nI (u.1 5 0))])), (Th, .inl (cI, 180, .inl (nF (TS 0)))), (Lh, .inr (0, [.int (nI (u.2 0 0)), .ref La1, .ref La2, .int (nI (u.2 3 0)), .ref La4, .ref La5, .int (nI (u.2 6 0)), .ref La7, .ref La8, .ref La9, .int (nI (u.2 10 0)), .int (nI (u.2 11 0))])), (La1, .inl (cI, 6, .inl (nF (u.2 1)))), (La2, .inl (cI, 6, .inl (nF (u.2 2)))), (La4, .inl (cI, 5, .inl (nF (u.2 4)))), (La5, .inl (cI, 30, .inl (nF (u.2 5)))), (La7, .inl (cI, 5, .inl (nF (u.2 7)))), (La8, .inl (cI, 5, .inl (nF (u.2 8)))), (La9, .inl (cI, 5, .inl (nF (u.2 9))))]) A) A) (by decide) rfl (Nat.le_of_ble_eq_true rfl) ?_
  intro p e s m below meth c A H locs ⟨hx, hb, hr, hml, hown, hts, hlk, hnm⟩ hK hP hD hS hA ls hl
  have hl : lv_has ls 2 [(0, .ref Rh), (1, .ref Lh)] := hl
  have hown : s.vm.findClass RX3 = some m.cls := hown
  have hL0 := hL
  obtain ⟨bl0, bl3, bl6, bl10, bl11, bl1, bl2, bl4, bl5, bl7, bl8, bl9⟩ := hL
  refine lv_aload_n hx hb dX3_readItem_0 rfl (lv_at hl 0 rfl) ?_
  refine va_get (D := D) (ci := 3) (v := .int (nI (RS 4 0))) (C := RX3) (T := TX3) (N := 6) hx hb hts in_X3_readItem_3 hown hK.1 hP 0 rfl rfl 4 (by decide) (hts (.fieldLink RX3 25 "ChildCoins$Reader" "token" "I") (List.mem_of_getElem? (i := 1) rfl)) (fun _ h9 => h9) rfl dX3_readItem_1 ?_
  refine set_i (y := nI (pK (TS 0) (RS 1 0) v_b)) (congrArg nI hR.2.2.2.1) ?_
  have b1 := pK_le (TS 0) (RS 1 0) v_b
  refine lv_iconst (v := nI 1) hx hb dX3_readItem_4 (by decide) ?_
  refine nb_icmp_eq (tgt := 10) hx hb dX3_readItem_5 (by decide) (by omega) (by omega) (fun hq2 => ?_) (fun hq2 => ?_)
  · skip
    refine lv_aload_n hx hb dX3_readItem_10 rfl (lv_at hl 0 rfl) ?_
    refine va_get (D := D) (ci := 3) (v := .int (nI (RS 5 0))) (C := RX3) (T := TX3) (N := 6) hx hb hts in_X3_readItem_3 hown hK.1 hP 0 rfl rfl 5 (by decide) (hts (.fieldLink RX3 28 "ChildCoins$Reader" "value" "I") (List.mem_of_getElem? (i := 2) rfl)) (fun _ h9 => h9) rfl dX3_readItem_11 ?_
    refine set_i (y := nI (pV (TS 0) (RS 1 0) v_b)) (congrArg nI hR.2.2.2.2) ?_
    have b3 := pV_le hT (RS 1 0) v_b
    rcases lk5 (pV (TS 0) (RS 1 0) v_b) with hq4 | hq4 | hq4 | hq4 | hq4 | hq4
    · refine set_i (y := nI 99) (congrArg nI hq4) ?_
      refine lv_lookup (tgt := 64) (off := 50) hx hb dX3_readItem_14 (by decide) (by decide) (by decide) ?_
      refine lv_aload_n hx hb dX3_readItem_64 rfl (lv_at hl 0 rfl) ?_
      refine lv_aload_n hx hb dX3_readItem_65 rfl (lv_at hl 1 rfl) ?_
      refine be_i (free := fun _ => False) (wr := []) (ru_V (As := [.ref Lh]) (rest := []) ⟨hx, hb, hml, hown, hts⟩ (g_readCoin l D cI cB cZ cN Rh RS Th TS Lh La1 La2 La4 La5 La7 La8 La9 LS v_b hT h2 hR hvb hL0 H.size) gX3_readItem_X3_readCoin rfl ⟨rfl, by decide, by decide, (show Option.map (fun d => d.parameters.length) (parseMethodDescriptor yX3_readCoin.desc) = some 1 by decide +kernel)⟩ ⟨Nat.le_of_ble_eq_true rfl, Nat.le_of_ble_eq_true rfl⟩ hK hP hD 3 0 rfl rfl [0, 1, 2, 3, 4, 5, 6, 7, 8, 9] (by decide) rfl hl.1 rfl (Nat.le_of_ble_eq_true rfl) dX3_readItem_66 ⟨Nat.le_of_ble_eq_true rfl, Nat.le_of_ble_eq_true rfl⟩) hP hD hS hA [0, 1, 2, 3, 4, 5, 6, 7, 8, 9] [] rfl rfl (by decide) (by decide) (fun r6 u5 H locs w7 hP hD hS => ?_)
      obtain ⟨k8e, k8, k8L⟩ := w7
      subst k8e
      have k81 := coinF_1 (TS 0) (RS 1 0) v_b LS
      obtain ⟨hP, hD⟩ : wPD D A [(Rh, .inr (3, [.ref Th, .int (nI (u5.1 1 0)), .int (nI (u5.1 2 0)), .int (nI (u5.1 3 0)), .int (nI (u5.1 4 0)), .int (nI (u5.1 5 0))])), (Th, .inl (cI, 180, .inl (nF (TS 0)))), (Lh, .inr (0, [.int (nI (u5.2 0 0)), .ref La1, .ref La2, .int (nI (u5.2 3 0)), .ref La4, .ref La5, .int (nI (u5.2 6 0)), .ref La7, .ref La8, .ref La9, .int (nI (u5.2 10 0)), .int (nI (u5.2 11 0))])), (La1, .inl (cI, 6, .inl (nF (u5.2 1)))), (La2, .inl (cI, 6, .inl (nF (u5.2 2)))), (La4, .inl (cI, 5, .inl (nF (u5.2 4)))), (La5, .inl (cI, 30, .inl (nF (u5.2 5)))), (La7, .inl (cI, 5, .inl (nF (u5.2 7)))), (La8, .inl (cI, 5, .inl (nF (u5.2 8)))), (La9, .inl (cI, 5, .inl (nF (u5.2 9))))] H := ⟨hP, hD⟩
      exact en_z hx hb hr hlk hP hD hS (u5.1, u5.2) [0, 1, 2, 3, 4, 5, 6, 7, 8, 9] (by decide) rfl (Nat.le_of_ble_eq_true rfl) (Nat.le_of_ble_eq_true rfl) dX3_readItem_69 (b01 (by omega)) (by unfold itemF; rw [if_neg (show ¬ pK (TS 0) (RS 1 0) v_b ≠ 1 by omega), if_pos (show pV (TS 0) (RS 1 0) v_b = 99 by omega)]; exact ⟨rfl, k8, k8L⟩)
    · refine set_i (y := nI 100) (congrArg nI hq4) ?_
      refine lv_lookup (tgt := 82) (off := 68) hx hb dX3_readItem_14 (by decide) (by decide) (by decide) ?_
      refine lv_aload_n hx hb dX3_readItem_82 rfl (lv_at hl 0 rfl) ?_
      refine lv_aload_n hx hb dX3_readItem_83 rfl (lv_at hl 1 rfl) ?_
      refine be_i (free := fun _ => False) (wr := []) (ru_V (As := [.ref Lh]) (rest := []) ⟨hx, hb, hml, hown, hts⟩ (g_readDebt l D cI cB cZ cN Rh RS Th TS Lh La1 La2 La4 La5 La7 La8 La9 LS v_b hT h2 hR hvb hL0 H.size) gX3_readItem_X3_readDebt rfl ⟨rfl, by decide, by decide, (show Option.map (fun d => d.parameters.length) (parseMethodDescriptor yX3_readDebt.desc) = some 1 by decide +kernel)⟩ ⟨Nat.le_of_ble_eq_true rfl, Nat.le_of_ble_eq_true rfl⟩ hK hP hD 3 0 rfl rfl [0, 1, 2, 3, 4, 5, 6, 7, 8, 9] (by decide) rfl hl.1 rfl (Nat.le_of_ble_eq_true rfl) dX3_readItem_84 ⟨Nat.le_of_ble_eq_true rfl, Nat.le_of_ble_eq_true rfl⟩) hP hD hS hA [0, 1, 2, 3, 4, 5, 6, 7, 8, 9] [] rfl rfl (by decide) (by decide) (fun r10 u9 H locs w11 hP hD hS => ?_)
      obtain ⟨k12e, k12, k12L⟩ := w11
      subst k12e
      have k121 := debtF_1 (TS 0) (RS 1 0) v_b LS
      obtain ⟨hP, hD⟩ : wPD D A [(Rh, .inr (3, [.ref Th, .int (nI (u9.1 1 0)), .int (nI (u9.1 2 0)), .int (nI (u9.1 3 0)), .int (nI (u9.1 4 0)), .int (nI (u9.1 5 0))])), (Th, .inl (cI, 180, .inl (nF (TS 0)))), (Lh, .inr (0, [.int (nI (u9.2 0 0)), .ref La1, .ref La2, .int (nI (u9.2 3 0)), .ref La4, .ref La5, .int (nI (u9.2 6 0)), .ref La7, .ref La8, .ref La9, .int (nI (u9.2 10 0)), .int (nI (u9.2 11 0))])), (La1, .inl (cI, 6, .inl (nF (u9.2 1)))), (La2, .inl (cI, 6, .inl (nF (u9.2 2)))), (La4, .inl (cI, 5, .inl (nF (u9.2 4)))), (La5, .inl (cI, 30, .inl (nF (u9.2 5)))), (La7, .inl (cI, 5, .inl (nF (u9.2 7)))), (La8, .inl (cI, 5, .inl (nF (u9.2 8)))), (La9, .inl (cI, 5, .inl (nF (u9.2 9))))] H := ⟨hP, hD⟩
      exact en_z hx hb hr hlk hP hD hS (u9.1, u9.2) [0, 1, 2, 3, 4, 5, 6, 7, 8, 9] (by decide) rfl (Nat.le_of_ble_eq_true rfl) (Nat.le_of_ble_eq_true rfl) dX3_readItem_87 (b01 (by omega)) (by unfold itemF; rw [if_neg (show ¬ pK (TS 0) (RS 1 0) v_b ≠ 1 by omega), if_neg (show ¬ pV (TS 0) (RS 1 0) v_b = 99 by omega), if_neg (show ¬ pV (TS 0) (RS 1 0) v_b = 112 by omega), if_neg (show ¬ pV (TS 0) (RS 1 0) v_b = 104 by omega), if_pos (show pV (TS 0) (RS 1 0) v_b = 100 by omega)]; exact ⟨rfl, k12, k12L⟩)
    · refine set_i (y := nI 104) (congrArg nI hq4) ?_
      refine lv_lookup (tgt := 76) (off := 62) hx hb dX3_readItem_14 (by decide) (by decide) (by decide) ?_
      refine lv_aload_n hx hb dX3_readItem_76 rfl (lv_at hl 0 rfl) ?_
      refine lv_aload_n hx hb dX3_readItem_77 rfl (lv_at hl 1 rfl) ?_
      refine be_i (free := fun _ => False) (wr := []) (ru_V (As := [.ref Lh]) (rest := []) ⟨hx, hb, hml, hown, hts⟩ (g_readHolds l D cI cB cZ cN Rh RS Th TS Lh La1 La2 La4 La5 La7 La8 La9 LS v_b hT h2 hR hvb hL0 H.size) gX3_readItem_X3_readHolds rfl ⟨rfl, by decide, by decide, (show Option.map (fun d => d.parameters.length) (parseMethodDescriptor yX3_readHolds.desc) = some 1 by decide +kernel)⟩ ⟨Nat.le_of_ble_eq_true rfl, Nat.le_of_ble_eq_true rfl⟩ hK hP hD 3 0 rfl rfl [0, 1, 2, 3, 4, 5, 6, 7, 8, 9] (by decide) rfl hl.1 rfl (Nat.le_of_ble_eq_true rfl) dX3_readItem_78 ⟨Nat.le_of_ble_eq_true rfl, Nat.le_of_ble_eq_true rfl⟩) hP hD hS hA [0, 1, 2, 3, 4, 5, 6, 7, 8, 9] [] rfl rfl (by decide) (by decide) (fun r14 u13 H locs w15 hP hD hS => ?_)
      obtain ⟨k16e, k16, k16L⟩ := w15
      subst k16e
      have k161 := holdF_1 (TS 0) (RS 1 0) v_b LS
      obtain ⟨hP, hD⟩ : wPD D A [(Rh, .inr (3, [.ref Th, .int (nI (u13.1 1 0)), .int (nI (u13.1 2 0)), .int (nI (u13.1 3 0)), .int (nI (u13.1 4 0)), .int (nI (u13.1 5 0))])), (Th, .inl (cI, 180, .inl (nF (TS 0)))), (Lh, .inr (0, [.int (nI (u13.2 0 0)), .ref La1, .ref La2, .int (nI (u13.2 3 0)), .ref La4, .ref La5, .int (nI (u13.2 6 0)), .ref La7, .ref La8, .ref La9, .int (nI (u13.2 10 0)), .int (nI (u13.2 11 0))])), (La1, .inl (cI, 6, .inl (nF (u13.2 1)))), (La2, .inl (cI, 6, .inl (nF (u13.2 2)))), (La4, .inl (cI, 5, .inl (nF (u13.2 4)))), (La5, .inl (cI, 30, .inl (nF (u13.2 5)))), (La7, .inl (cI, 5, .inl (nF (u13.2 7)))), (La8, .inl (cI, 5, .inl (nF (u13.2 8)))), (La9, .inl (cI, 5, .inl (nF (u13.2 9))))] H := ⟨hP, hD⟩
      exact en_z hx hb hr hlk hP hD hS (u13.1, u13.2) [0, 1, 2, 3, 4, 5, 6, 7, 8, 9] (by decide) rfl (Nat.le_of_ble_eq_true rfl) (Nat.le_of_ble_eq_true rfl) dX3_readItem_81 (b01 (by omega)) (by unfold itemF; rw [if_neg (show ¬ pK (TS 0) (RS 1 0) v_b ≠ 1 by omega), if_neg (show ¬ pV (TS 0) (RS 1 0) v_b = 99 by omega), if_neg (show ¬ pV (TS 0) (RS 1 0) v_b = 112 by omega), if_pos (show pV (TS 0) (RS 1 0) v_b = 104 by omega)]; exact ⟨rfl, k16, k16L⟩)
    · refine set_i (y := nI 112) (congrArg nI hq4) ?_
      refine lv_lookup (tgt := 70) (off := 56) hx hb dX3_readItem_14 (by decide) (by decide) (by decide) ?_
      refine lv_aload_n hx hb dX3_readItem_70 rfl (lv_at hl 0 rfl) ?_
      refine lv_aload_n hx hb dX3_readItem_71 rfl (lv_at hl 1 rfl) ?_
      refine be_i (free := fun _ => False) (wr := []) (ru_V (As := [.ref Lh]) (rest := []) ⟨hx, hb, hml, hown, hts⟩ (g_readPerson l D cI cB cZ cN Rh RS Th TS Lh La1 La2 La4 La5 La7 La8 La9 LS v_b hT h2 hR hvb hL0 H.size) gX3_readItem_X3_readPerson rfl ⟨rfl, by decide, by decide, (show Option.map (fun d => d.parameters.length) (parseMethodDescriptor yX3_readPerson.desc) = some 1 by decide +kernel)⟩ ⟨Nat.le_of_ble_eq_true rfl, Nat.le_of_ble_eq_true rfl⟩ hK hP hD 3 0 rfl rfl [0, 1, 2, 3, 4, 5, 6, 7, 8, 9] (by decide) rfl hl.1 rfl (Nat.le_of_ble_eq_true rfl) dX3_readItem_72 ⟨Nat.le_of_ble_eq_true rfl, Nat.le_of_ble_eq_true rfl⟩) hP hD hS hA [0, 1, 2, 3, 4, 5, 6, 7, 8, 9] [] rfl rfl (by decide) (by decide) (fun r18 u17 H locs w19 hP hD hS => ?_)
      obtain ⟨k20e, k20, k20L⟩ := w19
      subst k20e
      have k201 := persF_1 (TS 0) (RS 1 0) v_b LS
      obtain ⟨hP, hD⟩ : wPD D A [(Rh, .inr (3, [.ref Th, .int (nI (u17.1 1 0)), .int (nI (u17.1 2 0)), .int (nI (u17.1 3 0)), .int (nI (u17.1 4 0)), .int (nI (u17.1 5 0))])), (Th, .inl (cI, 180, .inl (nF (TS 0)))), (Lh, .inr (0, [.int (nI (u17.2 0 0)), .ref La1, .ref La2, .int (nI (u17.2 3 0)), .ref La4, .ref La5, .int (nI (u17.2 6 0)), .ref La7, .ref La8, .ref La9, .int (nI (u17.2 10 0)), .int (nI (u17.2 11 0))])), (La1, .inl (cI, 6, .inl (nF (u17.2 1)))), (La2, .inl (cI, 6, .inl (nF (u17.2 2)))), (La4, .inl (cI, 5, .inl (nF (u17.2 4)))), (La5, .inl (cI, 30, .inl (nF (u17.2 5)))), (La7, .inl (cI, 5, .inl (nF (u17.2 7)))), (La8, .inl (cI, 5, .inl (nF (u17.2 8)))), (La9, .inl (cI, 5, .inl (nF (u17.2 9))))] H := ⟨hP, hD⟩
      exact en_z hx hb hr hlk hP hD hS (u17.1, u17.2) [0, 1, 2, 3, 4, 5, 6, 7, 8, 9] (by decide) rfl (Nat.le_of_ble_eq_true rfl) (Nat.le_of_ble_eq_true rfl) dX3_readItem_75 (b01 (by omega)) (by unfold itemF; rw [if_neg (show ¬ pK (TS 0) (RS 1 0) v_b ≠ 1 by omega), if_neg (show ¬ pV (TS 0) (RS 1 0) v_b = 99 by omega), if_pos (show pV (TS 0) (RS 1 0) v_b = 112 by omega)]; exact ⟨rfl, k20, k20L⟩)
    · refine set_i (y := nI 115) (congrArg nI hq4) ?_
      refine lv_lookup (tgt := 88) (off := 74) hx hb dX3_readItem_14 (by decide) (by decide) (by decide) ?_
      refine lv_aload_n hx hb dX3_readItem_88 rfl (lv_at hl 0 rfl) ?_
      refine lv_aload_n hx hb dX3_readItem_89 rfl (lv_at hl 1 rfl) ?_
      refine be_i (free := fun _ => False) (wr := []) (ru_V (As := [.ref Lh]) (rest := []) ⟨hx, hb, hml, hown, hts⟩ (g_readSpan l D cI cB cZ cN Rh RS Th TS Lh La1 La2 La4 La5 La7 La8 La9 LS v_b hT h2 hR hvb hL0 H.size) gX3_readItem_X3_readSpan rfl ⟨rfl, by decide, by decide, (show Option.map (fun d => d.parameters.length) (parseMethodDescriptor yX3_readSpan.desc) = some 1 by decide +kernel)⟩ ⟨Nat.le_of_ble_eq_true rfl, Nat.le_of_ble_eq_true rfl⟩ hK hP hD 3 0 rfl rfl [0, 1, 2, 3, 4, 5, 6, 7, 8, 9] (by decide) rfl hl.1 rfl (Nat.le_of_ble_eq_true rfl) dX3_readItem_90 ⟨Nat.le_of_ble_eq_true rfl, Nat.le_of_ble_eq_true rfl⟩) hP hD hS hA [0, 1, 2, 3, 4, 5, 6, 7, 8, 9] [] rfl rfl (by decide) (by decide) (fun r22 u21 H locs w23 hP hD hS => ?_)
      obtain ⟨k24e, k24, k24L⟩ := w23
      subst k24e
      have k241 := spanF_1 (TS 0) (RS 1 0) v_b LS
      obtain ⟨hP, hD⟩ : wPD D A [(Rh, .inr (3, [.ref Th, .int (nI (u21.1 1 0)), .int (nI (u21.1 2 0)), .int (nI (u21.1 3 0)), .int (nI (u21.1 4 0)), .int (nI (u21.1 5 0))])), (Th, .inl (cI, 180, .inl (nF (TS 0)))), (Lh, .inr (0, [.int (nI (u21.2 0 0)), .ref La1, .ref La2, .int (nI (u21.2 3 0)), .ref La4, .ref La5, .int (nI (u21.2 6 0)), .ref La7, .ref La8, .ref La9, .int (nI (u21.2 10 0)), .int (nI (u21.2 11 0))])), (La1, .inl (cI, 6, .inl (nF (u21.2 1)))), (La2, .inl (cI, 6, .inl (nF (u21.2 2)))), (La4, .inl (cI, 5, .inl (nF (u21.2 4)))), (La5, .inl (cI, 30, .inl (nF (u21.2 5)))), (La7, .inl (cI, 5, .inl (nF (u21.2 7)))), (La8, .inl (cI, 5, .inl (nF (u21.2 8)))), (La9, .inl (cI, 5, .inl (nF (u21.2 9))))] H := ⟨hP, hD⟩
      exact en_z hx hb hr hlk hP hD hS (u21.1, u21.2) [0, 1, 2, 3, 4, 5, 6, 7, 8, 9] (by decide) rfl (Nat.le_of_ble_eq_true rfl) (Nat.le_of_ble_eq_true rfl) dX3_readItem_93 (b01 (by omega)) (by unfold itemF; rw [if_neg (show ¬ pK (TS 0) (RS 1 0) v_b ≠ 1 by omega), if_neg (show ¬ pV (TS 0) (RS 1 0) v_b = 99 by omega), if_neg (show ¬ pV (TS 0) (RS 1 0) v_b = 112 by omega), if_neg (show ¬ pV (TS 0) (RS 1 0) v_b = 104 by omega), if_neg (show ¬ pV (TS 0) (RS 1 0) v_b = 100 by omega), if_pos (show pV (TS 0) (RS 1 0) v_b = 115 by omega)]; exact ⟨rfl, k24, k24L⟩)
    · refine lv_lookup (tgt := 94) (off := 80) hx hb dX3_readItem_14 (by decide) (lk5d (by omega) hq4) (by decide) ?_
      refine lv_iconst (v := nI 0) hx hb dX3_readItem_94 (by decide) ?_
      exact en_z hx hb hr hlk hP hD hS (RS, LS) [0, 1, 2, 3, 4, 5, 6, 7, 8, 9] (by decide) rfl (Nat.le_of_ble_eq_true rfl) (Nat.le_of_ble_eq_true rfl) dX3_readItem_95 rfl (by unfold itemF; rw [if_neg (show ¬ pK (TS 0) (RS 1 0) v_b ≠ 1 by omega), if_neg (show ¬ pV (TS 0) (RS 1 0) v_b = 99 by omega), if_neg (show ¬ pV (TS 0) (RS 1 0) v_b = 112 by omega), if_neg (show ¬ pV (TS 0) (RS 1 0) v_b = 104 by omega), if_neg (show ¬ pV (TS 0) (RS 1 0) v_b = 100 by omega), if_neg (show ¬ pV (TS 0) (RS 1 0) v_b = 115 by omega)]; exact ⟨rfl, hR, rfl⟩)
  · skip
    refine lv_iconst (v := nI 0) hx hb dX3_readItem_8 (by decide) ?_
    exact en_z hx hb hr hlk hP hD hS (RS, LS) [0, 1, 2, 3, 4, 5, 6, 7, 8, 9] (by decide) rfl (Nat.le_of_ble_eq_true rfl) (Nat.le_of_ble_eq_true rfl) dX3_readItem_9 rfl (by unfold itemF; rw [if_pos (show pK (TS 0) (RS 1 0) v_b ≠ 1 by omega)]; exact ⟨rfl, hR, rfl⟩)
