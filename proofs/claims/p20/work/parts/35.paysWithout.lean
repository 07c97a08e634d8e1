set_option maxRecDepth 20000 in
theorem dAX5_paysWithout : decA cX5_paysWithout [(0, .lconst 1, 1), (1, .lstore_n 2, 1), (2, .iconst 0, 1), (3, .istore 4, 2), (5, .iload 4, 2), (7, .aload_n 0, 1), (8, .getfield 18, 3), (11, .if_icmp .ge 79, 3), (14, .iload_n 1, 1), (15, .iload 4, 2), (17, .ishr, 1), (18, .iconst 1, 1), (19, .iand, 1), (20, .iconst 1, 1), (21, .if_icmp .ne 6, 3), (24, .goto 60, 3), (27, .iconst 0, 1), (28, .istore 5, 2), (30, .iconst 0, 1), (31, .istore 6, 2), (33, .iload 6, 2), (35, .aload_n 0, 1), (36, .getfield 9, 3), (39, .iload 4, 2), (41, .iaload, 1), (42, .if_icmp .ge 42, 3), (45, .iload 5, 2), (47, .aload_n 0, 1), (48, .getfield 22, 3), (51, .if_icmp .ge 33, 3), (54, .lload_n 2, 1), (55, .lload_n 2, 1), (56, .aload_n 0, 1), (57, .getfield 15, 3), (60, .iload 4, 2), (62, .iaload, 1), (63, .lshl, 1), (64, .lor, 1), (65, .lstore_n 2, 1), (66, .iload 5, 2), (68, .aload_n 0, 1), (69, .getfield 15, 3), (72, .iload 4, 2), (74, .iaload, 1), (75, .iadd, 1), (76, .istore 5, 2), (78, .iinc 6 1, 3), (81, .goto (-48), 3), (84, .iinc 4 1, 3), (87, .goto (-82), 3), (90, .lload_n 2, 1), (91, .aload_n 0, 1), (92, .getfield 22, 3), (95, .lushr, 1), (96, .lconst 1, 1), (97, .land, 1), (98, .lconst 1, 1), (99, .lcmp, 1), (100, .ifCond .ne 7, 3), (103, .iconst 1, 1), (104, .goto 4, 3), (107, .iconst 0, 1), (108, .ireturn, 1)] = true := by decide +kernel
theorem dX5_paysWithout_0 : decode cX5_paysWithout 0 = .ok (.lconst 1, 1) := decA_get dAX5_paysWithout 0 rfl
theorem dX5_paysWithout_1 : decode cX5_paysWithout 1 = .ok (.lstore_n 2, 1) := decA_get dAX5_paysWithout 1 rfl
theorem dX5_paysWithout_2 : decode cX5_paysWithout 2 = .ok (.iconst 0, 1) := decA_get dAX5_paysWithout 2 rfl
theorem dX5_paysWithout_3 : decode cX5_paysWithout 3 = .ok (.istore 4, 2) := decA_get dAX5_paysWithout 3 rfl
theorem dX5_paysWithout_5 : decode cX5_paysWithout 5 = .ok (.iload 4, 2) := decA_get dAX5_paysWithout 4 rfl
theorem dX5_paysWithout_7 : decode cX5_paysWithout 7 = .ok (.aload_n 0, 1) := decA_get dAX5_paysWithout 5 rfl
theorem dX5_paysWithout_8 : decode cX5_paysWithout 8 = .ok (.getfield 18, 3) := decA_get dAX5_paysWithout 6 rfl
theorem in_X5_paysWithout_5 : ∀ w ∈ wsX50, w ∈ wsX5_paysWithout := fun w h => (gd_ids wi_X5_paysWithout wm_X5_paysWithout wi_X50 (by decide +kernel) w h).1
theorem dX5_paysWithout_11 : decode cX5_paysWithout 11 = .ok (.if_icmp .ge 79, 3) := decA_get dAX5_paysWithout 7 rfl
theorem dX5_paysWithout_90 : decode cX5_paysWithout 90 = .ok (.lload_n 2, 1) := decA_get dAX5_paysWithout 50 rfl
theorem dX5_paysWithout_91 : decode cX5_paysWithout 91 = .ok (.aload_n 0, 1) := decA_get dAX5_paysWithout 51 rfl
theorem dX5_paysWithout_92 : decode cX5_paysWithout 92 = .ok (.getfield 22, 3) := decA_get dAX5_paysWithout 52 rfl
theorem dX5_paysWithout_95 : decode cX5_paysWithout 95 = .ok (.lushr, 1) := decA_get dAX5_paysWithout 53 rfl
theorem dX5_paysWithout_96 : decode cX5_paysWithout 96 = .ok (.lconst 1, 1) := decA_get dAX5_paysWithout 54 rfl
theorem dX5_paysWithout_97 : decode cX5_paysWithout 97 = .ok (.land, 1) := decA_get dAX5_paysWithout 55 rfl
theorem dX5_paysWithout_98 : decode cX5_paysWithout 98 = .ok (.lconst 1, 1) := decA_get dAX5_paysWithout 56 rfl
theorem dX5_paysWithout_99 : decode cX5_paysWithout 99 = .ok (.lcmp, 1) := decA_get dAX5_paysWithout 57 rfl
theorem dX5_paysWithout_100 : decode cX5_paysWithout 100 = .ok (.ifCond .ne 7, 3) := decA_get dAX5_paysWithout 58 rfl
theorem dX5_paysWithout_107 : decode cX5_paysWithout 107 = .ok (.iconst 0, 1) := decA_get dAX5_paysWithout 61 rfl
theorem dX5_paysWithout_108 : decode cX5_paysWithout 108 = .ok (.ireturn, 1) := decA_get dAX5_paysWithout 62 rfl
theorem dX5_paysWithout_103 : decode cX5_paysWithout 103 = .ok (.iconst 1, 1) := decA_get dAX5_paysWithout 59 rfl
theorem dX5_paysWithout_104 : decode cX5_paysWithout 104 = .ok (.goto 4, 3) := decA_get dAX5_paysWithout 60 rfl
theorem dX5_paysWithout_14 : decode cX5_paysWithout 14 = .ok (.iload_n 1, 1) := decA_get dAX5_paysWithout 8 rfl
theorem dX5_paysWithout_15 : decode cX5_paysWithout 15 = .ok (.iload 4, 2) := decA_get dAX5_paysWithout 9 rfl
theorem dX5_paysWithout_17 : decode cX5_paysWithout 17 = .ok (.ishr, 1) := decA_get dAX5_paysWithout 10 rfl
theorem dX5_paysWithout_18 : decode cX5_paysWithout 18 = .ok (.iconst 1, 1) := decA_get dAX5_paysWithout 11 rfl
theorem dX5_paysWithout_19 : decode cX5_paysWithout 19 = .ok (.iand, 1) := decA_get dAX5_paysWithout 12 rfl
theorem dX5_paysWithout_20 : decode cX5_paysWithout 20 = .ok (.iconst 1, 1) := decA_get dAX5_paysWithout 13 rfl
theorem dX5_paysWithout_21 : decode cX5_paysWithout 21 = .ok (.if_icmp .ne 6, 3) := decA_get dAX5_paysWithout 14 rfl
theorem dX5_paysWithout_27 : decode cX5_paysWithout 27 = .ok (.iconst 0, 1) := decA_get dAX5_paysWithout 16 rfl
theorem dX5_paysWithout_28 : decode cX5_paysWithout 28 = .ok (.istore 5, 2) := decA_get dAX5_paysWithout 17 rfl
theorem dX5_paysWithout_30 : decode cX5_paysWithout 30 = .ok (.iconst 0, 1) := decA_get dAX5_paysWithout 18 rfl
theorem dX5_paysWithout_31 : decode cX5_paysWithout 31 = .ok (.istore 6, 2) := decA_get dAX5_paysWithout 19 rfl
theorem dX5_paysWithout_33 : decode cX5_paysWithout 33 = .ok (.iload 6, 2) := decA_get dAX5_paysWithout 20 rfl
theorem dX5_paysWithout_35 : decode cX5_paysWithout 35 = .ok (.aload_n 0, 1) := decA_get dAX5_paysWithout 21 rfl
theorem dX5_paysWithout_36 : decode cX5_paysWithout 36 = .ok (.getfield 9, 3) := decA_get dAX5_paysWithout 22 rfl
theorem dX5_paysWithout_39 : decode cX5_paysWithout 39 = .ok (.iload 4, 2) := decA_get dAX5_paysWithout 23 rfl
theorem dX5_paysWithout_41 : decode cX5_paysWithout 41 = .ok (.iaload, 1) := decA_get dAX5_paysWithout 24 rfl
theorem dX5_paysWithout_42 : decode cX5_paysWithout 42 = .ok (.if_icmp .ge 42, 3) := decA_get dAX5_paysWithout 25 rfl
theorem dX5_paysWithout_84 : decode cX5_paysWithout 84 = .ok (.iinc 4 1, 3) := decA_get dAX5_paysWithout 48 rfl
theorem dX5_paysWithout_87 : decode cX5_paysWithout 87 = .ok (.goto (-82), 3) := decA_get dAX5_paysWithout 49 rfl
theorem dX5_paysWithout_45 : decode cX5_paysWithout 45 = .ok (.iload 5, 2) := decA_get dAX5_paysWithout 26 rfl
theorem dX5_paysWithout_47 : decode cX5_paysWithout 47 = .ok (.aload_n 0, 1) := decA_get dAX5_paysWithout 27 rfl
theorem dX5_paysWithout_48 : decode cX5_paysWithout 48 = .ok (.getfield 22, 3) := decA_get dAX5_paysWithout 28 rfl
theorem dX5_paysWithout_51 : decode cX5_paysWithout 51 = .ok (.if_icmp .ge 33, 3) := decA_get dAX5_paysWithout 29 rfl
theorem dX5_paysWithout_54 : decode cX5_paysWithout 54 = .ok (.lload_n 2, 1) := decA_get dAX5_paysWithout 30 rfl
theorem dX5_paysWithout_55 : decode cX5_paysWithout 55 = .ok (.lload_n 2, 1) := decA_get dAX5_paysWithout 31 rfl
theorem dX5_paysWithout_56 : decode cX5_paysWithout 56 = .ok (.aload_n 0, 1) := decA_get dAX5_paysWithout 32 rfl
theorem dX5_paysWithout_57 : decode cX5_paysWithout 57 = .ok (.getfield 15, 3) := decA_get dAX5_paysWithout 33 rfl
theorem dX5_paysWithout_60 : decode cX5_paysWithout 60 = .ok (.iload 4, 2) := decA_get dAX5_paysWithout 34 rfl
theorem dX5_paysWithout_62 : decode cX5_paysWithout 62 = .ok (.iaload, 1) := decA_get dAX5_paysWithout 35 rfl
theorem dX5_paysWithout_63 : decode cX5_paysWithout 63 = .ok (.lshl, 1) := decA_get dAX5_paysWithout 36 rfl
theorem dX5_paysWithout_64 : decode cX5_paysWithout 64 = .ok (.lor, 1) := decA_get dAX5_paysWithout 37 rfl
theorem dX5_paysWithout_65 : decode cX5_paysWithout 65 = .ok (.lstore_n 2, 1) := decA_get dAX5_paysWithout 38 rfl
theorem dX5_paysWithout_66 : decode cX5_paysWithout 66 = .ok (.iload 5, 2) := decA_get dAX5_paysWithout 39 rfl
theorem dX5_paysWithout_68 : decode cX5_paysWithout 68 = .ok (.aload_n 0, 1) := decA_get dAX5_paysWithout 40 rfl
theorem dX5_paysWithout_69 : decode cX5_paysWithout 69 = .ok (.getfield 15, 3) := decA_get dAX5_paysWithout 41 rfl
theorem dX5_paysWithout_72 : decode cX5_paysWithout 72 = .ok (.iload 4, 2) := decA_get dAX5_paysWithout 42 rfl
theorem dX5_paysWithout_74 : decode cX5_paysWithout 74 = .ok (.iaload, 1) := decA_get dAX5_paysWithout 43 rfl
theorem dX5_paysWithout_75 : decode cX5_paysWithout 75 = .ok (.iadd, 1) := decA_get dAX5_paysWithout 44 rfl
theorem dX5_paysWithout_76 : decode cX5_paysWithout 76 = .ok (.istore 5, 2) := decA_get dAX5_paysWithout 45 rfl
theorem dX5_paysWithout_78 : decode cX5_paysWithout 78 = .ok (.iinc 6 1, 3) := decA_get dAX5_paysWithout 46 rfl
theorem dX5_paysWithout_81 : decode cX5_paysWithout 81 = .ok (.goto (-48), 3) := decA_get dAX5_paysWithout 47 rfl
theorem dX5_paysWithout_24 : decode cX5_paysWithout 24 = .ok (.goto 60, 3) := decA_get dAX5_paysWithout 15 rfl
set_option maxHeartbeats 4000000 in
set_option maxRecDepth 100000 in
theorem g_paysWithout (l : Launch) (D : va_G) (cI cB cZ cN : ClassId) (Wh : Nat) (Wa0 : Nat) (Wa1 : Nat) (WS : Nat → Nat → Nat) (v_l : Nat) (hW : WorldOk WS) (hl6 : v_l < 64) : Ci (S := Unit) l D cI cB cZ cN yX5_paysWithout wsX5_paysWithout ({ frames := 0, cells := 0, slots := 0, locals := 0 } : Room) [.ref Wh, .int (nI v_l)] [(Wh, .inr (5, [.ref Wa0, .ref Wa1, .int (nI (WS 2 0)), .int (nI (WS 3 0))])), (Wa0, .inl (cI, 6, .inl (nF (WS 0)))), (Wa1, .inl (cI, 6, .inl (nF (WS 1))))] (fun (r : Int32) (_ : Unit) => r = nI 0 ∨ r = nI 1) (fun u => [(Wh, .inr (5, [.ref Wa0, .ref Wa1, .int (nI (WS 2 0)), .int (nI (WS 3 0))])), (Wa0, .inl (cI, 6, .inl (nF (WS 0)))), (Wa1, .inl (cI, 6, .inl (nF (WS 1))))]) := by
  refine bx_of (D := D) (cI := cI) (cB := cB) (cZ := cZ) (cN := cN) (y := yX5_paysWithout) (wd := wsX5_paysWithout) (rm := ({ frames := 0, cells := 0, slots := 0, locals := 0 } : Room)) (av := [.ref Wh, .int (nI v_l)]) (wc := [(Wh, .inr (5, [.ref Wa0, .ref Wa1, .int (nI (WS 2 0)), .int (nI (WS 3 0))])), (Wa0, .inl (cI, 6, .inl (nF (WS 0)))), (Wa1, .inl (cI, 6, .inl (nF (WS 1))))]) (cc := cX5_paysWithout) (maxL := 7) (ret := (some .boolean)) (Qc := fun _ A => va_Qi (S := Unit) (fun (r : Int32) (_ : Unit) => r = nI 0 ∨ r = nI 1) (Aft D (fun (u : Unit) => [(Wh, .inr (5, [.ref Wa0, .ref Wa1, .int (nI (WS 2 0)), .int (nI (WS 3 0))])), (Wa0, .inl (cI, 6, .inl (nF (WS 0)))), (Wa1, .inl (cI, 6, .inl (nF (WS 1))))]) A) A) (by decide) rfl (Nat.le_of_ble_eq_true rfl) ?_
  intro p e s m below meth c A H locs ⟨hx, hb, hr, hml, hown, hts, hlk, hnm⟩ hK hP hD hS hA ls hl
  have hl : lv_has ls 7 [(0, .ref Wh), (1, .int (nI v_l))] := hl
  have hown : s.vm.findClass RX5 = some m.cls := hown
  obtain ⟨bw2, bw3, bw0, bw1⟩ := hW
  have hW0 : WorldOk WS := ⟨bw2, bw3, bw0, bw1⟩
  refine lv_lconst (v := 1) hx hb dX5_paysWithout_0 (by decide) ?_
  refine lv_lstore_n (lv' := [(2, .long 1), (0, .ref Wh), (1, .int (nI v_l))]) hx hb dX5_paysWithout_1 rfl hl (by decide) rfl (fun ls hl => ?_)
  refine lv_iconst (v := nI 0) hx hb dX5_paysWithout_2 (by decide) ?_
  refine lv_istore (lv' := [(4, .int (nI 0)), (2, .long 1), (0, .ref Wh), (1, .int (nI v_l))]) hx hb dX5_paysWithout_3 hl (by decide) rfl (fun ls hl => ?_)
  refine loopS (σ := Int64) (D := D) (A := A) (fun i1 z1 => True) (fun i1 z1 => [(Wh, .inr (5, [.ref Wa0, .ref Wa1, .int (nI (WS 2 0)), .int (nI (WS 3 0))])), (Wa0, .inl (cI, 6, .inl (nF (WS 0)))), (Wa1, .inl (cI, 6, .inl (nF (WS 1))))]) (fun i1 z1 => [(0, .ref Wh), (1, .int (nI v_l)), (2, .long z1), (4, .int (nI i1))]) 5 7 (WS 2 0) 0 (Nat.zero_le _) ?_ ?_ 1 trivial _ _ ls (by first | exact hP) (by first | exact hD) hS (lv_sub hl [2, 3, 1, 0] rfl)
  · intro z1 hI1 H locs ls hP hD hS hl
    have hl : lv_has ls 7 [(0, .ref Wh), (1, .int (nI v_l)), (2, .long z1), (4, .int (nI (WS 2 0)))] := hl
    obtain ⟨hP, hD⟩ : wPD D A [(Wh, .inr (5, [.ref Wa0, .ref Wa1, .int (nI (WS 2 0)), .int (nI (WS 3 0))])), (Wa0, .inl (cI, 6, .inl (nF (WS 0)))), (Wa1, .inl (cI, 6, .inl (nF (WS 1))))] H := ⟨hP, hD⟩
    refine lv_iload hx hb dX5_paysWithout_5 (lv_at hl 3 rfl) ?_
    refine lv_aload_n hx hb dX5_paysWithout_7 rfl (lv_at hl 0 rfl) ?_
    refine va_get (D := D) (ci := 5) (v := .int (nI (WS 2 0))) (C := RX5) (T := TX5) (N := 4) hx hb hts in_X5_paysWithout_5 hown hK.1 hP 0 rfl rfl 2 (by decide) (hts (.fieldLink RX5 18 "ChildCoins$World" "coins" "I") (List.mem_of_getElem? (i := 1) rfl)) (fun _ h9 => h9) rfl dX5_paysWithout_8 ?_
    refine nb_icmp_ge (tgt := 90) hx hb dX5_paysWithout_11 (by decide) (by omega) (by omega) (fun hq1 => ?_) (fun hq1 => absurd hq1 (by omega))
    refine lv_lload_n hx hb dX5_paysWithout_90 rfl (lv_at hl 2 rfl) ?_
    refine lv_aload_n hx hb dX5_paysWithout_91 rfl (lv_at hl 0 rfl) ?_
    refine va_get (D := D) (ci := 5) (v := .int (nI (WS 3 0))) (C := RX5) (T := TX5) (N := 4) hx hb hts in_X5_paysWithout_5 hown hK.1 hP 0 rfl rfl 3 (by decide) (hts (.fieldLink RX5 22 "ChildCoins$World" "sum" "I") (List.mem_of_getElem? (i := 3) rfl)) (fun _ h9 => h9) rfl dX5_paysWithout_92 ?_
    refine lv_lushr (v := (z1.toUInt64 >>> ((nI (WS 3 0)).toInt64.toUInt64 &&& Int64.toUInt64 63)).toInt64) hx hb dX5_paysWithout_95 rfl ?_
    refine lv_lconst (v := 1) hx hb dX5_paysWithout_96 (by decide) ?_
    refine lv_land hx hb dX5_paysWithout_97 ?_
    refine lv_lconst (v := 1) hx hb dX5_paysWithout_98 (by decide) ?_
    refine W.lcmp hx hb dX5_paysWithout_99 ?_
    refine lv_if_ne (tgt := 107) hx hb dX5_paysWithout_100 (by decide) (fun hq2 => ?_) (fun hq2 => ?_)
    · skip
      refine lv_iconst (v := nI 0) hx hb dX5_paysWithout_107 (by decide) ?_
      exact en_z hx hb hr hlk hP hD hS () [0, 1, 2] (by decide) rfl (Nat.le_of_ble_eq_true rfl) (Nat.le_of_ble_eq_true rfl) dX5_paysWithout_108 rfl (Or.inl rfl)
    · skip
      refine lv_iconst (v := nI 1) hx hb dX5_paysWithout_103 (by decide) ?_
      refine lv_goto (tgt := 108) hx hb dX5_paysWithout_104 (by decide) ?_
      exact en_z hx hb hr hlk hP hD hS () [0, 1, 2] (by decide) rfl (Nat.le_of_ble_eq_true rfl) (Nat.le_of_ble_eq_true rfl) dX5_paysWithout_108 rfl (Or.inr rfl)
  · intro i1 hi01 hi1 z1 hI1 ih1 H locs ls hP hD hS hl
    have hl : lv_has ls 7 [(0, .ref Wh), (1, .int (nI v_l)), (2, .long z1), (4, .int (nI i1))] := hl
    obtain ⟨hP, hD⟩ : wPD D A [(Wh, .inr (5, [.ref Wa0, .ref Wa1, .int (nI (WS 2 0)), .int (nI (WS 3 0))])), (Wa0, .inl (cI, 6, .inl (nF (WS 0)))), (Wa1, .inl (cI, 6, .inl (nF (WS 1))))] H := ⟨hP, hD⟩
    refine lv_iload hx hb dX5_paysWithout_5 (lv_at hl 3 rfl) ?_
    refine lv_aload_n hx hb dX5_paysWithout_7 rfl (lv_at hl 0 rfl) ?_
    refine va_get (D := D) (ci := 5) (v := .int (nI (WS 2 0))) (C := RX5) (T := TX5) (N := 4) hx hb hts in_X5_paysWithout_5 hown hK.1 hP 0 rfl rfl 2 (by decide) (hts (.fieldLink RX5 18 "ChildCoins$World" "coins" "I") (List.mem_of_getElem? (i := 1) rfl)) (fun _ h9 => h9) rfl dX5_paysWithout_8 ?_
    refine nb_icmp_ge (tgt := 90) hx hb dX5_paysWithout_11 (by decide) (by omega) (by omega) (fun hq3 => absurd hq3 (by omega)) (fun hq3 => ?_)
    have bdv := Nat.div_le_self v_l (2 ^ i1)
    refine lv_iload_n hx hb dX5_paysWithout_14 rfl (lv_at hl 1 rfl) ?_
    refine lv_iload hx hb dX5_paysWithout_15 (lv_at hl 3 rfl) ?_
    refine lv_ishr hx hb dX5_paysWithout_17 ?_
    refine set_i (y := nI (v_l / 2 ^ i1)) (nI_shr (by omega) (by omega)) ?_
    refine lv_iconst (v := nI 1) hx hb dX5_paysWithout_18 (by decide) ?_
    refine lv_iand hx hb dX5_paysWithout_19 ?_
    refine set_i (y := nI ((v_l / 2 ^ i1) % 2)) (nI_and1 (by omega)) ?_
    refine lv_iconst (v := nI 1) hx hb dX5_paysWithout_20 (by decide) ?_
    refine nb_icmp_ne (tgt := 27) hx hb dX5_paysWithout_21 (by decide) (by omega) (by omega) (fun hq4 => ?_) (fun hq4 => ?_)
    · skip
      refine lv_iconst (v := nI 0) hx hb dX5_paysWithout_27 (by decide) ?_
      refine lv_istore (lv' := [(5, .int (nI 0)), (0, .ref Wh), (1, .int (nI v_l)), (2, .long z1), (4, .int (nI i1))]) hx hb dX5_paysWithout_28 hl (by decide) rfl (fun ls hl => ?_)
      refine lv_iconst (v := nI 0) hx hb dX5_paysWithout_30 (by decide) ?_
      refine lv_istore (lv' := [(6, .int (nI 0)), (5, .int (nI 0)), (0, .ref Wh), (1, .int (nI v_l)), (2, .long z1), (4, .int (nI i1))]) hx hb dX5_paysWithout_31 hl (by decide) rfl (fun ls hl => ?_)
      refine loopS (σ := Int64 × Nat) (D := D) (A := A) (fun i2 z2 => z2.2 ≤ 159) (fun i2 z2 => [(Wh, .inr (5, [.ref Wa0, .ref Wa1, .int (nI (WS 2 0)), .int (nI (WS 3 0))])), (Wa0, .inl (cI, 6, .inl (nF (WS 0)))), (Wa1, .inl (cI, 6, .inl (nF (WS 1))))]) (fun i2 z2 => [(0, .ref Wh), (1, .int (nI v_l)), (2, .long z2.1), (4, .int (nI i1)), (5, .int (nI z2.2)), (6, .int (nI i2))]) 33 7 (WS 0 i1) 0 (Nat.zero_le _) ?_ ?_ (z1, 0) (Nat.zero_le _) _ _ ls (by first | exact hP) (by first | exact hD) hS (lv_sub hl [2, 3, 4, 5, 1, 0] rfl)
      · intro z2 hI2 H locs ls hP hD hS hl
        have hl : lv_has ls 7 [(0, .ref Wh), (1, .int (nI v_l)), (2, .long z2.1), (4, .int (nI i1)), (5, .int (nI z2.2)), (6, .int (nI (WS 0 i1)))] := hl
        obtain ⟨hP, hD⟩ : wPD D A [(Wh, .inr (5, [.ref Wa0, .ref Wa1, .int (nI (WS 2 0)), .int (nI (WS 3 0))])), (Wa0, .inl (cI, 6, .inl (nF (WS 0)))), (Wa1, .inl (cI, 6, .inl (nF (WS 1))))] H := ⟨hP, hD⟩
        refine lv_iload hx hb dX5_paysWithout_33 (lv_at hl 5 rfl) ?_
        refine lv_aload_n hx hb dX5_paysWithout_35 rfl (lv_at hl 0 rfl) ?_
        refine va_get (D := D) (ci := 5) (v := .ref Wa0) (C := RX5) (T := TX5) (N := 4) hx hb hts in_X5_paysWithout_5 hown hK.1 hP 0 rfl rfl 0 (by decide) (hts (.fieldLink RX5 9 "ChildCoins$World" "stock" "[I") (List.mem_of_getElem? (i := 2) rfl)) (fun _ h9 => h9) rfl dX5_paysWithout_36 ?_
        refine lv_iload hx hb dX5_paysWithout_39 (lv_at hl 3 rfl) ?_
        refine va_iald hx hb hK.1 hP 1 0 rfl rfl (vp_in_nI (n := i1) (N := 6) (by omega) (by decide)) dX5_paysWithout_41 ?_
        refine set_i (y := nI (WS 0 i1)) (nF_ld (by omega)) ?_
        have b5 := bw0 i1
        refine nb_icmp_ge (tgt := 84) hx hb dX5_paysWithout_42 (by decide) (by omega) (by omega) (fun hq6 => ?_) (fun hq6 => absurd hq6 (by omega))
        refine lv_iinc (v := nI (i1 + 1)) (lv' := [(4, .int (nI (i1 + 1))), (0, .ref Wh), (1, .int (nI v_l)), (2, .long z2.1), (5, .int (nI z2.2)), (6, .int (nI (WS 0 i1)))]) hx hb dX5_paysWithout_84 hl (k := 3) rfl (nI_add i1 1) (by decide) rfl (fun ls hl => ?_)
        refine lv_goto (tgt := 5) hx hb dX5_paysWithout_87 (by decide) ?_
        have hl : lv_has ls 7 [(0, .ref Wh), (1, .int (nI v_l)), (2, .long z2.1), (4, .int (nI (i1 + 1)))] := lv_sub hl [1, 2, 3, 0] rfl
        exact ih1 z2.1 trivial _ _ _ hP hD hS hl
      · intro i2 hi02 hi2 z2 hI2 ih2 H locs ls hP hD hS hl
        have hl : lv_has ls 7 [(0, .ref Wh), (1, .int (nI v_l)), (2, .long z2.1), (4, .int (nI i1)), (5, .int (nI z2.2)), (6, .int (nI i2))] := hl
        obtain ⟨hP, hD⟩ : wPD D A [(Wh, .inr (5, [.ref Wa0, .ref Wa1, .int (nI (WS 2 0)), .int (nI (WS 3 0))])), (Wa0, .inl (cI, 6, .inl (nF (WS 0)))), (Wa1, .inl (cI, 6, .inl (nF (WS 1))))] H := ⟨hP, hD⟩
        refine lv_iload hx hb dX5_paysWithout_33 (lv_at hl 5 rfl) ?_
        refine lv_aload_n hx hb dX5_paysWithout_35 rfl (lv_at hl 0 rfl) ?_
        refine va_get (D := D) (ci := 5) (v := .ref Wa0) (C := RX5) (T := TX5) (N := 4) hx hb hts in_X5_paysWithout_5 hown hK.1 hP 0 rfl rfl 0 (by decide) (hts (.fieldLink RX5 9 "ChildCoins$World" "stock" "[I") (List.mem_of_getElem? (i := 2) rfl)) (fun _ h9 => h9) rfl dX5_paysWithout_36 ?_
        refine lv_iload hx hb dX5_paysWithout_39 (lv_at hl 3 rfl) ?_
        refine va_iald hx hb hK.1 hP 1 0 rfl rfl (vp_in_nI (n := i1) (N := 6) (by omega) (by decide)) dX5_paysWithout_41 ?_
        refine set_i (y := nI (WS 0 i1)) (nF_ld (by omega)) ?_
        have b7 := bw0 i1
        refine nb_icmp_ge (tgt := 84) hx hb dX5_paysWithout_42 (by decide) (by omega) (by omega) (fun hq8 => absurd hq8 (by omega)) (fun hq8 => ?_)
        refine lv_iload hx hb dX5_paysWithout_45 (lv_at hl 4 rfl) ?_
        refine lv_aload_n hx hb dX5_paysWithout_47 rfl (lv_at hl 0 rfl) ?_
        refine va_get (D := D) (ci := 5) (v := .int (nI (WS 3 0))) (C := RX5) (T := TX5) (N := 4) hx hb hts in_X5_paysWithout_5 hown hK.1 hP 0 rfl rfl 3 (by decide) (hts (.fieldLink RX5 22 "ChildCoins$World" "sum" "I") (List.mem_of_getElem? (i := 3) rfl)) (fun _ h9 => h9) rfl dX5_paysWithout_48 ?_
        refine nb_icmp_ge (tgt := 84) hx hb dX5_paysWithout_51 (by decide) (by omega) (by omega) (fun hq9 => ?_) (fun hq9 => ?_)
        · skip
          refine lv_iinc (v := nI (i1 + 1)) (lv' := [(4, .int (nI (i1 + 1))), (0, .ref Wh), (1, .int (nI v_l)), (2, .long z2.1), (5, .int (nI z2.2)), (6, .int (nI i2))]) hx hb dX5_paysWithout_84 hl (k := 3) rfl (nI_add i1 1) (by decide) rfl (fun ls hl => ?_)
          refine lv_goto (tgt := 5) hx hb dX5_paysWithout_87 (by decide) ?_
          have hl : lv_has ls 7 [(0, .ref Wh), (1, .int (nI v_l)), (2, .long z2.1), (4, .int (nI (i1 + 1)))] := lv_sub hl [1, 2, 3, 0] rfl
          exact ih1 z2.1 trivial _ _ _ hP hD hS hl
        · skip
          refine lv_lload_n hx hb dX5_paysWithout_54 rfl (lv_at hl 2 rfl) ?_
          refine lv_lload_n hx hb dX5_paysWithout_55 rfl (lv_at hl 2 rfl) ?_
          refine lv_aload_n hx hb dX5_paysWithout_56 rfl (lv_at hl 0 rfl) ?_
          refine va_get (D := D) (ci := 5) (v := .ref Wa1) (C := RX5) (T := TX5) (N := 4) hx hb hts in_X5_paysWithout_5 hown hK.1 hP 0 rfl rfl 1 (by decide) (hts (.fieldLink RX5 15 "ChildCoins$World" "worth" "[I") (List.mem_of_getElem? (i := 4) rfl)) (fun _ h9 => h9) rfl dX5_paysWithout_57 ?_
          refine lv_iload hx hb dX5_paysWithout_60 (lv_at hl 3 rfl) ?_
          refine va_iald hx hb hK.1 hP 2 0 rfl rfl (vp_in_nI (n := i1) (N := 6) (by omega) (by decide)) dX5_paysWithout_62 ?_
          refine set_i (y := nI (WS 1 i1)) (nF_ld (by omega)) ?_
          have b10 := bw1 i1
          refine lv_lshl (v := z2.1 <<< ((nI (WS 1 i1)).toInt64 &&& 63)) hx hb dX5_paysWithout_63 rfl ?_
          refine lv_lor hx hb dX5_paysWithout_64 ?_
          refine lv_lstore_n (lv' := [(2, .long (z2.1 ||| (z2.1 <<< ((nI (WS 1 i1)).toInt64 &&& 63)))), (0, .ref Wh), (1, .int (nI v_l)), (4, .int (nI i1)), (5, .int (nI z2.2)), (6, .int (nI i2))]) hx hb dX5_paysWithout_65 rfl hl (by decide) rfl (fun ls hl => ?_)
          refine lv_iload hx hb dX5_paysWithout_66 (lv_at hl 4 rfl) ?_
          refine lv_aload_n hx hb dX5_paysWithout_68 rfl (lv_at hl 1 rfl) ?_
          refine va_get (D := D) (ci := 5) (v := .ref Wa1) (C := RX5) (T := TX5) (N := 4) hx hb hts in_X5_paysWithout_5 hown hK.1 hP 0 rfl rfl 1 (by decide) (hts (.fieldLink RX5 15 "ChildCoins$World" "worth" "[I") (List.mem_of_getElem? (i := 4) rfl)) (fun _ h9 => h9) rfl dX5_paysWithout_69 ?_
          refine lv_iload hx hb dX5_paysWithout_72 (lv_at hl 3 rfl) ?_
          refine va_iald hx hb hK.1 hP 2 0 rfl rfl (vp_in_nI (n := i1) (N := 6) (by omega) (by decide)) dX5_paysWithout_74 ?_
          refine set_i (y := nI (WS 1 i1)) (nF_ld (by omega)) ?_
          have b11 := bw1 i1
          refine lv_iadd hx hb dX5_paysWithout_75 ?_
          refine set_i (y := nI (z2.2 + (WS 1 i1))) (nI_add z2.2 (WS 1 i1)) ?_
          refine lv_istore (lv' := [(5, .int (nI (z2.2 + (WS 1 i1)))), (2, .long (z2.1 ||| (z2.1 <<< ((nI (WS 1 i1)).toInt64 &&& 63)))), (0, .ref Wh), (1, .int (nI v_l)), (4, .int (nI i1)), (6, .int (nI i2))]) hx hb dX5_paysWithout_76 hl (by decide) rfl (fun ls hl => ?_)
          refine lv_iinc (v := nI (i2 + 1)) (lv' := [(6, .int (nI (i2 + 1))), (5, .int (nI (z2.2 + (WS 1 i1)))), (2, .long (z2.1 ||| (z2.1 <<< ((nI (WS 1 i1)).toInt64 &&& 63)))), (0, .ref Wh), (1, .int (nI v_l)), (4, .int (nI i1))]) hx hb dX5_paysWithout_78 hl (k := 5) rfl (nI_add i2 1) (by decide) rfl (fun ls hl => ?_)
          refine lv_goto (tgt := 33) hx hb dX5_paysWithout_81 (by decide) ?_
          have hl : lv_has ls 7 [(0, .ref Wh), (1, .int (nI v_l)), (2, .long (z2.1 ||| (z2.1 <<< ((nI (WS 1 i1)).toInt64 &&& 63)))), (4, .int (nI i1)), (5, .int (nI (z2.2 + (WS 1 i1)))), (6, .int (nI (i2 + 1)))] := lv_sub hl [3, 4, 2, 5, 1, 0] rfl
          exact ih2 (z2.1 ||| (z2.1 <<< ((nI (WS 1 i1)).toInt64 &&& 63)), z2.2 + (WS 1 i1)) (by show _ ≤ 159; omega) _ _ _ hP hD hS hl
    · skip
      refine lv_goto (tgt := 84) hx hb dX5_paysWithout_24 (by decide) ?_
      refine lv_iinc (v := nI (i1 + 1)) (lv' := [(4, .int (nI (i1 + 1))), (0, .ref Wh), (1, .int (nI v_l)), (2, .long z1)]) hx hb dX5_paysWithout_84 hl (k := 3) rfl (nI_add i1 1) (by decide) rfl (fun ls hl => ?_)
      refine lv_goto (tgt := 5) hx hb dX5_paysWithout_87 (by decide) ?_
      have hl : lv_has ls 7 [(0, .ref Wh), (1, .int (nI v_l)), (2, .long z1), (4, .int (nI (i1 + 1)))] := lv_sub hl [1, 2, 3, 0] rfl
      exact ih1 z1 trivial _ _ _ hP hD hS hl
