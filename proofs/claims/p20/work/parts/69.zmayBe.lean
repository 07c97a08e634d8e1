set_option maxRecDepth 20000 in
theorem dAX7_mayBe : decA cX7_mayBe [(0, .iload_n 1, 1), (1, .lookupswitch 115 #[(99, 51), (100, 86), (104, 84), (112, 68), (115, 102)], 51), (52, .aload_n 0, 1), (53, .getfield 13, 3), (56, .iconst 1, 1), (57, .iaload, 1), (58, .bipush 6, 2), (60, .if_icmp .ge 7, 3), (63, .iconst 1, 1), (64, .goto 4, 3), (67, .iconst 0, 1), (68, .ireturn, 1), (69, .aload_n 0, 1), (70, .getfield 23, 3), (73, .iconst 1, 1), (74, .iaload, 1), (75, .iconst 5, 1), (76, .if_icmp .ge 7, 3), (79, .iconst 1, 1), (80, .goto 4, 3), (83, .iconst 0, 1), (84, .ireturn, 1), (85, .iconst 1, 1), (86, .ireturn, 1), (87, .aload_n 0, 1), (88, .getfield 32, 3), (91, .iconst 1, 1), (92, .iaload, 1), (93, .iconst 5, 1), (94, .if_icmp .ge 7, 3), (97, .iconst 1, 1), (98, .goto 4, 3), (101, .iconst 0, 1), (102, .ireturn, 1), (103, .aload_n 0, 1), (104, .getfield 112, 3), (107, .ifCond .ne 7, 3), (110, .iconst 1, 1), (111, .goto 4, 3), (114, .iconst 0, 1), (115, .ireturn, 1), (116, .iconst 0, 1), (117, .ireturn, 1)] = true := by decide +kernel
theorem dX7_mayBe_0 : decode cX7_mayBe 0 = .ok (.iload_n 1, 1) := decA_get dAX7_mayBe 0 rfl
theorem dX7_mayBe_1 : decode cX7_mayBe 1 = .ok (.lookupswitch 115 #[(99, 51), (100, 86), (104, 84), (112, 68), (115, 102)], 51) := decA_get dAX7_mayBe 1 rfl
theorem dX7_mayBe_52 : decode cX7_mayBe 52 = .ok (.aload_n 0, 1) := decA_get dAX7_mayBe 2 rfl
theorem dX7_mayBe_53 : decode cX7_mayBe 53 = .ok (.getfield 13, 3) := decA_get dAX7_mayBe 3 rfl
theorem in_X7_mayBe_7 : ∀ w ∈ wsX70, w ∈ wsX7_mayBe := fun w h => (gd_ids wi_X7_mayBe wm_X7_mayBe wi_X70 (by decide +kernel) w h).1
theorem dX7_mayBe_56 : decode cX7_mayBe 56 = .ok (.iconst 1, 1) := decA_get dAX7_mayBe 4 rfl
theorem dX7_mayBe_57 : decode cX7_mayBe 57 = .ok (.iaload, 1) := decA_get dAX7_mayBe 5 rfl
theorem dX7_mayBe_58 : decode cX7_mayBe 58 = .ok (.bipush 6, 2) := decA_get dAX7_mayBe 6 rfl
theorem dX7_mayBe_60 : decode cX7_mayBe 60 = .ok (.if_icmp .ge 7, 3) := decA_get dAX7_mayBe 7 rfl
theorem dX7_mayBe_67 : decode cX7_mayBe 67 = .ok (.iconst 0, 1) := decA_get dAX7_mayBe 10 rfl
theorem dX7_mayBe_68 : decode cX7_mayBe 68 = .ok (.ireturn, 1) := decA_get dAX7_mayBe 11 rfl
theorem dX7_mayBe_63 : decode cX7_mayBe 63 = .ok (.iconst 1, 1) := decA_get dAX7_mayBe 8 rfl
theorem dX7_mayBe_64 : decode cX7_mayBe 64 = .ok (.goto 4, 3) := decA_get dAX7_mayBe 9 rfl
theorem dX7_mayBe_87 : decode cX7_mayBe 87 = .ok (.aload_n 0, 1) := decA_get dAX7_mayBe 24 rfl
theorem dX7_mayBe_88 : decode cX7_mayBe 88 = .ok (.getfield 32, 3) := decA_get dAX7_mayBe 25 rfl
theorem dX7_mayBe_91 : decode cX7_mayBe 91 = .ok (.iconst 1, 1) := decA_get dAX7_mayBe 26 rfl
theorem dX7_mayBe_92 : decode cX7_mayBe 92 = .ok (.iaload, 1) := decA_get dAX7_mayBe 27 rfl
theorem dX7_mayBe_93 : decode cX7_mayBe 93 = .ok (.iconst 5, 1) := decA_get dAX7_mayBe 28 rfl
theorem dX7_mayBe_94 : decode cX7_mayBe 94 = .ok (.if_icmp .ge 7, 3) := decA_get dAX7_mayBe 29 rfl
theorem dX7_mayBe_101 : decode cX7_mayBe 101 = .ok (.iconst 0, 1) := decA_get dAX7_mayBe 32 rfl
theorem dX7_mayBe_102 : decode cX7_mayBe 102 = .ok (.ireturn, 1) := decA_get dAX7_mayBe 33 rfl
theorem dX7_mayBe_97 : decode cX7_mayBe 97 = .ok (.iconst 1, 1) := decA_get dAX7_mayBe 30 rfl
theorem dX7_mayBe_98 : decode cX7_mayBe 98 = .ok (.goto 4, 3) := decA_get dAX7_mayBe 31 rfl
theorem dX7_mayBe_85 : decode cX7_mayBe 85 = .ok (.iconst 1, 1) := decA_get dAX7_mayBe 22 rfl
theorem dX7_mayBe_86 : decode cX7_mayBe 86 = .ok (.ireturn, 1) := decA_get dAX7_mayBe 23 rfl
theorem dX7_mayBe_69 : decode cX7_mayBe 69 = .ok (.aload_n 0, 1) := decA_get dAX7_mayBe 12 rfl
theorem dX7_mayBe_70 : decode cX7_mayBe 70 = .ok (.getfield 23, 3) := decA_get dAX7_mayBe 13 rfl
theorem dX7_mayBe_73 : decode cX7_mayBe 73 = .ok (.iconst 1, 1) := decA_get dAX7_mayBe 14 rfl
theorem dX7_mayBe_74 : decode cX7_mayBe 74 = .ok (.iaload, 1) := decA_get dAX7_mayBe 15 rfl
theorem dX7_mayBe_75 : decode cX7_mayBe 75 = .ok (.iconst 5, 1) := decA_get dAX7_mayBe 16 rfl
theorem dX7_mayBe_76 : decode cX7_mayBe 76 = .ok (.if_icmp .ge 7, 3) := decA_get dAX7_mayBe 17 rfl
theorem dX7_mayBe_83 : decode cX7_mayBe 83 = .ok (.iconst 0, 1) := decA_get dAX7_mayBe 20 rfl
theorem dX7_mayBe_84 : decode cX7_mayBe 84 = .ok (.ireturn, 1) := decA_get dAX7_mayBe 21 rfl
theorem dX7_mayBe_79 : decode cX7_mayBe 79 = .ok (.iconst 1, 1) := decA_get dAX7_mayBe 18 rfl
theorem dX7_mayBe_80 : decode cX7_mayBe 80 = .ok (.goto 4, 3) := decA_get dAX7_mayBe 19 rfl
theorem dX7_mayBe_103 : decode cX7_mayBe 103 = .ok (.aload_n 0, 1) := decA_get dAX7_mayBe 34 rfl
theorem dX7_mayBe_104 : decode cX7_mayBe 104 = .ok (.getfield 112, 3) := decA_get dAX7_mayBe 35 rfl
theorem dX7_mayBe_107 : decode cX7_mayBe 107 = .ok (.ifCond .ne 7, 3) := decA_get dAX7_mayBe 36 rfl
theorem dX7_mayBe_114 : decode cX7_mayBe 114 = .ok (.iconst 0, 1) := decA_get dAX7_mayBe 39 rfl
theorem dX7_mayBe_115 : decode cX7_mayBe 115 = .ok (.ireturn, 1) := decA_get dAX7_mayBe 40 rfl
theorem dX7_mayBe_110 : decode cX7_mayBe 110 = .ok (.iconst 1, 1) := decA_get dAX7_mayBe 37 rfl
theorem dX7_mayBe_111 : decode cX7_mayBe 111 = .ok (.goto 4, 3) := decA_get dAX7_mayBe 38 rfl
theorem dX7_mayBe_116 : decode cX7_mayBe 116 = .ok (.iconst 0, 1) := decA_get dAX7_mayBe 41 rfl
theorem dX7_mayBe_117 : decode cX7_mayBe 117 = .ok (.ireturn, 1) := decA_get dAX7_mayBe 42 rfl
set_option maxHeartbeats 4000000 in
set_option maxRecDepth 100000 in
theorem z_mayBe (l : Launch) (D : va_G) (cI cB cZ cN : ClassId) (Zh : Nat) (Za1 : Nat) (Za3 : Nat) (Za4 : Nat) (Za5 : Nat) (Za6 : Nat) (Za7 : Nat) (Za8 : Nat) (Za9 : Nat) (Za10 : Nat) (Za11 : Nat) (Za12 : Nat) (Za13 : Nat) (Za20 : Nat) (Za21 : Nat) (Za22 : Nat) (Za23 : Nat) (Za24 : Nat) (Za25 : Nat) (Za26 : Nat) (Za27 : Nat) (Zt : Int64) (ZS : Nat → Nat → Nat) (v_w : Nat) (hZ : ZOk ZS) (hw : v_w < 1000) : Ci (S := Unit) l D cI cB cZ cN yX7_mayBe wsX7_mayBe ({ frames := 0, cells := 0, slots := 0, locals := 0 } : Room) [.ref Zh, .int (nI v_w)] [(Zh, .inr (7, [.long Zt, .ref Za1, .int (nI (ZS 2 0)), .ref Za3, .ref Za4, .ref Za5, .ref Za6, .ref Za7, .ref Za8, .ref Za9, .ref Za10, .ref Za11, .ref Za12, .ref Za13, .int (nI (ZS 14 0)), .int (nI (ZS 15 0)), .int (nI (ZS 16 0)), .int (nI (ZS 17 0)), .int (nI (ZS 18 0)), .int (nI (ZS 19 0) - nI 9), .ref Za20, .ref Za21, .ref Za22, .ref Za23, .ref Za24, .ref Za25, .ref Za26, .ref Za27, .int (nI (ZS 28 0))])), (Za1, .inl (cB, 180, .inl (bF (ZS 1)))), (Za3, .inl (cI, 2, .inl (nF (ZS 3)))), (Za4, .inl (cI, 12, .inl (nF (ZS 4)))), (Za5, .inl (cI, 12, .inl (nF (ZS 5)))), (Za6, .inl (cI, 2, .inl (nF (ZS 6)))), (Za7, .inl (cI, 10, .inl (nF (ZS 7)))), (Za8, .inl (cI, 30, .inl (nF (ZS 8)))), (Za9, .inl (cI, 2, .inl (nF (ZS 9)))), (Za10, .inl (cI, 10, .inl (nF (ZS 10)))), (Za11, .inl (cI, 5, .inl (nF (ZS 11)))), (Za12, .inl (cI, 10, .inl (nF (ZS 12)))), (Za13, .inl (cI, 2, .inl (nF (ZS 13)))), (Za20, .inl (cI, 1191, .inl (nF (ZS 20)))), (Za21, .inl (cZ, 2, .inl (nF (ZS 21)))), (Za22, .inl (cI, 36, .inl (nF (ZS 22)))), (Za23, .inl (cI, 6, .inl (nF (ZS 23)))), (Za24, .inl (cI, 427, .inl (nF (ZS 24)))), (Za25, .inl (cI, 6, .inl (nF (ZS 25)))), (Za26, .inl (cI, 5, .inl (nF (ZS 26)))), (Za27, .inl (cI, 6, .inl (nF (ZS 27))))] (fun (r : Int32) (_ : Unit) => (r = nI 1 ∧ mbN ZS v_w = 1) ∨ (r = nI 0 ∧ mbN ZS v_w = 0)) (fun u => [(Zh, .inr (7, [.long Zt, .ref Za1, .int (nI (ZS 2 0)), .ref Za3, .ref Za4, .ref Za5, .ref Za6, .ref Za7, .ref Za8, .ref Za9, .ref Za10, .ref Za11, .ref Za12, .ref Za13, .int (nI (ZS 14 0)), .int (nI (ZS 15 0)), .int (nI (ZS 16 0)), .int (nI (ZS 17 0)), .int (nI (ZS 18 0)), .int (nI (ZS 19 0) - nI 9), .ref Za20, .ref Za21, .ref Za22, .ref Za23, .ref Za24, .ref Za25, .ref Za26, .ref Za27, .int (nI (ZS 28 0))])), (Za1, .inl (cB, 180, .inl (bF (ZS 1)))), (Za3, .inl (cI, 2, .inl (nF (ZS 3)))), (Za4, .inl (cI, 12, .inl (nF (ZS 4)))), (Za5, .inl (cI, 12, .inl (nF (ZS 5)))), (Za6, .inl (cI, 2, .inl (nF (ZS 6)))), (Za7, .inl (cI, 10, .inl (nF (ZS 7)))), (Za8, .inl (cI, 30, .inl (nF (ZS 8)))), (Za9, .inl (cI, 2, .inl (nF (ZS 9)))), (Za10, .inl (cI, 10, .inl (nF (ZS 10)))), (Za11, .inl (cI, 5, .inl (nF (ZS 11)))), (Za12, .inl (cI, 10, .inl (nF (ZS 12)))), (Za13, .inl (cI, 2, .inl (nF (ZS 13)))), (Za20, .inl (cI, 1191, .inl (nF (ZS 20)))), (Za21, .inl (cZ, 2, .inl (nF (ZS 21)))), (Za22, .inl (cI, 36, .inl (nF (ZS 22)))), (Za23, .inl (cI, 6, .inl (nF (ZS 23)))), (Za24, .inl (cI, 427, .inl (nF (ZS 24)))), (Za25, .inl (cI, 6, .inl (nF (ZS 25)))), (Za26, .inl (cI, 5, .inl (nF (ZS 26)))), (Za27, .inl (cI, 6, .inl (nF (ZS 27))))]) := by
  refine bx_of (D := D) (cI := cI) (cB := cB) (cZ := cZ) (cN := cN) (y := yX7_mayBe) (wd := wsX7_mayBe) (rm := ({ frames := 0, cells := 0, slots := 0, locals := 0 } : Room)) (av := [.ref Zh, .int (nI v_w)]) (wc := [(Zh, .inr (7, [.long Zt, .ref Za1, .int (nI (ZS 2 0)), .ref Za3, .ref Za4, .ref Za5, .ref Za6, .ref Za7, .ref Za8, .ref Za9, .ref Za10, .ref Za11, .ref Za12, .ref Za13, .int (nI (ZS 14 0)), .int (nI (ZS 15 0)), .int (nI (ZS 16 0)), .int (nI (ZS 17 0)), .int (nI (ZS 18 0)), .int (nI (ZS 19 0) - nI 9), .ref Za20, .ref Za21, .ref Za22, .ref Za23, .ref Za24, .ref Za25, .ref Za26, .ref Za27, .int (nI (ZS 28 0))])), (Za1, .inl (cB, 180, .inl (bF (ZS 1)))), (Za3, .inl (cI, 2, .inl (nF (ZS 3)))), (Za4, .inl (cI, 12, .inl (nF (ZS 4)))), (Za5, .inl (cI, 12, .inl (nF (ZS 5)))), (Za6, .inl (cI, 2, .inl (nF (ZS 6)))), (Za7, .inl (cI, 10, .inl (nF (ZS 7)))), (Za8, .inl (cI, 30, .inl (nF (ZS 8)))), (Za9, .inl (cI, 2, .inl (nF (ZS 9)))), (Za10, .inl (cI, 10, .inl (nF (ZS 10)))), (Za11, .inl (cI, 5, .inl (nF (ZS 11)))), (Za12, .inl (cI, 10, .inl (nF (ZS 12)))), (Za13, .inl (cI, 2, .inl (nF (ZS 13)))), (Za20, .inl (cI, 1191, .inl (nF (ZS 20)))), (Za21, .inl (cZ, 2, .inl (nF (ZS 21)))), (Za22, .inl (cI, 36, .inl (nF (ZS 22)))), (Za23, .inl (cI, 6, .inl (nF (ZS 23)))), (Za24, .inl (cI, 427, .inl (nF (ZS 24)))), (Za25, .inl (cI, 6, .inl (nF (ZS 25)))), (Za26, .inl (cI, 5, .inl (nF (ZS 26)))), (Za27, .inl (cI, 6, .inl (nF (ZS 27))))]) (cc := cX7_mayBe) (maxL := 2) (ret := (some .boolean)) (Qc := fun _ A => va_Qi (S := Unit) (fun (r : Int32) (_ : Unit) => (r = nI 1 ∧ mbN ZS v_w = 1) ∨ (r = nI 0 ∧ mbN ZS v_w = 0)) (Aft D (fun (u : Unit) => [(Zh, .inr (7, [.long Zt, .ref Za1, .int (nI (ZS 2 0)), .ref Za3, .ref Za4, .ref Za5, .ref Za6, .ref Za7, .ref Za8, .ref Za9, .ref Za10, .ref Za11, .ref Za12, .ref Za13, .int (nI (ZS 14 0)), .int (nI (ZS 15 0)), .int (nI (ZS 16 0)), .int (nI (ZS 17 0)), .int (nI (ZS 18 0)), .int (nI (ZS 19 0) - nI 9), .ref Za20, .ref Za21, .ref Za22, .ref Za23, .ref Za24, .ref Za25, .ref Za26, .ref Za27, .int (nI (ZS 28 0))])), (Za1, .inl (cB, 180, .inl (bF (ZS 1)))), (Za3, .inl (cI, 2, .inl (nF (ZS 3)))), (Za4, .inl (cI, 12, .inl (nF (ZS 4)))), (Za5, .inl (cI, 12, .inl (nF (ZS 5)))), (Za6, .inl (cI, 2, .inl (nF (ZS 6)))), (Za7, .inl (cI, 10, .inl (nF (ZS 7)))), (Za8, .inl (cI, 30, .inl (nF (ZS 8)))), (Za9, .inl (cI, 2, .inl (nF (ZS 9)))), (Za10, .inl (cI, 10, .inl (nF (ZS 10)))), (Za11, .inl (cI, 5, .inl (nF (ZS 11)))), (Za12, .inl (cI, 10, .inl (nF (ZS 12)))), (Za13, .inl (cI, 2, .inl (nF (ZS 13)))), (Za20, .inl (cI, 1191, .inl (nF (ZS 20)))), (Za21, .inl (cZ, 2, .inl (nF (ZS 21)))), (Za22, .inl (cI, 36, .inl (nF (ZS 22)))), (Za23, .inl (cI, 6, .inl (nF (ZS 23)))), (Za24, .inl (cI, 427, .inl (nF (ZS 24)))), (Za25, .inl (cI, 6, .inl (nF (ZS 25)))), (Za26, .inl (cI, 5, .inl (nF (ZS 26)))), (Za27, .inl (cI, 6, .inl (nF (ZS 27))))]) A) A) (by decide) rfl (Nat.le_of_ble_eq_true rfl) ?_
  intro p e s m below meth c A H locs ⟨hx, hb, hr, hml, hown, hts, hlk, hnm⟩ hK hP hD hS hA ls hl
  have hl : lv_has ls 2 [(0, .ref Zh), (1, .int (nI v_w))] := hl
  have hown : s.vm.findClass RX7 = some m.cls := hown
  refine lv_iload_n hx hb dX7_mayBe_0 rfl (lv_at hl 1 rfl) ?_
  rcases lk5 (v_w) with hq1 | hq1 | hq1 | hq1 | hq1 | hq1
  · refine set_i (y := nI 99) (congrArg nI hq1) ?_
    refine lv_lookup (tgt := 52) (off := 51) hx hb dX7_mayBe_1 (by decide) (by decide) (by decide) ?_
    refine lv_aload_n hx hb dX7_mayBe_52 rfl (lv_at hl 0 rfl) ?_
    refine va_get (D := D) (ci := 7) (v := .ref Za3) (C := RX7) (T := TX7) (N := 29) hx hb hts in_X7_mayBe_7 hown hK.1 hP 0 rfl rfl 3 (by decide) (hts (.fieldLink RX7 13 "ChildCoinsModel" "coins" "[I") (List.mem_of_getElem? (i := 1) rfl)) (fun _ h9 => h9) rfl dX7_mayBe_53 ?_
    refine lv_iconst (v := nI 1) hx hb dX7_mayBe_56 (by decide) ?_
    refine va_iald hx hb hK.1 hP 2 0 rfl rfl (vp_in_nI (n := 1) (N := 2) (by omega) (by decide)) dX7_mayBe_57 ?_
    refine set_i (y := nI (ZS 3 1)) (nF_ld (by omega)) ?_
    have b2 : ZS 3 1 ≤ 6 := hZ 3 1
    refine lv_bipush (v := nI 6) hx hb dX7_mayBe_58 (by decide) ?_
    refine nb_icmp_ge (tgt := 67) hx hb dX7_mayBe_60 (by decide) (by omega) (by omega) (fun hq3 => ?_) (fun hq3 => ?_)
    · skip
      refine lv_iconst (v := nI 0) hx hb dX7_mayBe_67 (by decide) ?_
      exact en_z hx hb hr hlk hP hD hS () [0, 1, 2, 3, 4, 5, 6, 7, 8, 9, 10, 11, 12, 13, 14, 15, 16, 17, 18, 19, 20] (by decide) rfl (Nat.le_of_ble_eq_true rfl) (Nat.le_of_ble_eq_true rfl) dX7_mayBe_68 rfl (Or.inr ⟨rfl, by unfold mbN; (repeat' split) <;> omega⟩)
    · skip
      refine lv_iconst (v := nI 1) hx hb dX7_mayBe_63 (by decide) ?_
      refine lv_goto (tgt := 68) hx hb dX7_mayBe_64 (by decide) ?_
      exact en_z hx hb hr hlk hP hD hS () [0, 1, 2, 3, 4, 5, 6, 7, 8, 9, 10, 11, 12, 13, 14, 15, 16, 17, 18, 19, 20] (by decide) rfl (Nat.le_of_ble_eq_true rfl) (Nat.le_of_ble_eq_true rfl) dX7_mayBe_68 rfl (Or.inl ⟨rfl, by unfold mbN; (repeat' split) <;> omega⟩)
  · refine set_i (y := nI 100) (congrArg nI hq1) ?_
    refine lv_lookup (tgt := 87) (off := 86) hx hb dX7_mayBe_1 (by decide) (by decide) (by decide) ?_
    refine lv_aload_n hx hb dX7_mayBe_87 rfl (lv_at hl 0 rfl) ?_
    refine va_get (D := D) (ci := 7) (v := .ref Za9) (C := RX7) (T := TX7) (N := 29) hx hb hts in_X7_mayBe_7 hown hK.1 hP 0 rfl rfl 9 (by decide) (hts (.fieldLink RX7 32 "ChildCoinsModel" "debts" "[I") (List.mem_of_getElem? (i := 3) rfl)) (fun _ h9 => h9) rfl dX7_mayBe_88 ?_
    refine lv_iconst (v := nI 1) hx hb dX7_mayBe_91 (by decide) ?_
    refine va_iald hx hb hK.1 hP 8 0 rfl rfl (vp_in_nI (n := 1) (N := 2) (by omega) (by decide)) dX7_mayBe_92 ?_
    refine set_i (y := nI (ZS 9 1)) (nF_ld (by omega)) ?_
    have b4 : ZS 9 1 ≤ 5 := hZ 9 1
    refine lv_iconst (v := nI 5) hx hb dX7_mayBe_93 (by decide) ?_
    refine nb_icmp_ge (tgt := 101) hx hb dX7_mayBe_94 (by decide) (by omega) (by omega) (fun hq5 => ?_) (fun hq5 => ?_)
    · skip
      refine lv_iconst (v := nI 0) hx hb dX7_mayBe_101 (by decide) ?_
      exact en_z hx hb hr hlk hP hD hS () [0, 1, 2, 3, 4, 5, 6, 7, 8, 9, 10, 11, 12, 13, 14, 15, 16, 17, 18, 19, 20] (by decide) rfl (Nat.le_of_ble_eq_true rfl) (Nat.le_of_ble_eq_true rfl) dX7_mayBe_102 rfl (Or.inr ⟨rfl, by unfold mbN; (repeat' split) <;> omega⟩)
    · skip
      refine lv_iconst (v := nI 1) hx hb dX7_mayBe_97 (by decide) ?_
      refine lv_goto (tgt := 102) hx hb dX7_mayBe_98 (by decide) ?_
      exact en_z hx hb hr hlk hP hD hS () [0, 1, 2, 3, 4, 5, 6, 7, 8, 9, 10, 11, 12, 13, 14, 15, 16, 17, 18, 19, 20] (by decide) rfl (Nat.le_of_ble_eq_true rfl) (Nat.le_of_ble_eq_true rfl) dX7_mayBe_102 rfl (Or.inl ⟨rfl, by unfold mbN; (repeat' split) <;> omega⟩)
  · refine set_i (y := nI 104) (congrArg nI hq1) ?_
    refine lv_lookup (tgt := 85) (off := 84) hx hb dX7_mayBe_1 (by decide) (by decide) (by decide) ?_
    refine lv_iconst (v := nI 1) hx hb dX7_mayBe_85 (by decide) ?_
    exact en_z hx hb hr hlk hP hD hS () [0, 1, 2, 3, 4, 5, 6, 7, 8, 9, 10, 11, 12, 13, 14, 15, 16, 17, 18, 19, 20] (by decide) rfl (Nat.le_of_ble_eq_true rfl) (Nat.le_of_ble_eq_true rfl) dX7_mayBe_86 rfl (Or.inl ⟨rfl, by unfold mbN; (repeat' split) <;> omega⟩)
  · refine set_i (y := nI 112) (congrArg nI hq1) ?_
    refine lv_lookup (tgt := 69) (off := 68) hx hb dX7_mayBe_1 (by decide) (by decide) (by decide) ?_
    refine lv_aload_n hx hb dX7_mayBe_69 rfl (lv_at hl 0 rfl) ?_
    refine va_get (D := D) (ci := 7) (v := .ref Za6) (C := RX7) (T := TX7) (N := 29) hx hb hts in_X7_mayBe_7 hown hK.1 hP 0 rfl rfl 6 (by decide) (hts (.fieldLink RX7 23 "ChildCoinsModel" "people" "[I") (List.mem_of_getElem? (i := 2) rfl)) (fun _ h9 => h9) rfl dX7_mayBe_70 ?_
    refine lv_iconst (v := nI 1) hx hb dX7_mayBe_73 (by decide) ?_
    refine va_iald hx hb hK.1 hP 5 0 rfl rfl (vp_in_nI (n := 1) (N := 2) (by omega) (by decide)) dX7_mayBe_74 ?_
    refine set_i (y := nI (ZS 6 1)) (nF_ld (by omega)) ?_
    have b6 : ZS 6 1 ≤ 5 := hZ 6 1
    refine lv_iconst (v := nI 5) hx hb dX7_mayBe_75 (by decide) ?_
    refine nb_icmp_ge (tgt := 83) hx hb dX7_mayBe_76 (by decide) (by omega) (by omega) (fun hq7 => ?_) (fun hq7 => ?_)
    · skip
      refine lv_iconst (v := nI 0) hx hb dX7_mayBe_83 (by decide) ?_
      exact en_z hx hb hr hlk hP hD hS () [0, 1, 2, 3, 4, 5, 6, 7, 8, 9, 10, 11, 12, 13, 14, 15, 16, 17, 18, 19, 20] (by decide) rfl (Nat.le_of_ble_eq_true rfl) (Nat.le_of_ble_eq_true rfl) dX7_mayBe_84 rfl (Or.inr ⟨rfl, by unfold mbN; (repeat' split) <;> omega⟩)
    · skip
      refine lv_iconst (v := nI 1) hx hb dX7_mayBe_79 (by decide) ?_
      refine lv_goto (tgt := 84) hx hb dX7_mayBe_80 (by decide) ?_
      exact en_z hx hb hr hlk hP hD hS () [0, 1, 2, 3, 4, 5, 6, 7, 8, 9, 10, 11, 12, 13, 14, 15, 16, 17, 18, 19, 20] (by decide) rfl (Nat.le_of_ble_eq_true rfl) (Nat.le_of_ble_eq_true rfl) dX7_mayBe_84 rfl (Or.inl ⟨rfl, by unfold mbN; (repeat' split) <;> omega⟩)
  · refine set_i (y := nI 115) (congrArg nI hq1) ?_
    refine lv_lookup (tgt := 103) (off := 102) hx hb dX7_mayBe_1 (by decide) (by decide) (by decide) ?_
    refine lv_aload_n hx hb dX7_mayBe_103 rfl (lv_at hl 0 rfl) ?_
    refine va_get (D := D) (ci := 7) (v := .int (nI (ZS 14 0))) (C := RX7) (T := TX7) (N := 29) hx hb hts in_X7_mayBe_7 hown hK.1 hP 0 rfl rfl 14 (by decide) (hts (.fieldLink RX7 112 "ChildCoinsModel" "spanTold" "Z") (List.mem_of_getElem? (i := 4) rfl)) (fun _ h9 => h9) rfl dX7_mayBe_104 ?_
    have b8 : ZS 14 0 ≤ 1 := hZ 14 0
    refine nb_if_ne (tgt := 114) hx hb dX7_mayBe_107 (by decide) (by omega) (fun hq9 => ?_) (fun hq9 => ?_)
    · skip
      refine lv_iconst (v := nI 0) hx hb dX7_mayBe_114 (by decide) ?_
      exact en_z hx hb hr hlk hP hD hS () [0, 1, 2, 3, 4, 5, 6, 7, 8, 9, 10, 11, 12, 13, 14, 15, 16, 17, 18, 19, 20] (by decide) rfl (Nat.le_of_ble_eq_true rfl) (Nat.le_of_ble_eq_true rfl) dX7_mayBe_115 rfl (Or.inr ⟨rfl, by unfold mbN; (repeat' split) <;> omega⟩)
    · skip
      refine lv_iconst (v := nI 1) hx hb dX7_mayBe_110 (by decide) ?_
      refine lv_goto (tgt := 115) hx hb dX7_mayBe_111 (by decide) ?_
      exact en_z hx hb hr hlk hP hD hS () [0, 1, 2, 3, 4, 5, 6, 7, 8, 9, 10, 11, 12, 13, 14, 15, 16, 17, 18, 19, 20] (by decide) rfl (Nat.le_of_ble_eq_true rfl) (Nat.le_of_ble_eq_true rfl) dX7_mayBe_115 rfl (Or.inl ⟨rfl, by unfold mbN; (repeat' split) <;> omega⟩)
  · refine lv_lookup (tgt := 116) (off := 115) hx hb dX7_mayBe_1 (by decide) (lk5d (by omega) hq1) (by decide) ?_
    refine lv_iconst (v := nI 0) hx hb dX7_mayBe_116 (by decide) ?_
    exact en_z hx hb hr hlk hP hD hS () [0, 1, 2, 3, 4, 5, 6, 7, 8, 9, 10, 11, 12, 13, 14, 15, 16, 17, 18, 19, 20] (by decide) rfl (Nat.le_of_ble_eq_true rfl) (Nat.le_of_ble_eq_true rfl) dX7_mayBe_117 rfl (Or.inr ⟨rfl, by unfold mbN; (repeat' split) <;> omega⟩)
