set_option maxRecDepth 20000 in
theorem dAX7_know : decA cX7_know [(0, .aload_n 0, 1), (1, .getfield 47, 3), (4, .bipush 36, 2), (6, .iaload, 1), (7, .bipush 10, 2), (9, .if_icmp .ne 47, 3), (12, .iconst 0, 1), (13, .istore_n 1, 1), (14, .iload_n 1, 1), (15, .sipush 324, 3), (18, .if_icmp .ge 27, 3), (21, .aload_n 0, 1), (22, .getfield 47, 3), (25, .bipush 37, 2), (27, .iload_n 1, 1), (28, .iadd, 1), (29, .aload_n 0, 1), (30, .getfield 47, 3), (33, .bipush 73, 2), (35, .iload_n 1, 1), (36, .iadd, 1), (37, .iaload, 1), (38, .iastore, 1), (39, .iinc 1 1, 3), (42, .goto (-28), 3), (45, .aload_n 0, 1), (46, .getfield 47, 3), (49, .bipush 36, 2), (51, .dup2, 1), (52, .iaload, 1), (53, .iconst 1, 1), (54, .isub, 1), (55, .iastore, 1), (56, .iconst 0, 1), (57, .istore_n 1, 1), (58, .iload_n 1, 1), (59, .bipush 36, 2), (61, .if_icmp .ge 35, 3), (64, .aload_n 0, 1), (65, .getfield 47, 3), (68, .bipush 37, 2), (70, .bipush 36, 2), (72, .aload_n 0, 1), (73, .getfield 47, 3), (76, .bipush 36, 2), (78, .iaload, 1), (79, .imul, 1), (80, .iadd, 1), (81, .iload_n 1, 1), (82, .iadd, 1), (83, .aload_n 0, 1), (84, .getfield 47, 3), (87, .iload_n 1, 1), (88, .iaload, 1), (89, .iastore, 1), (90, .iinc 1 1, 3), (93, .goto (-35), 3), (96, .aload_n 0, 1), (97, .getfield 47, 3), (100, .bipush 36, 2), (102, .dup2, 1), (103, .iaload, 1), (104, .iconst 1, 1), (105, .iadd, 1), (106, .iastore, 1), (107, .return_, 1)] = true := by decide +kernel
theorem dX7_know_0 : decode cX7_know 0 = .ok (.aload_n 0, 1) := decA_get dAX7_know 0 rfl
theorem dX7_know_1 : decode cX7_know 1 = .ok (.getfield 47, 3) := decA_get dAX7_know 1 rfl
theorem in_X7_know_7 : ∀ w ∈ wsX70, w ∈ wsX7_know := fun w h => (gd_ids wi_X7_know wm_X7_know wi_X70 (by decide +kernel) w h).1
theorem dX7_know_4 : decode cX7_know 4 = .ok (.bipush 36, 2) := decA_get dAX7_know 2 rfl
theorem dX7_know_6 : decode cX7_know 6 = .ok (.iaload, 1) := decA_get dAX7_know 3 rfl
theorem dX7_know_7 : decode cX7_know 7 = .ok (.bipush 10, 2) := decA_get dAX7_know 4 rfl
theorem dX7_know_9 : decode cX7_know 9 = .ok (.if_icmp .ne 47, 3) := decA_get dAX7_know 5 rfl
theorem dX7_know_56 : decode cX7_know 56 = .ok (.iconst 0, 1) := decA_get dAX7_know 33 rfl
theorem dX7_know_57 : decode cX7_know 57 = .ok (.istore_n 1, 1) := decA_get dAX7_know 34 rfl
theorem dX7_know_58 : decode cX7_know 58 = .ok (.iload_n 1, 1) := decA_get dAX7_know 35 rfl
theorem dX7_know_59 : decode cX7_know 59 = .ok (.bipush 36, 2) := decA_get dAX7_know 36 rfl
theorem dX7_know_61 : decode cX7_know 61 = .ok (.if_icmp .ge 35, 3) := decA_get dAX7_know 37 rfl
theorem dX7_know_96 : decode cX7_know 96 = .ok (.aload_n 0, 1) := decA_get dAX7_know 57 rfl
theorem dX7_know_97 : decode cX7_know 97 = .ok (.getfield 47, 3) := decA_get dAX7_know 58 rfl
theorem dX7_know_100 : decode cX7_know 100 = .ok (.bipush 36, 2) := decA_get dAX7_know 59 rfl
theorem dX7_know_102 : decode cX7_know 102 = .ok (.dup2, 1) := decA_get dAX7_know 60 rfl
theorem dX7_know_103 : decode cX7_know 103 = .ok (.iaload, 1) := decA_get dAX7_know 61 rfl
theorem dX7_know_104 : decode cX7_know 104 = .ok (.iconst 1, 1) := decA_get dAX7_know 62 rfl
theorem dX7_know_105 : decode cX7_know 105 = .ok (.iadd, 1) := decA_get dAX7_know 63 rfl
theorem dX7_know_106 : decode cX7_know 106 = .ok (.iastore, 1) := decA_get dAX7_know 64 rfl
theorem dX7_know_107 : decode cX7_know 107 = .ok (.return_, 1) := decA_get dAX7_know 65 rfl
theorem dX7_know_64 : decode cX7_know 64 = .ok (.aload_n 0, 1) := decA_get dAX7_know 38 rfl
theorem dX7_know_65 : decode cX7_know 65 = .ok (.getfield 47, 3) := decA_get dAX7_know 39 rfl
theorem dX7_know_68 : decode cX7_know 68 = .ok (.bipush 37, 2) := decA_get dAX7_know 40 rfl
theorem dX7_know_70 : decode cX7_know 70 = .ok (.bipush 36, 2) := decA_get dAX7_know 41 rfl
theorem dX7_know_72 : decode cX7_know 72 = .ok (.aload_n 0, 1) := decA_get dAX7_know 42 rfl
theorem dX7_know_73 : decode cX7_know 73 = .ok (.getfield 47, 3) := decA_get dAX7_know 43 rfl
theorem dX7_know_76 : decode cX7_know 76 = .ok (.bipush 36, 2) := decA_get dAX7_know 44 rfl
theorem dX7_know_78 : decode cX7_know 78 = .ok (.iaload, 1) := decA_get dAX7_know 45 rfl
theorem dX7_know_79 : decode cX7_know 79 = .ok (.imul, 1) := decA_get dAX7_know 46 rfl
theorem dX7_know_80 : decode cX7_know 80 = .ok (.iadd, 1) := decA_get dAX7_know 47 rfl
theorem dX7_know_81 : decode cX7_know 81 = .ok (.iload_n 1, 1) := decA_get dAX7_know 48 rfl
theorem dX7_know_82 : decode cX7_know 82 = .ok (.iadd, 1) := decA_get dAX7_know 49 rfl
theorem dX7_know_83 : decode cX7_know 83 = .ok (.aload_n 0, 1) := decA_get dAX7_know 50 rfl
theorem dX7_know_84 : decode cX7_know 84 = .ok (.getfield 47, 3) := decA_get dAX7_know 51 rfl
theorem dX7_know_87 : decode cX7_know 87 = .ok (.iload_n 1, 1) := decA_get dAX7_know 52 rfl
theorem dX7_know_88 : decode cX7_know 88 = .ok (.iaload, 1) := decA_get dAX7_know 53 rfl
theorem dX7_know_89 : decode cX7_know 89 = .ok (.iastore, 1) := decA_get dAX7_know 54 rfl
theorem dX7_know_90 : decode cX7_know 90 = .ok (.iinc 1 1, 3) := decA_get dAX7_know 55 rfl
theorem dX7_know_93 : decode cX7_know 93 = .ok (.goto (-35), 3) := decA_get dAX7_know 56 rfl
theorem dX7_know_12 : decode cX7_know 12 = .ok (.iconst 0, 1) := decA_get dAX7_know 6 rfl
theorem dX7_know_13 : decode cX7_know 13 = .ok (.istore_n 1, 1) := decA_get dAX7_know 7 rfl
theorem dX7_know_14 : decode cX7_know 14 = .ok (.iload_n 1, 1) := decA_get dAX7_know 8 rfl
theorem dX7_know_15 : decode cX7_know 15 = .ok (.sipush 324, 3) := decA_get dAX7_know 9 rfl
theorem dX7_know_18 : decode cX7_know 18 = .ok (.if_icmp .ge 27, 3) := decA_get dAX7_know 10 rfl
theorem dX7_know_45 : decode cX7_know 45 = .ok (.aload_n 0, 1) := decA_get dAX7_know 25 rfl
theorem dX7_know_46 : decode cX7_know 46 = .ok (.getfield 47, 3) := decA_get dAX7_know 26 rfl
theorem dX7_know_49 : decode cX7_know 49 = .ok (.bipush 36, 2) := decA_get dAX7_know 27 rfl
theorem dX7_know_51 : decode cX7_know 51 = .ok (.dup2, 1) := decA_get dAX7_know 28 rfl
theorem dX7_know_52 : decode cX7_know 52 = .ok (.iaload, 1) := decA_get dAX7_know 29 rfl
theorem dX7_know_53 : decode cX7_know 53 = .ok (.iconst 1, 1) := decA_get dAX7_know 30 rfl
theorem dX7_know_54 : decode cX7_know 54 = .ok (.isub, 1) := decA_get dAX7_know 31 rfl
theorem dX7_know_55 : decode cX7_know 55 = .ok (.iastore, 1) := decA_get dAX7_know 32 rfl
theorem dX7_know_21 : decode cX7_know 21 = .ok (.aload_n 0, 1) := decA_get dAX7_know 11 rfl
theorem dX7_know_22 : decode cX7_know 22 = .ok (.getfield 47, 3) := decA_get dAX7_know 12 rfl
theorem dX7_know_25 : decode cX7_know 25 = .ok (.bipush 37, 2) := decA_get dAX7_know 13 rfl
theorem dX7_know_27 : decode cX7_know 27 = .ok (.iload_n 1, 1) := decA_get dAX7_know 14 rfl
theorem dX7_know_28 : decode cX7_know 28 = .ok (.iadd, 1) := decA_get dAX7_know 15 rfl
theorem dX7_know_29 : decode cX7_know 29 = .ok (.aload_n 0, 1) := decA_get dAX7_know 16 rfl
theorem dX7_know_30 : decode cX7_know 30 = .ok (.getfield 47, 3) := decA_get dAX7_know 17 rfl
theorem dX7_know_33 : decode cX7_know 33 = .ok (.bipush 73, 2) := decA_get dAX7_know 18 rfl
theorem dX7_know_35 : decode cX7_know 35 = .ok (.iload_n 1, 1) := decA_get dAX7_know 19 rfl
theorem dX7_know_36 : decode cX7_know 36 = .ok (.iadd, 1) := decA_get dAX7_know 20 rfl
theorem dX7_know_37 : decode cX7_know 37 = .ok (.iaload, 1) := decA_get dAX7_know 21 rfl
theorem dX7_know_38 : decode cX7_know 38 = .ok (.iastore, 1) := decA_get dAX7_know 22 rfl
theorem dX7_know_39 : decode cX7_know 39 = .ok (.iinc 1 1, 3) := decA_get dAX7_know 23 rfl
theorem dX7_know_42 : decode cX7_know 42 = .ok (.goto (-28), 3) := decA_get dAX7_know 24 rfl
set_option maxHeartbeats 4000000 in
set_option maxRecDepth 100000 in
theorem z_know (l : Launch) (D : va_G) (cI cB cZ cN : ClassId) (Zh : Nat) (Za1 : Nat) (Za3 : Nat) (Za4 : Nat) (Za5 : Nat) (Za6 : Nat) (Za7 : Nat) (Za8 : Nat) (Za9 : Nat) (Za10 : Nat) (Za11 : Nat) (Za12 : Nat) (Za13 : Nat) (Za20 : Nat) (Za21 : Nat) (Za22 : Nat) (Za23 : Nat) (Za24 : Nat) (Za25 : Nat) (Za26 : Nat) (Za27 : Nat) (Zt : Int64) (ZS : Nat → Nat → Nat) (hZ : ZOk ZS) : Cv (S := (Nat → Nat → Nat)) l D cI cB cZ cN yX7_know wsX7_know ({ frames := 0, cells := 0, slots := 0, locals := 0 } : Room) [.ref Zh] [(Zh, .inr (7, [.long Zt, .ref Za1, .int (nI (ZS 2 0)), .ref Za3, .ref Za4, .ref Za5, .ref Za6, .ref Za7, .ref Za8, .ref Za9, .ref Za10, .ref Za11, .ref Za12, .ref Za13, .int (nI (ZS 14 0)), .int (nI (ZS 15 0)), .int (nI (ZS 16 0)), .int (nI (ZS 17 0)), .int (nI (ZS 18 0)), .int (nI (ZS 19 0) - nI 9), .ref Za20, .ref Za21, .ref Za22, .ref Za23, .ref Za24, .ref Za25, .ref Za26, .ref Za27, .int (nI (ZS 28 0))])), (Za1, .inl (cB, 180, .inl (bF (ZS 1)))), (Za3, .inl (cI, 2, .inl (nF (ZS 3)))), (Za4, .inl (cI, 12, .inl (nF (ZS 4)))), (Za5, .inl (cI, 12, .inl (nF (ZS 5)))), (Za6, .inl (cI, 2, .inl (nF (ZS 6)))), (Za7, .inl (cI, 10, .inl (nF (ZS 7)))), (Za8, .inl (cI, 30, .inl (nF (ZS 8)))), (Za9, .inl (cI, 2, .inl (nF (ZS 9)))), (Za10, .inl (cI, 10, .inl (nF (ZS 10)))), (Za11, .inl (cI, 5, .inl (nF (ZS 11)))), (Za12, .inl (cI, 10, .inl (nF (ZS 12)))), (Za13, .inl (cI, 2, .inl (nF (ZS 13)))), (Za20, .inl (cI, 1191, .inl (nF (ZS 20)))), (Za21, .inl (cZ, 2, .inl (nF (ZS 21)))), (Za22, .inl (cI, 36, .inl (nF (ZS 22)))), (Za23, .inl (cI, 6, .inl (nF (ZS 23)))), (Za24, .inl (cI, 427, .inl (nF (ZS 24)))), (Za25, .inl (cI, 6, .inl (nF (ZS 25)))), (Za26, .inl (cI, 5, .inl (nF (ZS 26)))), (Za27, .inl (cI, 6, .inl (nF (ZS 27))))] (fun (u : (Nat → Nat → Nat)) => u = ua ZS 20 (knN (ZS 20))) (fun u => [(Zh, .inr (7, [.long Zt, .ref Za1, .int (nI (u 2 0)), .ref Za3, .ref Za4, .ref Za5, .ref Za6, .ref Za7, .ref Za8, .ref Za9, .ref Za10, .ref Za11, .ref Za12, .ref Za13, .int (nI (u 14 0)), .int (nI (u 15 0)), .int (nI (u 16 0)), .int (nI (u 17 0)), .int (nI (u 18 0)), .int (nI (u 19 0) - nI 9), .ref Za20, .ref Za21, .ref Za22, .ref Za23, .ref Za24, .ref Za25, .ref Za26, .ref Za27, .int (nI (u 28 0))])), (Za1, .inl (cB, 180, .inl (bF (u 1)))), (Za3, .inl (cI, 2, .inl (nF (u 3)))), (Za4, .inl (cI, 12, .inl (nF (u 4)))), (Za5, .inl (cI, 12, .inl (nF (u 5)))), (Za6, .inl (cI, 2, .inl (nF (u 6)))), (Za7, .inl (cI, 10, .inl (nF (u 7)))), (Za8, .inl (cI, 30, .inl (nF (u 8)))), (Za9, .inl (cI, 2, .inl (nF (u 9)))), (Za10, .inl (cI, 10, .inl (nF (u 10)))), (Za11, .inl (cI, 5, .inl (nF (u 11)))), (Za12, .inl (cI, 10, .inl (nF (u 12)))), (Za13, .inl (cI, 2, .inl (nF (u 13)))), (Za20, .inl (cI, 1191, .inl (nF (u 20)))), (Za21, .inl (cZ, 2, .inl (nF (u 21)))), (Za22, .inl (cI, 36, .inl (nF (u 22)))), (Za23, .inl (cI, 6, .inl (nF (u 23)))), (Za24, .inl (cI, 427, .inl (nF (u 24)))), (Za25, .inl (cI, 6, .inl (nF (u 25)))), (Za26, .inl (cI, 5, .inl (nF (u 26)))), (Za27, .inl (cI, 6, .inl (nF (u 27))))]) := by
  refine bx_of (D := D) (cI := cI) (cB := cB) (cZ := cZ) (cN := cN) (y := yX7_know) (wd := wsX7_know) (rm := ({ frames := 0, cells := 0, slots := 0, locals := 0 } : Room)) (av := [.ref Zh]) (wc := [(Zh, .inr (7, [.long Zt, .ref Za1, .int (nI (ZS 2 0)), .ref Za3, .ref Za4, .ref Za5, .ref Za6, .ref Za7, .ref Za8, .ref Za9, .ref Za10, .ref Za11, .ref Za12, .ref Za13, .int (nI (ZS 14 0)), .int (nI (ZS 15 0)), .int (nI (ZS 16 0)), .int (nI (ZS 17 0)), .int (nI (ZS 18 0)), .int (nI (ZS 19 0) - nI 9), .ref Za20, .ref Za21, .ref Za22, .ref Za23, .ref Za24, .ref Za25, .ref Za26, .ref Za27, .int (nI (ZS 28 0))])), (Za1, .inl (cB, 180, .inl (bF (ZS 1)))), (Za3, .inl (cI, 2, .inl (nF (ZS 3)))), (Za4, .inl (cI, 12, .inl (nF (ZS 4)))), (Za5, .inl (cI, 12, .inl (nF (ZS 5)))), (Za6, .inl (cI, 2, .inl (nF (ZS 6)))), (Za7, .inl (cI, 10, .inl (nF (ZS 7)))), (Za8, .inl (cI, 30, .inl (nF (ZS 8)))), (Za9, .inl (cI, 2, .inl (nF (ZS 9)))), (Za10, .inl (cI, 10, .inl (nF (ZS 10)))), (Za11, .inl (cI, 5, .inl (nF (ZS 11)))), (Za12, .inl (cI, 10, .inl (nF (ZS 12)))), (Za13, .inl (cI, 2, .inl (nF (ZS 13)))), (Za20, .inl (cI, 1191, .inl (nF (ZS 20)))), (Za21, .inl (cZ, 2, .inl (nF (ZS 21)))), (Za22, .inl (cI, 36, .inl (nF (ZS 22)))), (Za23, .inl (cI, 6, .inl (nF (ZS 23)))), (Za24, .inl (cI, 427, .inl (nF (ZS 24)))), (Za25, .inl (cI, 6, .inl (nF (ZS 25)))), (Za26, .inl (cI, 5, .inl (nF (ZS 26)))), (Za27, .inl (cI, 6, .inl (nF (ZS 27))))]) (cc := cX7_know) (maxL := 2) (ret := none) (Qc := fun _ A => va_Qv (S := (Nat → Nat → Nat)) (fun (u : (Nat → Nat → Nat)) => u = ua ZS 20 (knN (ZS 20))) (Aft D (fun (u : (Nat → Nat → Nat)) => [(Zh, .inr (7, [.long Zt, .ref Za1, .int (nI (u 2 0)), .ref Za3, .ref Za4, .ref Za5, .ref Za6, .ref Za7, .ref Za8, .ref Za9, .ref Za10, .ref Za11, .ref Za12, .ref Za13, .int (nI (u 14 0)), .int (nI (u 15 0)), .int (nI (u 16 0)), .int (nI (u 17 0)), .int (nI (u 18 0)), .int (nI (u 19 0) - nI 9), .ref Za20, .ref Za21, .ref Za22, .ref Za23, .ref Za24, .ref Za25, .ref Za26, .ref Za27, .int (nI (u 28 0))])), (Za1, .inl (cB, 180, .inl (bF (u 1)))), (Za3, .inl (cI, 2, .inl (nF (u 3)))), (Za4, .inl (cI, 12, .inl (nF (u 4)))), (Za5, .inl (cI, 12, .inl (nF (u 5)))), (Za6, .inl (cI, 2, .inl (nF (u 6)))), (Za7, .inl (cI, 10, .inl (nF (u 7)))), (Za8, .inl (cI, 30, .inl (nF (u 8)))), (Za9, .inl (cI, 2, .inl (nF (u 9)))), (Za10, .inl (cI, 10, .inl (nF (u 10)))), (Za11, .inl (cI, 5, .inl (nF (u 11)))), (Za12, .inl (cI, 10, .inl (nF (u 12)))), (Za13, .inl (cI, 2, .inl (nF (u 13)))), (Za20, .inl (cI, 1191, .inl (nF (u 20)))), (Za21, .inl (cZ, 2, .inl (nF (u 21)))), (Za22, .inl (cI, 36, .inl (nF (u 22)))), (Za23, .inl (cI, 6, .inl (nF (u 23)))), (Za24, .inl (cI, 427, .inl (nF (u 24)))), (Za25, .inl (cI, 6, .inl (nF (u 25)))), (Za26, .inl (cI, 5, .inl (nF (u 26)))), (Za27, .inl (cI, 6, .inl (nF (u 27))))]) A) A) (by decide) rfl (Nat.le_of_ble_eq_true rfl) ?_
  intro p e s m below meth c A H locs ⟨hx, hb, hr, hml, hown, hts, hlk, hnm⟩ hK hP hD hS hA ls hl
  have hl : lv_has ls 2 [(0, .ref Zh)] := hl
  have hown : s.vm.findClass RX7 = some m.cls := hown
  have bz36 : ZS 20 36 ≤ 10 := Nat.le_trans (hZ 20 36) (Nat.le_of_eq nbd_36)
  refine lv_aload_n hx hb dX7_know_0 rfl (lv_at hl 0 rfl) ?_
  refine va_get (D := D) (ci := 7) (v := .ref Za20) (C := RX7) (T := TX7) (N := 29) hx hb hts in_X7_know_7 hown hK.1 hP 0 rfl rfl 20 (by decide) (hts (.fieldLink RX7 47 "ChildCoinsModel" "now" "[I") (List.mem_of_getElem? (i := 1) rfl)) (fun _ h9 => h9) rfl dX7_know_1 ?_
  refine lv_bipush (v := nI 36) hx hb dX7_know_4 (by decide) ?_
  refine va_iald hx hb hK.1 hP 13 0 rfl rfl (vp_in_nI (n := 36) (N := 1191) (by omega) (by decide)) dX7_know_6 ?_
  refine set_i (y := nI (ZS 20 36)) (nF_ld (by omega)) ?_
  have b1 : ZS 20 36 ≤ 10 := Nat.le_trans (hZ 20 36) (Nat.le_of_eq nbd_36)
  refine lv_bipush (v := nI 10) hx hb dX7_know_7 (by decide) ?_
  refine nb_icmp_ne (tgt := 56) hx hb dX7_know_9 (by decide) (by omega) (by omega) (fun hq2 => ?_) (fun hq2 => ?_)
  · skip
    obtain ⟨f0, hf0⟩ : ∃ f : Nat → Nat, f = ZS 20 := ⟨_, rfl⟩
    have hfb : ∀ j, f0 j ≤ nbd j := by rw [hf0]; exact hZ 20
    have hf9 : f0 36 ≤ 9 := by rw [hf0]; omega
    have hrw : ZS 20 = f0 := hf0.symm
    refine lv_iconst (v := nI 0) hx hb dX7_know_56 (by decide) ?_
    refine lv_istore_n (lv' := [(1, .int (nI 0)), (0, .ref Zh)]) hx hb dX7_know_57 rfl hl (by decide) rfl (fun ls hl => ?_)
    refine loopS (σ := Nat → Nat) (D := D) (A := A) (fun i2 z2 => z2 = cpN f0 (37 + 36 * f0 36) i2) (fun i2 z2 => [(Zh, .inr (7, [.long Zt, .ref Za1, .int (nI (ZS 2 0)), .ref Za3, .ref Za4, .ref Za5, .ref Za6, .ref Za7, .ref Za8, .ref Za9, .ref Za10, .ref Za11, .ref Za12, .ref Za13, .int (nI (ZS 14 0)), .int (nI (ZS 15 0)), .int (nI (ZS 16 0)), .int (nI (ZS 17 0)), .int (nI (ZS 18 0)), .int (nI (ZS 19 0) - nI 9), .ref Za20, .ref Za21, .ref Za22, .ref Za23, .ref Za24, .ref Za25, .ref Za26, .ref Za27, .int (nI (ZS 28 0))])), (Za1, .inl (cB, 180, .inl (bF (ZS 1)))), (Za3, .inl (cI, 2, .inl (nF (ZS 3)))), (Za4, .inl (cI, 12, .inl (nF (ZS 4)))), (Za5, .inl (cI, 12, .inl (nF (ZS 5)))), (Za6, .inl (cI, 2, .inl (nF (ZS 6)))), (Za7, .inl (cI, 10, .inl (nF (ZS 7)))), (Za8, .inl (cI, 30, .inl (nF (ZS 8)))), (Za9, .inl (cI, 2, .inl (nF (ZS 9)))), (Za10, .inl (cI, 10, .inl (nF (ZS 10)))), (Za11, .inl (cI, 5, .inl (nF (ZS 11)))), (Za12, .inl (cI, 10, .inl (nF (ZS 12)))), (Za13, .inl (cI, 2, .inl (nF (ZS 13)))), (Za20, .inl (cI, 1191, .inl (nF (z2)))), (Za21, .inl (cZ, 2, .inl (nF (ZS 21)))), (Za22, .inl (cI, 36, .inl (nF (ZS 22)))), (Za23, .inl (cI, 6, .inl (nF (ZS 23)))), (Za24, .inl (cI, 427, .inl (nF (ZS 24)))), (Za25, .inl (cI, 6, .inl (nF (ZS 25)))), (Za26, .inl (cI, 5, .inl (nF (ZS 26)))), (Za27, .inl (cI, 6, .inl (nF (ZS 27))))]) (fun i2 z2 => [(0, .ref Zh), (1, .int (nI i2))]) 58 2 36 0 (Nat.zero_le _) ?_ ?_ (ZS 20) (hrw.trans (cp_0 _ _).symm) _ _ ls (by first | exact hP) (by first | exact hD) hS (lv_sub hl [1, 0] rfl)
    · intro z2 hI2 H locs ls hP hD hS hl
      have hl : lv_has ls 2 [(0, .ref Zh), (1, .int (nI 36))] := hl
      obtain ⟨hP, hD⟩ : wPD D A [(Zh, .inr (7, [.long Zt, .ref Za1, .int (nI (ZS 2 0)), .ref Za3, .ref Za4, .ref Za5, .ref Za6, .ref Za7, .ref Za8, .ref Za9, .ref Za10, .ref Za11, .ref Za12, .ref Za13, .int (nI (ZS 14 0)), .int (nI (ZS 15 0)), .int (nI (ZS 16 0)), .int (nI (ZS 17 0)), .int (nI (ZS 18 0)), .int (nI (ZS 19 0) - nI 9), .ref Za20, .ref Za21, .ref Za22, .ref Za23, .ref Za24, .ref Za25, .ref Za26, .ref Za27, .int (nI (ZS 28 0))])), (Za1, .inl (cB, 180, .inl (bF (ZS 1)))), (Za3, .inl (cI, 2, .inl (nF (ZS 3)))), (Za4, .inl (cI, 12, .inl (nF (ZS 4)))), (Za5, .inl (cI, 12, .inl (nF (ZS 5)))), (Za6, .inl (cI, 2, .inl (nF (ZS 6)))), (Za7, .inl (cI, 10, .inl (nF (ZS 7)))), (Za8, .inl (cI, 30, .inl (nF (ZS 8)))), (Za9, .inl (cI, 2, .inl (nF (ZS 9)))), (Za10, .inl (cI, 10, .inl (nF (ZS 10)))), (Za11, .inl (cI, 5, .inl (nF (ZS 11)))), (Za12, .inl (cI, 10, .inl (nF (ZS 12)))), (Za13, .inl (cI, 2, .inl (nF (ZS 13)))), (Za20, .inl (cI, 1191, .inl (nF (z2)))), (Za21, .inl (cZ, 2, .inl (nF (ZS 21)))), (Za22, .inl (cI, 36, .inl (nF (ZS 22)))), (Za23, .inl (cI, 6, .inl (nF (ZS 23)))), (Za24, .inl (cI, 427, .inl (nF (ZS 24)))), (Za25, .inl (cI, 6, .inl (nF (ZS 25)))), (Za26, .inl (cI, 5, .inl (nF (ZS 26)))), (Za27, .inl (cI, 6, .inl (nF (ZS 27))))] H := ⟨hP, hD⟩
      refine lv_iload_n hx hb dX7_know_58 rfl (lv_at hl 1 rfl) ?_
      refine lv_bipush (v := nI 36) hx hb dX7_know_59 (by decide) ?_
      refine nb_icmp_ge (tgt := 96) hx hb dX7_know_61 (by decide) (by omega) (by omega) (fun hq3 => ?_) (fun hq3 => absurd hq3 (by omega))
      refine lv_aload_n hx hb dX7_know_96 rfl (lv_at hl 0 rfl) ?_
      refine va_get (D := D) (ci := 7) (v := .ref Za20) (C := RX7) (T := TX7) (N := 29) hx hb hts in_X7_know_7 hown hK.1 hP 0 rfl rfl 20 (by decide) (hts (.fieldLink RX7 47 "ChildCoinsModel" "now" "[I") (List.mem_of_getElem? (i := 1) rfl)) (fun _ h9 => h9) rfl dX7_know_97 ?_
      refine lv_bipush (v := nI 36) hx hb dX7_know_100 (by decide) ?_
      refine lv_dup2_11 hx hb dX7_know_102 rfl rfl ?_
      refine va_iald hx hb hK.1 hP 13 0 rfl rfl (vp_in_nI (n := 36) (N := 1191) (by omega) (by decide)) dX7_know_103 ?_
      refine set_i (y := nI (z2 36)) (nF_ld (by omega)) ?_
      have b4 : z2 36 ≤ 10 := Nat.le_trans ((zok_set (k := 20) hZ (show ∀ j, z2 j ≤ zb 20 j by rw [hI2]; exact cp_b hfb hf9 (by omega))) 20 36) (Nat.le_of_eq nbd_36)
      refine lv_iconst (v := nI 1) hx hb dX7_know_104 (by decide) ?_
      refine lv_iadd hx hb dX7_know_105 ?_
      refine set_i (y := nI ((z2 36) + 1)) (nI_add (z2 36) 1) ?_
      refine va_iast hx hb hK.1 hP hD hS 13 0 rfl rfl (vp_in_nI (n := 36) (N := 1191) (by omega) (by decide)) dX7_know_106 (fun H locs hP hD hS => ?_)
      obtain ⟨hP, hD⟩ : wPD D A [(Zh, .inr (7, [.long Zt, .ref Za1, .int (nI (ZS 2 0)), .ref Za3, .ref Za4, .ref Za5, .ref Za6, .ref Za7, .ref Za8, .ref Za9, .ref Za10, .ref Za11, .ref Za12, .ref Za13, .int (nI (ZS 14 0)), .int (nI (ZS 15 0)), .int (nI (ZS 16 0)), .int (nI (ZS 17 0)), .int (nI (ZS 18 0)), .int (nI (ZS 19 0) - nI 9), .ref Za20, .ref Za21, .ref Za22, .ref Za23, .ref Za24, .ref Za25, .ref Za26, .ref Za27, .int (nI (ZS 28 0))])), (Za1, .inl (cB, 180, .inl (bF (ZS 1)))), (Za3, .inl (cI, 2, .inl (nF (ZS 3)))), (Za4, .inl (cI, 12, .inl (nF (ZS 4)))), (Za5, .inl (cI, 12, .inl (nF (ZS 5)))), (Za6, .inl (cI, 2, .inl (nF (ZS 6)))), (Za7, .inl (cI, 10, .inl (nF (ZS 7)))), (Za8, .inl (cI, 30, .inl (nF (ZS 8)))), (Za9, .inl (cI, 2, .inl (nF (ZS 9)))), (Za10, .inl (cI, 10, .inl (nF (ZS 10)))), (Za11, .inl (cI, 5, .inl (nF (ZS 11)))), (Za12, .inl (cI, 10, .inl (nF (ZS 12)))), (Za13, .inl (cI, 2, .inl (nF (ZS 13)))), (Za20, .inl (cI, 1191, .inl (upd (nF (z2)) (nI 36).toNatClampNeg (nI ((z2 36) + 1))))), (Za21, .inl (cZ, 2, .inl (nF (ZS 21)))), (Za22, .inl (cI, 36, .inl (nF (ZS 22)))), (Za23, .inl (cI, 6, .inl (nF (ZS 23)))), (Za24, .inl (cI, 427, .inl (nF (ZS 24)))), (Za25, .inl (cI, 6, .inl (nF (ZS 25)))), (Za26, .inl (cI, 5, .inl (nF (ZS 26)))), (Za27, .inl (cI, 6, .inl (nF (ZS 27))))] H := ⟨hP, hD⟩
      rw [nF_st (by omega)] at hP hD
      exact en_v hx hb hr hlk hP hD hS (ua ZS 20 (un (z2) 36 ((z2 36) + 1))) [0, 1, 2, 3, 4, 5, 6, 7, 8, 9, 10, 11, 12, 13, 14, 15, 16, 17, 18, 19, 20] (by decide) rfl (Nat.le_of_ble_eq_true rfl) (Nat.le_of_ble_eq_true rfl) dX7_know_107 (by rw [show z2 36 = f0 36 from (by rw [hI2]; exact cp_lo (by omega)), hI2]; unfold knN; rw [if_neg (show ¬ ZS 20 36 = 10 by omega), hf0]; rfl)
    · intro i2 hi02 hi2 z2 hI2 ih2 H locs ls hP hD hS hl
      have hl : lv_has ls 2 [(0, .ref Zh), (1, .int (nI i2))] := hl
      obtain ⟨hP, hD⟩ : wPD D A [(Zh, .inr (7, [.long Zt, .ref Za1, .int (nI (ZS 2 0)), .ref Za3, .ref Za4, .ref Za5, .ref Za6, .ref Za7, .ref Za8, .ref Za9, .ref Za10, .ref Za11, .ref Za12, .ref Za13, .int (nI (ZS 14 0)), .int (nI (ZS 15 0)), .int (nI (ZS 16 0)), .int (nI (ZS 17 0)), .int (nI (ZS 18 0)), .int (nI (ZS 19 0) - nI 9), .ref Za20, .ref Za21, .ref Za22, .ref Za23, .ref Za24, .ref Za25, .ref Za26, .ref Za27, .int (nI (ZS 28 0))])), (Za1, .inl (cB, 180, .inl (bF (ZS 1)))), (Za3, .inl (cI, 2, .inl (nF (ZS 3)))), (Za4, .inl (cI, 12, .inl (nF (ZS 4)))), (Za5, .inl (cI, 12, .inl (nF (ZS 5)))), (Za6, .inl (cI, 2, .inl (nF (ZS 6)))), (Za7, .inl (cI, 10, .inl (nF (ZS 7)))), (Za8, .inl (cI, 30, .inl (nF (ZS 8)))), (Za9, .inl (cI, 2, .inl (nF (ZS 9)))), (Za10, .inl (cI, 10, .inl (nF (ZS 10)))), (Za11, .inl (cI, 5, .inl (nF (ZS 11)))), (Za12, .inl (cI, 10, .inl (nF (ZS 12)))), (Za13, .inl (cI, 2, .inl (nF (ZS 13)))), (Za20, .inl (cI, 1191, .inl (nF (z2)))), (Za21, .inl (cZ, 2, .inl (nF (ZS 21)))), (Za22, .inl (cI, 36, .inl (nF (ZS 22)))), (Za23, .inl (cI, 6, .inl (nF (ZS 23)))), (Za24, .inl (cI, 427, .inl (nF (ZS 24)))), (Za25, .inl (cI, 6, .inl (nF (ZS 25)))), (Za26, .inl (cI, 5, .inl (nF (ZS 26)))), (Za27, .inl (cI, 6, .inl (nF (ZS 27))))] H := ⟨hP, hD⟩
      refine lv_iload_n hx hb dX7_know_58 rfl (lv_at hl 1 rfl) ?_
      refine lv_bipush (v := nI 36) hx hb dX7_know_59 (by decide) ?_
      refine nb_icmp_ge (tgt := 96) hx hb dX7_know_61 (by decide) (by omega) (by omega) (fun hq5 => absurd hq5 (by omega)) (fun hq5 => ?_)
      refine lv_aload_n hx hb dX7_know_64 rfl (lv_at hl 0 rfl) ?_
      refine va_get (D := D) (ci := 7) (v := .ref Za20) (C := RX7) (T := TX7) (N := 29) hx hb hts in_X7_know_7 hown hK.1 hP 0 rfl rfl 20 (by decide) (hts (.fieldLink RX7 47 "ChildCoinsModel" "now" "[I") (List.mem_of_getElem? (i := 1) rfl)) (fun _ h9 => h9) rfl dX7_know_65 ?_
      refine lv_bipush (v := nI 37) hx hb dX7_know_68 (by decide) ?_
      refine lv_bipush (v := nI 36) hx hb dX7_know_70 (by decide) ?_
      refine lv_aload_n hx hb dX7_know_72 rfl (lv_at hl 0 rfl) ?_
      refine va_get (D := D) (ci := 7) (v := .ref Za20) (C := RX7) (T := TX7) (N := 29) hx hb hts in_X7_know_7 hown hK.1 hP 0 rfl rfl 20 (by decide) (hts (.fieldLink RX7 47 "ChildCoinsModel" "now" "[I") (List.mem_of_getElem? (i := 1) rfl)) (fun _ h9 => h9) rfl dX7_know_73 ?_
      refine lv_bipush (v := nI 36) hx hb dX7_know_76 (by decide) ?_
      refine va_iald hx hb hK.1 hP 13 0 rfl rfl (vp_in_nI (n := 36) (N := 1191) (by omega) (by decide)) dX7_know_78 ?_
      refine set_i (y := nI (z2 36)) (nF_ld (by omega)) ?_
      have b6 : z2 36 ≤ 10 := Nat.le_trans ((zok_set (k := 20) hZ (show ∀ j, z2 j ≤ zb 20 j by rw [hI2]; exact cp_b hfb hf9 (by omega))) 20 36) (Nat.le_of_eq nbd_36)
      refine lv_imul hx hb dX7_know_79 ?_
      refine set_i (y := nI (36 * (z2 36))) (pk_mul 36 (z2 36)) ?_
      refine lv_iadd hx hb dX7_know_80 ?_
      refine set_i (y := nI (37 + (36 * (z2 36)))) (nI_add 37 (36 * (z2 36))) ?_
      refine lv_iload_n hx hb dX7_know_81 rfl (lv_at hl 1 rfl) ?_
      refine lv_iadd hx hb dX7_know_82 ?_
      refine set_i (y := nI ((37 + (36 * (z2 36))) + i2)) (nI_add (37 + (36 * (z2 36))) i2) ?_
      refine lv_aload_n hx hb dX7_know_83 rfl (lv_at hl 0 rfl) ?_
      refine va_get (D := D) (ci := 7) (v := .ref Za20) (C := RX7) (T := TX7) (N := 29) hx hb hts in_X7_know_7 hown hK.1 hP 0 rfl rfl 20 (by decide) (hts (.fieldLink RX7 47 "ChildCoinsModel" "now" "[I") (List.mem_of_getElem? (i := 1) rfl)) (fun _ h9 => h9) rfl dX7_know_84 ?_
      refine lv_iload_n hx hb dX7_know_87 rfl (lv_at hl 1 rfl) ?_
      refine va_iald hx hb hK.1 hP 13 0 rfl rfl (vp_in_nI (n := i2) (N := 1191) (by omega) (by decide)) dX7_know_88 ?_
      refine set_i (y := nI (z2 i2)) (nF_ld (by omega)) ?_
      have b7 : z2 i2 ≤ 99 := Nat.le_trans ((zok_set (k := 20) hZ (show ∀ j, z2 j ≤ zb 20 j by rw [hI2]; exact cp_b hfb hf9 (by omega))) 20 i2) (nbd_99 i2)
      refine va_iast hx hb hK.1 hP hD hS 13 0 rfl rfl (vp_in_nI (n := (37 + (36 * (z2 36))) + i2) (N := 1191) (by omega) (by decide)) dX7_know_89 (fun H locs hP hD hS => ?_)
      obtain ⟨hP, hD⟩ : wPD D A [(Zh, .inr (7, [.long Zt, .ref Za1, .int (nI (ZS 2 0)), .ref Za3, .ref Za4, .ref Za5, .ref Za6, .ref Za7, .ref Za8, .ref Za9, .ref Za10, .ref Za11, .ref Za12, .ref Za13, .int (nI (ZS 14 0)), .int (nI (ZS 15 0)), .int (nI (ZS 16 0)), .int (nI (ZS 17 0)), .int (nI (ZS 18 0)), .int (nI (ZS 19 0) - nI 9), .ref Za20, .ref Za21, .ref Za22, .ref Za23, .ref Za24, .ref Za25, .ref Za26, .ref Za27, .int (nI (ZS 28 0))])), (Za1, .inl (cB, 180, .inl (bF (ZS 1)))), (Za3, .inl (cI, 2, .inl (nF (ZS 3)))), (Za4, .inl (cI, 12, .inl (nF (ZS 4)))), (Za5, .inl (cI, 12, .inl (nF (ZS 5)))), (Za6, .inl (cI, 2, .inl (nF (ZS 6)))), (Za7, .inl (cI, 10, .inl (nF (ZS 7)))), (Za8, .inl (cI, 30, .inl (nF (ZS 8)))), (Za9, .inl (cI, 2, .inl (nF (ZS 9)))), (Za10, .inl (cI, 10, .inl (nF (ZS 10)))), (Za11, .inl (cI, 5, .inl (nF (ZS 11)))), (Za12, .inl (cI, 10, .inl (nF (ZS 12)))), (Za13, .inl (cI, 2, .inl (nF (ZS 13)))), (Za20, .inl (cI, 1191, .inl (upd (nF (z2)) (nI ((37 + (36 * (z2 36))) + i2)).toNatClampNeg (nI (z2 i2))))), (Za21, .inl (cZ, 2, .inl (nF (ZS 21)))), (Za22, .inl (cI, 36, .inl (nF (ZS 22)))), (Za23, .inl (cI, 6, .inl (nF (ZS 23)))), (Za24, .inl (cI, 427, .inl (nF (ZS 24)))), (Za25, .inl (cI, 6, .inl (nF (ZS 25)))), (Za26, .inl (cI, 5, .inl (nF (ZS 26)))), (Za27, .inl (cI, 6, .inl (nF (ZS 27))))] H := ⟨hP, hD⟩
      rw [nF_st (by omega)] at hP hD
      refine lv_iinc (v := nI (i2 + 1)) (lv' := [(1, .int (nI (i2 + 1))), (0, .ref Zh)]) hx hb dX7_know_90 hl (k := 1) rfl (nI_add i2 1) (by decide) rfl (fun ls hl => ?_)
      refine lv_goto (tgt := 58) hx hb dX7_know_93 (by decide) ?_
      have hl : lv_has ls 2 [(0, .ref Zh), (1, .int (nI (i2 + 1)))] := lv_sub hl [1, 0] rfl
      exact ih2 (un (z2) ((37 + (36 * (z2 36))) + i2) (z2 i2)) (cp_s hI2 (by omega)) _ _ _ hP hD hS hl
  · skip
    refine lv_iconst (v := nI 0) hx hb dX7_know_12 (by decide) ?_
    refine lv_istore_n (lv' := [(1, .int (nI 0)), (0, .ref Zh)]) hx hb dX7_know_13 rfl hl (by decide) rfl (fun ls hl => ?_)
    refine loopS (σ := Nat → Nat) (D := D) (A := A) (fun i1 z1 => z1 = shN (ZS 20) i1) (fun i1 z1 => [(Zh, .inr (7, [.long Zt, .ref Za1, .int (nI (ZS 2 0)), .ref Za3, .ref Za4, .ref Za5, .ref Za6, .ref Za7, .ref Za8, .ref Za9, .ref Za10, .ref Za11, .ref Za12, .ref Za13, .int (nI (ZS 14 0)), .int (nI (ZS 15 0)), .int (nI (ZS 16 0)), .int (nI (ZS 17 0)), .int (nI (ZS 18 0)), .int (nI (ZS 19 0) - nI 9), .ref Za20, .ref Za21, .ref Za22, .ref Za23, .ref Za24, .ref Za25, .ref Za26, .ref Za27, .int (nI (ZS 28 0))])), (Za1, .inl (cB, 180, .inl (bF (ZS 1)))), (Za3, .inl (cI, 2, .inl (nF (ZS 3)))), (Za4, .inl (cI, 12, .inl (nF (ZS 4)))), (Za5, .inl (cI, 12, .inl (nF (ZS 5)))), (Za6, .inl (cI, 2, .inl (nF (ZS 6)))), (Za7, .inl (cI, 10, .inl (nF (ZS 7)))), (Za8, .inl (cI, 30, .inl (nF (ZS 8)))), (Za9, .inl (cI, 2, .inl (nF (ZS 9)))), (Za10, .inl (cI, 10, .inl (nF (ZS 10)))), (Za11, .inl (cI, 5, .inl (nF (ZS 11)))), (Za12, .inl (cI, 10, .inl (nF (ZS 12)))), (Za13, .inl (cI, 2, .inl (nF (ZS 13)))), (Za20, .inl (cI, 1191, .inl (nF (z1)))), (Za21, .inl (cZ, 2, .inl (nF (ZS 21)))), (Za22, .inl (cI, 36, .inl (nF (ZS 22)))), (Za23, .inl (cI, 6, .inl (nF (ZS 23)))), (Za24, .inl (cI, 427, .inl (nF (ZS 24)))), (Za25, .inl (cI, 6, .inl (nF (ZS 25)))), (Za26, .inl (cI, 5, .inl (nF (ZS 26)))), (Za27, .inl (cI, 6, .inl (nF (ZS 27))))]) (fun i1 z1 => [(0, .ref Zh), (1, .int (nI i1))]) 14 2 324 0 (Nat.zero_le _) ?_ ?_ (ZS 20) (sh_0 _).symm _ _ ls (by first | exact hP) (by first | exact hD) hS (lv_sub hl [1, 0] rfl)
    · intro z1 hI1 H locs ls hP hD hS hl
      have hl : lv_has ls 2 [(0, .ref Zh), (1, .int (nI 324))] := hl
      obtain ⟨hP, hD⟩ : wPD D A [(Zh, .inr (7, [.long Zt, .ref Za1, .int (nI (ZS 2 0)), .ref Za3, .ref Za4, .ref Za5, .ref Za6, .ref Za7, .ref Za8, .ref Za9, .ref Za10, .ref Za11, .ref Za12, .ref Za13, .int (nI (ZS 14 0)), .int (nI (ZS 15 0)), .int (nI (ZS 16 0)), .int (nI (ZS 17 0)), .int (nI (ZS 18 0)), .int (nI (ZS 19 0) - nI 9), .ref Za20, .ref Za21, .ref Za22, .ref Za23, .ref Za24, .ref Za25, .ref Za26, .ref Za27, .int (nI (ZS 28 0))])), (Za1, .inl (cB, 180, .inl (bF (ZS 1)))), (Za3, .inl (cI, 2, .inl (nF (ZS 3)))), (Za4, .inl (cI, 12, .inl (nF (ZS 4)))), (Za5, .inl (cI, 12, .inl (nF (ZS 5)))), (Za6, .inl (cI, 2, .inl (nF (ZS 6)))), (Za7, .inl (cI, 10, .inl (nF (ZS 7)))), (Za8, .inl (cI, 30, .inl (nF (ZS 8)))), (Za9, .inl (cI, 2, .inl (nF (ZS 9)))), (Za10, .inl (cI, 10, .inl (nF (ZS 10)))), (Za11, .inl (cI, 5, .inl (nF (ZS 11)))), (Za12, .inl (cI, 10, .inl (nF (ZS 12)))), (Za13, .inl (cI, 2, .inl (nF (ZS 13)))), (Za20, .inl (cI, 1191, .inl (nF (z1)))), (Za21, .inl (cZ, 2, .inl (nF (ZS 21)))), (Za22, .inl (cI, 36, .inl (nF (ZS 22)))), (Za23, .inl (cI, 6, .inl (nF (ZS 23)))), (Za24, .inl (cI, 427, .inl (nF (ZS 24)))), (Za25, .inl (cI, 6, .inl (nF (ZS 25)))), (Za26, .inl (cI, 5, .inl (nF (ZS 26)))), (Za27, .inl (cI, 6, .inl (nF (ZS 27))))] H := ⟨hP, hD⟩
      refine lv_iload_n hx hb dX7_know_14 rfl (lv_at hl 1 rfl) ?_
      refine lv_sipush (v := nI 324) hx hb dX7_know_15 (by decide) ?_
      refine nb_icmp_ge (tgt := 45) hx hb dX7_know_18 (by decide) (by omega) (by omega) (fun hq8 => ?_) (fun hq8 => absurd hq8 (by omega))
      have hz36 : z1 36 = 10 := by rw [hI1]; show shN (ZS 20) 324 36 = 10; unfold shN; rw [if_neg (by omega)]; omega
      refine lv_aload_n hx hb dX7_know_45 rfl (lv_at hl 0 rfl) ?_
      refine va_get (D := D) (ci := 7) (v := .ref Za20) (C := RX7) (T := TX7) (N := 29) hx hb hts in_X7_know_7 hown hK.1 hP 0 rfl rfl 20 (by decide) (hts (.fieldLink RX7 47 "ChildCoinsModel" "now" "[I") (List.mem_of_getElem? (i := 1) rfl)) (fun _ h9 => h9) rfl dX7_know_46 ?_
      refine lv_bipush (v := nI 36) hx hb dX7_know_49 (by decide) ?_
      refine lv_dup2_11 hx hb dX7_know_51 rfl rfl ?_
      refine va_iald hx hb hK.1 hP 13 0 rfl rfl (vp_in_nI (n := 36) (N := 1191) (by omega) (by decide)) dX7_know_52 ?_
      refine set_i (y := nI (z1 36)) (nF_ld (by omega)) ?_
      have b9 : z1 36 ≤ 10 := Nat.le_trans ((zok_set (k := 20) hZ (show ∀ j, z1 j ≤ zb 20 j by rw [hI1]; exact sh_b (hZ 20) (by omega))) 20 36) (Nat.le_of_eq nbd_36)
      refine lv_iconst (v := nI 1) hx hb dX7_know_53 (by decide) ?_
      refine lv_isub hx hb dX7_know_54 ?_
      refine set_i (y := nI ((z1 36) - 1)) (pk_sub (by omega)) ?_
      refine va_iast hx hb hK.1 hP hD hS 13 0 rfl rfl (vp_in_nI (n := 36) (N := 1191) (by omega) (by decide)) dX7_know_55 (fun H locs hP hD hS => ?_)
      obtain ⟨hP, hD⟩ : wPD D A [(Zh, .inr (7, [.long Zt, .ref Za1, .int (nI (ZS 2 0)), .ref Za3, .ref Za4, .ref Za5, .ref Za6, .ref Za7, .ref Za8, .ref Za9, .ref Za10, .ref Za11, .ref Za12, .ref Za13, .int (nI (ZS 14 0)), .int (nI (ZS 15 0)), .int (nI (ZS 16 0)), .int (nI (ZS 17 0)), .int (nI (ZS 18 0)), .int (nI (ZS 19 0) - nI 9), .ref Za20, .ref Za21, .ref Za22, .ref Za23, .ref Za24, .ref Za25, .ref Za26, .ref Za27, .int (nI (ZS 28 0))])), (Za1, .inl (cB, 180, .inl (bF (ZS 1)))), (Za3, .inl (cI, 2, .inl (nF (ZS 3)))), (Za4, .inl (cI, 12, .inl (nF (ZS 4)))), (Za5, .inl (cI, 12, .inl (nF (ZS 5)))), (Za6, .inl (cI, 2, .inl (nF (ZS 6)))), (Za7, .inl (cI, 10, .inl (nF (ZS 7)))), (Za8, .inl (cI, 30, .inl (nF (ZS 8)))), (Za9, .inl (cI, 2, .inl (nF (ZS 9)))), (Za10, .inl (cI, 10, .inl (nF (ZS 10)))), (Za11, .inl (cI, 5, .inl (nF (ZS 11)))), (Za12, .inl (cI, 10, .inl (nF (ZS 12)))), (Za13, .inl (cI, 2, .inl (nF (ZS 13)))), (Za20, .inl (cI, 1191, .inl (upd (nF (z1)) (nI 36).toNatClampNeg (nI ((z1 36) - 1))))), (Za21, .inl (cZ, 2, .inl (nF (ZS 21)))), (Za22, .inl (cI, 36, .inl (nF (ZS 22)))), (Za23, .inl (cI, 6, .inl (nF (ZS 23)))), (Za24, .inl (cI, 427, .inl (nF (ZS 24)))), (Za25, .inl (cI, 6, .inl (nF (ZS 25)))), (Za26, .inl (cI, 5, .inl (nF (ZS 26)))), (Za27, .inl (cI, 6, .inl (nF (ZS 27))))] H := ⟨hP, hD⟩
      rw [nF_st (by omega)] at hP hD
      obtain ⟨f0, hf0⟩ : ∃ f : Nat → Nat, f = un (z1) 36 ((z1 36) - 1) := ⟨_, rfl⟩
      have hf0 : f0 = un (shN (ZS 20) 324) 36 9 := by rw [hf0, hz36, hI1]
      have hfb : ∀ j, f0 j ≤ nbd j := by rw [hf0]; exact un36_b (hZ 20)
      have hf9 : f0 36 ≤ 9 := by rw [hf0, un_s]; omega
      have hrw : un (z1) 36 ((z1 36) - 1) = f0 := by rw [hf0, hz36, hI1]
      refine lv_iconst (v := nI 0) hx hb dX7_know_56 (by decide) ?_
      refine lv_istore_n (lv' := [(1, .int (nI 0)), (0, .ref Zh)]) hx hb dX7_know_57 rfl hl (by decide) rfl (fun ls hl => ?_)
      refine loopS (σ := Nat → Nat) (D := D) (A := A) (fun i2 z2 => z2 = cpN f0 (37 + 36 * f0 36) i2) (fun i2 z2 => [(Zh, .inr (7, [.long Zt, .ref Za1, .int (nI (ZS 2 0)), .ref Za3, .ref Za4, .ref Za5, .ref Za6, .ref Za7, .ref Za8, .ref Za9, .ref Za10, .ref Za11, .ref Za12, .ref Za13, .int (nI (ZS 14 0)), .int (nI (ZS 15 0)), .int (nI (ZS 16 0)), .int (nI (ZS 17 0)), .int (nI (ZS 18 0)), .int (nI (ZS 19 0) - nI 9), .ref Za20, .ref Za21, .ref Za22, .ref Za23, .ref Za24, .ref Za25, .ref Za26, .ref Za27, .int (nI (ZS 28 0))])), (Za1, .inl (cB, 180, .inl (bF (ZS 1)))), (Za3, .inl (cI, 2, .inl (nF (ZS 3)))), (Za4, .inl (cI, 12, .inl (nF (ZS 4)))), (Za5, .inl (cI, 12, .inl (nF (ZS 5)))), (Za6, .inl (cI, 2, .inl (nF (ZS 6)))), (Za7, .inl (cI, 10, .inl (nF (ZS 7)))), (Za8, .inl (cI, 30, .inl (nF (ZS 8)))), (Za9, .inl (cI, 2, .inl (nF (ZS 9)))), (Za10, .inl (cI, 10, .inl (nF (ZS 10)))), (Za11, .inl (cI, 5, .inl (nF (ZS 11)))), (Za12, .inl (cI, 10, .inl (nF (ZS 12)))), (Za13, .inl (cI, 2, .inl (nF (ZS 13)))), (Za20, .inl (cI, 1191, .inl (nF (z2)))), (Za21, .inl (cZ, 2, .inl (nF (ZS 21)))), (Za22, .inl (cI, 36, .inl (nF (ZS 22)))), (Za23, .inl (cI, 6, .inl (nF (ZS 23)))), (Za24, .inl (cI, 427, .inl (nF (ZS 24)))), (Za25, .inl (cI, 6, .inl (nF (ZS 25)))), (Za26, .inl (cI, 5, .inl (nF (ZS 26)))), (Za27, .inl (cI, 6, .inl (nF (ZS 27))))]) (fun i2 z2 => [(0, .ref Zh), (1, .int (nI i2))]) 58 2 36 0 (Nat.zero_le _) ?_ ?_ (un (z1) 36 ((z1 36) - 1)) (hrw.trans (cp_0 _ _).symm) _ _ ls (by first | exact hP) (by first | exact hD) hS (lv_sub hl [1, 0] rfl)
      · intro z2 hI2 H locs ls hP hD hS hl
        have hl : lv_has ls 2 [(0, .ref Zh), (1, .int (nI 36))] := hl
        obtain ⟨hP, hD⟩ : wPD D A [(Zh, .inr (7, [.long Zt, .ref Za1, .int (nI (ZS 2 0)), .ref Za3, .ref Za4, .ref Za5, .ref Za6, .ref Za7, .ref Za8, .ref Za9, .ref Za10, .ref Za11, .ref Za12, .ref Za13, .int (nI (ZS 14 0)), .int (nI (ZS 15 0)), .int (nI (ZS 16 0)), .int (nI (ZS 17 0)), .int (nI (ZS 18 0)), .int (nI (ZS 19 0) - nI 9), .ref Za20, .ref Za21, .ref Za22, .ref Za23, .ref Za24, .ref Za25, .ref Za26, .ref Za27, .int (nI (ZS 28 0))])), (Za1, .inl (cB, 180, .inl (bF (ZS 1)))), (Za3, .inl (cI, 2, .inl (nF (ZS 3)))), (Za4, .inl (cI, 12, .inl (nF (ZS 4)))), (Za5, .inl (cI, 12, .inl (nF (ZS 5)))), (Za6, .inl (cI, 2, .inl (nF (ZS 6)))), (Za7, .inl (cI, 10, .inl (nF (ZS 7)))), (Za8, .inl (cI, 30, .inl (nF (ZS 8)))), (Za9, .inl (cI, 2, .inl (nF (ZS 9)))), (Za10, .inl (cI, 10, .inl (nF (ZS 10)))), (Za11, .inl (cI, 5, .inl (nF (ZS 11)))), (Za12, .inl (cI, 10, .inl (nF (ZS 12)))), (Za13, .inl (cI, 2, .inl (nF (ZS 13)))), (Za20, .inl (cI, 1191, .inl (nF (z2)))), (Za21, .inl (cZ, 2, .inl (nF (ZS 21)))), (Za22, .inl (cI, 36, .inl (nF (ZS 22)))), (Za23, .inl (cI, 6, .inl (nF (ZS 23)))), (Za24, .inl (cI, 427, .inl (nF (ZS 24)))), (Za25, .inl (cI, 6, .inl (nF (ZS 25)))), (Za26, .inl (cI, 5, .inl (nF (ZS 26)))), (Za27, .inl (cI, 6, .inl (nF (ZS 27))))] H := ⟨hP, hD⟩
        refine lv_iload_n hx hb dX7_know_58 rfl (lv_at hl 1 rfl) ?_
        refine lv_bipush (v := nI 36) hx hb dX7_know_59 (by decide) ?_
        refine nb_icmp_ge (tgt := 96) hx hb dX7_know_61 (by decide) (by omega) (by omega) (fun hq10 => ?_) (fun hq10 => absurd hq10 (by omega))
        refine lv_aload_n hx hb dX7_know_96 rfl (lv_at hl 0 rfl) ?_
        refine va_get (D := D) (ci := 7) (v := .ref Za20) (C := RX7) (T := TX7) (N := 29) hx hb hts in_X7_know_7 hown hK.1 hP 0 rfl rfl 20 (by decide) (hts (.fieldLink RX7 47 "ChildCoinsModel" "now" "[I") (List.mem_of_getElem? (i := 1) rfl)) (fun _ h9 => h9) rfl dX7_know_97 ?_
        refine lv_bipush (v := nI 36) hx hb dX7_know_100 (by decide) ?_
        refine lv_dup2_11 hx hb dX7_know_102 rfl rfl ?_
        refine va_iald hx hb hK.1 hP 13 0 rfl rfl (vp_in_nI (n := 36) (N := 1191) (by omega) (by decide)) dX7_know_103 ?_
        refine set_i (y := nI (z2 36)) (nF_ld (by omega)) ?_
        have b11 : z2 36 ≤ 10 := Nat.le_trans ((zok_set (k := 20) hZ (show ∀ j, z2 j ≤ zb 20 j by rw [hI2]; exact cp_b hfb hf9 (by omega))) 20 36) (Nat.le_of_eq nbd_36)
        refine lv_iconst (v := nI 1) hx hb dX7_know_104 (by decide) ?_
        refine lv_iadd hx hb dX7_know_105 ?_
        refine set_i (y := nI ((z2 36) + 1)) (nI_add (z2 36) 1) ?_
        refine va_iast hx hb hK.1 hP hD hS 13 0 rfl rfl (vp_in_nI (n := 36) (N := 1191) (by omega) (by decide)) dX7_know_106 (fun H locs hP hD hS => ?_)
        obtain ⟨hP, hD⟩ : wPD D A [(Zh, .inr (7, [.long Zt, .ref Za1, .int (nI (ZS 2 0)), .ref Za3, .ref Za4, .ref Za5, .ref Za6, .ref Za7, .ref Za8, .ref Za9, .ref Za10, .ref Za11, .ref Za12, .ref Za13, .int (nI (ZS 14 0)), .int (nI (ZS 15 0)), .int (nI (ZS 16 0)), .int (nI (ZS 17 0)), .int (nI (ZS 18 0)), .int (nI (ZS 19 0) - nI 9), .ref Za20, .ref Za21, .ref Za22, .ref Za23, .ref Za24, .ref Za25, .ref Za26, .ref Za27, .int (nI (ZS 28 0))])), (Za1, .inl (cB, 180, .inl (bF (ZS 1)))), (Za3, .inl (cI, 2, .inl (nF (ZS 3)))), (Za4, .inl (cI, 12, .inl (nF (ZS 4)))), (Za5, .inl (cI, 12, .inl (nF (ZS 5)))), (Za6, .inl (cI, 2, .inl (nF (ZS 6)))), (Za7, .inl (cI, 10, .inl (nF (ZS 7)))), (Za8, .inl (cI, 30, .inl (nF (ZS 8)))), (Za9, .inl (cI, 2, .inl (nF (ZS 9)))), (Za10, .inl (cI, 10, .inl (nF (ZS 10)))), (Za11, .inl (cI, 5, .inl (nF (ZS 11)))), (Za12, .inl (cI, 10, .inl (nF (ZS 12)))), (Za13, .inl (cI, 2, .inl (nF (ZS 13)))), (Za20, .inl (cI, 1191, .inl (upd (nF (z2)) (nI 36).toNatClampNeg (nI ((z2 36) + 1))))), (Za21, .inl (cZ, 2, .inl (nF (ZS 21)))), (Za22, .inl (cI, 36, .inl (nF (ZS 22)))), (Za23, .inl (cI, 6, .inl (nF (ZS 23)))), (Za24, .inl (cI, 427, .inl (nF (ZS 24)))), (Za25, .inl (cI, 6, .inl (nF (ZS 25)))), (Za26, .inl (cI, 5, .inl (nF (ZS 26)))), (Za27, .inl (cI, 6, .inl (nF (ZS 27))))] H := ⟨hP, hD⟩
        rw [nF_st (by omega)] at hP hD
        exact en_v hx hb hr hlk hP hD hS (ua ZS 20 (un (z2) 36 ((z2 36) + 1))) [0, 1, 2, 3, 4, 5, 6, 7, 8, 9, 10, 11, 12, 13, 14, 15, 16, 17, 18, 19, 20] (by decide) rfl (Nat.le_of_ble_eq_true rfl) (Nat.le_of_ble_eq_true rfl) dX7_know_107 (by rw [show z2 36 = f0 36 from (by rw [hI2]; exact cp_lo (by omega)), hI2]; unfold knN; rw [if_pos (show ZS 20 36 = 10 by omega), ← hf0]; rfl)
      · intro i2 hi02 hi2 z2 hI2 ih2 H locs ls hP hD hS hl
        have hl : lv_has ls 2 [(0, .ref Zh), (1, .int (nI i2))] := hl
        obtain ⟨hP, hD⟩ : wPD D A [(Zh, .inr (7, [.long Zt, .ref Za1, .int (nI (ZS 2 0)), .ref Za3, .ref Za4, .ref Za5, .ref Za6, .ref Za7, .ref Za8, .ref Za9, .ref Za10, .ref Za11, .ref Za12, .ref Za13, .int (nI (ZS 14 0)), .int (nI (ZS 15 0)), .int (nI (ZS 16 0)), .int (nI (ZS 17 0)), .int (nI (ZS 18 0)), .int (nI (ZS 19 0) - nI 9), .ref Za20, .ref Za21, .ref Za22, .ref Za23, .ref Za24, .ref Za25, .ref Za26, .ref Za27, .int (nI (ZS 28 0))])), (Za1, .inl (cB, 180, .inl (bF (ZS 1)))), (Za3, .inl (cI, 2, .inl (nF (ZS 3)))), (Za4, .inl (cI, 12, .inl (nF (ZS 4)))), (Za5, .inl (cI, 12, .inl (nF (ZS 5)))), (Za6, .inl (cI, 2, .inl (nF (ZS 6)))), (Za7, .inl (cI, 10, .inl (nF (ZS 7)))), (Za8, .inl (cI, 30, .inl (nF (ZS 8)))), (Za9, .inl (cI, 2, .inl (nF (ZS 9)))), (Za10, .inl (cI, 10, .inl (nF (ZS 10)))), (Za11, .inl (cI, 5, .inl (nF (ZS 11)))), (Za12, .inl (cI, 10, .inl (nF (ZS 12)))), (Za13, .inl (cI, 2, .inl (nF (ZS 13)))), (Za20, .inl (cI, 1191, .inl (nF (z2)))), (Za21, .inl (cZ, 2, .inl (nF (ZS 21)))), (Za22, .inl (cI, 36, .inl (nF (ZS 22)))), (Za23, .inl (cI, 6, .inl (nF (ZS 23)))), (Za24, .inl (cI, 427, .inl (nF (ZS 24)))), (Za25, .inl (cI, 6, .inl (nF (ZS 25)))), (Za26, .inl (cI, 5, .inl (nF (ZS 26)))), (Za27, .inl (cI, 6, .inl (nF (ZS 27))))] H := ⟨hP, hD⟩
        refine lv_iload_n hx hb dX7_know_58 rfl (lv_at hl 1 rfl) ?_
        refine lv_bipush (v := nI 36) hx hb dX7_know_59 (by decide) ?_
        refine nb_icmp_ge (tgt := 96) hx hb dX7_know_61 (by decide) (by omega) (by omega) (fun hq12 => absurd hq12 (by omega)) (fun hq12 => ?_)
        refine lv_aload_n hx hb dX7_know_64 rfl (lv_at hl 0 rfl) ?_
        refine va_get (D := D) (ci := 7) (v := .ref Za20) (C := RX7) (T := TX7) (N := 29) hx hb hts in_X7_know_7 hown hK.1 hP 0 rfl rfl 20 (by decide) (hts (.fieldLink RX7 47 "ChildCoinsModel" "now" "[I") (List.mem_of_getElem? (i := 1) rfl)) (fun _ h9 => h9) rfl dX7_know_65 ?_
        refine lv_bipush (v := nI 37) hx hb dX7_know_68 (by decide) ?_
        refine lv_bipush (v := nI 36) hx hb dX7_know_70 (by decide) ?_
        refine lv_aload_n hx hb dX7_know_72 rfl (lv_at hl 0 rfl) ?_
        refine va_get (D := D) (ci := 7) (v := .ref Za20) (C := RX7) (T := TX7) (N := 29) hx hb hts in_X7_know_7 hown hK.1 hP 0 rfl rfl 20 (by decide) (hts (.fieldLink RX7 47 "ChildCoinsModel" "now" "[I") (List.mem_of_getElem? (i := 1) rfl)) (fun _ h9 => h9) rfl dX7_know_73 ?_
        refine lv_bipush (v := nI 36) hx hb dX7_know_76 (by decide) ?_
        refine va_iald hx hb hK.1 hP 13 0 rfl rfl (vp_in_nI (n := 36) (N := 1191) (by omega) (by decide)) dX7_know_78 ?_
        refine set_i (y := nI (z2 36)) (nF_ld (by omega)) ?_
        have b13 : z2 36 ≤ 10 := Nat.le_trans ((zok_set (k := 20) hZ (show ∀ j, z2 j ≤ zb 20 j by rw [hI2]; exact cp_b hfb hf9 (by omega))) 20 36) (Nat.le_of_eq nbd_36)
        refine lv_imul hx hb dX7_know_79 ?_
        refine set_i (y := nI (36 * (z2 36))) (pk_mul 36 (z2 36)) ?_
        refine lv_iadd hx hb dX7_know_80 ?_
        refine set_i (y := nI (37 + (36 * (z2 36)))) (nI_add 37 (36 * (z2 36))) ?_
        refine lv_iload_n hx hb dX7_know_81 rfl (lv_at hl 1 rfl) ?_
        refine lv_iadd hx hb dX7_know_82 ?_
        refine set_i (y := nI ((37 + (36 * (z2 36))) + i2)) (nI_add (37 + (36 * (z2 36))) i2) ?_
        refine lv_aload_n hx hb dX7_know_83 rfl (lv_at hl 0 rfl) ?_
        refine va_get (D := D) (ci := 7) (v := .ref Za20) (C := RX7) (T := TX7) (N := 29) hx hb hts in_X7_know_7 hown hK.1 hP 0 rfl rfl 20 (by decide) (hts (.fieldLink RX7 47 "ChildCoinsModel" "now" "[I") (List.mem_of_getElem? (i := 1) rfl)) (fun _ h9 => h9) rfl dX7_know_84 ?_
        refine lv_iload_n hx hb dX7_know_87 rfl (lv_at hl 1 rfl) ?_
        refine va_iald hx hb hK.1 hP 13 0 rfl rfl (vp_in_nI (n := i2) (N := 1191) (by omega) (by decide)) dX7_know_88 ?_
        refine set_i (y := nI (z2 i2)) (nF_ld (by omega)) ?_
        have b14 : z2 i2 ≤ 99 := Nat.le_trans ((zok_set (k := 20) hZ (show ∀ j, z2 j ≤ zb 20 j by rw [hI2]; exact cp_b hfb hf9 (by omega))) 20 i2) (nbd_99 i2)
        refine va_iast hx hb hK.1 hP hD hS 13 0 rfl rfl (vp_in_nI (n := (37 + (36 * (z2 36))) + i2) (N := 1191) (by omega) (by decide)) dX7_know_89 (fun H locs hP hD hS => ?_)
        obtain ⟨hP, hD⟩ : wPD D A [(Zh, .inr (7, [.long Zt, .ref Za1, .int (nI (ZS 2 0)), .ref Za3, .ref Za4, .ref Za5, .ref Za6, .ref Za7, .ref Za8, .ref Za9, .ref Za10, .ref Za11, .ref Za12, .ref Za13, .int (nI (ZS 14 0)), .int (nI (ZS 15 0)), .int (nI (ZS 16 0)), .int (nI (ZS 17 0)), .int (nI (ZS 18 0)), .int (nI (ZS 19 0) - nI 9), .ref Za20, .ref Za21, .ref Za22, .ref Za23, .ref Za24, .ref Za25, .ref Za26, .ref Za27, .int (nI (ZS 28 0))])), (Za1, .inl (cB, 180, .inl (bF (ZS 1)))), (Za3, .inl (cI, 2, .inl (nF (ZS 3)))), (Za4, .inl (cI, 12, .inl (nF (ZS 4)))), (Za5, .inl (cI, 12, .inl (nF (ZS 5)))), (Za6, .inl (cI, 2, .inl (nF (ZS 6)))), (Za7, .inl (cI, 10, .inl (nF (ZS 7)))), (Za8, .inl (cI, 30, .inl (nF (ZS 8)))), (Za9, .inl (cI, 2, .inl (nF (ZS 9)))), (Za10, .inl (cI, 10, .inl (nF (ZS 10)))), (Za11, .inl (cI, 5, .inl (nF (ZS 11)))), (Za12, .inl (cI, 10, .inl (nF (ZS 12)))), (Za13, .inl (cI, 2, .inl (nF (ZS 13)))), (Za20, .inl (cI, 1191, .inl (upd (nF (z2)) (nI ((37 + (36 * (z2 36))) + i2)).toNatClampNeg (nI (z2 i2))))), (Za21, .inl (cZ, 2, .inl (nF (ZS 21)))), (Za22, .inl (cI, 36, .inl (nF (ZS 22)))), (Za23, .inl (cI, 6, .inl (nF (ZS 23)))), (Za24, .inl (cI, 427, .inl (nF (ZS 24)))), (Za25, .inl (cI, 6, .inl (nF (ZS 25)))), (Za26, .inl (cI, 5, .inl (nF (ZS 26)))), (Za27, .inl (cI, 6, .inl (nF (ZS 27))))] H := ⟨hP, hD⟩
        rw [nF_st (by omega)] at hP hD
        refine lv_iinc (v := nI (i2 + 1)) (lv' := [(1, .int (nI (i2 + 1))), (0, .ref Zh)]) hx hb dX7_know_90 hl (k := 1) rfl (nI_add i2 1) (by decide) rfl (fun ls hl => ?_)
        refine lv_goto (tgt := 58) hx hb dX7_know_93 (by decide) ?_
        have hl : lv_has ls 2 [(0, .ref Zh), (1, .int (nI (i2 + 1)))] := lv_sub hl [1, 0] rfl
        exact ih2 (un (z2) ((37 + (36 * (z2 36))) + i2) (z2 i2)) (cp_s hI2 (by omega)) _ _ _ hP hD hS hl
    · intro i1 hi01 hi1 z1 hI1 ih1 H locs ls hP hD hS hl
      have hl : lv_has ls 2 [(0, .ref Zh), (1, .int (nI i1))] := hl
      obtain ⟨hP, hD⟩ : wPD D A [(Zh, .inr (7, [.long Zt, .ref Za1, .int (nI (ZS 2 0)), .ref Za3, .ref Za4, .ref Za5, .ref Za6, .ref Za7, .ref Za8, .ref Za9, .ref Za10, .ref Za11, .ref Za12, .ref Za13, .int (nI (ZS 14 0)), .int (nI (ZS 15 0)), .int (nI (ZS 16 0)), .int (nI (ZS 17 0)), .int (nI (ZS 18 0)), .int (nI (ZS 19 0) - nI 9), .ref Za20, .ref Za21, .ref Za22, .ref Za23, .ref Za24, .ref Za25, .ref Za26, .ref Za27, .int (nI (ZS 28 0))])), (Za1, .inl (cB, 180, .inl (bF (ZS 1)))), (Za3, .inl (cI, 2, .inl (nF (ZS 3)))), (Za4, .inl (cI, 12, .inl (nF (ZS 4)))), (Za5, .inl (cI, 12, .inl (nF (ZS 5)))), (Za6, .inl (cI, 2, .inl (nF (ZS 6)))), (Za7, .inl (cI, 10, .inl (nF (ZS 7)))), (Za8, .inl (cI, 30, .inl (nF (ZS 8)))), (Za9, .inl (cI, 2, .inl (nF (ZS 9)))), (Za10, .inl (cI, 10, .inl (nF (ZS 10)))), (Za11, .inl (cI, 5, .inl (nF (ZS 11)))), (Za12, .inl (cI, 10, .inl (nF (ZS 12)))), (Za13, .inl (cI, 2, .inl (nF (ZS 13)))), (Za20, .inl (cI, 1191, .inl (nF (z1)))), (Za21, .inl (cZ, 2, .inl (nF (ZS 21)))), (Za22, .inl (cI, 36, .inl (nF (ZS 22)))), (Za23, .inl (cI, 6, .inl (nF (ZS 23)))), (Za24, .inl (cI, 427, .inl (nF (ZS 24)))), (Za25, .inl (cI, 6, .inl (nF (ZS 25)))), (Za26, .inl (cI, 5, .inl (nF (ZS 26)))), (Za27, .inl (cI, 6, .inl (nF (ZS 27))))] H := ⟨hP, hD⟩
      refine lv_iload_n hx hb dX7_know_14 rfl (lv_at hl 1 rfl) ?_
      refine lv_sipush (v := nI 324) hx hb dX7_know_15 (by decide) ?_
      refine nb_icmp_ge (tgt := 45) hx hb dX7_know_18 (by decide) (by omega) (by omega) (fun hq15 => absurd hq15 (by omega)) (fun hq15 => ?_)
      refine lv_aload_n hx hb dX7_know_21 rfl (lv_at hl 0 rfl) ?_
      refine va_get (D := D) (ci := 7) (v := .ref Za20) (C := RX7) (T := TX7) (N := 29) hx hb hts in_X7_know_7 hown hK.1 hP 0 rfl rfl 20 (by decide) (hts (.fieldLink RX7 47 "ChildCoinsModel" "now" "[I") (List.mem_of_getElem? (i := 1) rfl)) (fun _ h9 => h9) rfl dX7_know_22 ?_
      refine lv_bipush (v := nI 37) hx hb dX7_know_25 (by decide) ?_
      refine lv_iload_n hx hb dX7_know_27 rfl (lv_at hl 1 rfl) ?_
      refine lv_iadd hx hb dX7_know_28 ?_
      refine set_i (y := nI (37 + i1)) (nI_add 37 i1) ?_
      refine lv_aload_n hx hb dX7_know_29 rfl (lv_at hl 0 rfl) ?_
      refine va_get (D := D) (ci := 7) (v := .ref Za20) (C := RX7) (T := TX7) (N := 29) hx hb hts in_X7_know_7 hown hK.1 hP 0 rfl rfl 20 (by decide) (hts (.fieldLink RX7 47 "ChildCoinsModel" "now" "[I") (List.mem_of_getElem? (i := 1) rfl)) (fun _ h9 => h9) rfl dX7_know_30 ?_
      refine lv_bipush (v := nI 73) hx hb dX7_know_33 (by decide) ?_
      refine lv_iload_n hx hb dX7_know_35 rfl (lv_at hl 1 rfl) ?_
      refine lv_iadd hx hb dX7_know_36 ?_
      refine set_i (y := nI (73 + i1)) (nI_add 73 i1) ?_
      refine va_iald hx hb hK.1 hP 13 0 rfl rfl (vp_in_nI (n := 73 + i1) (N := 1191) (by omega) (by decide)) dX7_know_37 ?_
      refine set_i (y := nI (z1 (73 + i1))) (nF_ld (by omega)) ?_
      have b16 : z1 (73 + i1) ≤ 99 := Nat.le_trans ((zok_set (k := 20) hZ (show ∀ j, z1 j ≤ zb 20 j by rw [hI1]; exact sh_b (hZ 20) (by omega))) 20 (73 + i1)) (nbd_99 (73 + i1))
      refine va_iast hx hb hK.1 hP hD hS 13 0 rfl rfl (vp_in_nI (n := 37 + i1) (N := 1191) (by omega) (by decide)) dX7_know_38 (fun H locs hP hD hS => ?_)
      obtain ⟨hP, hD⟩ : wPD D A [(Zh, .inr (7, [.long Zt, .ref Za1, .int (nI (ZS 2 0)), .ref Za3, .ref Za4, .ref Za5, .ref Za6, .ref Za7, .ref Za8, .ref Za9, .ref Za10, .ref Za11, .ref Za12, .ref Za13, .int (nI (ZS 14 0)), .int (nI (ZS 15 0)), .int (nI (ZS 16 0)), .int (nI (ZS 17 0)), .int (nI (ZS 18 0)), .int (nI (ZS 19 0) - nI 9), .ref Za20, .ref Za21, .ref Za22, .ref Za23, .ref Za24, .ref Za25, .ref Za26, .ref Za27, .int (nI (ZS 28 0))])), (Za1, .inl (cB, 180, .inl (bF (ZS 1)))), (Za3, .inl (cI, 2, .inl (nF (ZS 3)))), (Za4, .inl (cI, 12, .inl (nF (ZS 4)))), (Za5, .inl (cI, 12, .inl (nF (ZS 5)))), (Za6, .inl (cI, 2, .inl (nF (ZS 6)))), (Za7, .inl (cI, 10, .inl (nF (ZS 7)))), (Za8, .inl (cI, 30, .inl (nF (ZS 8)))), (Za9, .inl (cI, 2, .inl (nF (ZS 9)))), (Za10, .inl (cI, 10, .inl (nF (ZS 10)))), (Za11, .inl (cI, 5, .inl (nF (ZS 11)))), (Za12, .inl (cI, 10, .inl (nF (ZS 12)))), (Za13, .inl (cI, 2, .inl (nF (ZS 13)))), (Za20, .inl (cI, 1191, .inl (upd (nF (z1)) (nI (37 + i1)).toNatClampNeg (nI (z1 (73 + i1)))))), (Za21, .inl (cZ, 2, .inl (nF (ZS 21)))), (Za22, .inl (cI, 36, .inl (nF (ZS 22)))), (Za23, .inl (cI, 6, .inl (nF (ZS 23)))), (Za24, .inl (cI, 427, .inl (nF (ZS 24)))), (Za25, .inl (cI, 6, .inl (nF (ZS 25)))), (Za26, .inl (cI, 5, .inl (nF (ZS 26)))), (Za27, .inl (cI, 6, .inl (nF (ZS 27))))] H := ⟨hP, hD⟩
      rw [nF_st (by omega)] at hP hD
      refine lv_iinc (v := nI (i1 + 1)) (lv' := [(1, .int (nI (i1 + 1))), (0, .ref Zh)]) hx hb dX7_know_39 hl (k := 1) rfl (nI_add i1 1) (by decide) rfl (fun ls hl => ?_)
      refine lv_goto (tgt := 14) hx hb dX7_know_42 (by decide) ?_
      have hl : lv_has ls 2 [(0, .ref Zh), (1, .int (nI (i1 + 1)))] := lv_sub hl [1, 0] rfl
      exact ih1 (un (z1) (37 + i1) (z1 (73 + i1))) (sh_s hI1) _ _ _ hP hD hS hl
set_option maxRecDepth 20000 in
theorem dAX7_pay : decA cX7_pay [(0, .iconst 0, 1), (1, .istore_n 3, 1), (2, .iload_n 3, 1), (3, .bipush 6, 2), (5, .if_icmp .ge 53, 3), (8, .aload_n 1, 1), (9, .bipush 6, 2), (11, .aload_n 0, 1), (12, .getfield 35, 3), (15, .iload_n 2, 1), (16, .iaload, 1), (17, .imul, 1), (18, .iload_n 3, 1), (19, .iadd, 1), (20, .dup2, 1), (21, .iaload, 1), (22, .aload_n 0, 1), (23, .getfield 63, 3), (26, .iload_n 3, 1), (27, .iaload, 1), (28, .isub, 1), (29, .iastore, 1), (30, .aload_n 1, 1), (31, .bipush 6, 2), (33, .aload_n 1, 1), (34, .bipush 30, 2), (36, .iload_n 2, 1), (37, .iadd, 1), (38, .iaload, 1), (39, .imul, 1), (40, .iload_n 3, 1), (41, .iadd, 1), (42, .dup2, 1), (43, .iaload, 1), (44, .aload_n 0, 1), (45, .getfield 63, 3), (48, .iload_n 3, 1), (49, .iaload, 1), (50, .iadd, 1), (51, .iastore, 1), (52, .iinc 3 1, 3), (55, .goto (-53), 3), (58, .aload_n 1, 1), (59, .bipush 35, 2), (61, .dup2, 1), (62, .iaload, 1), (63, .iconst 1, 1), (64, .iload_n 2, 1), (65, .ishl, 1), (66, .iconst (-1), 1), (67, .ixor, 1), (68, .iand, 1), (69, .iastore, 1), (70, .return_, 1)] = true := by decide +kernel
theorem dX7_pay_0 : decode cX7_pay 0 = .ok (.iconst 0, 1) := decA_get dAX7_pay 0 rfl
theorem dX7_pay_1 : decode cX7_pay 1 = .ok (.istore_n 3, 1) := decA_get dAX7_pay 1 rfl
theorem dX7_pay_2 : decode cX7_pay 2 = .ok (.iload_n 3, 1) := decA_get dAX7_pay 2 rfl
theorem dX7_pay_3 : decode cX7_pay 3 = .ok (.bipush 6, 2) := decA_get dAX7_pay 3 rfl
theorem dX7_pay_5 : decode cX7_pay 5 = .ok (.if_icmp .ge 53, 3) := decA_get dAX7_pay 4 rfl
theorem dX7_pay_58 : decode cX7_pay 58 = .ok (.aload_n 1, 1) := decA_get dAX7_pay 42 rfl
theorem dX7_pay_59 : decode cX7_pay 59 = .ok (.bipush 35, 2) := decA_get dAX7_pay 43 rfl
theorem dX7_pay_61 : decode cX7_pay 61 = .ok (.dup2, 1) := decA_get dAX7_pay 44 rfl
theorem dX7_pay_62 : decode cX7_pay 62 = .ok (.iaload, 1) := decA_get dAX7_pay 45 rfl
theorem dX7_pay_63 : decode cX7_pay 63 = .ok (.iconst 1, 1) := decA_get dAX7_pay 46 rfl
theorem dX7_pay_64 : decode cX7_pay 64 = .ok (.iload_n 2, 1) := decA_get dAX7_pay 47 rfl
theorem dX7_pay_65 : decode cX7_pay 65 = .ok (.ishl, 1) := decA_get dAX7_pay 48 rfl
theorem dX7_pay_66 : decode cX7_pay 66 = .ok (.iconst (-1), 1) := decA_get dAX7_pay 49 rfl
theorem dX7_pay_67 : decode cX7_pay 67 = .ok (.ixor, 1) := decA_get dAX7_pay 50 rfl
theorem dX7_pay_68 : decode cX7_pay 68 = .ok (.iand, 1) := decA_get dAX7_pay 51 rfl
theorem dX7_pay_69 : decode cX7_pay 69 = .ok (.iastore, 1) := decA_get dAX7_pay 52 rfl
theorem dX7_pay_70 : decode cX7_pay 70 = .ok (.return_, 1) := decA_get dAX7_pay 53 rfl
theorem dX7_pay_8 : decode cX7_pay 8 = .ok (.aload_n 1, 1) := decA_get dAX7_pay 5 rfl
theorem dX7_pay_9 : decode cX7_pay 9 = .ok (.bipush 6, 2) := decA_get dAX7_pay 6 rfl
theorem dX7_pay_11 : decode cX7_pay 11 = .ok (.aload_n 0, 1) := decA_get dAX7_pay 7 rfl
theorem dX7_pay_12 : decode cX7_pay 12 = .ok (.getfield 35, 3) := decA_get dAX7_pay 8 rfl
theorem in_X7_pay_7 : ∀ w ∈ wsX70, w ∈ wsX7_pay := fun w h => (gd_ids wi_X7_pay wm_X7_pay wi_X70 (by decide +kernel) w h).1
theorem dX7_pay_15 : decode cX7_pay 15 = .ok (.iload_n 2, 1) := decA_get dAX7_pay 9 rfl
theorem dX7_pay_16 : decode cX7_pay 16 = .ok (.iaload, 1) := decA_get dAX7_pay 10 rfl
theorem dX7_pay_17 : decode cX7_pay 17 = .ok (.imul, 1) := decA_get dAX7_pay 11 rfl
theorem dX7_pay_18 : decode cX7_pay 18 = .ok (.iload_n 3, 1) := decA_get dAX7_pay 12 rfl
theorem dX7_pay_19 : decode cX7_pay 19 = .ok (.iadd, 1) := decA_get dAX7_pay 13 rfl
theorem dX7_pay_20 : decode cX7_pay 20 = .ok (.dup2, 1) := decA_get dAX7_pay 14 rfl
theorem dX7_pay_21 : decode cX7_pay 21 = .ok (.iaload, 1) := decA_get dAX7_pay 15 rfl
theorem dX7_pay_22 : decode cX7_pay 22 = .ok (.aload_n 0, 1) := decA_get dAX7_pay 16 rfl
theorem dX7_pay_23 : decode cX7_pay 23 = .ok (.getfield 63, 3) := decA_get dAX7_pay 17 rfl
theorem dX7_pay_26 : decode cX7_pay 26 = .ok (.iload_n 3, 1) := decA_get dAX7_pay 18 rfl
theorem dX7_pay_27 : decode cX7_pay 27 = .ok (.iaload, 1) := decA_get dAX7_pay 19 rfl
theorem dX7_pay_28 : decode cX7_pay 28 = .ok (.isub, 1) := decA_get dAX7_pay 20 rfl
theorem dX7_pay_29 : decode cX7_pay 29 = .ok (.iastore, 1) := decA_get dAX7_pay 21 rfl
theorem dX7_pay_30 : decode cX7_pay 30 = .ok (.aload_n 1, 1) := decA_get dAX7_pay 22 rfl
theorem dX7_pay_31 : decode cX7_pay 31 = .ok (.bipush 6, 2) := decA_get dAX7_pay 23 rfl
theorem dX7_pay_33 : decode cX7_pay 33 = .ok (.aload_n 1, 1) := decA_get dAX7_pay 24 rfl
theorem dX7_pay_34 : decode cX7_pay 34 = .ok (.bipush 30, 2) := decA_get dAX7_pay 25 rfl
theorem dX7_pay_36 : decode cX7_pay 36 = .ok (.iload_n 2, 1) := decA_get dAX7_pay 26 rfl
theorem dX7_pay_37 : decode cX7_pay 37 = .ok (.iadd, 1) := decA_get dAX7_pay 27 rfl
theorem dX7_pay_38 : decode cX7_pay 38 = .ok (.iaload, 1) := decA_get dAX7_pay 28 rfl
theorem dX7_pay_39 : decode cX7_pay 39 = .ok (.imul, 1) := decA_get dAX7_pay 29 rfl
theorem dX7_pay_40 : decode cX7_pay 40 = .ok (.iload_n 3, 1) := decA_get dAX7_pay 30 rfl
theorem dX7_pay_41 : decode cX7_pay 41 = .ok (.iadd, 1) := decA_get dAX7_pay 31 rfl
theorem dX7_pay_42 : decode cX7_pay 42 = .ok (.dup2, 1) := decA_get dAX7_pay 32 rfl
theorem dX7_pay_43 : decode cX7_pay 43 = .ok (.iaload, 1) := decA_get dAX7_pay 33 rfl
theorem dX7_pay_44 : decode cX7_pay 44 = .ok (.aload_n 0, 1) := decA_get dAX7_pay 34 rfl
theorem dX7_pay_45 : decode cX7_pay 45 = .ok (.getfield 63, 3) := decA_get dAX7_pay 35 rfl
theorem dX7_pay_48 : decode cX7_pay 48 = .ok (.iload_n 3, 1) := decA_get dAX7_pay 36 rfl
theorem dX7_pay_49 : decode cX7_pay 49 = .ok (.iaload, 1) := decA_get dAX7_pay 37 rfl
theorem dX7_pay_50 : decode cX7_pay 50 = .ok (.iadd, 1) := decA_get dAX7_pay 38 rfl
theorem dX7_pay_51 : decode cX7_pay 51 = .ok (.iastore, 1) := decA_get dAX7_pay 39 rfl
theorem dX7_pay_52 : decode cX7_pay 52 = .ok (.iinc 3 1, 3) := decA_get dAX7_pay 40 rfl
theorem dX7_pay_55 : decode cX7_pay 55 = .ok (.goto (-53), 3) := decA_get dAX7_pay 41 rfl
set_option maxHeartbeats 4000000 in
set_option maxRecDepth 100000 in
theorem z_payN (l : Launch) (D : va_G) (cI cB cZ cN : ClassId) (Zh : Nat) (Za1 : Nat) (Za3 : Nat) (Za4 : Nat) (Za5 : Nat) (Za6 : Nat) (Za7 : Nat) (Za8 : Nat) (Za9 : Nat) (Za10 : Nat) (Za11 : Nat) (Za12 : Nat) (Za13 : Nat) (Za20 : Nat) (Za21 : Nat) (Za22 : Nat) (Za23 : Nat) (Za24 : Nat) (Za25 : Nat) (Za26 : Nat) (Za27 : Nat) (Zt : Int64) (ZS : Nat → Nat → Nat) (v_d : Nat) (hZ : ZOk ZS) (hd : v_d < 5) (hu : ∀ c, c < 6 → ZS 25 c ≤ ZS 20 (ZS 10 v_d * 6 + c)) (h9 : ∀ c, c < 6 → ZS 20 (ZS 20 (30 + v_d) * 6 + c) + ZS 25 c ≤ 99) : Cv (S := (Nat → Nat → Nat)) l D cI cB cZ cN yX7_pay wsX7_pay ({ frames := 0, cells := 0, slots := 0, locals := 0 } : Room) [.ref Zh, .ref Za20, .int (nI v_d)] [(Zh, .inr (7, [.long Zt, .ref Za1, .int (nI (ZS 2 0)), .ref Za3, .ref Za4, .ref Za5, .ref Za6, .ref Za7, .ref Za8, .ref Za9, .ref Za10, .ref Za11, .ref Za12, .ref Za13, .int (nI (ZS 14 0)), .int (nI (ZS 15 0)), .int (nI (ZS 16 0)), .int (nI (ZS 17 0)), .int (nI (ZS 18 0)), .int (nI (ZS 19 0) - nI 9), .ref Za20, .ref Za21, .ref Za22, .ref Za23, .ref Za24, .ref Za25, .ref Za26, .ref Za27, .int (nI (ZS 28 0))])), (Za1, .inl (cB, 180, .inl (bF (ZS 1)))), (Za3, .inl (cI, 2, .inl (nF (ZS 3)))), (Za4, .inl (cI, 12, .inl (nF (ZS 4)))), (Za5, .inl (cI, 12, .inl (nF (ZS 5)))), (Za6, .inl (cI, 2, .inl (nF (ZS 6)))), (Za7, .inl (cI, 10, .inl (nF (ZS 7)))), (Za8, .inl (cI, 30, .inl (nF (ZS 8)))), (Za9, .inl (cI, 2, .inl (nF (ZS 9)))), (Za10, .inl (cI, 10, .inl (nF (ZS 10)))), (Za11, .inl (cI, 5, .inl (nF (ZS 11)))), (Za12, .inl (cI, 10, .inl (nF (ZS 12)))), (Za13, .inl (cI, 2, .inl (nF (ZS 13)))), (Za20, .inl (cI, 1191, .inl (nF (ZS 20)))), (Za21, .inl (cZ, 2, .inl (nF (ZS 21)))), (Za22, .inl (cI, 36, .inl (nF (ZS 22)))), (Za23, .inl (cI, 6, .inl (nF (ZS 23)))), (Za24, .inl (cI, 427, .inl (nF (ZS 24)))), (Za25, .inl (cI, 6, .inl (nF (ZS 25)))), (Za26, .inl (cI, 5, .inl (nF (ZS 26)))), (Za27, .inl (cI, 6, .inl (nF (ZS 27))))] (fun (u : (Nat → Nat → Nat)) => u = ua ZS 20 (pyN (ZS 20) (ZS 25) (ZS 10 v_d) (ZS 20 (30 + v_d)) v_d)) (fun u => [(Zh, .inr (7, [.long Zt, .ref Za1, .int (nI (u 2 0)), .ref Za3, .ref Za4, .ref Za5, .ref Za6, .ref Za7, .ref Za8, .ref Za9, .ref Za10, .ref Za11, .ref Za12, .ref Za13, .int (nI (u 14 0)), .int (nI (u 15 0)), .int (nI (u 16 0)), .int (nI (u 17 0)), .int (nI (u 18 0)), .int (nI (u 19 0) - nI 9), .ref Za20, .ref Za21, .ref Za22, .ref Za23, .ref Za24, .ref Za25, .ref Za26, .ref Za27, .int (nI (u 28 0))])), (Za1, .inl (cB, 180, .inl (bF (u 1)))), (Za3, .inl (cI, 2, .inl (nF (u 3)))), (Za4, .inl (cI, 12, .inl (nF (u 4)))), (Za5, .inl (cI, 12, .inl (nF (u 5)))), (Za6, .inl (cI, 2, .inl (nF (u 6)))), (Za7, .inl (cI, 10, .inl (nF (u 7)))), (Za8, .inl (cI, 30, .inl (nF (u 8)))), (Za9, .inl (cI, 2, .inl (nF (u 9)))), (Za10, .inl (cI, 10, .inl (nF (u 10)))), (Za11, .inl (cI, 5, .inl (nF (u 11)))), (Za12, .inl (cI, 10, .inl (nF (u 12)))), (Za13, .inl (cI, 2, .inl (nF (u 13)))), (Za20, .inl (cI, 1191, .inl (nF (u 20)))), (Za21, .inl (cZ, 2, .inl (nF (u 21)))), (Za22, .inl (cI, 36, .inl (nF (u 22)))), (Za23, .inl (cI, 6, .inl (nF (u 23)))), (Za24, .inl (cI, 427, .inl (nF (u 24)))), (Za25, .inl (cI, 6, .inl (nF (u 25)))), (Za26, .inl (cI, 5, .inl (nF (u 26)))), (Za27, .inl (cI, 6, .inl (nF (u 27))))]) := by
  refine bx_of (D := D) (cI := cI) (cB := cB) (cZ := cZ) (cN := cN) (y := yX7_pay) (wd := wsX7_pay) (rm := ({ frames := 0, cells := 0, slots := 0, locals := 0 } : Room)) (av := [.ref Zh, .ref Za20, .int (nI v_d)]) (wc := [(Zh, .inr (7, [.long Zt, .ref Za1, .int (nI (ZS 2 0)), .ref Za3, .ref Za4, .ref Za5, .ref Za6, .ref Za7, .ref Za8, .ref Za9, .ref Za10, .ref Za11, .ref Za12, .ref Za13, .int (nI (ZS 14 0)), .int (nI (ZS 15 0)), .int (nI (ZS 16 0)), .int (nI (ZS 17 0)), .int (nI (ZS 18 0)), .int (nI (ZS 19 0) - nI 9), .ref Za20, .ref Za21, .ref Za22, .ref Za23, .ref Za24, .ref Za25, .ref Za26, .ref Za27, .int (nI (ZS 28 0))])), (Za1, .inl (cB, 180, .inl (bF (ZS 1)))), (Za3, .inl (cI, 2, .inl (nF (ZS 3)))), (Za4, .inl (cI, 12, .inl (nF (ZS 4)))), (Za5, .inl (cI, 12, .inl (nF (ZS 5)))), (Za6, .inl (cI, 2, .inl (nF (ZS 6)))), (Za7, .inl (cI, 10, .inl (nF (ZS 7)))), (Za8, .inl (cI, 30, .inl (nF (ZS 8)))), (Za9, .inl (cI, 2, .inl (nF (ZS 9)))), (Za10, .inl (cI, 10, .inl (nF (ZS 10)))), (Za11, .inl (cI, 5, .inl (nF (ZS 11)))), (Za12, .inl (cI, 10, .inl (nF (ZS 12)))), (Za13, .inl (cI, 2, .inl (nF (ZS 13)))), (Za20, .inl (cI, 1191, .inl (nF (ZS 20)))), (Za21, .inl (cZ, 2, .inl (nF (ZS 21)))), (Za22, .inl (cI, 36, .inl (nF (ZS 22)))), (Za23, .inl (cI, 6, .inl (nF (ZS 23)))), (Za24, .inl (cI, 427, .inl (nF (ZS 24)))), (Za25, .inl (cI, 6, .inl (nF (ZS 25)))), (Za26, .inl (cI, 5, .inl (nF (ZS 26)))), (Za27, .inl (cI, 6, .inl (nF (ZS 27))))]) (cc := cX7_pay) (maxL := 4) (ret := none) (Qc := fun _ A => va_Qv (S := (Nat → Nat → Nat)) (fun (u : (Nat → Nat → Nat)) => u = ua ZS 20 (pyN (ZS 20) (ZS 25) (ZS 10 v_d) (ZS 20 (30 + v_d)) v_d)) (Aft D (fun (u : (Nat → Nat → Nat)) => [(Zh, .inr (7, [.long Zt, .ref Za1, .int (nI (u 2 0)), .ref Za3, .ref Za4, .ref Za5, .ref Za6, .ref Za7, .ref Za8, .ref Za9, .ref Za10, .ref Za11, .ref Za12, .ref Za13, .int (nI (u 14 0)), .int (nI (u 15 0)), .int (nI (u 16 0)), .int (nI (u 17 0)), .int (nI (u 18 0)), .int (nI (u 19 0) - nI 9), .ref Za20, .ref Za21, .ref Za22, .ref Za23, .ref Za24, .ref Za25, .ref Za26, .ref Za27, .int (nI (u 28 0))])), (Za1, .inl (cB, 180, .inl (bF (u 1)))), (Za3, .inl (cI, 2, .inl (nF (u 3)))), (Za4, .inl (cI, 12, .inl (nF (u 4)))), (Za5, .inl (cI, 12, .inl (nF (u 5)))), (Za6, .inl (cI, 2, .inl (nF (u 6)))), (Za7, .inl (cI, 10, .inl (nF (u 7)))), (Za8, .inl (cI, 30, .inl (nF (u 8)))), (Za9, .inl (cI, 2, .inl (nF (u 9)))), (Za10, .inl (cI, 10, .inl (nF (u 10)))), (Za11, .inl (cI, 5, .inl (nF (u 11)))), (Za12, .inl (cI, 10, .inl (nF (u 12)))), (Za13, .inl (cI, 2, .inl (nF (u 13)))), (Za20, .inl (cI, 1191, .inl (nF (u 20)))), (Za21, .inl (cZ, 2, .inl (nF (u 21)))), (Za22, .inl (cI, 36, .inl (nF (u 22)))), (Za23, .inl (cI, 6, .inl (nF (u 23)))), (Za24, .inl (cI, 427, .inl (nF (u 24)))), (Za25, .inl (cI, 6, .inl (nF (u 25)))), (Za26, .inl (cI, 5, .inl (nF (u 26)))), (Za27, .inl (cI, 6, .inl (nF (u 27))))]) A) A) (by decide) rfl (Nat.le_of_ble_eq_true rfl) ?_
  intro p e s m below meth c A H locs ⟨hx, hb, hr, hml, hown, hts, hlk, hnm⟩ hK hP hD hS hA ls hl
  have hl : lv_has ls 4 [(0, .ref Zh), (1, .ref Za20), (2, .int (nI v_d))] := hl
  have hown : s.vm.findClass RX7 = some m.cls := hown
  have bdb : ZS 10 v_d < 5 := Nat.lt_succ_of_le (hZ 10 v_d)
  have bcr : ZS 20 (30 + v_d) < 5 := Nat.lt_succ_of_le (Nat.le_trans (hZ 20 (30 + v_d)) (Nat.le_of_eq (nbd_c hd)))
  refine lv_iconst (v := nI 0) hx hb dX7_pay_0 (by decide) ?_
  refine lv_istore_n (lv' := [(3, .int (nI 0)), (0, .ref Zh), (1, .ref Za20), (2, .int (nI v_d))]) hx hb dX7_pay_1 rfl hl (by decide) rfl (fun ls hl => ?_)
  refine loopS (σ := Nat → Nat) (D := D) (A := A) (fun i1 z1 => z1 = stlN (ZS 20) (ZS 25) (ZS 10 v_d) (ZS 20 (30 + v_d)) i1) (fun i1 z1 => [(Zh, .inr (7, [.long Zt, .ref Za1, .int (nI (ZS 2 0)), .ref Za3, .ref Za4, .ref Za5, .ref Za6, .ref Za7, .ref Za8, .ref Za9, .ref Za10, .ref Za11, .ref Za12, .ref Za13, .int (nI (ZS 14 0)), .int (nI (ZS 15 0)), .int (nI (ZS 16 0)), .int (nI (ZS 17 0)), .int (nI (ZS 18 0)), .int (nI (ZS 19 0) - nI 9), .ref Za20, .ref Za21, .ref Za22, .ref Za23, .ref Za24, .ref Za25, .ref Za26, .ref Za27, .int (nI (ZS 28 0))])), (Za1, .inl (cB, 180, .inl (bF (ZS 1)))), (Za3, .inl (cI, 2, .inl (nF (ZS 3)))), (Za4, .inl (cI, 12, .inl (nF (ZS 4)))), (Za5, .inl (cI, 12, .inl (nF (ZS 5)))), (Za6, .inl (cI, 2, .inl (nF (ZS 6)))), (Za7, .inl (cI, 10, .inl (nF (ZS 7)))), (Za8, .inl (cI, 30, .inl (nF (ZS 8)))), (Za9, .inl (cI, 2, .inl (nF (ZS 9)))), (Za10, .inl (cI, 10, .inl (nF (ZS 10)))), (Za11, .inl (cI, 5, .inl (nF (ZS 11)))), (Za12, .inl (cI, 10, .inl (nF (ZS 12)))), (Za13, .inl (cI, 2, .inl (nF (ZS 13)))), (Za20, .inl (cI, 1191, .inl (nF (z1)))), (Za21, .inl (cZ, 2, .inl (nF (ZS 21)))), (Za22, .inl (cI, 36, .inl (nF (ZS 22)))), (Za23, .inl (cI, 6, .inl (nF (ZS 23)))), (Za24, .inl (cI, 427, .inl (nF (ZS 24)))), (Za25, .inl (cI, 6, .inl (nF (ZS 25)))), (Za26, .inl (cI, 5, .inl (nF (ZS 26)))), (Za27, .inl (cI, 6, .inl (nF (ZS 27))))]) (fun i1 z1 => [(0, .ref Zh), (1, .ref Za20), (2, .int (nI v_d)), (3, .int (nI i1))]) 2 4 6 0 (Nat.zero_le _) ?_ ?_ (ZS 20) rfl _ _ ls (by first | exact hP) (by first | exact hD) hS (lv_sub hl [1, 2, 3, 0] rfl)
  · intro z1 hI1 H locs ls hP hD hS hl
    have hl : lv_has ls 4 [(0, .ref Zh), (1, .ref Za20), (2, .int (nI v_d)), (3, .int (nI 6))] := hl
    obtain ⟨hP, hD⟩ : wPD D A [(Zh, .inr (7, [.long Zt, .ref Za1, .int (nI (ZS 2 0)), .ref Za3, .ref Za4, .ref Za5, .ref Za6, .ref Za7, .ref Za8, .ref Za9, .ref Za10, .ref Za11, .ref Za12, .ref Za13, .int (nI (ZS 14 0)), .int (nI (ZS 15 0)), .int (nI (ZS 16 0)), .int (nI (ZS 17 0)), .int (nI (ZS 18 0)), .int (nI (ZS 19 0) - nI 9), .ref Za20, .ref Za21, .ref Za22, .ref Za23, .ref Za24, .ref Za25, .ref Za26, .ref Za27, .int (nI (ZS 28 0))])), (Za1, .inl (cB, 180, .inl (bF (ZS 1)))), (Za3, .inl (cI, 2, .inl (nF (ZS 3)))), (Za4, .inl (cI, 12, .inl (nF (ZS 4)))), (Za5, .inl (cI, 12, .inl (nF (ZS 5)))), (Za6, .inl (cI, 2, .inl (nF (ZS 6)))), (Za7, .inl (cI, 10, .inl (nF (ZS 7)))), (Za8, .inl (cI, 30, .inl (nF (ZS 8)))), (Za9, .inl (cI, 2, .inl (nF (ZS 9)))), (Za10, .inl (cI, 10, .inl (nF (ZS 10)))), (Za11, .inl (cI, 5, .inl (nF (ZS 11)))), (Za12, .inl (cI, 10, .inl (nF (ZS 12)))), (Za13, .inl (cI, 2, .inl (nF (ZS 13)))), (Za20, .inl (cI, 1191, .inl (nF (z1)))), (Za21, .inl (cZ, 2, .inl (nF (ZS 21)))), (Za22, .inl (cI, 36, .inl (nF (ZS 22)))), (Za23, .inl (cI, 6, .inl (nF (ZS 23)))), (Za24, .inl (cI, 427, .inl (nF (ZS 24)))), (Za25, .inl (cI, 6, .inl (nF (ZS 25)))), (Za26, .inl (cI, 5, .inl (nF (ZS 26)))), (Za27, .inl (cI, 6, .inl (nF (ZS 27))))] H := ⟨hP, hD⟩
    refine lv_iload_n hx hb dX7_pay_2 rfl (lv_at hl 3 rfl) ?_
    refine lv_bipush (v := nI 6) hx hb dX7_pay_3 (by decide) ?_
    refine nb_icmp_ge (tgt := 58) hx hb dX7_pay_5 (by decide) (by omega) (by omega) (fun hq1 => ?_) (fun hq1 => absurd hq1 (by omega))
    refine lv_aload_n hx hb dX7_pay_58 rfl (lv_at hl 1 rfl) ?_
    refine lv_bipush (v := nI 35) hx hb dX7_pay_59 (by decide) ?_
    refine lv_dup2_11 hx hb dX7_pay_61 rfl rfl ?_
    refine va_iald hx hb hK.1 hP 13 0 rfl rfl (vp_in_nI (n := 35) (N := 1191) (by omega) (by decide)) dX7_pay_62 ?_
    refine set_i (y := nI (z1 35)) (nF_ld (by omega)) ?_
    have b2 : z1 35 ≤ 31 := Nat.le_trans ((zok_set (k := 20) hZ (show ∀ j, z1 j ≤ zb 20 j by rw [hI1]; exact stlN_b (hZ 20) (fun j => nbd_h) (fun j => Nat.le_trans (hZ 20 j) (nbd_99 j)) bdb bcr hu h9 (by omega))) 20 35) (Nat.le_of_eq nbd_35)
    refine lv_iconst (v := nI 1) hx hb dX7_pay_63 (by decide) ?_
    refine lv_iload_n hx hb dX7_pay_64 rfl (lv_at hl 2 rfl) ?_
    refine lv_ishl hx hb dX7_pay_65 ?_
    refine set_i (y := nI (2 ^ v_d)) (shl_1 (by omega)) ?_
    refine lv_iconst (v := -1) hx hb dX7_pay_66 (by decide) ?_
    refine lv_ixor hx hb dX7_pay_67 ?_
    refine lv_iand hx hb dX7_pay_68 ?_
    refine set_i (y := nI (clrN (z1 35) v_d)) (clr_ok (by omega) (by omega)) ?_
    refine va_iast hx hb hK.1 hP hD hS 13 0 rfl rfl (vp_in_nI (n := 35) (N := 1191) (by omega) (by decide)) dX7_pay_69 (fun H locs hP hD hS => ?_)
    obtain ⟨hP, hD⟩ : wPD D A [(Zh, .inr (7, [.long Zt, .ref Za1, .int (nI (ZS 2 0)), .ref Za3, .ref Za4, .ref Za5, .ref Za6, .ref Za7, .ref Za8, .ref Za9, .ref Za10, .ref Za11, .ref Za12, .ref Za13, .int (nI (ZS 14 0)), .int (nI (ZS 15 0)), .int (nI (ZS 16 0)), .int (nI (ZS 17 0)), .int (nI (ZS 18 0)), .int (nI (ZS 19 0) - nI 9), .ref Za20, .ref Za21, .ref Za22, .ref Za23, .ref Za24, .ref Za25, .ref Za26, .ref Za27, .int (nI (ZS 28 0))])), (Za1, .inl (cB, 180, .inl (bF (ZS 1)))), (Za3, .inl (cI, 2, .inl (nF (ZS 3)))), (Za4, .inl (cI, 12, .inl (nF (ZS 4)))), (Za5, .inl (cI, 12, .inl (nF (ZS 5)))), (Za6, .inl (cI, 2, .inl (nF (ZS 6)))), (Za7, .inl (cI, 10, .inl (nF (ZS 7)))), (Za8, .inl (cI, 30, .inl (nF (ZS 8)))), (Za9, .inl (cI, 2, .inl (nF (ZS 9)))), (Za10, .inl (cI, 10, .inl (nF (ZS 10)))), (Za11, .inl (cI, 5, .inl (nF (ZS 11)))), (Za12, .inl (cI, 10, .inl (nF (ZS 12)))), (Za13, .inl (cI, 2, .inl (nF (ZS 13)))), (Za20, .inl (cI, 1191, .inl (upd (nF (z1)) (nI 35).toNatClampNeg (nI (clrN (z1 35) v_d))))), (Za21, .inl (cZ, 2, .inl (nF (ZS 21)))), (Za22, .inl (cI, 36, .inl (nF (ZS 22)))), (Za23, .inl (cI, 6, .inl (nF (ZS 23)))), (Za24, .inl (cI, 427, .inl (nF (ZS 24)))), (Za25, .inl (cI, 6, .inl (nF (ZS 25)))), (Za26, .inl (cI, 5, .inl (nF (ZS 26)))), (Za27, .inl (cI, 6, .inl (nF (ZS 27))))] H := ⟨hP, hD⟩
    rw [nF_st (by omega)] at hP hD
    exact en_v hx hb hr hlk hP hD hS (ua ZS 20 (un (z1) 35 (clrN (z1 35) v_d))) [0, 1, 2, 3, 4, 5, 6, 7, 8, 9, 10, 11, 12, 13, 14, 15, 16, 17, 18, 19, 20] (by decide) rfl (Nat.le_of_ble_eq_true rfl) (Nat.le_of_ble_eq_true rfl) dX7_pay_70 (by rw [hI1]; rfl)
  · intro i1 hi01 hi1 z1 hI1 ih1 H locs ls hP hD hS hl
    have hl : lv_has ls 4 [(0, .ref Zh), (1, .ref Za20), (2, .int (nI v_d)), (3, .int (nI i1))] := hl
    obtain ⟨hP, hD⟩ : wPD D A [(Zh, .inr (7, [.long Zt, .ref Za1, .int (nI (ZS 2 0)), .ref Za3, .ref Za4, .ref Za5, .ref Za6, .ref Za7, .ref Za8, .ref Za9, .ref Za10, .ref Za11, .ref Za12, .ref Za13, .int (nI (ZS 14 0)), .int (nI (ZS 15 0)), .int (nI (ZS 16 0)), .int (nI (ZS 17 0)), .int (nI (ZS 18 0)), .int (nI (ZS 19 0) - nI 9), .ref Za20, .ref Za21, .ref Za22, .ref Za23, .ref Za24, .ref Za25, .ref Za26, .ref Za27, .int (nI (ZS 28 0))])), (Za1, .inl (cB, 180, .inl (bF (ZS 1)))), (Za3, .inl (cI, 2, .inl (nF (ZS 3)))), (Za4, .inl (cI, 12, .inl (nF (ZS 4)))), (Za5, .inl (cI, 12, .inl (nF (ZS 5)))), (Za6, .inl (cI, 2, .inl (nF (ZS 6)))), (Za7, .inl (cI, 10, .inl (nF (ZS 7)))), (Za8, .inl (cI, 30, .inl (nF (ZS 8)))), (Za9, .inl (cI, 2, .inl (nF (ZS 9)))), (Za10, .inl (cI, 10, .inl (nF (ZS 10)))), (Za11, .inl (cI, 5, .inl (nF (ZS 11)))), (Za12, .inl (cI, 10, .inl (nF (ZS 12)))), (Za13, .inl (cI, 2, .inl (nF (ZS 13)))), (Za20, .inl (cI, 1191, .inl (nF (z1)))), (Za21, .inl (cZ, 2, .inl (nF (ZS 21)))), (Za22, .inl (cI, 36, .inl (nF (ZS 22)))), (Za23, .inl (cI, 6, .inl (nF (ZS 23)))), (Za24, .inl (cI, 427, .inl (nF (ZS 24)))), (Za25, .inl (cI, 6, .inl (nF (ZS 25)))), (Za26, .inl (cI, 5, .inl (nF (ZS 26)))), (Za27, .inl (cI, 6, .inl (nF (ZS 27))))] H := ⟨hP, hD⟩
    refine lv_iload_n hx hb dX7_pay_2 rfl (lv_at hl 3 rfl) ?_
    refine lv_bipush (v := nI 6) hx hb dX7_pay_3 (by decide) ?_
    refine nb_icmp_ge (tgt := 58) hx hb dX7_pay_5 (by decide) (by omega) (by omega) (fun hq3 => absurd hq3 (by omega)) (fun hq3 => ?_)
    have e1 : z1 ((6 * (ZS 10 v_d)) + i1) = ZS 20 (ZS 10 v_d * 6 + i1) := by rw [hI1, Nat.mul_comm 6 (ZS 10 v_d)]; exact stl_col (Nat.le_refl _) (by omega)
    have e2 := hu i1 (by omega)
    refine lv_aload_n hx hb dX7_pay_8 rfl (lv_at hl 1 rfl) ?_
    refine lv_bipush (v := nI 6) hx hb dX7_pay_9 (by decide) ?_
    refine lv_aload_n hx hb dX7_pay_11 rfl (lv_at hl 0 rfl) ?_
    refine va_get (D := D) (ci := 7) (v := .ref Za10) (C := RX7) (T := TX7) (N := 29) hx hb hts in_X7_pay_7 hown hK.1 hP 0 rfl rfl 10 (by decide) (hts (.fieldLink RX7 35 "ChildCoinsModel" "debtor" "[I") (List.mem_of_getElem? (i := 1) rfl)) (fun _ h9 => h9) rfl dX7_pay_12 ?_
    refine lv_iload_n hx hb dX7_pay_15 rfl (lv_at hl 2 rfl) ?_
    refine va_iald hx hb hK.1 hP 9 0 rfl rfl (vp_in_nI (n := v_d) (N := 10) (by omega) (by decide)) dX7_pay_16 ?_
    refine set_i (y := nI (ZS 10 v_d)) (nF_ld (by omega)) ?_
    have b4 : ZS 10 v_d ≤ 4 := (zok_set (k := 20) hZ (show ∀ j, z1 j ≤ zb 20 j by rw [hI1]; exact stlN_b (hZ 20) (fun j => nbd_h) (fun j => Nat.le_trans (hZ 20 j) (nbd_99 j)) bdb bcr hu h9 (by omega))) 10 v_d
    refine lv_imul hx hb dX7_pay_17 ?_
    refine set_i (y := nI (6 * (ZS 10 v_d))) (pk_mul 6 (ZS 10 v_d)) ?_
    refine lv_iload_n hx hb dX7_pay_18 rfl (lv_at hl 3 rfl) ?_
    refine lv_iadd hx hb dX7_pay_19 ?_
    refine set_i (y := nI ((6 * (ZS 10 v_d)) + i1)) (nI_add (6 * (ZS 10 v_d)) i1) ?_
    refine lv_dup2_11 hx hb dX7_pay_20 rfl rfl ?_
    refine va_iald hx hb hK.1 hP 13 0 rfl rfl (vp_in_nI (n := (6 * (ZS 10 v_d)) + i1) (N := 1191) (by omega) (by decide)) dX7_pay_21 ?_
    refine set_i (y := nI (z1 ((6 * (ZS 10 v_d)) + i1))) (nF_ld (by omega)) ?_
    have b5 : z1 ((6 * (ZS 10 v_d)) + i1) ≤ 99 := Nat.le_trans ((zok_set (k := 20) hZ (show ∀ j, z1 j ≤ zb 20 j by rw [hI1]; exact stlN_b (hZ 20) (fun j => nbd_h) (fun j => Nat.le_trans (hZ 20 j) (nbd_99 j)) bdb bcr hu h9 (by omega))) 20 ((6 * (ZS 10 v_d)) + i1)) (nbd_99 ((6 * (ZS 10 v_d)) + i1))
    refine lv_aload_n hx hb dX7_pay_22 rfl (lv_at hl 0 rfl) ?_
    refine va_get (D := D) (ci := 7) (v := .ref Za25) (C := RX7) (T := TX7) (N := 29) hx hb hts in_X7_pay_7 hown hK.1 hP 0 rfl rfl 25 (by decide) (hts (.fieldLink RX7 63 "ChildCoinsModel" "paid" "[I") (List.mem_of_getElem? (i := 2) rfl)) (fun _ h9 => h9) rfl dX7_pay_23 ?_
    refine lv_iload_n hx hb dX7_pay_26 rfl (lv_at hl 3 rfl) ?_
    refine va_iald hx hb hK.1 hP 18 0 rfl rfl (vp_in_nI (n := i1) (N := 6) (by omega) (by decide)) dX7_pay_27 ?_
    refine set_i (y := nI (ZS 25 i1)) (nF_ld (by omega)) ?_
    have b6 : ZS 25 i1 ≤ 495 := (zok_set (k := 20) hZ (show ∀ j, z1 j ≤ zb 20 j by rw [hI1]; exact stlN_b (hZ 20) (fun j => nbd_h) (fun j => Nat.le_trans (hZ 20 j) (nbd_99 j)) bdb bcr hu h9 (by omega))) 25 i1
    refine lv_isub hx hb dX7_pay_28 ?_
    refine set_i (y := nI ((z1 ((6 * (ZS 10 v_d)) + i1)) - (ZS 25 i1))) (pk_sub (by omega)) ?_
    refine va_iast hx hb hK.1 hP hD hS 13 0 rfl rfl (vp_in_nI (n := (6 * (ZS 10 v_d)) + i1) (N := 1191) (by omega) (by decide)) dX7_pay_29 (fun H locs hP hD hS => ?_)
    obtain ⟨hP, hD⟩ : wPD D A [(Zh, .inr (7, [.long Zt, .ref Za1, .int (nI (ZS 2 0)), .ref Za3, .ref Za4, .ref Za5, .ref Za6, .ref Za7, .ref Za8, .ref Za9, .ref Za10, .ref Za11, .ref Za12, .ref Za13, .int (nI (ZS 14 0)), .int (nI (ZS 15 0)), .int (nI (ZS 16 0)), .int (nI (ZS 17 0)), .int (nI (ZS 18 0)), .int (nI (ZS 19 0) - nI 9), .ref Za20, .ref Za21, .ref Za22, .ref Za23, .ref Za24, .ref Za25, .ref Za26, .ref Za27, .int (nI (ZS 28 0))])), (Za1, .inl (cB, 180, .inl (bF (ZS 1)))), (Za3, .inl (cI, 2, .inl (nF (ZS 3)))), (Za4, .inl (cI, 12, .inl (nF (ZS 4)))), (Za5, .inl (cI, 12, .inl (nF (ZS 5)))), (Za6, .inl (cI, 2, .inl (nF (ZS 6)))), (Za7, .inl (cI, 10, .inl (nF (ZS 7)))), (Za8, .inl (cI, 30, .inl (nF (ZS 8)))), (Za9, .inl (cI, 2, .inl (nF (ZS 9)))), (Za10, .inl (cI, 10, .inl (nF (ZS 10)))), (Za11, .inl (cI, 5, .inl (nF (ZS 11)))), (Za12, .inl (cI, 10, .inl (nF (ZS 12)))), (Za13, .inl (cI, 2, .inl (nF (ZS 13)))), (Za20, .inl (cI, 1191, .inl (upd (nF (z1)) (nI ((6 * (ZS 10 v_d)) + i1)).toNatClampNeg (nI ((z1 ((6 * (ZS 10 v_d)) + i1)) - (ZS 25 i1)))))), (Za21, .inl (cZ, 2, .inl (nF (ZS 21)))), (Za22, .inl (cI, 36, .inl (nF (ZS 22)))), (Za23, .inl (cI, 6, .inl (nF (ZS 23)))), (Za24, .inl (cI, 427, .inl (nF (ZS 24)))), (Za25, .inl (cI, 6, .inl (nF (ZS 25)))), (Za26, .inl (cI, 5, .inl (nF (ZS 26)))), (Za27, .inl (cI, 6, .inl (nF (ZS 27))))] H := ⟨hP, hD⟩
    rw [nF_st (by omega)] at hP hD
    refine lv_aload_n hx hb dX7_pay_30 rfl (lv_at hl 1 rfl) ?_
    refine lv_bipush (v := nI 6) hx hb dX7_pay_31 (by decide) ?_
    refine lv_aload_n hx hb dX7_pay_33 rfl (lv_at hl 1 rfl) ?_
    refine lv_bipush (v := nI 30) hx hb dX7_pay_34 (by decide) ?_
    refine lv_iload_n hx hb dX7_pay_36 rfl (lv_at hl 2 rfl) ?_
    refine lv_iadd hx hb dX7_pay_37 ?_
    refine set_i (y := nI (30 + v_d)) (nI_add 30 v_d) ?_
    refine va_iald hx hb hK.1 hP 13 0 rfl rfl (vp_in_nI (n := 30 + v_d) (N := 1191) (by omega) (by decide)) dX7_pay_38 ?_
    refine set_i (y := nI ((un (z1) ((6 * (ZS 10 v_d)) + i1) ((z1 ((6 * (ZS 10 v_d)) + i1)) - (ZS 25 i1))) (30 + v_d))) (nF_ld (by omega)) ?_
    refine set_i (y := nI (ZS 20 (30 + v_d))) (congrArg nI (by rw [un_n (by omega), hI1]; exact stl_hi bdb bcr (by omega) (by omega))) ?_
    refine lv_imul hx hb dX7_pay_39 ?_
    refine set_i (y := nI (6 * (ZS 20 (30 + v_d)))) (pk_mul 6 (ZS 20 (30 + v_d))) ?_
    refine lv_iload_n hx hb dX7_pay_40 rfl (lv_at hl 3 rfl) ?_
    refine lv_iadd hx hb dX7_pay_41 ?_
    refine set_i (y := nI ((6 * (ZS 20 (30 + v_d))) + i1)) (nI_add (6 * (ZS 20 (30 + v_d))) i1) ?_
    refine lv_dup2_11 hx hb dX7_pay_42 rfl rfl ?_
    refine va_iald hx hb hK.1 hP 13 0 rfl rfl (vp_in_nI (n := (6 * (ZS 20 (30 + v_d))) + i1) (N := 1191) (by omega) (by decide)) dX7_pay_43 ?_
    refine set_i (y := nI ((un (z1) ((6 * (ZS 10 v_d)) + i1) ((z1 ((6 * (ZS 10 v_d)) + i1)) - (ZS 25 i1))) ((6 * (ZS 20 (30 + v_d))) + i1))) (nF_ld (by omega)) ?_
    refine lv_aload_n hx hb dX7_pay_44 rfl (lv_at hl 0 rfl) ?_
    refine va_get (D := D) (ci := 7) (v := .ref Za25) (C := RX7) (T := TX7) (N := 29) hx hb hts in_X7_pay_7 hown hK.1 hP 0 rfl rfl 25 (by decide) (hts (.fieldLink RX7 63 "ChildCoinsModel" "paid" "[I") (List.mem_of_getElem? (i := 2) rfl)) (fun _ h9 => h9) rfl dX7_pay_45 ?_
    refine lv_iload_n hx hb dX7_pay_48 rfl (lv_at hl 3 rfl) ?_
    refine va_iald hx hb hK.1 hP 18 0 rfl rfl (vp_in_nI (n := i1) (N := 6) (by omega) (by decide)) dX7_pay_49 ?_
    refine set_i (y := nI (ZS 25 i1)) (nF_ld (by omega)) ?_
    have b7 : ZS 25 i1 ≤ 495 := (zok_set (k := 20) hZ (show ∀ j, z1 j ≤ zb 20 j by rw [hI1]; exact stlN_b (hZ 20) (fun j => nbd_h) (fun j => Nat.le_trans (hZ 20 j) (nbd_99 j)) bdb bcr hu h9 (by omega))) 25 i1
    refine lv_iadd hx hb dX7_pay_50 ?_
    refine set_i (y := nI (((un (z1) ((6 * (ZS 10 v_d)) + i1) ((z1 ((6 * (ZS 10 v_d)) + i1)) - (ZS 25 i1))) ((6 * (ZS 20 (30 + v_d))) + i1)) + (ZS 25 i1))) (nI_add ((un (z1) ((6 * (ZS 10 v_d)) + i1) ((z1 ((6 * (ZS 10 v_d)) + i1)) - (ZS 25 i1))) ((6 * (ZS 20 (30 + v_d))) + i1)) (ZS 25 i1)) ?_
    refine va_iast hx hb hK.1 hP hD hS 13 0 rfl rfl (vp_in_nI (n := (6 * (ZS 20 (30 + v_d))) + i1) (N := 1191) (by omega) (by decide)) dX7_pay_51 (fun H locs hP hD hS => ?_)
    obtain ⟨hP, hD⟩ : wPD D A [(Zh, .inr (7, [.long Zt, .ref Za1, .int (nI (ZS 2 0)), .ref Za3, .ref Za4, .ref Za5, .ref Za6, .ref Za7, .ref Za8, .ref Za9, .ref Za10, .ref Za11, .ref Za12, .ref Za13, .int (nI (ZS 14 0)), .int (nI (ZS 15 0)), .int (nI (ZS 16 0)), .int (nI (ZS 17 0)), .int (nI (ZS 18 0)), .int (nI (ZS 19 0) - nI 9), .ref Za20, .ref Za21, .ref Za22, .ref Za23, .ref Za24, .ref Za25, .ref Za26, .ref Za27, .int (nI (ZS 28 0))])), (Za1, .inl (cB, 180, .inl (bF (ZS 1)))), (Za3, .inl (cI, 2, .inl (nF (ZS 3)))), (Za4, .inl (cI, 12, .inl (nF (ZS 4)))), (Za5, .inl (cI, 12, .inl (nF (ZS 5)))), (Za6, .inl (cI, 2, .inl (nF (ZS 6)))), (Za7, .inl (cI, 10, .inl (nF (ZS 7)))), (Za8, .inl (cI, 30, .inl (nF (ZS 8)))), (Za9, .inl (cI, 2, .inl (nF (ZS 9)))), (Za10, .inl (cI, 10, .inl (nF (ZS 10)))), (Za11, .inl (cI, 5, .inl (nF (ZS 11)))), (Za12, .inl (cI, 10, .inl (nF (ZS 12)))), (Za13, .inl (cI, 2, .inl (nF (ZS 13)))), (Za20, .inl (cI, 1191, .inl (upd (nF (un (z1) ((6 * (ZS 10 v_d)) + i1) ((z1 ((6 * (ZS 10 v_d)) + i1)) - (ZS 25 i1)))) (nI ((6 * (ZS 20 (30 + v_d))) + i1)).toNatClampNeg (nI (((un (z1) ((6 * (ZS 10 v_d)) + i1) ((z1 ((6 * (ZS 10 v_d)) + i1)) - (ZS 25 i1))) ((6 * (ZS 20 (30 + v_d))) + i1)) + (ZS 25 i1)))))), (Za21, .inl (cZ, 2, .inl (nF (ZS 21)))), (Za22, .inl (cI, 36, .inl (nF (ZS 22)))), (Za23, .inl (cI, 6, .inl (nF (ZS 23)))), (Za24, .inl (cI, 427, .inl (nF (ZS 24)))), (Za25, .inl (cI, 6, .inl (nF (ZS 25)))), (Za26, .inl (cI, 5, .inl (nF (ZS 26)))), (Za27, .inl (cI, 6, .inl (nF (ZS 27))))] H := ⟨hP, hD⟩
    rw [nF_st (by omega)] at hP hD
    refine lv_iinc (v := nI (i1 + 1)) (lv' := [(3, .int (nI (i1 + 1))), (0, .ref Zh), (1, .ref Za20), (2, .int (nI v_d))]) hx hb dX7_pay_52 hl (k := 3) rfl (nI_add i1 1) (by decide) rfl (fun ls hl => ?_)
    refine lv_goto (tgt := 2) hx hb dX7_pay_55 (by decide) ?_
    have hl : lv_has ls 4 [(0, .ref Zh), (1, .ref Za20), (2, .int (nI v_d)), (3, .int (nI (i1 + 1)))] := lv_sub hl [1, 2, 3, 0] rfl
    exact ih1 (un (un (z1) ((6 * (ZS 10 v_d)) + i1) ((z1 ((6 * (ZS 10 v_d)) + i1)) - (ZS 25 i1))) ((6 * (ZS 20 (30 + v_d))) + i1) (((un (z1) ((6 * (ZS 10 v_d)) + i1) ((z1 ((6 * (ZS 10 v_d)) + i1)) - (ZS 25 i1))) ((6 * (ZS 20 (30 + v_d))) + i1)) + (ZS 25 i1))) (by rw [hI1, Nat.mul_comm 6 (ZS 10 v_d), Nat.mul_comm 6 (ZS 20 (30 + v_d))]; rfl) _ _ _ hP hD hS hl
set_option maxHeartbeats 4000000 in
set_option maxRecDepth 100000 in
theorem z_payT (l : Launch) (D : va_G) (cI cB cZ cN : ClassId) (Zh : Nat) (Za1 : Nat) (Za3 : Nat) (Za4 : Nat) (Za5 : Nat) (Za6 : Nat) (Za7 : Nat) (Za8 : Nat) (Za9 : Nat) (Za10 : Nat) (Za11 : Nat) (Za12 : Nat) (Za13 : Nat) (Za20 : Nat) (Za21 : Nat) (Za22 : Nat) (Za23 : Nat) (Za24 : Nat) (Za25 : Nat) (Za26 : Nat) (Za27 : Nat) (Zt : Int64) (ZS : Nat → Nat → Nat) (v_d : Nat) (hZ : ZOk ZS) (hd : v_d < 5) (hu : ∀ c, c < 6 → ZS 25 c ≤ ZS 22 (ZS 10 v_d * 6 + c)) (h9 : ∀ c, c < 6 → ZS 22 (ZS 22 (30 + v_d) * 6 + c) + ZS 25 c ≤ 99) : Cv (S := (Nat → Nat → Nat)) l D cI cB cZ cN yX7_pay wsX7_pay ({ frames := 0, cells := 0, slots := 0, locals := 0 } : Room) [.ref Zh, .ref Za22, .int (nI v_d)] [(Zh, .inr (7, [.long Zt, .ref Za1, .int (nI (ZS 2 0)), .ref Za3, .ref Za4, .ref Za5, .ref Za6, .ref Za7, .ref Za8, .ref Za9, .ref Za10, .ref Za11, .ref Za12, .ref Za13, .int (nI (ZS 14 0)), .int (nI (ZS 15 0)), .int (nI (ZS 16 0)), .int (nI (ZS 17 0)), .int (nI (ZS 18 0)), .int (nI (ZS 19 0) - nI 9), .ref Za20, .ref Za21, .ref Za22, .ref Za23, .ref Za24, .ref Za25, .ref Za26, .ref Za27, .int (nI (ZS 28 0))])), (Za1, .inl (cB, 180, .inl (bF (ZS 1)))), (Za3, .inl (cI, 2, .inl (nF (ZS 3)))), (Za4, .inl (cI, 12, .inl (nF (ZS 4)))), (Za5, .inl (cI, 12, .inl (nF (ZS 5)))), (Za6, .inl (cI, 2, .inl (nF (ZS 6)))), (Za7, .inl (cI, 10, .inl (nF (ZS 7)))), (Za8, .inl (cI, 30, .inl (nF (ZS 8)))), (Za9, .inl (cI, 2, .inl (nF (ZS 9)))), (Za10, .inl (cI, 10, .inl (nF (ZS 10)))), (Za11, .inl (cI, 5, .inl (nF (ZS 11)))), (Za12, .inl (cI, 10, .inl (nF (ZS 12)))), (Za13, .inl (cI, 2, .inl (nF (ZS 13)))), (Za20, .inl (cI, 1191, .inl (nF (ZS 20)))), (Za21, .inl (cZ, 2, .inl (nF (ZS 21)))), (Za22, .inl (cI, 36, .inl (nF (ZS 22)))), (Za23, .inl (cI, 6, .inl (nF (ZS 23)))), (Za24, .inl (cI, 427, .inl (nF (ZS 24)))), (Za25, .inl (cI, 6, .inl (nF (ZS 25)))), (Za26, .inl (cI, 5, .inl (nF (ZS 26)))), (Za27, .inl (cI, 6, .inl (nF (ZS 27))))] (fun (u : (Nat → Nat → Nat)) => u = ua ZS 22 (pyN (ZS 22) (ZS 25) (ZS 10 v_d) (ZS 22 (30 + v_d)) v_d)) (fun u => [(Zh, .inr (7, [.long Zt, .ref Za1, .int (nI (u 2 0)), .ref Za3, .ref Za4, .ref Za5, .ref Za6, .ref Za7, .ref Za8, .ref Za9, .ref Za10, .ref Za11, .ref Za12, .ref Za13, .int (nI (u 14 0)), .int (nI (u 15 0)), .int (nI (u 16 0)), .int (nI (u 17 0)), .int (nI (u 18 0)), .int (nI (u 19 0) - nI 9), .ref Za20, .ref Za21, .ref Za22, .ref Za23, .ref Za24, .ref Za25, .ref Za26, .ref Za27, .int (nI (u 28 0))])), (Za1, .inl (cB, 180, .inl (bF (u 1)))), (Za3, .inl (cI, 2, .inl (nF (u 3)))), (Za4, .inl (cI, 12, .inl (nF (u 4)))), (Za5, .inl (cI, 12, .inl (nF (u 5)))), (Za6, .inl (cI, 2, .inl (nF (u 6)))), (Za7, .inl (cI, 10, .inl (nF (u 7)))), (Za8, .inl (cI, 30, .inl (nF (u 8)))), (Za9, .inl (cI, 2, .inl (nF (u 9)))), (Za10, .inl (cI, 10, .inl (nF (u 10)))), (Za11, .inl (cI, 5, .inl (nF (u 11)))), (Za12, .inl (cI, 10, .inl (nF (u 12)))), (Za13, .inl (cI, 2, .inl (nF (u 13)))), (Za20, .inl (cI, 1191, .inl (nF (u 20)))), (Za21, .inl (cZ, 2, .inl (nF (u 21)))), (Za22, .inl (cI, 36, .inl (nF (u 22)))), (Za23, .inl (cI, 6, .inl (nF (u 23)))), (Za24, .inl (cI, 427, .inl (nF (u 24)))), (Za25, .inl (cI, 6, .inl (nF (u 25)))), (Za26, .inl (cI, 5, .inl (nF (u 26)))), (Za27, .inl (cI, 6, .inl (nF (u 27))))]) := by
  refine bx_of (D := D) (cI := cI) (cB := cB) (cZ := cZ) (cN := cN) (y := yX7_pay) (wd := wsX7_pay) (rm := ({ frames := 0, cells := 0, slots := 0, locals := 0 } : Room)) (av := [.ref Zh, .ref Za22, .int (nI v_d)]) (wc := [(Zh, .inr (7, [.long Zt, .ref Za1, .int (nI (ZS 2 0)), .ref Za3, .ref Za4, .ref Za5, .ref Za6, .ref Za7, .ref Za8, .ref Za9, .ref Za10, .ref Za11, .ref Za12, .ref Za13, .int (nI (ZS 14 0)), .int (nI (ZS 15 0)), .int (nI (ZS 16 0)), .int (nI (ZS 17 0)), .int (nI (ZS 18 0)), .int (nI (ZS 19 0) - nI 9), .ref Za20, .ref Za21, .ref Za22, .ref Za23, .ref Za24, .ref Za25, .ref Za26, .ref Za27, .int (nI (ZS 28 0))])), (Za1, .inl (cB, 180, .inl (bF (ZS 1)))), (Za3, .inl (cI, 2, .inl (nF (ZS 3)))), (Za4, .inl (cI, 12, .inl (nF (ZS 4)))), (Za5, .inl (cI, 12, .inl (nF (ZS 5)))), (Za6, .inl (cI, 2, .inl (nF (ZS 6)))), (Za7, .inl (cI, 10, .inl (nF (ZS 7)))), (Za8, .inl (cI, 30, .inl (nF (ZS 8)))), (Za9, .inl (cI, 2, .inl (nF (ZS 9)))), (Za10, .inl (cI, 10, .inl (nF (ZS 10)))), (Za11, .inl (cI, 5, .inl (nF (ZS 11)))), (Za12, .inl (cI, 10, .inl (nF (ZS 12)))), (Za13, .inl (cI, 2, .inl (nF (ZS 13)))), (Za20, .inl (cI, 1191, .inl (nF (ZS 20)))), (Za21, .inl (cZ, 2, .inl (nF (ZS 21)))), (Za22, .inl (cI, 36, .inl (nF (ZS 22)))), (Za23, .inl (cI, 6, .inl (nF (ZS 23)))), (Za24, .inl (cI, 427, .inl (nF (ZS 24)))), (Za25, .inl (cI, 6, .inl (nF (ZS 25)))), (Za26, .inl (cI, 5, .inl (nF (ZS 26)))), (Za27, .inl (cI, 6, .inl (nF (ZS 27))))]) (cc := cX7_pay) (maxL := 4) (ret := none) (Qc := fun _ A => va_Qv (S := (Nat → Nat → Nat)) (fun (u : (Nat → Nat → Nat)) => u = ua ZS 22 (pyN (ZS 22) (ZS 25) (ZS 10 v_d) (ZS 22 (30 + v_d)) v_d)) (Aft D (fun (u : (Nat → Nat → Nat)) => [(Zh, .inr (7, [.long Zt, .ref Za1, .int (nI (u 2 0)), .ref Za3, .ref Za4, .ref Za5, .ref Za6, .ref Za7, .ref Za8, .ref Za9, .ref Za10, .ref Za11, .ref Za12, .ref Za13, .int (nI (u 14 0)), .int (nI (u 15 0)), .int (nI (u 16 0)), .int (nI (u 17 0)), .int (nI (u 18 0)), .int (nI (u 19 0) - nI 9), .ref Za20, .ref Za21, .ref Za22, .ref Za23, .ref Za24, .ref Za25, .ref Za26, .ref Za27, .int (nI (u 28 0))])), (Za1, .inl (cB, 180, .inl (bF (u 1)))), (Za3, .inl (cI, 2, .inl (nF (u 3)))), (Za4, .inl (cI, 12, .inl (nF (u 4)))), (Za5, .inl (cI, 12, .inl (nF (u 5)))), (Za6, .inl (cI, 2, .inl (nF (u 6)))), (Za7, .inl (cI, 10, .inl (nF (u 7)))), (Za8, .inl (cI, 30, .inl (nF (u 8)))), (Za9, .inl (cI, 2, .inl (nF (u 9)))), (Za10, .inl (cI, 10, .inl (nF (u 10)))), (Za11, .inl (cI, 5, .inl (nF (u 11)))), (Za12, .inl (cI, 10, .inl (nF (u 12)))), (Za13, .inl (cI, 2, .inl (nF (u 13)))), (Za20, .inl (cI, 1191, .inl (nF (u 20)))), (Za21, .inl (cZ, 2, .inl (nF (u 21)))), (Za22, .inl (cI, 36, .inl (nF (u 22)))), (Za23, .inl (cI, 6, .inl (nF (u 23)))), (Za24, .inl (cI, 427, .inl (nF (u 24)))), (Za25, .inl (cI, 6, .inl (nF (u 25)))), (Za26, .inl (cI, 5, .inl (nF (u 26)))), (Za27, .inl (cI, 6, .inl (nF (u 27))))]) A) A) (by decide) rfl (Nat.le_of_ble_eq_true rfl) ?_
  intro p e s m below meth c A H locs ⟨hx, hb, hr, hml, hown, hts, hlk, hnm⟩ hK hP hD hS hA ls hl
  have hl : lv_has ls 4 [(0, .ref Zh), (1, .ref Za22), (2, .int (nI v_d))] := hl
  have hown : s.vm.findClass RX7 = some m.cls := hown
  have bdb : ZS 10 v_d < 5 := Nat.lt_succ_of_le (hZ 10 v_d)
  have bcr : ZS 22 (30 + v_d) < 5 := Nat.lt_succ_of_le (Nat.le_trans (hZ 22 (30 + v_d)) (Nat.le_of_eq (cb_c hd)))
  refine lv_iconst (v := nI 0) hx hb dX7_pay_0 (by decide) ?_
  refine lv_istore_n (lv' := [(3, .int (nI 0)), (0, .ref Zh), (1, .ref Za22), (2, .int (nI v_d))]) hx hb dX7_pay_1 rfl hl (by decide) rfl (fun ls hl => ?_)
  refine loopS (σ := Nat → Nat) (D := D) (A := A) (fun i1 z1 => z1 = stlN (ZS 22) (ZS 25) (ZS 10 v_d) (ZS 22 (30 + v_d)) i1) (fun i1 z1 => [(Zh, .inr (7, [.long Zt, .ref Za1, .int (nI (ZS 2 0)), .ref Za3, .ref Za4, .ref Za5, .ref Za6, .ref Za7, .ref Za8, .ref Za9, .ref Za10, .ref Za11, .ref Za12, .ref Za13, .int (nI (ZS 14 0)), .int (nI (ZS 15 0)), .int (nI (ZS 16 0)), .int (nI (ZS 17 0)), .int (nI (ZS 18 0)), .int (nI (ZS 19 0) - nI 9), .ref Za20, .ref Za21, .ref Za22, .ref Za23, .ref Za24, .ref Za25, .ref Za26, .ref Za27, .int (nI (ZS 28 0))])), (Za1, .inl (cB, 180, .inl (bF (ZS 1)))), (Za3, .inl (cI, 2, .inl (nF (ZS 3)))), (Za4, .inl (cI, 12, .inl (nF (ZS 4)))), (Za5, .inl (cI, 12, .inl (nF (ZS 5)))), (Za6, .inl (cI, 2, .inl (nF (ZS 6)))), (Za7, .inl (cI, 10, .inl (nF (ZS 7)))), (Za8, .inl (cI, 30, .inl (nF (ZS 8)))), (Za9, .inl (cI, 2, .inl (nF (ZS 9)))), (Za10, .inl (cI, 10, .inl (nF (ZS 10)))), (Za11, .inl (cI, 5, .inl (nF (ZS 11)))), (Za12, .inl (cI, 10, .inl (nF (ZS 12)))), (Za13, .inl (cI, 2, .inl (nF (ZS 13)))), (Za20, .inl (cI, 1191, .inl (nF (ZS 20)))), (Za21, .inl (cZ, 2, .inl (nF (ZS 21)))), (Za22, .inl (cI, 36, .inl (nF (z1)))), (Za23, .inl (cI, 6, .inl (nF (ZS 23)))), (Za24, .inl (cI, 427, .inl (nF (ZS 24)))), (Za25, .inl (cI, 6, .inl (nF (ZS 25)))), (Za26, .inl (cI, 5, .inl (nF (ZS 26)))), (Za27, .inl (cI, 6, .inl (nF (ZS 27))))]) (fun i1 z1 => [(0, .ref Zh), (1, .ref Za22), (2, .int (nI v_d)), (3, .int (nI i1))]) 2 4 6 0 (Nat.zero_le _) ?_ ?_ (ZS 22) rfl _ _ ls (by first | exact hP) (by first | exact hD) hS (lv_sub hl [1, 2, 3, 0] rfl)
  · intro z1 hI1 H locs ls hP hD hS hl
    have hl : lv_has ls 4 [(0, .ref Zh), (1, .ref Za22), (2, .int (nI v_d)), (3, .int (nI 6))] := hl
    obtain ⟨hP, hD⟩ : wPD D A [(Zh, .inr (7, [.long Zt, .ref Za1, .int (nI (ZS 2 0)), .ref Za3, .ref Za4, .ref Za5, .ref Za6, .ref Za7, .ref Za8, .ref Za9, .ref Za10, .ref Za11, .ref Za12, .ref Za13, .int (nI (ZS 14 0)), .int (nI (ZS 15 0)), .int (nI (ZS 16 0)), .int (nI (ZS 17 0)), .int (nI (ZS 18 0)), .int (nI (ZS 19 0) - nI 9), .ref Za20, .ref Za21, .ref Za22, .ref Za23, .ref Za24, .ref Za25, .ref Za26, .ref Za27, .int (nI (ZS 28 0))])), (Za1, .inl (cB, 180, .inl (bF (ZS 1)))), (Za3, .inl (cI, 2, .inl (nF (ZS 3)))), (Za4, .inl (cI, 12, .inl (nF (ZS 4)))), (Za5, .inl (cI, 12, .inl (nF (ZS 5)))), (Za6, .inl (cI, 2, .inl (nF (ZS 6)))), (Za7, .inl (cI, 10, .inl (nF (ZS 7)))), (Za8, .inl (cI, 30, .inl (nF (ZS 8)))), (Za9, .inl (cI, 2, .inl (nF (ZS 9)))), (Za10, .inl (cI, 10, .inl (nF (ZS 10)))), (Za11, .inl (cI, 5, .inl (nF (ZS 11)))), (Za12, .inl (cI, 10, .inl (nF (ZS 12)))), (Za13, .inl (cI, 2, .inl (nF (ZS 13)))), (Za20, .inl (cI, 1191, .inl (nF (ZS 20)))), (Za21, .inl (cZ, 2, .inl (nF (ZS 21)))), (Za22, .inl (cI, 36, .inl (nF (z1)))), (Za23, .inl (cI, 6, .inl (nF (ZS 23)))), (Za24, .inl (cI, 427, .inl (nF (ZS 24)))), (Za25, .inl (cI, 6, .inl (nF (ZS 25)))), (Za26, .inl (cI, 5, .inl (nF (ZS 26)))), (Za27, .inl (cI, 6, .inl (nF (ZS 27))))] H := ⟨hP, hD⟩
    refine lv_iload_n hx hb dX7_pay_2 rfl (lv_at hl 3 rfl) ?_
    refine lv_bipush (v := nI 6) hx hb dX7_pay_3 (by decide) ?_
    refine nb_icmp_ge (tgt := 58) hx hb dX7_pay_5 (by decide) (by omega) (by omega) (fun hq1 => ?_) (fun hq1 => absurd hq1 (by omega))
    refine lv_aload_n hx hb dX7_pay_58 rfl (lv_at hl 1 rfl) ?_
    refine lv_bipush (v := nI 35) hx hb dX7_pay_59 (by decide) ?_
    refine lv_dup2_11 hx hb dX7_pay_61 rfl rfl ?_
    refine va_iald hx hb hK.1 hP 15 0 rfl rfl (vp_in_nI (n := 35) (N := 36) (by omega) (by decide)) dX7_pay_62 ?_
    refine set_i (y := nI (z1 35)) (nF_ld (by omega)) ?_
    have b2 : z1 35 ≤ 31 := (zok_set (k := 22) hZ (show ∀ j, z1 j ≤ zb 22 j by rw [hI1]; exact stlN_b (hZ 22) (fun j => cb_h30) (fun j => Nat.le_trans (hZ 22 j) (cb_99 j)) bdb bcr hu h9 (by omega))) 22 35
    refine lv_iconst (v := nI 1) hx hb dX7_pay_63 (by decide) ?_
    refine lv_iload_n hx hb dX7_pay_64 rfl (lv_at hl 2 rfl) ?_
    refine lv_ishl hx hb dX7_pay_65 ?_
    refine set_i (y := nI (2 ^ v_d)) (shl_1 (by omega)) ?_
    refine lv_iconst (v := -1) hx hb dX7_pay_66 (by decide) ?_
    refine lv_ixor hx hb dX7_pay_67 ?_
    refine lv_iand hx hb dX7_pay_68 ?_
    refine set_i (y := nI (clrN (z1 35) v_d)) (clr_ok (by omega) (by omega)) ?_
    refine va_iast hx hb hK.1 hP hD hS 15 0 rfl rfl (vp_in_nI (n := 35) (N := 36) (by omega) (by decide)) dX7_pay_69 (fun H locs hP hD hS => ?_)
    obtain ⟨hP, hD⟩ : wPD D A [(Zh, .inr (7, [.long Zt, .ref Za1, .int (nI (ZS 2 0)), .ref Za3, .ref Za4, .ref Za5, .ref Za6, .ref Za7, .ref Za8, .ref Za9, .ref Za10, .ref Za11, .ref Za12, .ref Za13, .int (nI (ZS 14 0)), .int (nI (ZS 15 0)), .int (nI (ZS 16 0)), .int (nI (ZS 17 0)), .int (nI (ZS 18 0)), .int (nI (ZS 19 0) - nI 9), .ref Za20, .ref Za21, .ref Za22, .ref Za23, .ref Za24, .ref Za25, .ref Za26, .ref Za27, .int (nI (ZS 28 0))])), (Za1, .inl (cB, 180, .inl (bF (ZS 1)))), (Za3, .inl (cI, 2, .inl (nF (ZS 3)))), (Za4, .inl (cI, 12, .inl (nF (ZS 4)))), (Za5, .inl (cI, 12, .inl (nF (ZS 5)))), (Za6, .inl (cI, 2, .inl (nF (ZS 6)))), (Za7, .inl (cI, 10, .inl (nF (ZS 7)))), (Za8, .inl (cI, 30, .inl (nF (ZS 8)))), (Za9, .inl (cI, 2, .inl (nF (ZS 9)))), (Za10, .inl (cI, 10, .inl (nF (ZS 10)))), (Za11, .inl (cI, 5, .inl (nF (ZS 11)))), (Za12, .inl (cI, 10, .inl (nF (ZS 12)))), (Za13, .inl (cI, 2, .inl (nF (ZS 13)))), (Za20, .inl (cI, 1191, .inl (nF (ZS 20)))), (Za21, .inl (cZ, 2, .inl (nF (ZS 21)))), (Za22, .inl (cI, 36, .inl (upd (nF (z1)) (nI 35).toNatClampNeg (nI (clrN (z1 35) v_d))))), (Za23, .inl (cI, 6, .inl (nF (ZS 23)))), (Za24, .inl (cI, 427, .inl (nF (ZS 24)))), (Za25, .inl (cI, 6, .inl (nF (ZS 25)))), (Za26, .inl (cI, 5, .inl (nF (ZS 26)))), (Za27, .inl (cI, 6, .inl (nF (ZS 27))))] H := ⟨hP, hD⟩
    rw [nF_st (by omega)] at hP hD
    exact en_v hx hb hr hlk hP hD hS (ua ZS 22 (un (z1) 35 (clrN (z1 35) v_d))) [0, 1, 2, 3, 4, 5, 6, 7, 8, 9, 10, 11, 12, 13, 14, 15, 16, 17, 18, 19, 20] (by decide) rfl (Nat.le_of_ble_eq_true rfl) (Nat.le_of_ble_eq_true rfl) dX7_pay_70 (by rw [hI1]; rfl)
  · intro i1 hi01 hi1 z1 hI1 ih1 H locs ls hP hD hS hl
    have hl : lv_has ls 4 [(0, .ref Zh), (1, .ref Za22), (2, .int (nI v_d)), (3, .int (nI i1))] := hl
    obtain ⟨hP, hD⟩ : wPD D A [(Zh, .inr (7, [.long Zt, .ref Za1, .int (nI (ZS 2 0)), .ref Za3, .ref Za4, .ref Za5, .ref Za6, .ref Za7, .ref Za8, .ref Za9, .ref Za10, .ref Za11, .ref Za12, .ref Za13, .int (nI (ZS 14 0)), .int (nI (ZS 15 0)), .int (nI (ZS 16 0)), .int (nI (ZS 17 0)), .int (nI (ZS 18 0)), .int (nI (ZS 19 0) - nI 9), .ref Za20, .ref Za21, .ref Za22, .ref Za23, .ref Za24, .ref Za25, .ref Za26, .ref Za27, .int (nI (ZS 28 0))])), (Za1, .inl (cB, 180, .inl (bF (ZS 1)))), (Za3, .inl (cI, 2, .inl (nF (ZS 3)))), (Za4, .inl (cI, 12, .inl (nF (ZS 4)))), (Za5, .inl (cI, 12, .inl (nF (ZS 5)))), (Za6, .inl (cI, 2, .inl (nF (ZS 6)))), (Za7, .inl (cI, 10, .inl (nF (ZS 7)))), (Za8, .inl (cI, 30, .inl (nF (ZS 8)))), (Za9, .inl (cI, 2, .inl (nF (ZS 9)))), (Za10, .inl (cI, 10, .inl (nF (ZS 10)))), (Za11, .inl (cI, 5, .inl (nF (ZS 11)))), (Za12, .inl (cI, 10, .inl (nF (ZS 12)))), (Za13, .inl (cI, 2, .inl (nF (ZS 13)))), (Za20, .inl (cI, 1191, .inl (nF (ZS 20)))), (Za21, .inl (cZ, 2, .inl (nF (ZS 21)))), (Za22, .inl (cI, 36, .inl (nF (z1)))), (Za23, .inl (cI, 6, .inl (nF (ZS 23)))), (Za24, .inl (cI, 427, .inl (nF (ZS 24)))), (Za25, .inl (cI, 6, .inl (nF (ZS 25)))), (Za26, .inl (cI, 5, .inl (nF (ZS 26)))), (Za27, .inl (cI, 6, .inl (nF (ZS 27))))] H := ⟨hP, hD⟩
    refine lv_iload_n hx hb dX7_pay_2 rfl (lv_at hl 3 rfl) ?_
    refine lv_bipush (v := nI 6) hx hb dX7_pay_3 (by decide) ?_
    refine nb_icmp_ge (tgt := 58) hx hb dX7_pay_5 (by decide) (by omega) (by omega) (fun hq3 => absurd hq3 (by omega)) (fun hq3 => ?_)
    have e1 : z1 ((6 * (ZS 10 v_d)) + i1) = ZS 22 (ZS 10 v_d * 6 + i1) := by rw [hI1, Nat.mul_comm 6 (ZS 10 v_d)]; exact stl_col (Nat.le_refl _) (by omega)
    have e2 := hu i1 (by omega)
    refine lv_aload_n hx hb dX7_pay_8 rfl (lv_at hl 1 rfl) ?_
    refine lv_bipush (v := nI 6) hx hb dX7_pay_9 (by decide) ?_
    refine lv_aload_n hx hb dX7_pay_11 rfl (lv_at hl 0 rfl) ?_
    refine va_get (D := D) (ci := 7) (v := .ref Za10) (C := RX7) (T := TX7) (N := 29) hx hb hts in_X7_pay_7 hown hK.1 hP 0 rfl rfl 10 (by decide) (hts (.fieldLink RX7 35 "ChildCoinsModel" "debtor" "[I") (List.mem_of_getElem? (i := 1) rfl)) (fun _ h9 => h9) rfl dX7_pay_12 ?_
    refine lv_iload_n hx hb dX7_pay_15 rfl (lv_at hl 2 rfl) ?_
    refine va_iald hx hb hK.1 hP 9 0 rfl rfl (vp_in_nI (n := v_d) (N := 10) (by omega) (by decide)) dX7_pay_16 ?_
    refine set_i (y := nI (ZS 10 v_d)) (nF_ld (by omega)) ?_
    have b4 : ZS 10 v_d ≤ 4 := (zok_set (k := 22) hZ (show ∀ j, z1 j ≤ zb 22 j by rw [hI1]; exact stlN_b (hZ 22) (fun j => cb_h30) (fun j => Nat.le_trans (hZ 22 j) (cb_99 j)) bdb bcr hu h9 (by omega))) 10 v_d
    refine lv_imul hx hb dX7_pay_17 ?_
    refine set_i (y := nI (6 * (ZS 10 v_d))) (pk_mul 6 (ZS 10 v_d)) ?_
    refine lv_iload_n hx hb dX7_pay_18 rfl (lv_at hl 3 rfl) ?_
    refine lv_iadd hx hb dX7_pay_19 ?_
    refine set_i (y := nI ((6 * (ZS 10 v_d)) + i1)) (nI_add (6 * (ZS 10 v_d)) i1) ?_
    refine lv_dup2_11 hx hb dX7_pay_20 rfl rfl ?_
    refine va_iald hx hb hK.1 hP 15 0 rfl rfl (vp_in_nI (n := (6 * (ZS 10 v_d)) + i1) (N := 36) (by omega) (by decide)) dX7_pay_21 ?_
    refine set_i (y := nI (z1 ((6 * (ZS 10 v_d)) + i1))) (nF_ld (by omega)) ?_
    have b5 : z1 ((6 * (ZS 10 v_d)) + i1) ≤ 99 := Nat.le_trans ((zok_set (k := 22) hZ (show ∀ j, z1 j ≤ zb 22 j by rw [hI1]; exact stlN_b (hZ 22) (fun j => cb_h30) (fun j => Nat.le_trans (hZ 22 j) (cb_99 j)) bdb bcr hu h9 (by omega))) 22 ((6 * (ZS 10 v_d)) + i1)) (cb_99 ((6 * (ZS 10 v_d)) + i1))
    refine lv_aload_n hx hb dX7_pay_22 rfl (lv_at hl 0 rfl) ?_
    refine va_get (D := D) (ci := 7) (v := .ref Za25) (C := RX7) (T := TX7) (N := 29) hx hb hts in_X7_pay_7 hown hK.1 hP 0 rfl rfl 25 (by decide) (hts (.fieldLink RX7 63 "ChildCoinsModel" "paid" "[I") (List.mem_of_getElem? (i := 2) rfl)) (fun _ h9 => h9) rfl dX7_pay_23 ?_
    refine lv_iload_n hx hb dX7_pay_26 rfl (lv_at hl 3 rfl) ?_
    refine va_iald hx hb hK.1 hP 18 0 rfl rfl (vp_in_nI (n := i1) (N := 6) (by omega) (by decide)) dX7_pay_27 ?_
    refine set_i (y := nI (ZS 25 i1)) (nF_ld (by omega)) ?_
    have b6 : ZS 25 i1 ≤ 495 := (zok_set (k := 22) hZ (show ∀ j, z1 j ≤ zb 22 j by rw [hI1]; exact stlN_b (hZ 22) (fun j => cb_h30) (fun j => Nat.le_trans (hZ 22 j) (cb_99 j)) bdb bcr hu h9 (by omega))) 25 i1
    refine lv_isub hx hb dX7_pay_28 ?_
    refine set_i (y := nI ((z1 ((6 * (ZS 10 v_d)) + i1)) - (ZS 25 i1))) (pk_sub (by omega)) ?_
    refine va_iast hx hb hK.1 hP hD hS 15 0 rfl rfl (vp_in_nI (n := (6 * (ZS 10 v_d)) + i1) (N := 36) (by omega) (by decide)) dX7_pay_29 (fun H locs hP hD hS => ?_)
    obtain ⟨hP, hD⟩ : wPD D A [(Zh, .inr (7, [.long Zt, .ref Za1, .int (nI (ZS 2 0)), .ref Za3, .ref Za4, .ref Za5, .ref Za6, .ref Za7, .ref Za8, .ref Za9, .ref Za10, .ref Za11, .ref Za12, .ref Za13, .int (nI (ZS 14 0)), .int (nI (ZS 15 0)), .int (nI (ZS 16 0)), .int (nI (ZS 17 0)), .int (nI (ZS 18 0)), .int (nI (ZS 19 0) - nI 9), .ref Za20, .ref Za21, .ref Za22, .ref Za23, .ref Za24, .ref Za25, .ref Za26, .ref Za27, .int (nI (ZS 28 0))])), (Za1, .inl (cB, 180, .inl (bF (ZS 1)))), (Za3, .inl (cI, 2, .inl (nF (ZS 3)))), (Za4, .inl (cI, 12, .inl (nF (ZS 4)))), (Za5, .inl (cI, 12, .inl (nF (ZS 5)))), (Za6, .inl (cI, 2, .inl (nF (ZS 6)))), (Za7, .inl (cI, 10, .inl (nF (ZS 7)))), (Za8, .inl (cI, 30, .inl (nF (ZS 8)))), (Za9, .inl (cI, 2, .inl (nF (ZS 9)))), (Za10, .inl (cI, 10, .inl (nF (ZS 10)))), (Za11, .inl (cI, 5, .inl (nF (ZS 11)))), (Za12, .inl (cI, 10, .inl (nF (ZS 12)))), (Za13, .inl (cI, 2, .inl (nF (ZS 13)))), (Za20, .inl (cI, 1191, .inl (nF (ZS 20)))), (Za21, .inl (cZ, 2, .inl (nF (ZS 21)))), (Za22, .inl (cI, 36, .inl (upd (nF (z1)) (nI ((6 * (ZS 10 v_d)) + i1)).toNatClampNeg (nI ((z1 ((6 * (ZS 10 v_d)) + i1)) - (ZS 25 i1)))))), (Za23, .inl (cI, 6, .inl (nF (ZS 23)))), (Za24, .inl (cI, 427, .inl (nF (ZS 24)))), (Za25, .inl (cI, 6, .inl (nF (ZS 25)))), (Za26, .inl (cI, 5, .inl (nF (ZS 26)))), (Za27, .inl (cI, 6, .inl (nF (ZS 27))))] H := ⟨hP, hD⟩
    rw [nF_st (by omega)] at hP hD
    refine lv_aload_n hx hb dX7_pay_30 rfl (lv_at hl 1 rfl) ?_
    refine lv_bipush (v := nI 6) hx hb dX7_pay_31 (by decide) ?_
    refine lv_aload_n hx hb dX7_pay_33 rfl (lv_at hl 1 rfl) ?_
    refine lv_bipush (v := nI 30) hx hb dX7_pay_34 (by decide) ?_
    refine lv_iload_n hx hb dX7_pay_36 rfl (lv_at hl 2 rfl) ?_
    refine lv_iadd hx hb dX7_pay_37 ?_
    refine set_i (y := nI (30 + v_d)) (nI_add 30 v_d) ?_
    refine va_iald hx hb hK.1 hP 15 0 rfl rfl (vp_in_nI (n := 30 + v_d) (N := 36) (by omega) (by decide)) dX7_pay_38 ?_
    refine set_i (y := nI ((un (z1) ((6 * (ZS 10 v_d)) + i1) ((z1 ((6 * (ZS 10 v_d)) + i1)) - (ZS 25 i1))) (30 + v_d))) (nF_ld (by omega)) ?_
    refine set_i (y := nI (ZS 22 (30 + v_d))) (congrArg nI (by rw [un_n (by omega), hI1]; exact stl_hi bdb bcr (by omega) (by omega))) ?_
    refine lv_imul hx hb dX7_pay_39 ?_
    refine set_i (y := nI (6 * (ZS 22 (30 + v_d)))) (pk_mul 6 (ZS 22 (30 + v_d))) ?_
    refine lv_iload_n hx hb dX7_pay_40 rfl (lv_at hl 3 rfl) ?_
    refine lv_iadd hx hb dX7_pay_41 ?_
    refine set_i (y := nI ((6 * (ZS 22 (30 + v_d))) + i1)) (nI_add (6 * (ZS 22 (30 + v_d))) i1) ?_
    refine lv_dup2_11 hx hb dX7_pay_42 rfl rfl ?_
    refine va_iald hx hb hK.1 hP 15 0 rfl rfl (vp_in_nI (n := (6 * (ZS 22 (30 + v_d))) + i1) (N := 36) (by omega) (by decide)) dX7_pay_43 ?_
    refine set_i (y := nI ((un (z1) ((6 * (ZS 10 v_d)) + i1) ((z1 ((6 * (ZS 10 v_d)) + i1)) - (ZS 25 i1))) ((6 * (ZS 22 (30 + v_d))) + i1))) (nF_ld (by omega)) ?_
    refine lv_aload_n hx hb dX7_pay_44 rfl (lv_at hl 0 rfl) ?_
    refine va_get (D := D) (ci := 7) (v := .ref Za25) (C := RX7) (T := TX7) (N := 29) hx hb hts in_X7_pay_7 hown hK.1 hP 0 rfl rfl 25 (by decide) (hts (.fieldLink RX7 63 "ChildCoinsModel" "paid" "[I") (List.mem_of_getElem? (i := 2) rfl)) (fun _ h9 => h9) rfl dX7_pay_45 ?_
    refine lv_iload_n hx hb dX7_pay_48 rfl (lv_at hl 3 rfl) ?_
    refine va_iald hx hb hK.1 hP 18 0 rfl rfl (vp_in_nI (n := i1) (N := 6) (by omega) (by decide)) dX7_pay_49 ?_
    refine set_i (y := nI (ZS 25 i1)) (nF_ld (by omega)) ?_
    have b7 : ZS 25 i1 ≤ 495 := (zok_set (k := 22) hZ (show ∀ j, z1 j ≤ zb 22 j by rw [hI1]; exact stlN_b (hZ 22) (fun j => cb_h30) (fun j => Nat.le_trans (hZ 22 j) (cb_99 j)) bdb bcr hu h9 (by omega))) 25 i1
    refine lv_iadd hx hb dX7_pay_50 ?_
    refine set_i (y := nI (((un (z1) ((6 * (ZS 10 v_d)) + i1) ((z1 ((6 * (ZS 10 v_d)) + i1)) - (ZS 25 i1))) ((6 * (ZS 22 (30 + v_d))) + i1)) + (ZS 25 i1))) (nI_add ((un (z1) ((6 * (ZS 10 v_d)) + i1) ((z1 ((6 * (ZS 10 v_d)) + i1)) - (ZS 25 i1))) ((6 * (ZS 22 (30 + v_d))) + i1)) (ZS 25 i1)) ?_
    refine va_iast hx hb hK.1 hP hD hS 15 0 rfl rfl (vp_in_nI (n := (6 * (ZS 22 (30 + v_d))) + i1) (N := 36) (by omega) (by decide)) dX7_pay_51 (fun H locs hP hD hS => ?_)
    obtain ⟨hP, hD⟩ : wPD D A [(Zh, .inr (7, [.long Zt, .ref Za1, .int (nI (ZS 2 0)), .ref Za3, .ref Za4, .ref Za5, .ref Za6, .ref Za7, .ref Za8, .ref Za9, .ref Za10, .ref Za11, .ref Za12, .ref Za13, .int (nI (ZS 14 0)), .int (nI (ZS 15 0)), .int (nI (ZS 16 0)), .int (nI (ZS 17 0)), .int (nI (ZS 18 0)), .int (nI (ZS 19 0) - nI 9), .ref Za20, .ref Za21, .ref Za22, .ref Za23, .ref Za24, .ref Za25, .ref Za26, .ref Za27, .int (nI (ZS 28 0))])), (Za1, .inl (cB, 180, .inl (bF (ZS 1)))), (Za3, .inl (cI, 2, .inl (nF (ZS 3)))), (Za4, .inl (cI, 12, .inl (nF (ZS 4)))), (Za5, .inl (cI, 12, .inl (nF (ZS 5)))), (Za6, .inl (cI, 2, .inl (nF (ZS 6)))), (Za7, .inl (cI, 10, .inl (nF (ZS 7)))), (Za8, .inl (cI, 30, .inl (nF (ZS 8)))), (Za9, .inl (cI, 2, .inl (nF (ZS 9)))), (Za10, .inl (cI, 10, .inl (nF (ZS 10)))), (Za11, .inl (cI, 5, .inl (nF (ZS 11)))), (Za12, .inl (cI, 10, .inl (nF (ZS 12)))), (Za13, .inl (cI, 2, .inl (nF (ZS 13)))), (Za20, .inl (cI, 1191, .inl (nF (ZS 20)))), (Za21, .inl (cZ, 2, .inl (nF (ZS 21)))), (Za22, .inl (cI, 36, .inl (upd (nF (un (z1) ((6 * (ZS 10 v_d)) + i1) ((z1 ((6 * (ZS 10 v_d)) + i1)) - (ZS 25 i1)))) (nI ((6 * (ZS 22 (30 + v_d))) + i1)).toNatClampNeg (nI (((un (z1) ((6 * (ZS 10 v_d)) + i1) ((z1 ((6 * (ZS 10 v_d)) + i1)) - (ZS 25 i1))) ((6 * (ZS 22 (30 + v_d))) + i1)) + (ZS 25 i1)))))), (Za23, .inl (cI, 6, .inl (nF (ZS 23)))), (Za24, .inl (cI, 427, .inl (nF (ZS 24)))), (Za25, .inl (cI, 6, .inl (nF (ZS 25)))), (Za26, .inl (cI, 5, .inl (nF (ZS 26)))), (Za27, .inl (cI, 6, .inl (nF (ZS 27))))] H := ⟨hP, hD⟩
    rw [nF_st (by omega)] at hP hD
    refine lv_iinc (v := nI (i1 + 1)) (lv' := [(3, .int (nI (i1 + 1))), (0, .ref Zh), (1, .ref Za22), (2, .int (nI v_d))]) hx hb dX7_pay_52 hl (k := 3) rfl (nI_add i1 1) (by decide) rfl (fun ls hl => ?_)
    refine lv_goto (tgt := 2) hx hb dX7_pay_55 (by decide) ?_
    have hl : lv_has ls 4 [(0, .ref Zh), (1, .ref Za22), (2, .int (nI v_d)), (3, .int (nI (i1 + 1)))] := lv_sub hl [1, 2, 3, 0] rfl
    exact ih1 (un (un (z1) ((6 * (ZS 10 v_d)) + i1) ((z1 ((6 * (ZS 10 v_d)) + i1)) - (ZS 25 i1))) ((6 * (ZS 22 (30 + v_d))) + i1) (((un (z1) ((6 * (ZS 10 v_d)) + i1) ((z1 ((6 * (ZS 10 v_d)) + i1)) - (ZS 25 i1))) ((6 * (ZS 22 (30 + v_d))) + i1)) + (ZS 25 i1))) (by rw [hI1, Nat.mul_comm 6 (ZS 10 v_d), Nat.mul_comm 6 (ZS 22 (30 + v_d))]; rfl) _ _ _ hP hD hS hl
set_option maxRecDepth 20000 in
theorem dAX7_canPay : decA cX7_canPay [(0, .aload_n 0, 1), (1, .aload_n 1, 1), (2, .iload_n 2, 1), (3, .invokevirtual 168, 3), (6, .ifCond .eq 14, 3), (9, .aload_n 0, 1), (10, .aload_n 1, 1), (11, .iload_n 2, 1), (12, .invokevirtual 172, 3), (15, .bipush (-9), 2), (17, .if_icmp .ne 5, 3), (20, .iconst 0, 1), (21, .ireturn, 1), (22, .iconst 1, 1), (23, .istore_n 3, 1), (24, .iconst 0, 1), (25, .istore 4, 2), (27, .iload 4, 2), (29, .bipush 6, 2), (31, .if_icmp .ge 46, 3), (34, .iload_n 3, 1), (35, .ifCond .eq 34, 3), (38, .aload_n 1, 1), (39, .bipush 6, 2), (41, .aload_n 1, 1), (42, .bipush 30, 2), (44, .iload_n 2, 1), (45, .iadd, 1), (46, .iaload, 1), (47, .imul, 1), (48, .iload 4, 2), (50, .iadd, 1), (51, .iaload, 1), (52, .aload_n 0, 1), (53, .getfield 63, 3), (56, .iload 4, 2), (58, .iaload, 1), (59, .iadd, 1), (60, .bipush 99, 2), (62, .if_icmp .gt 7, 3), (65, .iconst 1, 1), (66, .goto 4, 3), (69, .iconst 0, 1), (70, .istore_n 3, 1), (71, .iinc 4 1, 3), (74, .goto (-47), 3), (77, .iload_n 3, 1), (78, .ireturn, 1)] = true := by decide +kernel
theorem dX7_canPay_0 : decode cX7_canPay 0 = .ok (.aload_n 0, 1) := decA_get dAX7_canPay 0 rfl
theorem dX7_canPay_1 : decode cX7_canPay 1 = .ok (.aload_n 1, 1) := decA_get dAX7_canPay 1 rfl
theorem dX7_canPay_2 : decode cX7_canPay 2 = .ok (.iload_n 2, 1) := decA_get dAX7_canPay 2 rfl
theorem dX7_canPay_3 : decode cX7_canPay 3 = .ok (.invokevirtual 168, 3) := decA_get dAX7_canPay 3 rfl
set_option maxRecDepth 20000 in
theorem ggX7_canPay_X7_isOpen : GoodIn wsX7_canPay wsX7_isOpen := gd_ids wi_X7_canPay wm_X7_canPay wi_X7_isOpen (by decide +kernel)
set_option maxRecDepth 20000 in
theorem gX7_canPay_X7_isOpen : GoodIn wsX7_canPay (wsV RX7 168 RX7 yX7_isOpen wsX7_isOpen) := goodIn_app (gd_ids wi_X7_canPay wm_X7_canPay (b := [575, 576, 577, 481]) rfl (by decide +kernel)) ggX7_canPay_X7_isOpen
theorem dX7_canPay_6 : decode cX7_canPay 6 = .ok (.ifCond .eq 14, 3) := decA_get dAX7_canPay 4 rfl
theorem dX7_canPay_20 : decode cX7_canPay 20 = .ok (.iconst 0, 1) := decA_get dAX7_canPay 11 rfl
theorem dX7_canPay_21 : decode cX7_canPay 21 = .ok (.ireturn, 1) := decA_get dAX7_canPay 12 rfl
theorem dX7_canPay_9 : decode cX7_canPay 9 = .ok (.aload_n 0, 1) := decA_get dAX7_canPay 5 rfl
theorem dX7_canPay_10 : decode cX7_canPay 10 = .ok (.aload_n 1, 1) := decA_get dAX7_canPay 6 rfl
theorem dX7_canPay_11 : decode cX7_canPay 11 = .ok (.iload_n 2, 1) := decA_get dAX7_canPay 7 rfl
theorem dX7_canPay_12 : decode cX7_canPay 12 = .ok (.invokevirtual 172, 3) := decA_get dAX7_canPay 8 rfl
set_option maxRecDepth 20000 in
theorem ggX7_canPay_X7_paymentOf : GoodIn wsX7_canPay wsX7_paymentOf := gd_ids wi_X7_canPay wm_X7_canPay wi_X7_paymentOf (by decide +kernel)
set_option maxRecDepth 20000 in
theorem gX7_canPay_X7_paymentOf : GoodIn wsX7_canPay (wsV RX7 172 RX7 yX7_paymentOf wsX7_paymentOf) := goodIn_app (gd_ids wi_X7_canPay wm_X7_canPay (b := [578, 579, 580, 481]) rfl (by decide +kernel)) ggX7_canPay_X7_paymentOf
theorem dX7_canPay_15 : decode cX7_canPay 15 = .ok (.bipush (-9), 2) := decA_get dAX7_canPay 9 rfl
theorem dX7_canPay_17 : decode cX7_canPay 17 = .ok (.if_icmp .ne 5, 3) := decA_get dAX7_canPay 10 rfl
theorem dX7_canPay_22 : decode cX7_canPay 22 = .ok (.iconst 1, 1) := decA_get dAX7_canPay 13 rfl
theorem dX7_canPay_23 : decode cX7_canPay 23 = .ok (.istore_n 3, 1) := decA_get dAX7_canPay 14 rfl
theorem dX7_canPay_24 : decode cX7_canPay 24 = .ok (.iconst 0, 1) := decA_get dAX7_canPay 15 rfl
theorem dX7_canPay_25 : decode cX7_canPay 25 = .ok (.istore 4, 2) := decA_get dAX7_canPay 16 rfl
theorem dX7_canPay_27 : decode cX7_canPay 27 = .ok (.iload 4, 2) := decA_get dAX7_canPay 17 rfl
theorem dX7_canPay_29 : decode cX7_canPay 29 = .ok (.bipush 6, 2) := decA_get dAX7_canPay 18 rfl
theorem dX7_canPay_31 : decode cX7_canPay 31 = .ok (.if_icmp .ge 46, 3) := decA_get dAX7_canPay 19 rfl
theorem dX7_canPay_77 : decode cX7_canPay 77 = .ok (.iload_n 3, 1) := decA_get dAX7_canPay 46 rfl
theorem dX7_canPay_78 : decode cX7_canPay 78 = .ok (.ireturn, 1) := decA_get dAX7_canPay 47 rfl
theorem dX7_canPay_34 : decode cX7_canPay 34 = .ok (.iload_n 3, 1) := decA_get dAX7_canPay 20 rfl
theorem dX7_canPay_35 : decode cX7_canPay 35 = .ok (.ifCond .eq 34, 3) := decA_get dAX7_canPay 21 rfl
theorem dX7_canPay_69 : decode cX7_canPay 69 = .ok (.iconst 0, 1) := decA_get dAX7_canPay 42 rfl
theorem dX7_canPay_70 : decode cX7_canPay 70 = .ok (.istore_n 3, 1) := decA_get dAX7_canPay 43 rfl
theorem dX7_canPay_71 : decode cX7_canPay 71 = .ok (.iinc 4 1, 3) := decA_get dAX7_canPay 44 rfl
theorem dX7_canPay_74 : decode cX7_canPay 74 = .ok (.goto (-47), 3) := decA_get dAX7_canPay 45 rfl
theorem dX7_canPay_38 : decode cX7_canPay 38 = .ok (.aload_n 1, 1) := decA_get dAX7_canPay 22 rfl
theorem dX7_canPay_39 : decode cX7_canPay 39 = .ok (.bipush 6, 2) := decA_get dAX7_canPay 23 rfl
theorem dX7_canPay_41 : decode cX7_canPay 41 = .ok (.aload_n 1, 1) := decA_get dAX7_canPay 24 rfl
theorem dX7_canPay_42 : decode cX7_canPay 42 = .ok (.bipush 30, 2) := decA_get dAX7_canPay 25 rfl
theorem dX7_canPay_44 : decode cX7_canPay 44 = .ok (.iload_n 2, 1) := decA_get dAX7_canPay 26 rfl
theorem dX7_canPay_45 : decode cX7_canPay 45 = .ok (.iadd, 1) := decA_get dAX7_canPay 27 rfl
theorem dX7_canPay_46 : decode cX7_canPay 46 = .ok (.iaload, 1) := decA_get dAX7_canPay 28 rfl
theorem dX7_canPay_47 : decode cX7_canPay 47 = .ok (.imul, 1) := decA_get dAX7_canPay 29 rfl
theorem dX7_canPay_48 : decode cX7_canPay 48 = .ok (.iload 4, 2) := decA_get dAX7_canPay 30 rfl
theorem dX7_canPay_50 : decode cX7_canPay 50 = .ok (.iadd, 1) := decA_get dAX7_canPay 31 rfl
theorem dX7_canPay_51 : decode cX7_canPay 51 = .ok (.iaload, 1) := decA_get dAX7_canPay 32 rfl
theorem dX7_canPay_52 : decode cX7_canPay 52 = .ok (.aload_n 0, 1) := decA_get dAX7_canPay 33 rfl
theorem dX7_canPay_53 : decode cX7_canPay 53 = .ok (.getfield 63, 3) := decA_get dAX7_canPay 34 rfl
theorem in_X7_canPay_7 : ∀ w ∈ wsX70, w ∈ wsX7_canPay := fun w h => (gd_ids wi_X7_canPay wm_X7_canPay wi_X70 (by decide +kernel) w h).1
theorem dX7_canPay_56 : decode cX7_canPay 56 = .ok (.iload 4, 2) := decA_get dAX7_canPay 35 rfl
theorem dX7_canPay_58 : decode cX7_canPay 58 = .ok (.iaload, 1) := decA_get dAX7_canPay 36 rfl
theorem dX7_canPay_59 : decode cX7_canPay 59 = .ok (.iadd, 1) := decA_get dAX7_canPay 37 rfl
theorem dX7_canPay_60 : decode cX7_canPay 60 = .ok (.bipush 99, 2) := decA_get dAX7_canPay 38 rfl
theorem dX7_canPay_62 : decode cX7_canPay 62 = .ok (.if_icmp .gt 7, 3) := decA_get dAX7_canPay 39 rfl
theorem dX7_canPay_65 : decode cX7_canPay 65 = .ok (.iconst 1, 1) := decA_get dAX7_canPay 40 rfl
theorem dX7_canPay_66 : decode cX7_canPay 66 = .ok (.goto 4, 3) := decA_get dAX7_canPay 41 rfl
set_option maxHeartbeats 4000000 in
set_option maxRecDepth 100000 in
theorem z_canPayN (l : Launch) (D : va_G) (cI cB cZ cN : ClassId) (Zh : Nat) (Za1 : Nat) (Za3 : Nat) (Za4 : Nat) (Za5 : Nat) (Za6 : Nat) (Za7 : Nat) (Za8 : Nat) (Za9 : Nat) (Za10 : Nat) (Za11 : Nat) (Za12 : Nat) (Za13 : Nat) (Za20 : Nat) (Za21 : Nat) (Za22 : Nat) (Za23 : Nat) (Za24 : Nat) (Za25 : Nat) (Za26 : Nat) (Za27 : Nat) (Zt : Int64) (ZS : Nat → Nat → Nat) (v_d : Nat) (hZ : ZOk ZS) (hd : v_d < 5) : Ci (S := (Nat → Nat → Nat)) l D cI cB cZ cN yX7_canPay wsX7_canPay ({ frames := 5, cells := 0, slots := 0, locals := 112 } : Room) [.ref Zh, .ref Za20, .int (nI v_d)] [(Zh, .inr (7, [.long Zt, .ref Za1, .int (nI (ZS 2 0)), .ref Za3, .ref Za4, .ref Za5, .ref Za6, .ref Za7, .ref Za8, .ref Za9, .ref Za10, .ref Za11, .ref Za12, .ref Za13, .int (nI (ZS 14 0)), .int (nI (ZS 15 0)), .int (nI (ZS 16 0)), .int (nI (ZS 17 0)), .int (nI (ZS 18 0)), .int (nI (ZS 19 0) - nI 9), .ref Za20, .ref Za21, .ref Za22, .ref Za23, .ref Za24, .ref Za25, .ref Za26, .ref Za27, .int (nI (ZS 28 0))])), (Za1, .inl (cB, 180, .inl (bF (ZS 1)))), (Za3, .inl (cI, 2, .inl (nF (ZS 3)))), (Za4, .inl (cI, 12, .inl (nF (ZS 4)))), (Za5, .inl (cI, 12, .inl (nF (ZS 5)))), (Za6, .inl (cI, 2, .inl (nF (ZS 6)))), (Za7, .inl (cI, 10, .inl (nF (ZS 7)))), (Za8, .inl (cI, 30, .inl (nF (ZS 8)))), (Za9, .inl (cI, 2, .inl (nF (ZS 9)))), (Za10, .inl (cI, 10, .inl (nF (ZS 10)))), (Za11, .inl (cI, 5, .inl (nF (ZS 11)))), (Za12, .inl (cI, 10, .inl (nF (ZS 12)))), (Za13, .inl (cI, 2, .inl (nF (ZS 13)))), (Za20, .inl (cI, 1191, .inl (nF (ZS 20)))), (Za21, .inl (cZ, 2, .inl (nF (ZS 21)))), (Za22, .inl (cI, 36, .inl (nF (ZS 22)))), (Za23, .inl (cI, 6, .inl (nF (ZS 23)))), (Za24, .inl (cI, 427, .inl (nF (ZS 24)))), (Za25, .inl (cI, 6, .inl (nF (ZS 25)))), (Za26, .inl (cI, 5, .inl (nF (ZS 26)))), (Za27, .inl (cI, 6, .inl (nF (ZS 27))))] (fun (r : Int32) (u : (Nat → Nat → Nat)) => ∃ g F P, u = ua (ua (ua ZS 23 g) 24 F) 25 P ∧ (∀ j, g j ≤ zb 23 j) ∧ (∀ j, F j ≤ zb 24 j) ∧ (∀ j, P j ≤ zb 25 j) ∧ ((r = nI 1 ∧ CanZ ZS 20 v_d P) ∨ (r = nI 0 ∧ NotZ ZS 20 v_d P))) (fun u => [(Zh, .inr (7, [.long Zt, .ref Za1, .int (nI (u 2 0)), .ref Za3, .ref Za4, .ref Za5, .ref Za6, .ref Za7, .ref Za8, .ref Za9, .ref Za10, .ref Za11, .ref Za12, .ref Za13, .int (nI (u 14 0)), .int (nI (u 15 0)), .int (nI (u 16 0)), .int (nI (u 17 0)), .int (nI (u 18 0)), .int (nI (u 19 0) - nI 9), .ref Za20, .ref Za21, .ref Za22, .ref Za23, .ref Za24, .ref Za25, .ref Za26, .ref Za27, .int (nI (u 28 0))])), (Za1, .inl (cB, 180, .inl (bF (u 1)))), (Za3, .inl (cI, 2, .inl (nF (u 3)))), (Za4, .inl (cI, 12, .inl (nF (u 4)))), (Za5, .inl (cI, 12, .inl (nF (u 5)))), (Za6, .inl (cI, 2, .inl (nF (u 6)))), (Za7, .inl (cI, 10, .inl (nF (u 7)))), (Za8, .inl (cI, 30, .inl (nF (u 8)))), (Za9, .inl (cI, 2, .inl (nF (u 9)))), (Za10, .inl (cI, 10, .inl (nF (u 10)))), (Za11, .inl (cI, 5, .inl (nF (u 11)))), (Za12, .inl (cI, 10, .inl (nF (u 12)))), (Za13, .inl (cI, 2, .inl (nF (u 13)))), (Za20, .inl (cI, 1191, .inl (nF (u 20)))), (Za21, .inl (cZ, 2, .inl (nF (u 21)))), (Za22, .inl (cI, 36, .inl (nF (u 22)))), (Za23, .inl (cI, 6, .inl (nF (u 23)))), (Za24, .inl (cI, 427, .inl (nF (u 24)))), (Za25, .inl (cI, 6, .inl (nF (u 25)))), (Za26, .inl (cI, 5, .inl (nF (u 26)))), (Za27, .inl (cI, 6, .inl (nF (u 27))))]) := by
  refine bx_of (D := D) (cI := cI) (cB := cB) (cZ := cZ) (cN := cN) (y := yX7_canPay) (wd := wsX7_canPay) (rm := ({ frames := 5, cells := 0, slots := 0, locals := 112 } : Room)) (av := [.ref Zh, .ref Za20, .int (nI v_d)]) (wc := [(Zh, .inr (7, [.long Zt, .ref Za1, .int (nI (ZS 2 0)), .ref Za3, .ref Za4, .ref Za5, .ref Za6, .ref Za7, .ref Za8, .ref Za9, .ref Za10, .ref Za11, .ref Za12, .ref Za13, .int (nI (ZS 14 0)), .int (nI (ZS 15 0)), .int (nI (ZS 16 0)), .int (nI (ZS 17 0)), .int (nI (ZS 18 0)), .int (nI (ZS 19 0) - nI 9), .ref Za20, .ref Za21, .ref Za22, .ref Za23, .ref Za24, .ref Za25, .ref Za26, .ref Za27, .int (nI (ZS 28 0))])), (Za1, .inl (cB, 180, .inl (bF (ZS 1)))), (Za3, .inl (cI, 2, .inl (nF (ZS 3)))), (Za4, .inl (cI, 12, .inl (nF (ZS 4)))), (Za5, .inl (cI, 12, .inl (nF (ZS 5)))), (Za6, .inl (cI, 2, .inl (nF (ZS 6)))), (Za7, .inl (cI, 10, .inl (nF (ZS 7)))), (Za8, .inl (cI, 30, .inl (nF (ZS 8)))), (Za9, .inl (cI, 2, .inl (nF (ZS 9)))), (Za10, .inl (cI, 10, .inl (nF (ZS 10)))), (Za11, .inl (cI, 5, .inl (nF (ZS 11)))), (Za12, .inl (cI, 10, .inl (nF (ZS 12)))), (Za13, .inl (cI, 2, .inl (nF (ZS 13)))), (Za20, .inl (cI, 1191, .inl (nF (ZS 20)))), (Za21, .inl (cZ, 2, .inl (nF (ZS 21)))), (Za22, .inl (cI, 36, .inl (nF (ZS 22)))), (Za23, .inl (cI, 6, .inl (nF (ZS 23)))), (Za24, .inl (cI, 427, .inl (nF (ZS 24)))), (Za25, .inl (cI, 6, .inl (nF (ZS 25)))), (Za26, .inl (cI, 5, .inl (nF (ZS 26)))), (Za27, .inl (cI, 6, .inl (nF (ZS 27))))]) (cc := cX7_canPay) (maxL := 5) (ret := (some .boolean)) (Qc := fun _ A => va_Qi (S := (Nat → Nat → Nat)) (fun (r : Int32) (u : (Nat → Nat → Nat)) => ∃ g F P, u = ua (ua (ua ZS 23 g) 24 F) 25 P ∧ (∀ j, g j ≤ zb 23 j) ∧ (∀ j, F j ≤ zb 24 j) ∧ (∀ j, P j ≤ zb 25 j) ∧ ((r = nI 1 ∧ CanZ ZS 20 v_d P) ∨ (r = nI 0 ∧ NotZ ZS 20 v_d P))) (Aft D (fun (u : (Nat → Nat → Nat)) => [(Zh, .inr (7, [.long Zt, .ref Za1, .int (nI (u 2 0)), .ref Za3, .ref Za4, .ref Za5, .ref Za6, .ref Za7, .ref Za8, .ref Za9, .ref Za10, .ref Za11, .ref Za12, .ref Za13, .int (nI (u 14 0)), .int (nI (u 15 0)), .int (nI (u 16 0)), .int (nI (u 17 0)), .int (nI (u 18 0)), .int (nI (u 19 0) - nI 9), .ref Za20, .ref Za21, .ref Za22, .ref Za23, .ref Za24, .ref Za25, .ref Za26, .ref Za27, .int (nI (u 28 0))])), (Za1, .inl (cB, 180, .inl (bF (u 1)))), (Za3, .inl (cI, 2, .inl (nF (u 3)))), (Za4, .inl (cI, 12, .inl (nF (u 4)))), (Za5, .inl (cI, 12, .inl (nF (u 5)))), (Za6, .inl (cI, 2, .inl (nF (u 6)))), (Za7, .inl (cI, 10, .inl (nF (u 7)))), (Za8, .inl (cI, 30, .inl (nF (u 8)))), (Za9, .inl (cI, 2, .inl (nF (u 9)))), (Za10, .inl (cI, 10, .inl (nF (u 10)))), (Za11, .inl (cI, 5, .inl (nF (u 11)))), (Za12, .inl (cI, 10, .inl (nF (u 12)))), (Za13, .inl (cI, 2, .inl (nF (u 13)))), (Za20, .inl (cI, 1191, .inl (nF (u 20)))), (Za21, .inl (cZ, 2, .inl (nF (u 21)))), (Za22, .inl (cI, 36, .inl (nF (u 22)))), (Za23, .inl (cI, 6, .inl (nF (u 23)))), (Za24, .inl (cI, 427, .inl (nF (u 24)))), (Za25, .inl (cI, 6, .inl (nF (u 25)))), (Za26, .inl (cI, 5, .inl (nF (u 26)))), (Za27, .inl (cI, 6, .inl (nF (u 27))))]) A) A) (by decide) rfl (Nat.le_of_ble_eq_true rfl) ?_
  intro p e s m below meth c A H locs ⟨hx, hb, hr, hml, hown, hts, hlk, hnm⟩ hK hP hD hS hA ls hl
  have hl : lv_has ls 5 [(0, .ref Zh), (1, .ref Za20), (2, .int (nI v_d))] := hl
  have hown : s.vm.findClass RX7 = some m.cls := hown
  have bz6 : ZS 6 0 ≤ 5 := hZ 6 0
  have bz3 : ZS 3 0 ≤ 6 := hZ 3 0
  have bz9 : ZS 9 0 ≤ 5 := hZ 9 0
  have bz28 : ZS 28 0 ≤ 6 := hZ 28 0
  refine lv_aload_n hx hb dX7_canPay_0 rfl (lv_at hl 0 rfl) ?_
  refine lv_aload_n hx hb dX7_canPay_1 rfl (lv_at hl 1 rfl) ?_
  refine lv_iload_n hx hb dX7_canPay_2 rfl (lv_at hl 2 rfl) ?_
  refine be_i0 (ru_V (As := [.ref Za20, .int (nI v_d)]) (rest := []) ⟨hx, hb, hml, hown, hts⟩ (z_isOpenN l D cI cB cZ cN Zh Za1 Za3 Za4 Za5 Za6 Za7 Za8 Za9 Za10 Za11 Za12 Za13 Za20 Za21 Za22 Za23 Za24 Za25 Za26 Za27 Zt ZS v_d hZ (by omega) H.size) gX7_canPay_X7_isOpen rfl ⟨rfl, by decide, by decide, (show Option.map (fun d => d.parameters.length) (parseMethodDescriptor yX7_isOpen.desc) = some 2 by decide +kernel)⟩ ⟨Nat.le_of_ble_eq_true rfl, Nat.le_of_ble_eq_true rfl⟩ hK hP hD 7 0 rfl rfl [0, 1, 2, 3, 4, 5, 6, 7, 8, 9, 10, 11, 12, 13, 14, 15, 16, 17, 18, 19, 20] (by decide) rfl hl.1 rfl (Nat.le_of_ble_eq_true rfl) dX7_canPay_3 ⟨Nat.le_of_ble_eq_true rfl, Nat.le_of_ble_eq_true rfl⟩) hP hD hS hA [0, 1, 2, 3, 4, 5, 6, 7, 8, 9, 10, 11, 12, 13, 14, 15, 16, 17, 18, 19, 20] rfl (fun r2 u1 H locs w3 hP hS => ?_)
  obtain rfl : r2 = nI (ZS 20 35 / 2 ^ v_d % 2) := w3
  have b4 := bit_le (ZS 20 35) v_d
  refine nb_if_eq (tgt := 20) hx hb dX7_canPay_6 (by decide) (by omega) (fun hq5 => ?_) (fun hq5 => ?_)
  · skip
    refine lv_iconst (v := nI 0) hx hb dX7_canPay_20 (by decide) ?_
    exact en_z hx hb hr hlk hP hD hS ZS [0, 1, 2, 3, 4, 5, 6, 7, 8, 9, 10, 11, 12, 13, 14, 15, 16, 17, 18, 19, 20] (by decide) rfl (Nat.le_of_ble_eq_true rfl) (Nat.le_of_ble_eq_true rfl) dX7_canPay_21 rfl ⟨_, _, _, ua3 ZS 23 24 25, hZ 23, hZ 24, hZ 25, Or.inr ⟨rfl, Or.inl (by omega)⟩⟩
  · skip
    refine lv_aload_n hx hb dX7_canPay_9 rfl (lv_at hl 0 rfl) ?_
    refine lv_aload_n hx hb dX7_canPay_10 rfl (lv_at hl 1 rfl) ?_
    refine lv_iload_n hx hb dX7_canPay_11 rfl (lv_at hl 2 rfl) ?_
    refine be_i (free := fun _ => False) (wr := []) (ru_V (As := [.ref Za20, .int (nI v_d)]) (rest := []) ⟨hx, hb, hml, hown, hts⟩ (z_paymentOfN l D cI cB cZ cN Zh Za1 Za3 Za4 Za5 Za6 Za7 Za8 Za9 Za10 Za11 Za12 Za13 Za20 Za21 Za22 Za23 Za24 Za25 Za26 Za27 Zt ZS v_d hZ (by omega) H.size) gX7_canPay_X7_paymentOf rfl ⟨rfl, by decide, by decide, (show Option.map (fun d => d.parameters.length) (parseMethodDescriptor yX7_paymentOf.desc) = some 2 by decide +kernel)⟩ ⟨Nat.le_of_ble_eq_true rfl, Nat.le_of_ble_eq_true rfl⟩ hK hP hD 7 0 rfl rfl [0, 1, 2, 3, 4, 5, 6, 7, 8, 9, 10, 11, 12, 13, 14, 15, 16, 17, 18, 19, 20] (by decide) rfl hl.1 rfl (Nat.le_of_ble_eq_true rfl) dX7_canPay_12 ⟨Nat.le_of_ble_eq_true rfl, Nat.le_of_ble_eq_true rfl⟩) hP hD hS hA [0, 1, 2, 3, 4, 5, 6, 7, 8, 9, 10, 11, 12, 13, 14, 15, 16, 17, 18, 19, 20] [] rfl rfl (by decide) (by decide) (fun r7 u6 H locs w8 hP hD hS => ?_)
    obtain ⟨g9, g10, g11, rfl, hq12, hq13, hq14, hq15⟩ := w8
    have hzz16 : ZOk (ua (ua (ua ZS 23 (g9)) 24 (g10)) 25 (g11)) := (zok_set (k := 25) (zok_set (k := 24) (zok_set (k := 23) hZ hq12) hq13) hq14)
    obtain ⟨F17, hq18, ⟨rfl, hq19⟩ | ⟨hq19, rfl, l21, hq20⟩⟩ := id hq15
    · skip
      obtain ⟨hP, hD⟩ : wPD D A [(Zh, .inr (7, [.long Zt, .ref Za1, .int (nI (ZS 2 0)), .ref Za3, .ref Za4, .ref Za5, .ref Za6, .ref Za7, .ref Za8, .ref Za9, .ref Za10, .ref Za11, .ref Za12, .ref Za13, .int (nI (ZS 14 0)), .int (nI (ZS 15 0)), .int (nI (ZS 16 0)), .int (nI (ZS 17 0)), .int (nI (ZS 18 0)), .int (nI (ZS 19 0) - nI 9), .ref Za20, .ref Za21, .ref Za22, .ref Za23, .ref Za24, .ref Za25, .ref Za26, .ref Za27, .int (nI (ZS 28 0))])), (Za1, .inl (cB, 180, .inl (bF (ZS 1)))), (Za3, .inl (cI, 2, .inl (nF (ZS 3)))), (Za4, .inl (cI, 12, .inl (nF (ZS 4)))), (Za5, .inl (cI, 12, .inl (nF (ZS 5)))), (Za6, .inl (cI, 2, .inl (nF (ZS 6)))), (Za7, .inl (cI, 10, .inl (nF (ZS 7)))), (Za8, .inl (cI, 30, .inl (nF (ZS 8)))), (Za9, .inl (cI, 2, .inl (nF (ZS 9)))), (Za10, .inl (cI, 10, .inl (nF (ZS 10)))), (Za11, .inl (cI, 5, .inl (nF (ZS 11)))), (Za12, .inl (cI, 10, .inl (nF (ZS 12)))), (Za13, .inl (cI, 2, .inl (nF (ZS 13)))), (Za20, .inl (cI, 1191, .inl (nF (ZS 20)))), (Za21, .inl (cZ, 2, .inl (nF (ZS 21)))), (Za22, .inl (cI, 36, .inl (nF (ZS 22)))), (Za23, .inl (cI, 6, .inl (nF (g9)))), (Za24, .inl (cI, 427, .inl (nF (g10)))), (Za25, .inl (cI, 6, .inl (nF (g11)))), (Za26, .inl (cI, 5, .inl (nF (ZS 26)))), (Za27, .inl (cI, 6, .inl (nF (ZS 27))))] H := ⟨hP, hD⟩
      refine lv_bipush (v := -9) hx hb dX7_canPay_15 (by decide) ?_
      refine lv_icmp_ne (tgt := 22) hx hb dX7_canPay_17 (by decide) (fun hq22 => absurd hq22 (by decide)) (fun hq22 => ?_)
      refine lv_iconst (v := nI 0) hx hb dX7_canPay_20 (by decide) ?_
      exact en_z hx hb hr hlk hP hD hS (ua (ua (ua ZS 23 (g9)) 24 (g10)) 25 (g11)) [0, 1, 2, 3, 4, 5, 6, 7, 8, 9, 10, 11, 12, 13, 14, 15, 16, 17, 18, 19, 20] (by decide) rfl (Nat.le_of_ble_eq_true rfl) (Nat.le_of_ble_eq_true rfl) dX7_canPay_21 rfl ⟨_, _, _, rfl, hq12, hq13, hq14, Or.inr ⟨rfl, Or.inr (Or.inl hq15)⟩⟩
    · have hq19 : F17 (ZS 12 v_d) < 1000 := hq19
      obtain ⟨hP, hD⟩ : wPD D A [(Zh, .inr (7, [.long Zt, .ref Za1, .int (nI (ZS 2 0)), .ref Za3, .ref Za4, .ref Za5, .ref Za6, .ref Za7, .ref Za8, .ref Za9, .ref Za10, .ref Za11, .ref Za12, .ref Za13, .int (nI (ZS 14 0)), .int (nI (ZS 15 0)), .int (nI (ZS 16 0)), .int (nI (ZS 17 0)), .int (nI (ZS 18 0)), .int (nI (ZS 19 0) - nI 9), .ref Za20, .ref Za21, .ref Za22, .ref Za23, .ref Za24, .ref Za25, .ref Za26, .ref Za27, .int (nI (ZS 28 0))])), (Za1, .inl (cB, 180, .inl (bF (ZS 1)))), (Za3, .inl (cI, 2, .inl (nF (ZS 3)))), (Za4, .inl (cI, 12, .inl (nF (ZS 4)))), (Za5, .inl (cI, 12, .inl (nF (ZS 5)))), (Za6, .inl (cI, 2, .inl (nF (ZS 6)))), (Za7, .inl (cI, 10, .inl (nF (ZS 7)))), (Za8, .inl (cI, 30, .inl (nF (ZS 8)))), (Za9, .inl (cI, 2, .inl (nF (ZS 9)))), (Za10, .inl (cI, 10, .inl (nF (ZS 10)))), (Za11, .inl (cI, 5, .inl (nF (ZS 11)))), (Za12, .inl (cI, 10, .inl (nF (ZS 12)))), (Za13, .inl (cI, 2, .inl (nF (ZS 13)))), (Za20, .inl (cI, 1191, .inl (nF (ZS 20)))), (Za21, .inl (cZ, 2, .inl (nF (ZS 21)))), (Za22, .inl (cI, 36, .inl (nF (ZS 22)))), (Za23, .inl (cI, 6, .inl (nF (g9)))), (Za24, .inl (cI, 427, .inl (nF (g10)))), (Za25, .inl (cI, 6, .inl (nF (g11)))), (Za26, .inl (cI, 5, .inl (nF (ZS 26)))), (Za27, .inl (cI, 6, .inl (nF (ZS 27))))] H := ⟨hP, hD⟩
      refine lv_bipush (v := -9) hx hb dX7_canPay_15 (by decide) ?_
      refine lv_icmp_ne (tgt := 22) hx hb dX7_canPay_17 (by decide) (fun hq23 => ?_) (fun hq23 => absurd hq23 (nI_ne9 (by omega)))
      refine lv_iconst (v := nI 1) hx hb dX7_canPay_22 (by decide) ?_
      refine lv_istore_n (lv' := [(3, .int (nI 1)), (0, .ref Zh), (1, .ref Za20), (2, .int (nI v_d))]) hx hb dX7_canPay_23 rfl hl (by decide) rfl (fun ls hl => ?_)
      refine lv_iconst (v := nI 0) hx hb dX7_canPay_24 (by decide) ?_
      refine lv_istore (lv' := [(4, .int (nI 0)), (3, .int (nI 1)), (0, .ref Zh), (1, .ref Za20), (2, .int (nI v_d))]) hx hb dX7_canPay_25 hl (by decide) rfl (fun ls hl => ?_)
      refine loopS (σ := Nat) (D := D) (A := A) (fun i1 z1 => CPI (fun c => ZS 20 (6 * ZS 20 (30 + v_d) + c) + g11 c ≤ 99) i1 z1) (fun i1 z1 => [(Zh, .inr (7, [.long Zt, .ref Za1, .int (nI (ZS 2 0)), .ref Za3, .ref Za4, .ref Za5, .ref Za6, .ref Za7, .ref Za8, .ref Za9, .ref Za10, .ref Za11, .ref Za12, .ref Za13, .int (nI (ZS 14 0)), .int (nI (ZS 15 0)), .int (nI (ZS 16 0)), .int (nI (ZS 17 0)), .int (nI (ZS 18 0)), .int (nI (ZS 19 0) - nI 9), .ref Za20, .ref Za21, .ref Za22, .ref Za23, .ref Za24, .ref Za25, .ref Za26, .ref Za27, .int (nI (ZS 28 0))])), (Za1, .inl (cB, 180, .inl (bF (ZS 1)))), (Za3, .inl (cI, 2, .inl (nF (ZS 3)))), (Za4, .inl (cI, 12, .inl (nF (ZS 4)))), (Za5, .inl (cI, 12, .inl (nF (ZS 5)))), (Za6, .inl (cI, 2, .inl (nF (ZS 6)))), (Za7, .inl (cI, 10, .inl (nF (ZS 7)))), (Za8, .inl (cI, 30, .inl (nF (ZS 8)))), (Za9, .inl (cI, 2, .inl (nF (ZS 9)))), (Za10, .inl (cI, 10, .inl (nF (ZS 10)))), (Za11, .inl (cI, 5, .inl (nF (ZS 11)))), (Za12, .inl (cI, 10, .inl (nF (ZS 12)))), (Za13, .inl (cI, 2, .inl (nF (ZS 13)))), (Za20, .inl (cI, 1191, .inl (nF (ZS 20)))), (Za21, .inl (cZ, 2, .inl (nF (ZS 21)))), (Za22, .inl (cI, 36, .inl (nF (ZS 22)))), (Za23, .inl (cI, 6, .inl (nF (g9)))), (Za24, .inl (cI, 427, .inl (nF (g10)))), (Za25, .inl (cI, 6, .inl (nF (g11)))), (Za26, .inl (cI, 5, .inl (nF (ZS 26)))), (Za27, .inl (cI, 6, .inl (nF (ZS 27))))]) (fun i1 z1 => [(0, .ref Zh), (1, .ref Za20), (2, .int (nI v_d)), (3, .int (nI z1)), (4, .int (nI i1))]) 27 5 6 0 (Nat.zero_le _) ?_ ?_ 1 (CPI_0 (fun c => ZS 20 (6 * ZS 20 (30 + v_d) + c) + g11 c ≤ 99)) _ _ ls (by first | exact hP) (by first | exact hD) hS (lv_sub hl [2, 3, 4, 1, 0] rfl)
      · intro z1 hI1 H locs ls hP hD hS hl
        have hl : lv_has ls 5 [(0, .ref Zh), (1, .ref Za20), (2, .int (nI v_d)), (3, .int (nI z1)), (4, .int (nI 6))] := hl
        have hcz := CPI_1 hI1
        obtain ⟨hP, hD⟩ : wPD D A [(Zh, .inr (7, [.long Zt, .ref Za1, .int (nI (ZS 2 0)), .ref Za3, .ref Za4, .ref Za5, .ref Za6, .ref Za7, .ref Za8, .ref Za9, .ref Za10, .ref Za11, .ref Za12, .ref Za13, .int (nI (ZS 14 0)), .int (nI (ZS 15 0)), .int (nI (ZS 16 0)), .int (nI (ZS 17 0)), .int (nI (ZS 18 0)), .int (nI (ZS 19 0) - nI 9), .ref Za20, .ref Za21, .ref Za22, .ref Za23, .ref Za24, .ref Za25, .ref Za26, .ref Za27, .int (nI (ZS 28 0))])), (Za1, .inl (cB, 180, .inl (bF (ZS 1)))), (Za3, .inl (cI, 2, .inl (nF (ZS 3)))), (Za4, .inl (cI, 12, .inl (nF (ZS 4)))), (Za5, .inl (cI, 12, .inl (nF (ZS 5)))), (Za6, .inl (cI, 2, .inl (nF (ZS 6)))), (Za7, .inl (cI, 10, .inl (nF (ZS 7)))), (Za8, .inl (cI, 30, .inl (nF (ZS 8)))), (Za9, .inl (cI, 2, .inl (nF (ZS 9)))), (Za10, .inl (cI, 10, .inl (nF (ZS 10)))), (Za11, .inl (cI, 5, .inl (nF (ZS 11)))), (Za12, .inl (cI, 10, .inl (nF (ZS 12)))), (Za13, .inl (cI, 2, .inl (nF (ZS 13)))), (Za20, .inl (cI, 1191, .inl (nF (ZS 20)))), (Za21, .inl (cZ, 2, .inl (nF (ZS 21)))), (Za22, .inl (cI, 36, .inl (nF (ZS 22)))), (Za23, .inl (cI, 6, .inl (nF (g9)))), (Za24, .inl (cI, 427, .inl (nF (g10)))), (Za25, .inl (cI, 6, .inl (nF (g11)))), (Za26, .inl (cI, 5, .inl (nF (ZS 26)))), (Za27, .inl (cI, 6, .inl (nF (ZS 27))))] H := ⟨hP, hD⟩
        refine lv_iload hx hb dX7_canPay_27 (lv_at hl 4 rfl) ?_
        refine lv_bipush (v := nI 6) hx hb dX7_canPay_29 (by decide) ?_
        refine nb_icmp_ge (tgt := 77) hx hb dX7_canPay_31 (by decide) (by omega) (by omega) (fun hq24 => ?_) (fun hq24 => absurd hq24 (by omega))
        refine lv_iload_n hx hb dX7_canPay_77 rfl (lv_at hl 3 rfl) ?_
        exact en_z hx hb hr hlk hP hD hS (ua (ua (ua ZS 23 (g9)) 24 (g10)) 25 (g11)) [0, 1, 2, 3, 4, 5, 6, 7, 8, 9, 10, 11, 12, 13, 14, 15, 16, 17, 18, 19, 20] (by decide) rfl (Nat.le_of_ble_eq_true rfl) (Nat.le_of_ble_eq_true rfl) dX7_canPay_78 (b01 (by omega)) ⟨_, _, _, rfl, hq12, hq13, hq14, (by rcases hI1 with ⟨e, q⟩ | ⟨e, q⟩; exact Or.inl ⟨congrArg nI e, by omega, ⟨_, hq19, hq15⟩, q⟩; exact Or.inr ⟨congrArg nI e, Or.inr (Or.inr ⟨⟨_, hq19, hq15⟩, q⟩)⟩)⟩
      · intro i1 hi01 hi1 z1 hI1 ih1 H locs ls hP hD hS hl
        have hl : lv_has ls 5 [(0, .ref Zh), (1, .ref Za20), (2, .int (nI v_d)), (3, .int (nI z1)), (4, .int (nI i1))] := hl
        have hcz := CPI_1 hI1
        obtain ⟨hP, hD⟩ : wPD D A [(Zh, .inr (7, [.long Zt, .ref Za1, .int (nI (ZS 2 0)), .ref Za3, .ref Za4, .ref Za5, .ref Za6, .ref Za7, .ref Za8, .ref Za9, .ref Za10, .ref Za11, .ref Za12, .ref Za13, .int (nI (ZS 14 0)), .int (nI (ZS 15 0)), .int (nI (ZS 16 0)), .int (nI (ZS 17 0)), .int (nI (ZS 18 0)), .int (nI (ZS 19 0) - nI 9), .ref Za20, .ref Za21, .ref Za22, .ref Za23, .ref Za24, .ref Za25, .ref Za26, .ref Za27, .int (nI (ZS 28 0))])), (Za1, .inl (cB, 180, .inl (bF (ZS 1)))), (Za3, .inl (cI, 2, .inl (nF (ZS 3)))), (Za4, .inl (cI, 12, .inl (nF (ZS 4)))), (Za5, .inl (cI, 12, .inl (nF (ZS 5)))), (Za6, .inl (cI, 2, .inl (nF (ZS 6)))), (Za7, .inl (cI, 10, .inl (nF (ZS 7)))), (Za8, .inl (cI, 30, .inl (nF (ZS 8)))), (Za9, .inl (cI, 2, .inl (nF (ZS 9)))), (Za10, .inl (cI, 10, .inl (nF (ZS 10)))), (Za11, .inl (cI, 5, .inl (nF (ZS 11)))), (Za12, .inl (cI, 10, .inl (nF (ZS 12)))), (Za13, .inl (cI, 2, .inl (nF (ZS 13)))), (Za20, .inl (cI, 1191, .inl (nF (ZS 20)))), (Za21, .inl (cZ, 2, .inl (nF (ZS 21)))), (Za22, .inl (cI, 36, .inl (nF (ZS 22)))), (Za23, .inl (cI, 6, .inl (nF (g9)))), (Za24, .inl (cI, 427, .inl (nF (g10)))), (Za25, .inl (cI, 6, .inl (nF (g11)))), (Za26, .inl (cI, 5, .inl (nF (ZS 26)))), (Za27, .inl (cI, 6, .inl (nF (ZS 27))))] H := ⟨hP, hD⟩
        refine lv_iload hx hb dX7_canPay_27 (lv_at hl 4 rfl) ?_
        refine lv_bipush (v := nI 6) hx hb dX7_canPay_29 (by decide) ?_
        refine nb_icmp_ge (tgt := 77) hx hb dX7_canPay_31 (by decide) (by omega) (by omega) (fun hq25 => absurd hq25 (by omega)) (fun hq25 => ?_)
        refine lv_iload_n hx hb dX7_canPay_34 rfl (lv_at hl 3 rfl) ?_
        refine nb_if_eq (tgt := 69) hx hb dX7_canPay_35 (by decide) (by omega) (fun hq26 => ?_) (fun hq26 => ?_)
        · skip
          refine lv_iconst (v := nI 0) hx hb dX7_canPay_69 (by decide) ?_
          refine lv_istore_n (lv' := [(3, .int (nI 0)), (0, .ref Zh), (1, .ref Za20), (2, .int (nI v_d)), (4, .int (nI i1))]) hx hb dX7_canPay_70 rfl hl (by decide) rfl (fun ls hl => ?_)
          refine lv_iinc (v := nI (i1 + 1)) (lv' := [(4, .int (nI (i1 + 1))), (3, .int (nI 0)), (0, .ref Zh), (1, .ref Za20), (2, .int (nI v_d))]) hx hb dX7_canPay_71 hl (k := 4) rfl (nI_add i1 1) (by decide) rfl (fun ls hl => ?_)
          refine lv_goto (tgt := 27) hx hb dX7_canPay_74 (by decide) ?_
          have hl : lv_has ls 5 [(0, .ref Zh), (1, .ref Za20), (2, .int (nI v_d)), (3, .int (nI 0)), (4, .int (nI (i1 + 1)))] := lv_sub hl [2, 3, 4, 1, 0] rfl
          exact ih1 0 (CPI_z hI1 hq26) _ _ _ hP hD hS hl
        · skip
          refine lv_aload_n hx hb dX7_canPay_38 rfl (lv_at hl 1 rfl) ?_
          refine lv_bipush (v := nI 6) hx hb dX7_canPay_39 (by decide) ?_
          refine lv_aload_n hx hb dX7_canPay_41 rfl (lv_at hl 1 rfl) ?_
          refine lv_bipush (v := nI 30) hx hb dX7_canPay_42 (by decide) ?_
          refine lv_iload_n hx hb dX7_canPay_44 rfl (lv_at hl 2 rfl) ?_
          refine lv_iadd hx hb dX7_canPay_45 ?_
          refine set_i (y := nI (30 + v_d)) (nI_add 30 v_d) ?_
          refine va_iald hx hb hK.1 hP 13 0 rfl rfl (vp_in_nI (n := 30 + v_d) (N := 1191) (by omega) (by decide)) dX7_canPay_46 ?_
          refine set_i (y := nI (ZS 20 (30 + v_d))) (nF_ld (by omega)) ?_
          have b27 : ZS 20 (30 + v_d) ≤ 4 := Nat.le_trans (hzz16 20 (30 + v_d)) (Nat.le_of_eq (nbd_c (by omega)))
          refine lv_imul hx hb dX7_canPay_47 ?_
          refine set_i (y := nI (6 * (ZS 20 (30 + v_d)))) (pk_mul 6 (ZS 20 (30 + v_d))) ?_
          refine lv_iload hx hb dX7_canPay_48 (lv_at hl 4 rfl) ?_
          refine lv_iadd hx hb dX7_canPay_50 ?_
          refine set_i (y := nI ((6 * (ZS 20 (30 + v_d))) + i1)) (nI_add (6 * (ZS 20 (30 + v_d))) i1) ?_
          refine va_iald hx hb hK.1 hP 13 0 rfl rfl (vp_in_nI (n := (6 * (ZS 20 (30 + v_d))) + i1) (N := 1191) (by omega) (by decide)) dX7_canPay_51 ?_
          refine set_i (y := nI (ZS 20 ((6 * (ZS 20 (30 + v_d))) + i1))) (nF_ld (by omega)) ?_
          have b28 : ZS 20 ((6 * (ZS 20 (30 + v_d))) + i1) ≤ 99 := Nat.le_trans (hzz16 20 ((6 * (ZS 20 (30 + v_d))) + i1)) (nbd_99 ((6 * (ZS 20 (30 + v_d))) + i1))
          refine lv_aload_n hx hb dX7_canPay_52 rfl (lv_at hl 0 rfl) ?_
          refine va_get (D := D) (ci := 7) (v := .ref Za25) (C := RX7) (T := TX7) (N := 29) hx hb hts in_X7_canPay_7 hown hK.1 hP 0 rfl rfl 25 (by decide) (hts (.fieldLink RX7 63 "ChildCoinsModel" "paid" "[I") (List.mem_of_getElem? (i := 1) rfl)) (fun _ h9 => h9) rfl dX7_canPay_53 ?_
          refine lv_iload hx hb dX7_canPay_56 (lv_at hl 4 rfl) ?_
          refine va_iald hx hb hK.1 hP 18 0 rfl rfl (vp_in_nI (n := i1) (N := 6) (by omega) (by decide)) dX7_canPay_58 ?_
          refine set_i (y := nI (g11 i1)) (nF_ld (by omega)) ?_
          have b29 : g11 i1 ≤ 495 := hzz16 25 i1
          refine lv_iadd hx hb dX7_canPay_59 ?_
          refine set_i (y := nI ((ZS 20 ((6 * (ZS 20 (30 + v_d))) + i1)) + (g11 i1))) (nI_add (ZS 20 ((6 * (ZS 20 (30 + v_d))) + i1)) (g11 i1)) ?_
          refine lv_bipush (v := nI 99) hx hb dX7_canPay_60 (by decide) ?_
          refine nb_icmp_gt (tgt := 69) hx hb dX7_canPay_62 (by decide) (by omega) (by omega) (fun hq30 => ?_) (fun hq30 => ?_)
          · skip
            refine lv_iconst (v := nI 0) hx hb dX7_canPay_69 (by decide) ?_
            refine lv_istore_n (lv' := [(3, .int (nI 0)), (0, .ref Zh), (1, .ref Za20), (2, .int (nI v_d)), (4, .int (nI i1))]) hx hb dX7_canPay_70 rfl hl (by decide) rfl (fun ls hl => ?_)
            refine lv_iinc (v := nI (i1 + 1)) (lv' := [(4, .int (nI (i1 + 1))), (3, .int (nI 0)), (0, .ref Zh), (1, .ref Za20), (2, .int (nI v_d))]) hx hb dX7_canPay_71 hl (k := 4) rfl (nI_add i1 1) (by decide) rfl (fun ls hl => ?_)
            refine lv_goto (tgt := 27) hx hb dX7_canPay_74 (by decide) ?_
            have hl : lv_has ls 5 [(0, .ref Zh), (1, .ref Za20), (2, .int (nI v_d)), (3, .int (nI 0)), (4, .int (nI (i1 + 1)))] := lv_sub hl [2, 3, 4, 1, 0] rfl
            exact ih1 0 (CPI_f (Nat.not_le.mpr hq30)) _ _ _ hP hD hS hl
          · skip
            refine lv_iconst (v := nI 1) hx hb dX7_canPay_65 (by decide) ?_
            refine lv_goto (tgt := 70) hx hb dX7_canPay_66 (by decide) ?_
            refine lv_istore_n (lv' := [(3, .int (nI 1)), (0, .ref Zh), (1, .ref Za20), (2, .int (nI v_d)), (4, .int (nI i1))]) hx hb dX7_canPay_70 rfl hl (by decide) rfl (fun ls hl => ?_)
            refine lv_iinc (v := nI (i1 + 1)) (lv' := [(4, .int (nI (i1 + 1))), (3, .int (nI 1)), (0, .ref Zh), (1, .ref Za20), (2, .int (nI v_d))]) hx hb dX7_canPay_71 hl (k := 4) rfl (nI_add i1 1) (by decide) rfl (fun ls hl => ?_)
            refine lv_goto (tgt := 27) hx hb dX7_canPay_74 (by decide) ?_
            have hl : lv_has ls 5 [(0, .ref Zh), (1, .ref Za20), (2, .int (nI v_d)), (3, .int (nI 1)), (4, .int (nI (i1 + 1)))] := lv_sub hl [2, 3, 4, 1, 0] rfl
            exact ih1 1 (CPI_t hI1 (by omega) hq30) _ _ _ hP hD hS hl
set_option maxHeartbeats 4000000 in
set_option maxRecDepth 100000 in
theorem z_canPayT (l : Launch) (D : va_G) (cI cB cZ cN : ClassId) (Zh : Nat) (Za1 : Nat) (Za3 : Nat) (Za4 : Nat) (Za5 : Nat) (Za6 : Nat) (Za7 : Nat) (Za8 : Nat) (Za9 : Nat) (Za10 : Nat) (Za11 : Nat) (Za12 : Nat) (Za13 : Nat) (Za20 : Nat) (Za21 : Nat) (Za22 : Nat) (Za23 : Nat) (Za24 : Nat) (Za25 : Nat) (Za26 : Nat) (Za27 : Nat) (Zt : Int64) (ZS : Nat → Nat → Nat) (v_d : Nat) (hZ : ZOk ZS) (hd : v_d < 5) : Ci (S := (Nat → Nat → Nat)) l D cI cB cZ cN yX7_canPay wsX7_canPay ({ frames := 5, cells := 0, slots := 0, locals := 112 } : Room) [.ref Zh, .ref Za22, .int (nI v_d)] [(Zh, .inr (7, [.long Zt, .ref Za1, .int (nI (ZS 2 0)), .ref Za3, .ref Za4, .ref Za5, .ref Za6, .ref Za7, .ref Za8, .ref Za9, .ref Za10, .ref Za11, .ref Za12, .ref Za13, .int (nI (ZS 14 0)), .int (nI (ZS 15 0)), .int (nI (ZS 16 0)), .int (nI (ZS 17 0)), .int (nI (ZS 18 0)), .int (nI (ZS 19 0) - nI 9), .ref Za20, .ref Za21, .ref Za22, .ref Za23, .ref Za24, .ref Za25, .ref Za26, .ref Za27, .int (nI (ZS 28 0))])), (Za1, .inl (cB, 180, .inl (bF (ZS 1)))), (Za3, .inl (cI, 2, .inl (nF (ZS 3)))), (Za4, .inl (cI, 12, .inl (nF (ZS 4)))), (Za5, .inl (cI, 12, .inl (nF (ZS 5)))), (Za6, .inl (cI, 2, .inl (nF (ZS 6)))), (Za7, .inl (cI, 10, .inl (nF (ZS 7)))), (Za8, .inl (cI, 30, .inl (nF (ZS 8)))), (Za9, .inl (cI, 2, .inl (nF (ZS 9)))), (Za10, .inl (cI, 10, .inl (nF (ZS 10)))), (Za11, .inl (cI, 5, .inl (nF (ZS 11)))), (Za12, .inl (cI, 10, .inl (nF (ZS 12)))), (Za13, .inl (cI, 2, .inl (nF (ZS 13)))), (Za20, .inl (cI, 1191, .inl (nF (ZS 20)))), (Za21, .inl (cZ, 2, .inl (nF (ZS 21)))), (Za22, .inl (cI, 36, .inl (nF (ZS 22)))), (Za23, .inl (cI, 6, .inl (nF (ZS 23)))), (Za24, .inl (cI, 427, .inl (nF (ZS 24)))), (Za25, .inl (cI, 6, .inl (nF (ZS 25)))), (Za26, .inl (cI, 5, .inl (nF (ZS 26)))), (Za27, .inl (cI, 6, .inl (nF (ZS 27))))] (fun (r : Int32) (u : (Nat → Nat → Nat)) => ∃ g F P, u = ua (ua (ua ZS 23 g) 24 F) 25 P ∧ (∀ j, g j ≤ zb 23 j) ∧ (∀ j, F j ≤ zb 24 j) ∧ (∀ j, P j ≤ zb 25 j) ∧ ((r = nI 1 ∧ CanZ ZS 22 v_d P) ∨ (r = nI 0 ∧ NotZ ZS 22 v_d P))) (fun u => [(Zh, .inr (7, [.long Zt, .ref Za1, .int (nI (u 2 0)), .ref Za3, .ref Za4, .ref Za5, .ref Za6, .ref Za7, .ref Za8, .ref Za9, .ref Za10, .ref Za11, .ref Za12, .ref Za13, .int (nI (u 14 0)), .int (nI (u 15 0)), .int (nI (u 16 0)), .int (nI (u 17 0)), .int (nI (u 18 0)), .int (nI (u 19 0) - nI 9), .ref Za20, .ref Za21, .ref Za22, .ref Za23, .ref Za24, .ref Za25, .ref Za26, .ref Za27, .int (nI (u 28 0))])), (Za1, .inl (cB, 180, .inl (bF (u 1)))), (Za3, .inl (cI, 2, .inl (nF (u 3)))), (Za4, .inl (cI, 12, .inl (nF (u 4)))), (Za5, .inl (cI, 12, .inl (nF (u 5)))), (Za6, .inl (cI, 2, .inl (nF (u 6)))), (Za7, .inl (cI, 10, .inl (nF (u 7)))), (Za8, .inl (cI, 30, .inl (nF (u 8)))), (Za9, .inl (cI, 2, .inl (nF (u 9)))), (Za10, .inl (cI, 10, .inl (nF (u 10)))), (Za11, .inl (cI, 5, .inl (nF (u 11)))), (Za12, .inl (cI, 10, .inl (nF (u 12)))), (Za13, .inl (cI, 2, .inl (nF (u 13)))), (Za20, .inl (cI, 1191, .inl (nF (u 20)))), (Za21, .inl (cZ, 2, .inl (nF (u 21)))), (Za22, .inl (cI, 36, .inl (nF (u 22)))), (Za23, .inl (cI, 6, .inl (nF (u 23)))), (Za24, .inl (cI, 427, .inl (nF (u 24)))), (Za25, .inl (cI, 6, .inl (nF (u 25)))), (Za26, .inl (cI, 5, .inl (nF (u 26)))), (Za27, .inl (cI, 6, .inl (nF (u 27))))]) := by
  refine bx_of (D := D) (cI := cI) (cB := cB) (cZ := cZ) (cN := cN) (y := yX7_canPay) (wd := wsX7_canPay) (rm := ({ frames := 5, cells := 0, slots := 0, locals := 112 } : Room)) (av := [.ref Zh, .ref Za22, .int (nI v_d)]) (wc := [(Zh, .inr (7, [.long Zt, .ref Za1, .int (nI (ZS 2 0)), .ref Za3, .ref Za4, .ref Za5, .ref Za6, .ref Za7, .ref Za8, .ref Za9, .ref Za10, .ref Za11, .ref Za12, .ref Za13, .int (nI (ZS 14 0)), .int (nI (ZS 15 0)), .int (nI (ZS 16 0)), .int (nI (ZS 17 0)), .int (nI (ZS 18 0)), .int (nI (ZS 19 0) - nI 9), .ref Za20, .ref Za21, .ref Za22, .ref Za23, .ref Za24, .ref Za25, .ref Za26, .ref Za27, .int (nI (ZS 28 0))])), (Za1, .inl (cB, 180, .inl (bF (ZS 1)))), (Za3, .inl (cI, 2, .inl (nF (ZS 3)))), (Za4, .inl (cI, 12, .inl (nF (ZS 4)))), (Za5, .inl (cI, 12, .inl (nF (ZS 5)))), (Za6, .inl (cI, 2, .inl (nF (ZS 6)))), (Za7, .inl (cI, 10, .inl (nF (ZS 7)))), (Za8, .inl (cI, 30, .inl (nF (ZS 8)))), (Za9, .inl (cI, 2, .inl (nF (ZS 9)))), (Za10, .inl (cI, 10, .inl (nF (ZS 10)))), (Za11, .inl (cI, 5, .inl (nF (ZS 11)))), (Za12, .inl (cI, 10, .inl (nF (ZS 12)))), (Za13, .inl (cI, 2, .inl (nF (ZS 13)))), (Za20, .inl (cI, 1191, .inl (nF (ZS 20)))), (Za21, .inl (cZ, 2, .inl (nF (ZS 21)))), (Za22, .inl (cI, 36, .inl (nF (ZS 22)))), (Za23, .inl (cI, 6, .inl (nF (ZS 23)))), (Za24, .inl (cI, 427, .inl (nF (ZS 24)))), (Za25, .inl (cI, 6, .inl (nF (ZS 25)))), (Za26, .inl (cI, 5, .inl (nF (ZS 26)))), (Za27, .inl (cI, 6, .inl (nF (ZS 27))))]) (cc := cX7_canPay) (maxL := 5) (ret := (some .boolean)) (Qc := fun _ A => va_Qi (S := (Nat → Nat → Nat)) (fun (r : Int32) (u : (Nat → Nat → Nat)) => ∃ g F P, u = ua (ua (ua ZS 23 g) 24 F) 25 P ∧ (∀ j, g j ≤ zb 23 j) ∧ (∀ j, F j ≤ zb 24 j) ∧ (∀ j, P j ≤ zb 25 j) ∧ ((r = nI 1 ∧ CanZ ZS 22 v_d P) ∨ (r = nI 0 ∧ NotZ ZS 22 v_d P))) (Aft D (fun (u : (Nat → Nat → Nat)) => [(Zh, .inr (7, [.long Zt, .ref Za1, .int (nI (u 2 0)), .ref Za3, .ref Za4, .ref Za5, .ref Za6, .ref Za7, .ref Za8, .ref Za9, .ref Za10, .ref Za11, .ref Za12, .ref Za13, .int (nI (u 14 0)), .int (nI (u 15 0)), .int (nI (u 16 0)), .int (nI (u 17 0)), .int (nI (u 18 0)), .int (nI (u 19 0) - nI 9), .ref Za20, .ref Za21, .ref Za22, .ref Za23, .ref Za24, .ref Za25, .ref Za26, .ref Za27, .int (nI (u 28 0))])), (Za1, .inl (cB, 180, .inl (bF (u 1)))), (Za3, .inl (cI, 2, .inl (nF (u 3)))), (Za4, .inl (cI, 12, .inl (nF (u 4)))), (Za5, .inl (cI, 12, .inl (nF (u 5)))), (Za6, .inl (cI, 2, .inl (nF (u 6)))), (Za7, .inl (cI, 10, .inl (nF (u 7)))), (Za8, .inl (cI, 30, .inl (nF (u 8)))), (Za9, .inl (cI, 2, .inl (nF (u 9)))), (Za10, .inl (cI, 10, .inl (nF (u 10)))), (Za11, .inl (cI, 5, .inl (nF (u 11)))), (Za12, .inl (cI, 10, .inl (nF (u 12)))), (Za13, .inl (cI, 2, .inl (nF (u 13)))), (Za20, .inl (cI, 1191, .inl (nF (u 20)))), (Za21, .inl (cZ, 2, .inl (nF (u 21)))), (Za22, .inl (cI, 36, .inl (nF (u 22)))), (Za23, .inl (cI, 6, .inl (nF (u 23)))), (Za24, .inl (cI, 427, .inl (nF (u 24)))), (Za25, .inl (cI, 6, .inl (nF (u 25)))), (Za26, .inl (cI, 5, .inl (nF (u 26)))), (Za27, .inl (cI, 6, .inl (nF (u 27))))]) A) A) (by decide) rfl (Nat.le_of_ble_eq_true rfl) ?_
  intro p e s m below meth c A H locs ⟨hx, hb, hr, hml, hown, hts, hlk, hnm⟩ hK hP hD hS hA ls hl
  have hl : lv_has ls 5 [(0, .ref Zh), (1, .ref Za22), (2, .int (nI v_d))] := hl
  have hown : s.vm.findClass RX7 = some m.cls := hown
  have bz6 : ZS 6 0 ≤ 5 := hZ 6 0
  have bz3 : ZS 3 0 ≤ 6 := hZ 3 0
  have bz9 : ZS 9 0 ≤ 5 := hZ 9 0
  have bz28 : ZS 28 0 ≤ 6 := hZ 28 0
  refine lv_aload_n hx hb dX7_canPay_0 rfl (lv_at hl 0 rfl) ?_
  refine lv_aload_n hx hb dX7_canPay_1 rfl (lv_at hl 1 rfl) ?_
  refine lv_iload_n hx hb dX7_canPay_2 rfl (lv_at hl 2 rfl) ?_
  refine be_i0 (ru_V (As := [.ref Za22, .int (nI v_d)]) (rest := []) ⟨hx, hb, hml, hown, hts⟩ (z_isOpenT l D cI cB cZ cN Zh Za1 Za3 Za4 Za5 Za6 Za7 Za8 Za9 Za10 Za11 Za12 Za13 Za20 Za21 Za22 Za23 Za24 Za25 Za26 Za27 Zt ZS v_d hZ (by omega) H.size) gX7_canPay_X7_isOpen rfl ⟨rfl, by decide, by decide, (show Option.map (fun d => d.parameters.length) (parseMethodDescriptor yX7_isOpen.desc) = some 2 by decide +kernel)⟩ ⟨Nat.le_of_ble_eq_true rfl, Nat.le_of_ble_eq_true rfl⟩ hK hP hD 7 0 rfl rfl [0, 1, 2, 3, 4, 5, 6, 7, 8, 9, 10, 11, 12, 13, 14, 15, 16, 17, 18, 19, 20] (by decide) rfl hl.1 rfl (Nat.le_of_ble_eq_true rfl) dX7_canPay_3 ⟨Nat.le_of_ble_eq_true rfl, Nat.le_of_ble_eq_true rfl⟩) hP hD hS hA [0, 1, 2, 3, 4, 5, 6, 7, 8, 9, 10, 11, 12, 13, 14, 15, 16, 17, 18, 19, 20] rfl (fun r2 u1 H locs w3 hP hS => ?_)
  obtain rfl : r2 = nI (ZS 22 35 / 2 ^ v_d % 2) := w3
  have b4 := bit_le (ZS 22 35) v_d
  refine nb_if_eq (tgt := 20) hx hb dX7_canPay_6 (by decide) (by omega) (fun hq5 => ?_) (fun hq5 => ?_)
  · skip
    refine lv_iconst (v := nI 0) hx hb dX7_canPay_20 (by decide) ?_
    exact en_z hx hb hr hlk hP hD hS ZS [0, 1, 2, 3, 4, 5, 6, 7, 8, 9, 10, 11, 12, 13, 14, 15, 16, 17, 18, 19, 20] (by decide) rfl (Nat.le_of_ble_eq_true rfl) (Nat.le_of_ble_eq_true rfl) dX7_canPay_21 rfl ⟨_, _, _, ua3 ZS 23 24 25, hZ 23, hZ 24, hZ 25, Or.inr ⟨rfl, Or.inl (by omega)⟩⟩
  · skip
    refine lv_aload_n hx hb dX7_canPay_9 rfl (lv_at hl 0 rfl) ?_
    refine lv_aload_n hx hb dX7_canPay_10 rfl (lv_at hl 1 rfl) ?_
    refine lv_iload_n hx hb dX7_canPay_11 rfl (lv_at hl 2 rfl) ?_
    refine be_i (free := fun _ => False) (wr := []) (ru_V (As := [.ref Za22, .int (nI v_d)]) (rest := []) ⟨hx, hb, hml, hown, hts⟩ (z_paymentOfT l D cI cB cZ cN Zh Za1 Za3 Za4 Za5 Za6 Za7 Za8 Za9 Za10 Za11 Za12 Za13 Za20 Za21 Za22 Za23 Za24 Za25 Za26 Za27 Zt ZS v_d hZ (by omega) H.size) gX7_canPay_X7_paymentOf rfl ⟨rfl, by decide, by decide, (show Option.map (fun d => d.parameters.length) (parseMethodDescriptor yX7_paymentOf.desc) = some 2 by decide +kernel)⟩ ⟨Nat.le_of_ble_eq_true rfl, Nat.le_of_ble_eq_true rfl⟩ hK hP hD 7 0 rfl rfl [0, 1, 2, 3, 4, 5, 6, 7, 8, 9, 10, 11, 12, 13, 14, 15, 16, 17, 18, 19, 20] (by decide) rfl hl.1 rfl (Nat.le_of_ble_eq_true rfl) dX7_canPay_12 ⟨Nat.le_of_ble_eq_true rfl, Nat.le_of_ble_eq_true rfl⟩) hP hD hS hA [0, 1, 2, 3, 4, 5, 6, 7, 8, 9, 10, 11, 12, 13, 14, 15, 16, 17, 18, 19, 20] [] rfl rfl (by decide) (by decide) (fun r7 u6 H locs w8 hP hD hS => ?_)
    obtain ⟨g9, g10, g11, rfl, hq12, hq13, hq14, hq15⟩ := w8
    have hzz16 : ZOk (ua (ua (ua ZS 23 (g9)) 24 (g10)) 25 (g11)) := (zok_set (k := 25) (zok_set (k := 24) (zok_set (k := 23) hZ hq12) hq13) hq14)
    obtain ⟨F17, hq18, ⟨rfl, hq19⟩ | ⟨hq19, rfl, l21, hq20⟩⟩ := id hq15
    · skip
      obtain ⟨hP, hD⟩ : wPD D A [(Zh, .inr (7, [.long Zt, .ref Za1, .int (nI (ZS 2 0)), .ref Za3, .ref Za4, .ref Za5, .ref Za6, .ref Za7, .ref Za8, .ref Za9, .ref Za10, .ref Za11, .ref Za12, .ref Za13, .int (nI (ZS 14 0)), .int (nI (ZS 15 0)), .int (nI (ZS 16 0)), .int (nI (ZS 17 0)), .int (nI (ZS 18 0)), .int (nI (ZS 19 0) - nI 9), .ref Za20, .ref Za21, .ref Za22, .ref Za23, .ref Za24, .ref Za25, .ref Za26, .ref Za27, .int (nI (ZS 28 0))])), (Za1, .inl (cB, 180, .inl (bF (ZS 1)))), (Za3, .inl (cI, 2, .inl (nF (ZS 3)))), (Za4, .inl (cI, 12, .inl (nF (ZS 4)))), (Za5, .inl (cI, 12, .inl (nF (ZS 5)))), (Za6, .inl (cI, 2, .inl (nF (ZS 6)))), (Za7, .inl (cI, 10, .inl (nF (ZS 7)))), (Za8, .inl (cI, 30, .inl (nF (ZS 8)))), (Za9, .inl (cI, 2, .inl (nF (ZS 9)))), (Za10, .inl (cI, 10, .inl (nF (ZS 10)))), (Za11, .inl (cI, 5, .inl (nF (ZS 11)))), (Za12, .inl (cI, 10, .inl (nF (ZS 12)))), (Za13, .inl (cI, 2, .inl (nF (ZS 13)))), (Za20, .inl (cI, 1191, .inl (nF (ZS 20)))), (Za21, .inl (cZ, 2, .inl (nF (ZS 21)))), (Za22, .inl (cI, 36, .inl (nF (ZS 22)))), (Za23, .inl (cI, 6, .inl (nF (g9)))), (Za24, .inl (cI, 427, .inl (nF (g10)))), (Za25, .inl (cI, 6, .inl (nF (g11)))), (Za26, .inl (cI, 5, .inl (nF (ZS 26)))), (Za27, .inl (cI, 6, .inl (nF (ZS 27))))] H := ⟨hP, hD⟩
      refine lv_bipush (v := -9) hx hb dX7_canPay_15 (by decide) ?_
      refine lv_icmp_ne (tgt := 22) hx hb dX7_canPay_17 (by decide) (fun hq22 => absurd hq22 (by decide)) (fun hq22 => ?_)
      refine lv_iconst (v := nI 0) hx hb dX7_canPay_20 (by decide) ?_
      exact en_z hx hb hr hlk hP hD hS (ua (ua (ua ZS 23 (g9)) 24 (g10)) 25 (g11)) [0, 1, 2, 3, 4, 5, 6, 7, 8, 9, 10, 11, 12, 13, 14, 15, 16, 17, 18, 19, 20] (by decide) rfl (Nat.le_of_ble_eq_true rfl) (Nat.le_of_ble_eq_true rfl) dX7_canPay_21 rfl ⟨_, _, _, rfl, hq12, hq13, hq14, Or.inr ⟨rfl, Or.inr (Or.inl hq15)⟩⟩
    · have hq19 : F17 (ZS 12 v_d) < 1000 := hq19
      obtain ⟨hP, hD⟩ : wPD D A [(Zh, .inr (7, [.long Zt, .ref Za1, .int (nI (ZS 2 0)), .ref Za3, .ref Za4, .ref Za5, .ref Za6, .ref Za7, .ref Za8, .ref Za9, .ref Za10, .ref Za11, .ref Za12, .ref Za13, .int (nI (ZS 14 0)), .int (nI (ZS 15 0)), .int (nI (ZS 16 0)), .int (nI (ZS 17 0)), .int (nI (ZS 18 0)), .int (nI (ZS 19 0) - nI 9), .ref Za20, .ref Za21, .ref Za22, .ref Za23, .ref Za24, .ref Za25, .ref Za26, .ref Za27, .int (nI (ZS 28 0))])), (Za1, .inl (cB, 180, .inl (bF (ZS 1)))), (Za3, .inl (cI, 2, .inl (nF (ZS 3)))), (Za4, .inl (cI, 12, .inl (nF (ZS 4)))), (Za5, .inl (cI, 12, .inl (nF (ZS 5)))), (Za6, .inl (cI, 2, .inl (nF (ZS 6)))), (Za7, .inl (cI, 10, .inl (nF (ZS 7)))), (Za8, .inl (cI, 30, .inl (nF (ZS 8)))), (Za9, .inl (cI, 2, .inl (nF (ZS 9)))), (Za10, .inl (cI, 10, .inl (nF (ZS 10)))), (Za11, .inl (cI, 5, .inl (nF (ZS 11)))), (Za12, .inl (cI, 10, .inl (nF (ZS 12)))), (Za13, .inl (cI, 2, .inl (nF (ZS 13)))), (Za20, .inl (cI, 1191, .inl (nF (ZS 20)))), (Za21, .inl (cZ, 2, .inl (nF (ZS 21)))), (Za22, .inl (cI, 36, .inl (nF (ZS 22)))), (Za23, .inl (cI, 6, .inl (nF (g9)))), (Za24, .inl (cI, 427, .inl (nF (g10)))), (Za25, .inl (cI, 6, .inl (nF (g11)))), (Za26, .inl (cI, 5, .inl (nF (ZS 26)))), (Za27, .inl (cI, 6, .inl (nF (ZS 27))))] H := ⟨hP, hD⟩
      refine lv_bipush (v := -9) hx hb dX7_canPay_15 (by decide) ?_
      refine lv_icmp_ne (tgt := 22) hx hb dX7_canPay_17 (by decide) (fun hq23 => ?_) (fun hq23 => absurd hq23 (nI_ne9 (by omega)))
      refine lv_iconst (v := nI 1) hx hb dX7_canPay_22 (by decide) ?_
      refine lv_istore_n (lv' := [(3, .int (nI 1)), (0, .ref Zh), (1, .ref Za22), (2, .int (nI v_d))]) hx hb dX7_canPay_23 rfl hl (by decide) rfl (fun ls hl => ?_)
      refine lv_iconst (v := nI 0) hx hb dX7_canPay_24 (by decide) ?_
      refine lv_istore (lv' := [(4, .int (nI 0)), (3, .int (nI 1)), (0, .ref Zh), (1, .ref Za22), (2, .int (nI v_d))]) hx hb dX7_canPay_25 hl (by decide) rfl (fun ls hl => ?_)
      refine loopS (σ := Nat) (D := D) (A := A) (fun i1 z1 => CPI (fun c => ZS 22 (6 * ZS 22 (30 + v_d) + c) + g11 c ≤ 99) i1 z1) (fun i1 z1 => [(Zh, .inr (7, [.long Zt, .ref Za1, .int (nI (ZS 2 0)), .ref Za3, .ref Za4, .ref Za5, .ref Za6, .ref Za7, .ref Za8, .ref Za9, .ref Za10, .ref Za11, .ref Za12, .ref Za13, .int (nI (ZS 14 0)), .int (nI (ZS 15 0)), .int (nI (ZS 16 0)), .int (nI (ZS 17 0)), .int (nI (ZS 18 0)), .int (nI (ZS 19 0) - nI 9), .ref Za20, .ref Za21, .ref Za22, .ref Za23, .ref Za24, .ref Za25, .ref Za26, .ref Za27, .int (nI (ZS 28 0))])), (Za1, .inl (cB, 180, .inl (bF (ZS 1)))), (Za3, .inl (cI, 2, .inl (nF (ZS 3)))), (Za4, .inl (cI, 12, .inl (nF (ZS 4)))), (Za5, .inl (cI, 12, .inl (nF (ZS 5)))), (Za6, .inl (cI, 2, .inl (nF (ZS 6)))), (Za7, .inl (cI, 10, .inl (nF (ZS 7)))), (Za8, .inl (cI, 30, .inl (nF (ZS 8)))), (Za9, .inl (cI, 2, .inl (nF (ZS 9)))), (Za10, .inl (cI, 10, .inl (nF (ZS 10)))), (Za11, .inl (cI, 5, .inl (nF (ZS 11)))), (Za12, .inl (cI, 10, .inl (nF (ZS 12)))), (Za13, .inl (cI, 2, .inl (nF (ZS 13)))), (Za20, .inl (cI, 1191, .inl (nF (ZS 20)))), (Za21, .inl (cZ, 2, .inl (nF (ZS 21)))), (Za22, .inl (cI, 36, .inl (nF (ZS 22)))), (Za23, .inl (cI, 6, .inl (nF (g9)))), (Za24, .inl (cI, 427, .inl (nF (g10)))), (Za25, .inl (cI, 6, .inl (nF (g11)))), (Za26, .inl (cI, 5, .inl (nF (ZS 26)))), (Za27, .inl (cI, 6, .inl (nF (ZS 27))))]) (fun i1 z1 => [(0, .ref Zh), (1, .ref Za22), (2, .int (nI v_d)), (3, .int (nI z1)), (4, .int (nI i1))]) 27 5 6 0 (Nat.zero_le _) ?_ ?_ 1 (CPI_0 (fun c => ZS 22 (6 * ZS 22 (30 + v_d) + c) + g11 c ≤ 99)) _ _ ls (by first | exact hP) (by first | exact hD) hS (lv_sub hl [2, 3, 4, 1, 0] rfl)
      · intro z1 hI1 H locs ls hP hD hS hl
        have hl : lv_has ls 5 [(0, .ref Zh), (1, .ref Za22), (2, .int (nI v_d)), (3, .int (nI z1)), (4, .int (nI 6))] := hl
        have hcz := CPI_1 hI1
        obtain ⟨hP, hD⟩ : wPD D A [(Zh, .inr (7, [.long Zt, .ref Za1, .int (nI (ZS 2 0)), .ref Za3, .ref Za4, .ref Za5, .ref Za6, .ref Za7, .ref Za8, .ref Za9, .ref Za10, .ref Za11, .ref Za12, .ref Za13, .int (nI (ZS 14 0)), .int (nI (ZS 15 0)), .int (nI (ZS 16 0)), .int (nI (ZS 17 0)), .int (nI (ZS 18 0)), .int (nI (ZS 19 0) - nI 9), .ref Za20, .ref Za21, .ref Za22, .ref Za23, .ref Za24, .ref Za25, .ref Za26, .ref Za27, .int (nI (ZS 28 0))])), (Za1, .inl (cB, 180, .inl (bF (ZS 1)))), (Za3, .inl (cI, 2, .inl (nF (ZS 3)))), (Za4, .inl (cI, 12, .inl (nF (ZS 4)))), (Za5, .inl (cI, 12, .inl (nF (ZS 5)))), (Za6, .inl (cI, 2, .inl (nF (ZS 6)))), (Za7, .inl (cI, 10, .inl (nF (ZS 7)))), (Za8, .inl (cI, 30, .inl (nF (ZS 8)))), (Za9, .inl (cI, 2, .inl (nF (ZS 9)))), (Za10, .inl (cI, 10, .inl (nF (ZS 10)))), (Za11, .inl (cI, 5, .inl (nF (ZS 11)))), (Za12, .inl (cI, 10, .inl (nF (ZS 12)))), (Za13, .inl (cI, 2, .inl (nF (ZS 13)))), (Za20, .inl (cI, 1191, .inl (nF (ZS 20)))), (Za21, .inl (cZ, 2, .inl (nF (ZS 21)))), (Za22, .inl (cI, 36, .inl (nF (ZS 22)))), (Za23, .inl (cI, 6, .inl (nF (g9)))), (Za24, .inl (cI, 427, .inl (nF (g10)))), (Za25, .inl (cI, 6, .inl (nF (g11)))), (Za26, .inl (cI, 5, .inl (nF (ZS 26)))), (Za27, .inl (cI, 6, .inl (nF (ZS 27))))] H := ⟨hP, hD⟩
        refine lv_iload hx hb dX7_canPay_27 (lv_at hl 4 rfl) ?_
        refine lv_bipush (v := nI 6) hx hb dX7_canPay_29 (by decide) ?_
        refine nb_icmp_ge (tgt := 77) hx hb dX7_canPay_31 (by decide) (by omega) (by omega) (fun hq24 => ?_) (fun hq24 => absurd hq24 (by omega))
        refine lv_iload_n hx hb dX7_canPay_77 rfl (lv_at hl 3 rfl) ?_
        exact en_z hx hb hr hlk hP hD hS (ua (ua (ua ZS 23 (g9)) 24 (g10)) 25 (g11)) [0, 1, 2, 3, 4, 5, 6, 7, 8, 9, 10, 11, 12, 13, 14, 15, 16, 17, 18, 19, 20] (by decide) rfl (Nat.le_of_ble_eq_true rfl) (Nat.le_of_ble_eq_true rfl) dX7_canPay_78 (b01 (by omega)) ⟨_, _, _, rfl, hq12, hq13, hq14, (by rcases hI1 with ⟨e, q⟩ | ⟨e, q⟩; exact Or.inl ⟨congrArg nI e, by omega, ⟨_, hq19, hq15⟩, q⟩; exact Or.inr ⟨congrArg nI e, Or.inr (Or.inr ⟨⟨_, hq19, hq15⟩, q⟩)⟩)⟩
      · intro i1 hi01 hi1 z1 hI1 ih1 H locs ls hP hD hS hl
        have hl : lv_has ls 5 [(0, .ref Zh), (1, .ref Za22), (2, .int (nI v_d)), (3, .int (nI z1)), (4, .int (nI i1))] := hl
        have hcz := CPI_1 hI1
        obtain ⟨hP, hD⟩ : wPD D A [(Zh, .inr (7, [.long Zt, .ref Za1, .int (nI (ZS 2 0)), .ref Za3, .ref Za4, .ref Za5, .ref Za6, .ref Za7, .ref Za8, .ref Za9, .ref Za10, .ref Za11, .ref Za12, .ref Za13, .int (nI (ZS 14 0)), .int (nI (ZS 15 0)), .int (nI (ZS 16 0)), .int (nI (ZS 17 0)), .int (nI (ZS 18 0)), .int (nI (ZS 19 0) - nI 9), .ref Za20, .ref Za21, .ref Za22, .ref Za23, .ref Za24, .ref Za25, .ref Za26, .ref Za27, .int (nI (ZS 28 0))])), (Za1, .inl (cB, 180, .inl (bF (ZS 1)))), (Za3, .inl (cI, 2, .inl (nF (ZS 3)))), (Za4, .inl (cI, 12, .inl (nF (ZS 4)))), (Za5, .inl (cI, 12, .inl (nF (ZS 5)))), (Za6, .inl (cI, 2, .inl (nF (ZS 6)))), (Za7, .inl (cI, 10, .inl (nF (ZS 7)))), (Za8, .inl (cI, 30, .inl (nF (ZS 8)))), (Za9, .inl (cI, 2, .inl (nF (ZS 9)))), (Za10, .inl (cI, 10, .inl (nF (ZS 10)))), (Za11, .inl (cI, 5, .inl (nF (ZS 11)))), (Za12, .inl (cI, 10, .inl (nF (ZS 12)))), (Za13, .inl (cI, 2, .inl (nF (ZS 13)))), (Za20, .inl (cI, 1191, .inl (nF (ZS 20)))), (Za21, .inl (cZ, 2, .inl (nF (ZS 21)))), (Za22, .inl (cI, 36, .inl (nF (ZS 22)))), (Za23, .inl (cI, 6, .inl (nF (g9)))), (Za24, .inl (cI, 427, .inl (nF (g10)))), (Za25, .inl (cI, 6, .inl (nF (g11)))), (Za26, .inl (cI, 5, .inl (nF (ZS 26)))), (Za27, .inl (cI, 6, .inl (nF (ZS 27))))] H := ⟨hP, hD⟩
        refine lv_iload hx hb dX7_canPay_27 (lv_at hl 4 rfl) ?_
        refine lv_bipush (v := nI 6) hx hb dX7_canPay_29 (by decide) ?_
        refine nb_icmp_ge (tgt := 77) hx hb dX7_canPay_31 (by decide) (by omega) (by omega) (fun hq25 => absurd hq25 (by omega)) (fun hq25 => ?_)
        refine lv_iload_n hx hb dX7_canPay_34 rfl (lv_at hl 3 rfl) ?_
        refine nb_if_eq (tgt := 69) hx hb dX7_canPay_35 (by decide) (by omega) (fun hq26 => ?_) (fun hq26 => ?_)
        · skip
          refine lv_iconst (v := nI 0) hx hb dX7_canPay_69 (by decide) ?_
          refine lv_istore_n (lv' := [(3, .int (nI 0)), (0, .ref Zh), (1, .ref Za22), (2, .int (nI v_d)), (4, .int (nI i1))]) hx hb dX7_canPay_70 rfl hl (by decide) rfl (fun ls hl => ?_)
          refine lv_iinc (v := nI (i1 + 1)) (lv' := [(4, .int (nI (i1 + 1))), (3, .int (nI 0)), (0, .ref Zh), (1, .ref Za22), (2, .int (nI v_d))]) hx hb dX7_canPay_71 hl (k := 4) rfl (nI_add i1 1) (by decide) rfl (fun ls hl => ?_)
          refine lv_goto (tgt := 27) hx hb dX7_canPay_74 (by decide) ?_
          have hl : lv_has ls 5 [(0, .ref Zh), (1, .ref Za22), (2, .int (nI v_d)), (3, .int (nI 0)), (4, .int (nI (i1 + 1)))] := lv_sub hl [2, 3, 4, 1, 0] rfl
          exact ih1 0 (CPI_z hI1 hq26) _ _ _ hP hD hS hl
        · skip
          refine lv_aload_n hx hb dX7_canPay_38 rfl (lv_at hl 1 rfl) ?_
          refine lv_bipush (v := nI 6) hx hb dX7_canPay_39 (by decide) ?_
          refine lv_aload_n hx hb dX7_canPay_41 rfl (lv_at hl 1 rfl) ?_
          refine lv_bipush (v := nI 30) hx hb dX7_canPay_42 (by decide) ?_
          refine lv_iload_n hx hb dX7_canPay_44 rfl (lv_at hl 2 rfl) ?_
          refine lv_iadd hx hb dX7_canPay_45 ?_
          refine set_i (y := nI (30 + v_d)) (nI_add 30 v_d) ?_
          refine va_iald hx hb hK.1 hP 15 0 rfl rfl (vp_in_nI (n := 30 + v_d) (N := 36) (by omega) (by decide)) dX7_canPay_46 ?_
          refine set_i (y := nI (ZS 22 (30 + v_d))) (nF_ld (by omega)) ?_
          have b27 : ZS 22 (30 + v_d) ≤ 4 := Nat.le_trans (hzz16 22 (30 + v_d)) (Nat.le_of_eq (cb_c (by omega)))
          refine lv_imul hx hb dX7_canPay_47 ?_
          refine set_i (y := nI (6 * (ZS 22 (30 + v_d)))) (pk_mul 6 (ZS 22 (30 + v_d))) ?_
          refine lv_iload hx hb dX7_canPay_48 (lv_at hl 4 rfl) ?_
          refine lv_iadd hx hb dX7_canPay_50 ?_
          refine set_i (y := nI ((6 * (ZS 22 (30 + v_d))) + i1)) (nI_add (6 * (ZS 22 (30 + v_d))) i1) ?_
          refine va_iald hx hb hK.1 hP 15 0 rfl rfl (vp_in_nI (n := (6 * (ZS 22 (30 + v_d))) + i1) (N := 36) (by omega) (by decide)) dX7_canPay_51 ?_
          refine set_i (y := nI (ZS 22 ((6 * (ZS 22 (30 + v_d))) + i1))) (nF_ld (by omega)) ?_
          have b28 : ZS 22 ((6 * (ZS 22 (30 + v_d))) + i1) ≤ 99 := Nat.le_trans (hzz16 22 ((6 * (ZS 22 (30 + v_d))) + i1)) (cb_99 ((6 * (ZS 22 (30 + v_d))) + i1))
          refine lv_aload_n hx hb dX7_canPay_52 rfl (lv_at hl 0 rfl) ?_
          refine va_get (D := D) (ci := 7) (v := .ref Za25) (C := RX7) (T := TX7) (N := 29) hx hb hts in_X7_canPay_7 hown hK.1 hP 0 rfl rfl 25 (by decide) (hts (.fieldLink RX7 63 "ChildCoinsModel" "paid" "[I") (List.mem_of_getElem? (i := 1) rfl)) (fun _ h9 => h9) rfl dX7_canPay_53 ?_
          refine lv_iload hx hb dX7_canPay_56 (lv_at hl 4 rfl) ?_
          refine va_iald hx hb hK.1 hP 18 0 rfl rfl (vp_in_nI (n := i1) (N := 6) (by omega) (by decide)) dX7_canPay_58 ?_
          refine set_i (y := nI (g11 i1)) (nF_ld (by omega)) ?_
          have b29 : g11 i1 ≤ 495 := hzz16 25 i1
          refine lv_iadd hx hb dX7_canPay_59 ?_
          refine set_i (y := nI ((ZS 22 ((6 * (ZS 22 (30 + v_d))) + i1)) + (g11 i1))) (nI_add (ZS 22 ((6 * (ZS 22 (30 + v_d))) + i1)) (g11 i1)) ?_
          refine lv_bipush (v := nI 99) hx hb dX7_canPay_60 (by decide) ?_
          refine nb_icmp_gt (tgt := 69) hx hb dX7_canPay_62 (by decide) (by omega) (by omega) (fun hq30 => ?_) (fun hq30 => ?_)
          · skip
            refine lv_iconst (v := nI 0) hx hb dX7_canPay_69 (by decide) ?_
            refine lv_istore_n (lv' := [(3, .int (nI 0)), (0, .ref Zh), (1, .ref Za22), (2, .int (nI v_d)), (4, .int (nI i1))]) hx hb dX7_canPay_70 rfl hl (by decide) rfl (fun ls hl => ?_)
            refine lv_iinc (v := nI (i1 + 1)) (lv' := [(4, .int (nI (i1 + 1))), (3, .int (nI 0)), (0, .ref Zh), (1, .ref Za22), (2, .int (nI v_d))]) hx hb dX7_canPay_71 hl (k := 4) rfl (nI_add i1 1) (by decide) rfl (fun ls hl => ?_)
            refine lv_goto (tgt := 27) hx hb dX7_canPay_74 (by decide) ?_
            have hl : lv_has ls 5 [(0, .ref Zh), (1, .ref Za22), (2, .int (nI v_d)), (3, .int (nI 0)), (4, .int (nI (i1 + 1)))] := lv_sub hl [2, 3, 4, 1, 0] rfl
            exact ih1 0 (CPI_f (Nat.not_le.mpr hq30)) _ _ _ hP hD hS hl
          · skip
            refine lv_iconst (v := nI 1) hx hb dX7_canPay_65 (by decide) ?_
            refine lv_goto (tgt := 70) hx hb dX7_canPay_66 (by decide) ?_
            refine lv_istore_n (lv' := [(3, .int (nI 1)), (0, .ref Zh), (1, .ref Za22), (2, .int (nI v_d)), (4, .int (nI i1))]) hx hb dX7_canPay_70 rfl hl (by decide) rfl (fun ls hl => ?_)
            refine lv_iinc (v := nI (i1 + 1)) (lv' := [(4, .int (nI (i1 + 1))), (3, .int (nI 1)), (0, .ref Zh), (1, .ref Za22), (2, .int (nI v_d))]) hx hb dX7_canPay_71 hl (k := 4) rfl (nI_add i1 1) (by decide) rfl (fun ls hl => ?_)
            refine lv_goto (tgt := 27) hx hb dX7_canPay_74 (by decide) ?_
            have hl : lv_has ls 5 [(0, .ref Zh), (1, .ref Za22), (2, .int (nI v_d)), (3, .int (nI 1)), (4, .int (nI (i1 + 1)))] := lv_sub hl [2, 3, 4, 1, 0] rfl
            exact ih1 1 (CPI_t hI1 (by omega) hq30) _ _ _ hP hD hS hl
