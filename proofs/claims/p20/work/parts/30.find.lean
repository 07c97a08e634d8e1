set_option maxRecDepth 20000 in
theorem dAX2_find : decA cX2_find [(0, .iconst 0, 1), (1, .istore 5, 2), (3, .iload 5, 2), (5, .bipush 6, 2), (7, .if_icmp .ge 72, 3), (10, .iload 5, 2), (12, .aload_n 1, 1), (13, .getfield 29, 3), (16, .if_icmp .ge 18, 3), (19, .aload_n 1, 1), (20, .iload 5, 2), (22, .iload 4, 2), (24, .invokevirtual 40, 3), (27, .ifCond .eq 7, 3), (30, .iconst 1, 1), (31, .goto 4, 3), (34, .iconst 0, 1), (35, .istore 6, 2), (37, .aload_n 0, 1), (38, .getfield 9, 3), (41, .iload 5, 2), (43, .iload 6, 2), (45, .ifCond .eq 18, 3), (48, .aload_n 2, 1), (49, .aload_n 1, 1), (50, .getfield 44, 3), (53, .iload_n 3, 1), (54, .iaload, 1), (55, .iload 5, 2), (57, .invokevirtual 34, 3), (60, .goto 4, 3), (63, .iconst 0, 1), (64, .iastore, 1), (65, .aload_n 0, 1), (66, .getfield 15, 3), (69, .iload 5, 2), (71, .iconst 0, 1), (72, .iastore, 1), (73, .iinc 5 1, 3), (76, .goto (-73), 3), (79, .aload_n 1, 1), (80, .getfield 47, 3), (83, .iload_n 3, 1), (84, .iaload, 1), (85, .istore 5, 2), (87, .aload_n 0, 1), (88, .aload_n 1, 1), (89, .iload 5, 2), (91, .invokevirtual 50, 3), (94, .aload_n 0, 1), (95, .aload_n 0, 1), (96, .getfield 18, 3), (99, .iload 5, 2), (101, .iaload, 1), (102, .putfield 21, 3), (105, .aload_n 0, 1), (106, .getfield 21, 3), (109, .ldc 54, 2), (111, .if_icmp .lt 5, 3), (114, .iconst 0, 1), (115, .ireturn, 1), (116, .aload_n 0, 1), (117, .aload_n 1, 1), (118, .iload 5, 2), (120, .invokevirtual 55, 3), (123, .iconst 1, 1), (124, .ireturn, 1)] = true := by decide +kernel
theorem dX2_find_0 : decode cX2_find 0 = .ok (.iconst 0, 1) := decA_get dAX2_find 0 rfl
theorem dX2_find_1 : decode cX2_find 1 = .ok (.istore 5, 2) := decA_get dAX2_find 1 rfl
theorem dX2_find_3 : decode cX2_find 3 = .ok (.iload 5, 2) := decA_get dAX2_find 2 rfl
theorem dX2_find_5 : decode cX2_find 5 = .ok (.bipush 6, 2) := decA_get dAX2_find 3 rfl
theorem dX2_find_7 : decode cX2_find 7 = .ok (.if_icmp .ge 72, 3) := decA_get dAX2_find 4 rfl
theorem dX2_find_79 : decode cX2_find 79 = .ok (.aload_n 1, 1) := decA_get dAX2_find 40 rfl
theorem dX2_find_80 : decode cX2_find 80 = .ok (.getfield 47, 3) := decA_get dAX2_find 41 rfl
theorem in_X2_find_0 : ∀ w ∈ wsX00, w ∈ wsX2_find := fun w h => (gd_ids wi_X2_find wm_X2_find wi_X00 (by decide +kernel) w h).1
theorem dX2_find_83 : decode cX2_find 83 = .ok (.iload_n 3, 1) := decA_get dAX2_find 42 rfl
theorem dX2_find_84 : decode cX2_find 84 = .ok (.iaload, 1) := decA_get dAX2_find 43 rfl
theorem dX2_find_85 : decode cX2_find 85 = .ok (.istore 5, 2) := decA_get dAX2_find 44 rfl
theorem dX2_find_87 : decode cX2_find 87 = .ok (.aload_n 0, 1) := decA_get dAX2_find 45 rfl
theorem dX2_find_88 : decode cX2_find 88 = .ok (.aload_n 1, 1) := decA_get dAX2_find 46 rfl
theorem dX2_find_89 : decode cX2_find 89 = .ok (.iload 5, 2) := decA_get dAX2_find 47 rfl
theorem dX2_find_91 : decode cX2_find 91 = .ok (.invokevirtual 50, 3) := decA_get dAX2_find 48 rfl
set_option maxRecDepth 20000 in
theorem ggX2_find_X2_fillFewest : GoodIn wsX2_find wsX2_fillFewest := gd_ids wi_X2_find wm_X2_find wi_X2_fillFewest (by decide +kernel)
set_option maxRecDepth 20000 in
theorem gX2_find_X2_fillFewest : GoodIn wsX2_find (wsV RX2 50 RX2 yX2_fillFewest wsX2_fillFewest) := goodIn_app (gd_ids wi_X2_find wm_X2_find (b := [155, 156, 157, 153]) rfl (by decide +kernel)) ggX2_find_X2_fillFewest
theorem dX2_find_94 : decode cX2_find 94 = .ok (.aload_n 0, 1) := decA_get dAX2_find 49 rfl
theorem dX2_find_95 : decode cX2_find 95 = .ok (.aload_n 0, 1) := decA_get dAX2_find 50 rfl
theorem dX2_find_96 : decode cX2_find 96 = .ok (.getfield 18, 3) := decA_get dAX2_find 51 rfl
theorem in_X2_find_2 : ∀ w ∈ wsX20, w ∈ wsX2_find := fun w h => (gd_ids wi_X2_find wm_X2_find wi_X20 (by decide +kernel) w h).1
theorem dX2_find_99 : decode cX2_find 99 = .ok (.iload 5, 2) := decA_get dAX2_find 52 rfl
theorem dX2_find_101 : decode cX2_find 101 = .ok (.iaload, 1) := decA_get dAX2_find 53 rfl
theorem dX2_find_102 : decode cX2_find 102 = .ok (.putfield 21, 3) := decA_get dAX2_find 54 rfl
theorem dX2_find_105 : decode cX2_find 105 = .ok (.aload_n 0, 1) := decA_get dAX2_find 55 rfl
theorem dX2_find_106 : decode cX2_find 106 = .ok (.getfield 21, 3) := decA_get dAX2_find 56 rfl
theorem dX2_find_109 : decode cX2_find 109 = .ok (.ldc 54, 2) := decA_get dAX2_find 57 rfl
theorem dX2_find_111 : decode cX2_find 111 = .ok (.if_icmp .lt 5, 3) := decA_get dAX2_find 58 rfl
theorem dX2_find_116 : decode cX2_find 116 = .ok (.aload_n 0, 1) := decA_get dAX2_find 61 rfl
theorem dX2_find_117 : decode cX2_find 117 = .ok (.aload_n 1, 1) := decA_get dAX2_find 62 rfl
theorem dX2_find_118 : decode cX2_find 118 = .ok (.iload 5, 2) := decA_get dAX2_find 63 rfl
theorem dX2_find_120 : decode cX2_find 120 = .ok (.invokevirtual 55, 3) := decA_get dAX2_find 64 rfl
set_option maxRecDepth 20000 in
theorem ggX2_find_X2_choose : GoodIn wsX2_find wsX2_choose := gd_ids wi_X2_find wm_X2_find wi_X2_choose (by decide +kernel)
set_option maxRecDepth 20000 in
theorem gX2_find_X2_choose : GoodIn wsX2_find (wsV RX2 55 RX2 yX2_choose wsX2_choose) := goodIn_app (gd_ids wi_X2_find wm_X2_find (b := [158, 159, 160, 153]) rfl (by decide +kernel)) ggX2_find_X2_choose
theorem dX2_find_123 : decode cX2_find 123 = .ok (.iconst 1, 1) := decA_get dAX2_find 65 rfl
theorem dX2_find_124 : decode cX2_find 124 = .ok (.ireturn, 1) := decA_get dAX2_find 66 rfl
theorem dX2_find_114 : decode cX2_find 114 = .ok (.iconst 0, 1) := decA_get dAX2_find 59 rfl
theorem dX2_find_115 : decode cX2_find 115 = .ok (.ireturn, 1) := decA_get dAX2_find 60 rfl
theorem dX2_find_10 : decode cX2_find 10 = .ok (.iload 5, 2) := decA_get dAX2_find 5 rfl
theorem dX2_find_12 : decode cX2_find 12 = .ok (.aload_n 1, 1) := decA_get dAX2_find 6 rfl
theorem dX2_find_13 : decode cX2_find 13 = .ok (.getfield 29, 3) := decA_get dAX2_find 7 rfl
theorem dX2_find_16 : decode cX2_find 16 = .ok (.if_icmp .ge 18, 3) := decA_get dAX2_find 8 rfl
theorem dX2_find_34 : decode cX2_find 34 = .ok (.iconst 0, 1) := decA_get dAX2_find 16 rfl
theorem dX2_find_35 : decode cX2_find 35 = .ok (.istore 6, 2) := decA_get dAX2_find 17 rfl
theorem dX2_find_37 : decode cX2_find 37 = .ok (.aload_n 0, 1) := decA_get dAX2_find 18 rfl
theorem dX2_find_38 : decode cX2_find 38 = .ok (.getfield 9, 3) := decA_get dAX2_find 19 rfl
theorem dX2_find_41 : decode cX2_find 41 = .ok (.iload 5, 2) := decA_get dAX2_find 20 rfl
theorem dX2_find_43 : decode cX2_find 43 = .ok (.iload 6, 2) := decA_get dAX2_find 21 rfl
theorem dX2_find_45 : decode cX2_find 45 = .ok (.ifCond .eq 18, 3) := decA_get dAX2_find 22 rfl
theorem dX2_find_63 : decode cX2_find 63 = .ok (.iconst 0, 1) := decA_get dAX2_find 31 rfl
theorem dX2_find_64 : decode cX2_find 64 = .ok (.iastore, 1) := decA_get dAX2_find 32 rfl
theorem dX2_find_65 : decode cX2_find 65 = .ok (.aload_n 0, 1) := decA_get dAX2_find 33 rfl
theorem dX2_find_66 : decode cX2_find 66 = .ok (.getfield 15, 3) := decA_get dAX2_find 34 rfl
theorem dX2_find_69 : decode cX2_find 69 = .ok (.iload 5, 2) := decA_get dAX2_find 35 rfl
theorem dX2_find_71 : decode cX2_find 71 = .ok (.iconst 0, 1) := decA_get dAX2_find 36 rfl
theorem dX2_find_72 : decode cX2_find 72 = .ok (.iastore, 1) := decA_get dAX2_find 37 rfl
theorem dX2_find_73 : decode cX2_find 73 = .ok (.iinc 5 1, 3) := decA_get dAX2_find 38 rfl
theorem dX2_find_76 : decode cX2_find 76 = .ok (.goto (-73), 3) := decA_get dAX2_find 39 rfl
theorem dX2_find_19 : decode cX2_find 19 = .ok (.aload_n 1, 1) := decA_get dAX2_find 9 rfl
theorem dX2_find_20 : decode cX2_find 20 = .ok (.iload 5, 2) := decA_get dAX2_find 10 rfl
theorem dX2_find_22 : decode cX2_find 22 = .ok (.iload 4, 2) := decA_get dAX2_find 11 rfl
theorem dX2_find_24 : decode cX2_find 24 = .ok (.invokevirtual 40, 3) := decA_get dAX2_find 12 rfl
set_option maxRecDepth 20000 in
theorem ggX2_find_X0_does : GoodIn wsX2_find wsX0_does := gd_ids wi_X2_find wm_X2_find wi_X0_does (by decide +kernel)
theorem dX2_find_27 : decode cX2_find 27 = .ok (.ifCond .eq 7, 3) := decA_get dAX2_find 13 rfl
theorem dX2_find_30 : decode cX2_find 30 = .ok (.iconst 1, 1) := decA_get dAX2_find 14 rfl
theorem dX2_find_31 : decode cX2_find 31 = .ok (.goto 4, 3) := decA_get dAX2_find 15 rfl
theorem dX2_find_48 : decode cX2_find 48 = .ok (.aload_n 2, 1) := decA_get dAX2_find 23 rfl
theorem dX2_find_49 : decode cX2_find 49 = .ok (.aload_n 1, 1) := decA_get dAX2_find 24 rfl
theorem dX2_find_50 : decode cX2_find 50 = .ok (.getfield 44, 3) := decA_get dAX2_find 25 rfl
theorem dX2_find_53 : decode cX2_find 53 = .ok (.iload_n 3, 1) := decA_get dAX2_find 26 rfl
theorem dX2_find_54 : decode cX2_find 54 = .ok (.iaload, 1) := decA_get dAX2_find 27 rfl
theorem dX2_find_55 : decode cX2_find 55 = .ok (.iload 5, 2) := decA_get dAX2_find 28 rfl
theorem dX2_find_57 : decode cX2_find 57 = .ok (.invokevirtual 34, 3) := decA_get dAX2_find 29 rfl
set_option maxRecDepth 20000 in
theorem ggX2_find_X1_held : GoodIn wsX2_find wsX1_held := gd_ids wi_X2_find wm_X2_find wi_X1_held (by decide +kernel)
theorem dX2_find_60 : decode cX2_find 60 = .ok (.goto 4, 3) := decA_get dAX2_find 30 rfl
set_option maxHeartbeats 4000000 in
set_option maxRecDepth 100000 in
theorem g_find (l : Launch) (D : va_G) (cI cB cZ cN : ClassId) (Yh : Nat) (Ya0 : Nat) (Ya1 : Nat) (Ya2 : Nat) (YS : Nat → Nat → Nat) (Lh : Nat) (La1 : Nat) (La2 : Nat) (La4 : Nat) (La5 : Nat) (La7 : Nat) (La8 : Nat) (La9 : Nat) (LS : Nat → Nat → Nat) (Nh : Nat) (Na0 : Nat) (Na1 : Nat) (NS : Nat → Nat → Nat) (v_d : Nat) (v_b : Nat) (hL : LandOk LS) (hN : NowOk NS) (hY : PayOk YS) (hd : v_d < 5) (hb2 : v_b < 5) : Ci (S := (Nat → Nat → Nat)) l D cI cB cZ cN yX2_find wsX2_find ({ frames := 2, cells := 0, slots := 0, locals := 52 } : Room) [.ref Yh, .ref Lh, .ref Nh, .int (nI v_d), .int (nI v_b)] [(Yh, .inr (2, [.ref Ya0, .ref Ya1, .ref Ya2, .int (nI (YS 3 0))])), (Ya0, .inl (cI, 6, .inl (nF (YS 0)))), (Ya1, .inl (cI, 6, .inl (nF (YS 1)))), (Ya2, .inl (cI, 427, .inl (nF (YS 2)))), (Lh, .inr (0, [.int (nI (LS 0 0)), .ref La1, .ref La2, .int (nI (LS 3 0)), .ref La4, .ref La5, .int (nI (LS 6 0)), .ref La7, .ref La8, .ref La9, .int (nI (LS 10 0)), .int (nI (LS 11 0))])), (La1, .inl (cI, 6, .inl (nF (LS 1)))), (La2, .inl (cI, 6, .inl (nF (LS 2)))), (La4, .inl (cI, 5, .inl (nF (LS 4)))), (La5, .inl (cI, 30, .inl (nF (LS 5)))), (La7, .inl (cI, 5, .inl (nF (LS 7)))), (La8, .inl (cI, 5, .inl (nF (LS 8)))), (La9, .inl (cI, 5, .inl (nF (LS 9)))), (Nh, .inr (1, [.ref Na0, .ref Na1, .int (nI (NS 2 0))])), (Na0, .inl (cI, 36, .inl (nF (NS 0)))), (Na1, .inl (cI, 360, .inl (nF (NS 1))))] (fun (r : Int32) (u : (Nat → Nat → Nat)) => (PayOk u ∧ PI (u 0) (u 1) (fun c => NS 0 (LS 7 v_d * 6 + c)) (LS 0 0) 6) ∧ (r = nI 0 ∨ r = nI 1)) (fun u => [(Yh, .inr (2, [.ref Ya0, .ref Ya1, .ref Ya2, .int (nI (u 3 0))])), (Ya0, .inl (cI, 6, .inl (nF (u 0)))), (Ya1, .inl (cI, 6, .inl (nF (u 1)))), (Ya2, .inl (cI, 427, .inl (nF (u 2)))), (Lh, .inr (0, [.int (nI (LS 0 0)), .ref La1, .ref La2, .int (nI (LS 3 0)), .ref La4, .ref La5, .int (nI (LS 6 0)), .ref La7, .ref La8, .ref La9, .int (nI (LS 10 0)), .int (nI (LS 11 0))])), (La1, .inl (cI, 6, .inl (nF (LS 1)))), (La2, .inl (cI, 6, .inl (nF (LS 2)))), (La4, .inl (cI, 5, .inl (nF (LS 4)))), (La5, .inl (cI, 30, .inl (nF (LS 5)))), (La7, .inl (cI, 5, .inl (nF (LS 7)))), (La8, .inl (cI, 5, .inl (nF (LS 8)))), (La9, .inl (cI, 5, .inl (nF (LS 9)))), (Nh, .inr (1, [.ref Na0, .ref Na1, .int (nI (NS 2 0))])), (Na0, .inl (cI, 36, .inl (nF (NS 0)))), (Na1, .inl (cI, 360, .inl (nF (NS 1))))]) := by
  refine bx_of (D := D) (cI := cI) (cB := cB) (cZ := cZ) (cN := cN) (y := yX2_find) (wd := wsX2_find) (rm := ({ frames := 2, cells := 0, slots := 0, locals := 52 } : Room)) (av := [.ref Yh, .ref Lh, .ref Nh, .int (nI v_d), .int (nI v_b)]) (wc := [(Yh, .inr (2, [.ref Ya0, .ref Ya1, .ref Ya2, .int (nI (YS 3 0))])), (Ya0, .inl (cI, 6, .inl (nF (YS 0)))), (Ya1, .inl (cI, 6, .inl (nF (YS 1)))), (Ya2, .inl (cI, 427, .inl (nF (YS 2)))), (Lh, .inr (0, [.int (nI (LS 0 0)), .ref La1, .ref La2, .int (nI (LS 3 0)), .ref La4, .ref La5, .int (nI (LS 6 0)), .ref La7, .ref La8, .ref La9, .int (nI (LS 10 0)), .int (nI (LS 11 0))])), (La1, .inl (cI, 6, .inl (nF (LS 1)))), (La2, .inl (cI, 6, .inl (nF (LS 2)))), (La4, .inl (cI, 5, .inl (nF (LS 4)))), (La5, .inl (cI, 30, .inl (nF (LS 5)))), (La7, .inl (cI, 5, .inl (nF (LS 7)))), (La8, .inl (cI, 5, .inl (nF (LS 8)))), (La9, .inl (cI, 5, .inl (nF (LS 9)))), (Nh, .inr (1, [.ref Na0, .ref Na1, .int (nI (NS 2 0))])), (Na0, .inl (cI, 36, .inl (nF (NS 0)))), (Na1, .inl (cI, 360, .inl (nF (NS 1))))]) (cc := cX2_find) (maxL := 7) (ret := (some .boolean)) (Qc := fun _ A => va_Qi (S := (Nat → Nat → Nat)) (fun (r : Int32) (u : (Nat → Nat → Nat)) => (PayOk u ∧ PI (u 0) (u 1) (fun c => NS 0 (LS 7 v_d * 6 + c)) (LS 0 0) 6) ∧ (r = nI 0 ∨ r = nI 1)) (Aft D (fun (u : (Nat → Nat → Nat)) => [(Yh, .inr (2, [.ref Ya0, .ref Ya1, .ref Ya2, .int (nI (u 3 0))])), (Ya0, .inl (cI, 6, .inl (nF (u 0)))), (Ya1, .inl (cI, 6, .inl (nF (u 1)))), (Ya2, .inl (cI, 427, .inl (nF (u 2)))), (Lh, .inr (0, [.int (nI (LS 0 0)), .ref La1, .ref La2, .int (nI (LS 3 0)), .ref La4, .ref La5, .int (nI (LS 6 0)), .ref La7, .ref La8, .ref La9, .int (nI (LS 10 0)), .int (nI (LS 11 0))])), (La1, .inl (cI, 6, .inl (nF (LS 1)))), (La2, .inl (cI, 6, .inl (nF (LS 2)))), (La4, .inl (cI, 5, .inl (nF (LS 4)))), (La5, .inl (cI, 30, .inl (nF (LS 5)))), (La7, .inl (cI, 5, .inl (nF (LS 7)))), (La8, .inl (cI, 5, .inl (nF (LS 8)))), (La9, .inl (cI, 5, .inl (nF (LS 9)))), (Nh, .inr (1, [.ref Na0, .ref Na1, .int (nI (NS 2 0))])), (Na0, .inl (cI, 36, .inl (nF (NS 0)))), (Na1, .inl (cI, 360, .inl (nF (NS 1))))]) A) A) (by decide) rfl (Nat.le_of_ble_eq_true rfl) ?_
  intro p e s m below meth c A H locs ⟨hx, hb, hr, hml, hown, hts, hlk, hnm⟩ hK hP hD hS hA ls hl
  have hl : lv_has ls 7 [(0, .ref Yh), (1, .ref Lh), (2, .ref Nh), (3, .int (nI v_d)), (4, .int (nI v_b))] := hl
  have hown : s.vm.findClass RX2 = some m.cls := hown
  have hL0 := hL
  obtain ⟨bl0, bl3, bl6, bl10, bl11, bl1, bl2, bl4, bl5, bl7, bl8, bl9⟩ := hL
  have bn0 := hN.c99
  refine lv_iconst (v := nI 0) hx hb dX2_find_0 (by decide) ?_
  refine lv_istore (lv' := [(5, .int (nI 0)), (0, .ref Yh), (1, .ref Lh), (2, .ref Nh), (3, .int (nI v_d)), (4, .int (nI v_b))]) hx hb dX2_find_1 hl (by decide) rfl (fun ls hl => ?_)
  refine loopS (σ := (Nat → Nat) × (Nat → Nat)) (D := D) (A := A) (fun i1 z1 => PI z1.1 z1.2 (fun c => NS 0 (LS 7 v_d * 6 + c)) (LS 0 0) i1) (fun i1 z1 => [(Yh, .inr (2, [.ref Ya0, .ref Ya1, .ref Ya2, .int (nI (YS 3 0))])), (Ya0, .inl (cI, 6, .inl (nF (z1.1)))), (Ya1, .inl (cI, 6, .inl (nF (z1.2)))), (Ya2, .inl (cI, 427, .inl (nF (YS 2)))), (Lh, .inr (0, [.int (nI (LS 0 0)), .ref La1, .ref La2, .int (nI (LS 3 0)), .ref La4, .ref La5, .int (nI (LS 6 0)), .ref La7, .ref La8, .ref La9, .int (nI (LS 10 0)), .int (nI (LS 11 0))])), (La1, .inl (cI, 6, .inl (nF (LS 1)))), (La2, .inl (cI, 6, .inl (nF (LS 2)))), (La4, .inl (cI, 5, .inl (nF (LS 4)))), (La5, .inl (cI, 30, .inl (nF (LS 5)))), (La7, .inl (cI, 5, .inl (nF (LS 7)))), (La8, .inl (cI, 5, .inl (nF (LS 8)))), (La9, .inl (cI, 5, .inl (nF (LS 9)))), (Nh, .inr (1, [.ref Na0, .ref Na1, .int (nI (NS 2 0))])), (Na0, .inl (cI, 36, .inl (nF (NS 0)))), (Na1, .inl (cI, 360, .inl (nF (NS 1))))]) (fun i1 z1 => [(0, .ref Yh), (1, .ref Lh), (2, .ref Nh), (3, .int (nI v_d)), (4, .int (nI v_b)), (5, .int (nI i1))]) 3 7 6 0 (Nat.zero_le _) ?_ ?_ (YS 0, YS 1) ⟨hY.1, hY.2.1, fun j hj => absurd hj (by omega)⟩ _ _ ls (by first | exact hP) (by first | exact hD) hS (lv_sub hl [1, 2, 3, 4, 5, 0] rfl)
  · intro z1 hI1 H locs ls hP hD hS hl
    have hl : lv_has ls 7 [(0, .ref Yh), (1, .ref Lh), (2, .ref Nh), (3, .int (nI v_d)), (4, .int (nI v_b)), (5, .int (nI 6))] := hl
    obtain ⟨hP, hD⟩ : wPD D A [(Yh, .inr (2, [.ref Ya0, .ref Ya1, .ref Ya2, .int (nI (YS 3 0))])), (Ya0, .inl (cI, 6, .inl (nF (z1.1)))), (Ya1, .inl (cI, 6, .inl (nF (z1.2)))), (Ya2, .inl (cI, 427, .inl (nF (YS 2)))), (Lh, .inr (0, [.int (nI (LS 0 0)), .ref La1, .ref La2, .int (nI (LS 3 0)), .ref La4, .ref La5, .int (nI (LS 6 0)), .ref La7, .ref La8, .ref La9, .int (nI (LS 10 0)), .int (nI (LS 11 0))])), (La1, .inl (cI, 6, .inl (nF (LS 1)))), (La2, .inl (cI, 6, .inl (nF (LS 2)))), (La4, .inl (cI, 5, .inl (nF (LS 4)))), (La5, .inl (cI, 30, .inl (nF (LS 5)))), (La7, .inl (cI, 5, .inl (nF (LS 7)))), (La8, .inl (cI, 5, .inl (nF (LS 8)))), (La9, .inl (cI, 5, .inl (nF (LS 9)))), (Nh, .inr (1, [.ref Na0, .ref Na1, .int (nI (NS 2 0))])), (Na0, .inl (cI, 36, .inl (nF (NS 0)))), (Na1, .inl (cI, 360, .inl (nF (NS 1))))] H := ⟨hP, hD⟩
    refine lv_iload hx hb dX2_find_3 (lv_at hl 5 rfl) ?_
    refine lv_bipush (v := nI 6) hx hb dX2_find_5 (by decide) ?_
    refine nb_icmp_ge (tgt := 79) hx hb dX2_find_7 (by decide) (by omega) (by omega) (fun hq1 => ?_) (fun hq1 => absurd hq1 (by omega))
    refine lv_aload_n hx hb dX2_find_79 rfl (lv_at hl 1 rfl) ?_
    refine va_getN (D := D) (ci := 0) (v := .ref La9) (C := RX0) (T := TX0) (N := 12) hx hb hts in_X2_find_0 hown hK.1 hP 4 rfl rfl 9 (by decide) (nfX2_47 hK.2) (fun _ h9 => h9) rfl dX2_find_80 ?_
    refine lv_iload_n hx hb dX2_find_83 rfl (lv_at hl 3 rfl) ?_
    refine va_iald hx hb hK.1 hP 11 0 rfl rfl (vp_in_nI (n := v_d) (N := 5) (by omega) (by decide)) dX2_find_84 ?_
    refine set_i (y := nI (LS 9 v_d)) (nF_ld (by omega)) ?_
    have b2 := bl9 v_d
    refine lv_istore (lv' := [(5, .int (nI (LS 9 v_d))), (0, .ref Yh), (1, .ref Lh), (2, .ref Nh), (3, .int (nI v_d)), (4, .int (nI v_b))]) hx hb dX2_find_85 hl (by decide) rfl (fun ls hl => ?_)
    refine lv_aload_n hx hb dX2_find_87 rfl (lv_at hl 1 rfl) ?_
    refine lv_aload_n hx hb dX2_find_88 rfl (lv_at hl 2 rfl) ?_
    refine lv_iload hx hb dX2_find_89 (lv_at hl 0 rfl) ?_
    refine be_v (free := fun _ => False) (wr := [(Nh, .inr (1, [.ref Na0, .ref Na1, .int (nI (NS 2 0))])), (Na0, .inl (cI, 36, .inl (nF (NS 0)))), (Na1, .inl (cI, 360, .inl (nF (NS 1))))]) (ru_V (As := [.ref Lh, .int (nI (LS 9 v_d))]) (rest := []) ⟨hx, hb, hml, hown, hts⟩ (g_fillFewest l D cI cB cZ cN Yh Ya0 Ya1 Ya2 (ua (ua YS 0 (z1.1)) 1 (z1.2)) Lh La1 La2 La4 La5 La7 La8 La9 LS (LS 9 v_d) hL0 hI1.1 hY.2.2.1 (bl9 _) H.size) gX2_find_X2_fillFewest rfl ⟨rfl, by decide, by decide, (show Option.map (fun d => d.parameters.length) (parseMethodDescriptor yX2_fillFewest.desc) = some 2 by decide +kernel)⟩ ⟨Nat.le_of_ble_eq_true rfl, Nat.le_of_ble_eq_true rfl⟩ hK hP hD 2 0 rfl rfl [0, 1, 2, 3, 4, 5, 6, 7, 8, 9, 10, 11] (by decide) rfl hl.1 rfl (Nat.le_of_ble_eq_true rfl) dX2_find_91 ⟨Nat.le_of_ble_eq_true rfl, Nat.le_of_ble_eq_true rfl⟩) hP hD hS hA [0, 1, 2, 3, 4, 5, 6, 7, 8, 9, 10, 11] [12, 13, 14] rfl rfl (by decide) (by decide) (fun u3 H locs w5 hP hD hS => ?_)
    obtain ⟨g6, rfl, hq7⟩ := w5
    obtain ⟨hP, hD⟩ : wPD D A [(Nh, .inr (1, [.ref Na0, .ref Na1, .int (nI (NS 2 0))])), (Na0, .inl (cI, 36, .inl (nF (NS 0)))), (Na1, .inl (cI, 360, .inl (nF (NS 1)))), (Yh, .inr (2, [.ref Ya0, .ref Ya1, .ref Ya2, .int (nI (YS 3 0))])), (Ya0, .inl (cI, 6, .inl (nF (z1.1)))), (Ya1, .inl (cI, 6, .inl (nF (z1.2)))), (Ya2, .inl (cI, 427, .inl (nF (g6)))), (Lh, .inr (0, [.int (nI (LS 0 0)), .ref La1, .ref La2, .int (nI (LS 3 0)), .ref La4, .ref La5, .int (nI (LS 6 0)), .ref La7, .ref La8, .ref La9, .int (nI (LS 10 0)), .int (nI (LS 11 0))])), (La1, .inl (cI, 6, .inl (nF (LS 1)))), (La2, .inl (cI, 6, .inl (nF (LS 2)))), (La4, .inl (cI, 5, .inl (nF (LS 4)))), (La5, .inl (cI, 30, .inl (nF (LS 5)))), (La7, .inl (cI, 5, .inl (nF (LS 7)))), (La8, .inl (cI, 5, .inl (nF (LS 8)))), (La9, .inl (cI, 5, .inl (nF (LS 9))))] H := ⟨hP, hD⟩
    refine lv_aload_n hx hb dX2_find_94 rfl (lv_at hl 1 rfl) ?_
    refine lv_aload_n hx hb dX2_find_95 rfl (lv_at hl 1 rfl) ?_
    refine va_get (D := D) (ci := 2) (v := .ref Ya2) (C := RX2) (T := TX2) (N := 4) hx hb hts in_X2_find_2 hown hK.1 hP 3 rfl rfl 2 (by decide) (hts (.fieldLink RX2 18 "ChildCoins$Payment" "fewest" "[I") (List.mem_of_getElem? (i := 3) rfl)) (fun _ h9 => h9) rfl dX2_find_96 ?_
    refine lv_iload hx hb dX2_find_99 (lv_at hl 0 rfl) ?_
    refine va_iald hx hb hK.1 hP 6 0 rfl rfl (vp_in_nI (n := LS 9 v_d) (N := 427) (by omega) (by decide)) dX2_find_101 ?_
    refine set_i (y := nI (g6 (LS 9 v_d))) (nF_ld (by omega)) ?_
    have bfw := hq7 (LS 9 v_d)
    refine va_put (D := D) (ci := 2) (v := .int (nI (g6 (LS 9 v_d)))) (ty := tyX2 3) (C := RX2) (T := TX2) (N := 4) hx hb hts in_X2_find_2 tyX2 tyX2_ok nmX2 hown hK.1 hP hD hS 3 rfl rfl 3 (by decide) (hts (.fieldLink RX2 21 "ChildCoins$Payment" "total" "I") (List.mem_of_getElem? (i := 4) rfl)) (fun _ h9 => h9) rfl (tyX2_ok 3 (by decide)) rfl rfl (Nat.le_of_ble_eq_true rfl) dX2_find_102 (fun H locs hP hD hS => ?_)
    obtain ⟨hP, hD⟩ : wPD D A [(Nh, .inr (1, [.ref Na0, .ref Na1, .int (nI (NS 2 0))])), (Na0, .inl (cI, 36, .inl (nF (NS 0)))), (Na1, .inl (cI, 360, .inl (nF (NS 1)))), (Yh, .inr (2, [.ref Ya0, .ref Ya1, .ref Ya2, .int (nI (g6 (LS 9 v_d)))])), (Ya0, .inl (cI, 6, .inl (nF (z1.1)))), (Ya1, .inl (cI, 6, .inl (nF (z1.2)))), (Ya2, .inl (cI, 427, .inl (nF (g6)))), (Lh, .inr (0, [.int (nI (LS 0 0)), .ref La1, .ref La2, .int (nI (LS 3 0)), .ref La4, .ref La5, .int (nI (LS 6 0)), .ref La7, .ref La8, .ref La9, .int (nI (LS 10 0)), .int (nI (LS 11 0))])), (La1, .inl (cI, 6, .inl (nF (LS 1)))), (La2, .inl (cI, 6, .inl (nF (LS 2)))), (La4, .inl (cI, 5, .inl (nF (LS 4)))), (La5, .inl (cI, 30, .inl (nF (LS 5)))), (La7, .inl (cI, 5, .inl (nF (LS 7)))), (La8, .inl (cI, 5, .inl (nF (LS 8)))), (La9, .inl (cI, 5, .inl (nF (LS 9))))] H := ⟨hP, hD⟩
    refine lv_aload_n hx hb dX2_find_105 rfl (lv_at hl 1 rfl) ?_
    refine va_get (D := D) (ci := 2) (v := .int (nI (g6 (LS 9 v_d)))) (C := RX2) (T := TX2) (N := 4) hx hb hts in_X2_find_2 hown hK.1 hP 3 rfl rfl 3 (by decide) (hts (.fieldLink RX2 21 "ChildCoins$Payment" "total" "I") (List.mem_of_getElem? (i := 4) rfl)) (fun _ h9 => h9) rfl dX2_find_106 ?_
    refine lv_ldc (v := 1000000) hx hb hown (hts (.constant RX2 54 (1000000)) (List.mem_of_getElem? (i := 5) rfl)) dX2_find_109 ?_
    refine set_i (y := nI 1000000) (by decide) ?_
    refine nb_icmp_lt (tgt := 116) hx hb dX2_find_111 (by decide) (by omega) (by omega) (fun hq8 => ?_) (fun hq8 => ?_)
    · skip
      refine lv_aload_n hx hb dX2_find_116 rfl (lv_at hl 1 rfl) ?_
      refine lv_aload_n hx hb dX2_find_117 rfl (lv_at hl 2 rfl) ?_
      refine lv_iload hx hb dX2_find_118 (lv_at hl 0 rfl) ?_
      refine be_v (free := fun _ => False) (wr := [(Nh, .inr (1, [.ref Na0, .ref Na1, .int (nI (NS 2 0))])), (Na0, .inl (cI, 36, .inl (nF (NS 0)))), (Na1, .inl (cI, 360, .inl (nF (NS 1))))]) (ru_V (As := [.ref Lh, .int (nI (LS 9 v_d))]) (rest := []) ⟨hx, hb, hml, hown, hts⟩ (g_choose l D cI cB cZ cN Yh Ya0 Ya1 Ya2 (ua (ua (ua (ua YS 0 (z1.1)) 1 (z1.2)) 2 (g6)) 3 (fun _ => g6 (LS 9 v_d))) Lh La1 La2 La4 La5 La7 La8 La9 LS (LS 9 v_d) hL0 hI1.1 hI1.2.1 hq7 (bl9 _) H.size) gX2_find_X2_choose rfl ⟨rfl, by decide, by decide, (show Option.map (fun d => d.parameters.length) (parseMethodDescriptor yX2_choose.desc) = some 2 by decide +kernel)⟩ ⟨Nat.le_of_ble_eq_true rfl, Nat.le_of_ble_eq_true rfl⟩ hK hP hD 2 3 rfl rfl [3, 4, 5, 6, 7, 8, 9, 10, 11, 12, 13, 14] (by decide) rfl hl.1 rfl (Nat.le_of_ble_eq_true rfl) dX2_find_120 ⟨Nat.le_of_ble_eq_true rfl, Nat.le_of_ble_eq_true rfl⟩) hP hD hS hA [3, 4, 5, 6, 7, 8, 9, 10, 11, 12, 13, 14] [0, 1, 2] rfl rfl (by decide) (by decide) (fun u9 H locs w11 hP hD hS => ?_)
      obtain ⟨g12, rfl, hq13⟩ := w11
      obtain ⟨hP, hD⟩ : wPD D A [(Nh, .inr (1, [.ref Na0, .ref Na1, .int (nI (NS 2 0))])), (Na0, .inl (cI, 36, .inl (nF (NS 0)))), (Na1, .inl (cI, 360, .inl (nF (NS 1)))), (Yh, .inr (2, [.ref Ya0, .ref Ya1, .ref Ya2, .int (nI (g6 (LS 9 v_d)))])), (Ya0, .inl (cI, 6, .inl (nF (z1.1)))), (Ya1, .inl (cI, 6, .inl (nF (g12)))), (Ya2, .inl (cI, 427, .inl (nF (g6)))), (Lh, .inr (0, [.int (nI (LS 0 0)), .ref La1, .ref La2, .int (nI (LS 3 0)), .ref La4, .ref La5, .int (nI (LS 6 0)), .ref La7, .ref La8, .ref La9, .int (nI (LS 10 0)), .int (nI (LS 11 0))])), (La1, .inl (cI, 6, .inl (nF (LS 1)))), (La2, .inl (cI, 6, .inl (nF (LS 2)))), (La4, .inl (cI, 5, .inl (nF (LS 4)))), (La5, .inl (cI, 30, .inl (nF (LS 5)))), (La7, .inl (cI, 5, .inl (nF (LS 7)))), (La8, .inl (cI, 5, .inl (nF (LS 8)))), (La9, .inl (cI, 5, .inl (nF (LS 9))))] H := ⟨hP, hD⟩
      refine lv_iconst (v := nI 1) hx hb dX2_find_123 (by decide) ?_
      exact en_z hx hb hr hlk hP hD hS (ua (ua (ua (ua YS 0 (z1.1)) 1 (g12)) 2 (g6)) 3 (fun _ => g6 (LS 9 v_d))) [3, 4, 5, 6, 7, 8, 9, 10, 11, 12, 13, 14, 0, 1, 2] (by decide) rfl (Nat.le_of_ble_eq_true rfl) (Nat.le_of_ble_eq_true rfl) dX2_find_124 rfl ⟨pay_set (PI_us hI1 hq13) hq7 (hq7 _) rfl rfl rfl rfl, Or.inr rfl⟩
    · skip
      refine lv_iconst (v := nI 0) hx hb dX2_find_114 (by decide) ?_
      exact en_z hx hb hr hlk hP hD hS (ua (ua (ua (ua YS 0 (z1.1)) 1 (z1.2)) 2 (g6)) 3 (fun _ => g6 (LS 9 v_d))) [3, 4, 5, 6, 7, 8, 9, 10, 11, 12, 13, 14, 0, 1, 2] (by decide) rfl (Nat.le_of_ble_eq_true rfl) (Nat.le_of_ble_eq_true rfl) dX2_find_115 rfl ⟨pay_set hI1 hq7 (hq7 _) rfl rfl rfl rfl, Or.inl rfl⟩
  · intro i1 hi01 hi1 z1 hI1 ih1 H locs ls hP hD hS hl
    have hl : lv_has ls 7 [(0, .ref Yh), (1, .ref Lh), (2, .ref Nh), (3, .int (nI v_d)), (4, .int (nI v_b)), (5, .int (nI i1))] := hl
    obtain ⟨hP, hD⟩ : wPD D A [(Yh, .inr (2, [.ref Ya0, .ref Ya1, .ref Ya2, .int (nI (YS 3 0))])), (Ya0, .inl (cI, 6, .inl (nF (z1.1)))), (Ya1, .inl (cI, 6, .inl (nF (z1.2)))), (Ya2, .inl (cI, 427, .inl (nF (YS 2)))), (Lh, .inr (0, [.int (nI (LS 0 0)), .ref La1, .ref La2, .int (nI (LS 3 0)), .ref La4, .ref La5, .int (nI (LS 6 0)), .ref La7, .ref La8, .ref La9, .int (nI (LS 10 0)), .int (nI (LS 11 0))])), (La1, .inl (cI, 6, .inl (nF (LS 1)))), (La2, .inl (cI, 6, .inl (nF (LS 2)))), (La4, .inl (cI, 5, .inl (nF (LS 4)))), (La5, .inl (cI, 30, .inl (nF (LS 5)))), (La7, .inl (cI, 5, .inl (nF (LS 7)))), (La8, .inl (cI, 5, .inl (nF (LS 8)))), (La9, .inl (cI, 5, .inl (nF (LS 9)))), (Nh, .inr (1, [.ref Na0, .ref Na1, .int (nI (NS 2 0))])), (Na0, .inl (cI, 36, .inl (nF (NS 0)))), (Na1, .inl (cI, 360, .inl (nF (NS 1))))] H := ⟨hP, hD⟩
    refine lv_iload hx hb dX2_find_3 (lv_at hl 5 rfl) ?_
    refine lv_bipush (v := nI 6) hx hb dX2_find_5 (by decide) ?_
    refine nb_icmp_ge (tgt := 79) hx hb dX2_find_7 (by decide) (by omega) (by omega) (fun hq14 => absurd hq14 (by omega)) (fun hq14 => ?_)
    refine lv_iload hx hb dX2_find_10 (lv_at hl 5 rfl) ?_
    refine lv_aload_n hx hb dX2_find_12 rfl (lv_at hl 1 rfl) ?_
    refine va_getN (D := D) (ci := 0) (v := .int (nI (LS 0 0))) (C := RX0) (T := TX0) (N := 12) hx hb hts in_X2_find_0 hown hK.1 hP 4 rfl rfl 0 (by decide) (nfX2_29 hK.2) (fun _ h9 => h9) rfl dX2_find_13 ?_
    refine nb_icmp_ge (tgt := 34) hx hb dX2_find_16 (by decide) (by omega) (by omega) (fun hq15 => ?_) (fun hq15 => ?_)
    · skip
      refine lv_iconst (v := nI 0) hx hb dX2_find_34 (by decide) ?_
      refine lv_istore (lv' := [(6, .int (nI 0)), (0, .ref Yh), (1, .ref Lh), (2, .ref Nh), (3, .int (nI v_d)), (4, .int (nI v_b)), (5, .int (nI i1))]) hx hb dX2_find_35 hl (by decide) rfl (fun ls hl => ?_)
      refine lv_aload_n hx hb dX2_find_37 rfl (lv_at hl 1 rfl) ?_
      refine va_get (D := D) (ci := 2) (v := .ref Ya0) (C := RX2) (T := TX2) (N := 4) hx hb hts in_X2_find_2 hown hK.1 hP 0 rfl rfl 0 (by decide) (hts (.fieldLink RX2 9 "ChildCoins$Payment" "stock" "[I") (List.mem_of_getElem? (i := 1) rfl)) (fun _ h9 => h9) rfl dX2_find_38 ?_
      refine lv_iload hx hb dX2_find_41 (lv_at hl 6 rfl) ?_
      refine lv_iload hx hb dX2_find_43 (lv_at hl 0 rfl) ?_
      refine nb_if_eq (tgt := 63) hx hb dX2_find_45 (by decide) (by omega) (fun hq16 => ?_) (fun hq16 => absurd hq16 (by omega))
      refine lv_iconst (v := nI 0) hx hb dX2_find_63 (by decide) ?_
      refine va_iast hx hb hK.1 hP hD hS 1 0 rfl rfl (vp_in_nI (n := i1) (N := 6) (by omega) (by decide)) dX2_find_64 (fun H locs hP hD hS => ?_)
      obtain ⟨hP, hD⟩ : wPD D A [(Yh, .inr (2, [.ref Ya0, .ref Ya1, .ref Ya2, .int (nI (YS 3 0))])), (Ya0, .inl (cI, 6, .inl (upd (nF (z1.1)) (nI i1).toNatClampNeg (nI 0)))), (Ya1, .inl (cI, 6, .inl (nF (z1.2)))), (Ya2, .inl (cI, 427, .inl (nF (YS 2)))), (Lh, .inr (0, [.int (nI (LS 0 0)), .ref La1, .ref La2, .int (nI (LS 3 0)), .ref La4, .ref La5, .int (nI (LS 6 0)), .ref La7, .ref La8, .ref La9, .int (nI (LS 10 0)), .int (nI (LS 11 0))])), (La1, .inl (cI, 6, .inl (nF (LS 1)))), (La2, .inl (cI, 6, .inl (nF (LS 2)))), (La4, .inl (cI, 5, .inl (nF (LS 4)))), (La5, .inl (cI, 30, .inl (nF (LS 5)))), (La7, .inl (cI, 5, .inl (nF (LS 7)))), (La8, .inl (cI, 5, .inl (nF (LS 8)))), (La9, .inl (cI, 5, .inl (nF (LS 9)))), (Nh, .inr (1, [.ref Na0, .ref Na1, .int (nI (NS 2 0))])), (Na0, .inl (cI, 36, .inl (nF (NS 0)))), (Na1, .inl (cI, 360, .inl (nF (NS 1))))] H := ⟨hP, hD⟩
      rw [nF_st (by omega)] at hP hD
      refine lv_aload_n hx hb dX2_find_65 rfl (lv_at hl 1 rfl) ?_
      refine va_get (D := D) (ci := 2) (v := .ref Ya1) (C := RX2) (T := TX2) (N := 4) hx hb hts in_X2_find_2 hown hK.1 hP 0 rfl rfl 1 (by decide) (hts (.fieldLink RX2 15 "ChildCoins$Payment" "used" "[I") (List.mem_of_getElem? (i := 2) rfl)) (fun _ h9 => h9) rfl dX2_find_66 ?_
      refine lv_iload hx hb dX2_find_69 (lv_at hl 6 rfl) ?_
      refine lv_iconst (v := nI 0) hx hb dX2_find_71 (by decide) ?_
      refine va_iast hx hb hK.1 hP hD hS 2 0 rfl rfl (vp_in_nI (n := i1) (N := 6) (by omega) (by decide)) dX2_find_72 (fun H locs hP hD hS => ?_)
      obtain ⟨hP, hD⟩ : wPD D A [(Yh, .inr (2, [.ref Ya0, .ref Ya1, .ref Ya2, .int (nI (YS 3 0))])), (Ya0, .inl (cI, 6, .inl (nF (un (z1.1) i1 0)))), (Ya1, .inl (cI, 6, .inl (upd (nF (z1.2)) (nI i1).toNatClampNeg (nI 0)))), (Ya2, .inl (cI, 427, .inl (nF (YS 2)))), (Lh, .inr (0, [.int (nI (LS 0 0)), .ref La1, .ref La2, .int (nI (LS 3 0)), .ref La4, .ref La5, .int (nI (LS 6 0)), .ref La7, .ref La8, .ref La9, .int (nI (LS 10 0)), .int (nI (LS 11 0))])), (La1, .inl (cI, 6, .inl (nF (LS 1)))), (La2, .inl (cI, 6, .inl (nF (LS 2)))), (La4, .inl (cI, 5, .inl (nF (LS 4)))), (La5, .inl (cI, 30, .inl (nF (LS 5)))), (La7, .inl (cI, 5, .inl (nF (LS 7)))), (La8, .inl (cI, 5, .inl (nF (LS 8)))), (La9, .inl (cI, 5, .inl (nF (LS 9)))), (Nh, .inr (1, [.ref Na0, .ref Na1, .int (nI (NS 2 0))])), (Na0, .inl (cI, 36, .inl (nF (NS 0)))), (Na1, .inl (cI, 360, .inl (nF (NS 1))))] H := ⟨hP, hD⟩
      rw [nF_st (by omega)] at hP hD
      refine lv_iinc (v := nI (i1 + 1)) (lv' := [(5, .int (nI (i1 + 1))), (6, .int (nI 0)), (0, .ref Yh), (1, .ref Lh), (2, .ref Nh), (3, .int (nI v_d)), (4, .int (nI v_b))]) hx hb dX2_find_73 hl (k := 6) rfl (nI_add i1 1) (by decide) rfl (fun ls hl => ?_)
      refine lv_goto (tgt := 3) hx hb dX2_find_76 (by decide) ?_
      have hl : lv_has ls 7 [(0, .ref Yh), (1, .ref Lh), (2, .ref Nh), (3, .int (nI v_d)), (4, .int (nI v_b)), (5, .int (nI (i1 + 1)))] := lv_sub hl [2, 3, 4, 5, 6, 0] rfl
      exact ih1 (un (z1.1) i1 0, un (z1.2) i1 0) (PI_st hI1 (Nat.zero_le _) (Nat.zero_le _) (fun _ => rfl)) _ _ _ hP hD hS hl
    · skip
      refine lv_aload_n hx hb dX2_find_19 rfl (lv_at hl 1 rfl) ?_
      refine lv_iload hx hb dX2_find_20 (lv_at hl 5 rfl) ?_
      refine lv_iload hx hb dX2_find_22 (lv_at hl 4 rfl) ?_
      refine be_i0 (ru_N (C := RX0) (host := "ChildCoins") (As := [.int (nI i1), .int (nI v_b)]) (rest := []) ⟨hx, hb, hml, hown, hts⟩ (g_does l D cI cB cZ cN Lh La1 La2 La4 La5 La7 La8 La9 LS i1 v_b hL0 (by omega) hb2 H.size) ggX2_find_X0_does rfl (nmX2_40 hK.2) (hts (.initialized RX0) (List.mem_of_getElem? (i := 7) rfl)) (hts (.instanceMethod yX0_does) (List.mem_of_getElem? (i := 6) rfl)) (hts (.selects RX0 yX0_does yX0_does) (List.mem_of_getElem? (i := 8) rfl)) ⟨by decide, by decide, (show Option.map (fun d => d.parameters.length) (parseMethodDescriptor yX0_does.desc) = some 2 by decide +kernel)⟩ ⟨Nat.le_of_ble_eq_true rfl, Nat.le_of_ble_eq_true rfl⟩ hK hP hD 0 4 rfl rfl [4, 5, 6, 7, 8, 9, 10, 11] (by decide) rfl hl.1 rfl (Nat.le_of_ble_eq_true rfl) dX2_find_24 ⟨Nat.le_of_ble_eq_true rfl, Nat.le_of_ble_eq_true rfl⟩) hP hD hS hA [4, 5, 6, 7, 8, 9, 10, 11] rfl (fun r18 u17 H locs w19 hP hS => ?_)
      obtain rfl : r18 = nI (doN LS i1 v_b) := w19
      have b20 := doN_le LS i1 v_b
      refine nb_if_eq (tgt := 34) hx hb dX2_find_27 (by decide) (by omega) (fun hq21 => ?_) (fun hq21 => ?_)
      · skip
        refine lv_iconst (v := nI 0) hx hb dX2_find_34 (by decide) ?_
        refine lv_istore (lv' := [(6, .int (nI 0)), (0, .ref Yh), (1, .ref Lh), (2, .ref Nh), (3, .int (nI v_d)), (4, .int (nI v_b)), (5, .int (nI i1))]) hx hb dX2_find_35 hl (by decide) rfl (fun ls hl => ?_)
        refine lv_aload_n hx hb dX2_find_37 rfl (lv_at hl 1 rfl) ?_
        refine va_get (D := D) (ci := 2) (v := .ref Ya0) (C := RX2) (T := TX2) (N := 4) hx hb hts in_X2_find_2 hown hK.1 hP 0 rfl rfl 0 (by decide) (hts (.fieldLink RX2 9 "ChildCoins$Payment" "stock" "[I") (List.mem_of_getElem? (i := 1) rfl)) (fun _ h9 => h9) rfl dX2_find_38 ?_
        refine lv_iload hx hb dX2_find_41 (lv_at hl 6 rfl) ?_
        refine lv_iload hx hb dX2_find_43 (lv_at hl 0 rfl) ?_
        refine nb_if_eq (tgt := 63) hx hb dX2_find_45 (by decide) (by omega) (fun hq22 => ?_) (fun hq22 => absurd hq22 (by omega))
        refine lv_iconst (v := nI 0) hx hb dX2_find_63 (by decide) ?_
        refine va_iast hx hb hK.1 hP hD hS 1 0 rfl rfl (vp_in_nI (n := i1) (N := 6) (by omega) (by decide)) dX2_find_64 (fun H locs hP hD hS => ?_)
        obtain ⟨hP, hD⟩ : wPD D A [(Yh, .inr (2, [.ref Ya0, .ref Ya1, .ref Ya2, .int (nI (YS 3 0))])), (Ya0, .inl (cI, 6, .inl (upd (nF (z1.1)) (nI i1).toNatClampNeg (nI 0)))), (Ya1, .inl (cI, 6, .inl (nF (z1.2)))), (Ya2, .inl (cI, 427, .inl (nF (YS 2)))), (Lh, .inr (0, [.int (nI (LS 0 0)), .ref La1, .ref La2, .int (nI (LS 3 0)), .ref La4, .ref La5, .int (nI (LS 6 0)), .ref La7, .ref La8, .ref La9, .int (nI (LS 10 0)), .int (nI (LS 11 0))])), (La1, .inl (cI, 6, .inl (nF (LS 1)))), (La2, .inl (cI, 6, .inl (nF (LS 2)))), (La4, .inl (cI, 5, .inl (nF (LS 4)))), (La5, .inl (cI, 30, .inl (nF (LS 5)))), (La7, .inl (cI, 5, .inl (nF (LS 7)))), (La8, .inl (cI, 5, .inl (nF (LS 8)))), (La9, .inl (cI, 5, .inl (nF (LS 9)))), (Nh, .inr (1, [.ref Na0, .ref Na1, .int (nI (NS 2 0))])), (Na0, .inl (cI, 36, .inl (nF (NS 0)))), (Na1, .inl (cI, 360, .inl (nF (NS 1))))] H := ⟨hP, hD⟩
        rw [nF_st (by omega)] at hP hD
        refine lv_aload_n hx hb dX2_find_65 rfl (lv_at hl 1 rfl) ?_
        refine va_get (D := D) (ci := 2) (v := .ref Ya1) (C := RX2) (T := TX2) (N := 4) hx hb hts in_X2_find_2 hown hK.1 hP 0 rfl rfl 1 (by decide) (hts (.fieldLink RX2 15 "ChildCoins$Payment" "used" "[I") (List.mem_of_getElem? (i := 2) rfl)) (fun _ h9 => h9) rfl dX2_find_66 ?_
        refine lv_iload hx hb dX2_find_69 (lv_at hl 6 rfl) ?_
        refine lv_iconst (v := nI 0) hx hb dX2_find_71 (by decide) ?_
        refine va_iast hx hb hK.1 hP hD hS 2 0 rfl rfl (vp_in_nI (n := i1) (N := 6) (by omega) (by decide)) dX2_find_72 (fun H locs hP hD hS => ?_)
        obtain ⟨hP, hD⟩ : wPD D A [(Yh, .inr (2, [.ref Ya0, .ref Ya1, .ref Ya2, .int (nI (YS 3 0))])), (Ya0, .inl (cI, 6, .inl (nF (un (z1.1) i1 0)))), (Ya1, .inl (cI, 6, .inl (upd (nF (z1.2)) (nI i1).toNatClampNeg (nI 0)))), (Ya2, .inl (cI, 427, .inl (nF (YS 2)))), (Lh, .inr (0, [.int (nI (LS 0 0)), .ref La1, .ref La2, .int (nI (LS 3 0)), .ref La4, .ref La5, .int (nI (LS 6 0)), .ref La7, .ref La8, .ref La9, .int (nI (LS 10 0)), .int (nI (LS 11 0))])), (La1, .inl (cI, 6, .inl (nF (LS 1)))), (La2, .inl (cI, 6, .inl (nF (LS 2)))), (La4, .inl (cI, 5, .inl (nF (LS 4)))), (La5, .inl (cI, 30, .inl (nF (LS 5)))), (La7, .inl (cI, 5, .inl (nF (LS 7)))), (La8, .inl (cI, 5, .inl (nF (LS 8)))), (La9, .inl (cI, 5, .inl (nF (LS 9)))), (Nh, .inr (1, [.ref Na0, .ref Na1, .int (nI (NS 2 0))])), (Na0, .inl (cI, 36, .inl (nF (NS 0)))), (Na1, .inl (cI, 360, .inl (nF (NS 1))))] H := ⟨hP, hD⟩
        rw [nF_st (by omega)] at hP hD
        refine lv_iinc (v := nI (i1 + 1)) (lv' := [(5, .int (nI (i1 + 1))), (6, .int (nI 0)), (0, .ref Yh), (1, .ref Lh), (2, .ref Nh), (3, .int (nI v_d)), (4, .int (nI v_b))]) hx hb dX2_find_73 hl (k := 6) rfl (nI_add i1 1) (by decide) rfl (fun ls hl => ?_)
        refine lv_goto (tgt := 3) hx hb dX2_find_76 (by decide) ?_
        have hl : lv_has ls 7 [(0, .ref Yh), (1, .ref Lh), (2, .ref Nh), (3, .int (nI v_d)), (4, .int (nI v_b)), (5, .int (nI (i1 + 1)))] := lv_sub hl [2, 3, 4, 5, 6, 0] rfl
        exact ih1 (un (z1.1) i1 0, un (z1.2) i1 0) (PI_st hI1 (Nat.zero_le _) (Nat.zero_le _) (fun _ => rfl)) _ _ _ hP hD hS hl
      · skip
        refine lv_iconst (v := nI 1) hx hb dX2_find_30 (by decide) ?_
        refine lv_goto (tgt := 35) hx hb dX2_find_31 (by decide) ?_
        refine lv_istore (lv' := [(6, .int (nI 1)), (0, .ref Yh), (1, .ref Lh), (2, .ref Nh), (3, .int (nI v_d)), (4, .int (nI v_b)), (5, .int (nI i1))]) hx hb dX2_find_35 hl (by decide) rfl (fun ls hl => ?_)
        refine lv_aload_n hx hb dX2_find_37 rfl (lv_at hl 1 rfl) ?_
        refine va_get (D := D) (ci := 2) (v := .ref Ya0) (C := RX2) (T := TX2) (N := 4) hx hb hts in_X2_find_2 hown hK.1 hP 0 rfl rfl 0 (by decide) (hts (.fieldLink RX2 9 "ChildCoins$Payment" "stock" "[I") (List.mem_of_getElem? (i := 1) rfl)) (fun _ h9 => h9) rfl dX2_find_38 ?_
        refine lv_iload hx hb dX2_find_41 (lv_at hl 6 rfl) ?_
        refine lv_iload hx hb dX2_find_43 (lv_at hl 0 rfl) ?_
        refine nb_if_eq (tgt := 63) hx hb dX2_find_45 (by decide) (by omega) (fun hq23 => absurd hq23 (by omega)) (fun hq23 => ?_)
        refine lv_aload_n hx hb dX2_find_48 rfl (lv_at hl 3 rfl) ?_
        refine lv_aload_n hx hb dX2_find_49 rfl (lv_at hl 2 rfl) ?_
        refine va_getN (D := D) (ci := 0) (v := .ref La7) (C := RX0) (T := TX0) (N := 12) hx hb hts in_X2_find_0 hown hK.1 hP 4 rfl rfl 7 (by decide) (nfX2_44 hK.2) (fun _ h9 => h9) rfl dX2_find_50 ?_
        refine lv_iload_n hx hb dX2_find_53 rfl (lv_at hl 4 rfl) ?_
        refine va_iald hx hb hK.1 hP 9 0 rfl rfl (vp_in_nI (n := v_d) (N := 5) (by omega) (by decide)) dX2_find_54 ?_
        refine set_i (y := nI (LS 7 v_d)) (nF_ld (by omega)) ?_
        have b24 := bl7 v_d
        refine lv_iload hx hb dX2_find_55 (lv_at hl 6 rfl) ?_
        refine be_i0 (ru_N (C := RX1) (host := "ChildCoins") (As := [.int (nI (LS 7 v_d)), .int (nI i1)]) (rest := [.int (nI i1), .ref Ya0]) ⟨hx, hb, hml, hown, hts⟩ (g_held l D cI cB cZ cN Nh Na0 Na1 NS (LS 7 v_d) i1 hN (bl7 _) (by omega) H.size) ggX2_find_X1_held rfl (nmX2_34 hK.2) (hts (.initialized RX1) (List.mem_of_getElem? (i := 18) rfl)) (hts (.instanceMethod yX1_held) (List.mem_of_getElem? (i := 17) rfl)) (hts (.selects RX1 yX1_held yX1_held) (List.mem_of_getElem? (i := 19) rfl)) ⟨by decide, by decide, (show Option.map (fun d => d.parameters.length) (parseMethodDescriptor yX1_held.desc) = some 2 by decide +kernel)⟩ ⟨Nat.le_of_ble_eq_true rfl, Nat.le_of_ble_eq_true rfl⟩ hK hP hD 1 12 rfl rfl [12, 13, 14] (by decide) rfl hl.1 rfl (Nat.le_of_ble_eq_true rfl) dX2_find_57 ⟨Nat.le_of_ble_eq_true rfl, Nat.le_of_ble_eq_true rfl⟩) hP hD hS hA [12, 13, 14] rfl (fun r26 u25 H locs w27 hP hS => ?_)
        obtain rfl : r26 = nI (NS 0 ((LS 7 v_d) * 6 + i1)) := w27
        have b28 := bn0 ((LS 7 v_d) * 6 + i1)
        refine lv_goto (tgt := 64) hx hb dX2_find_60 (by decide) ?_
        refine va_iast hx hb hK.1 hP hD hS 1 0 rfl rfl (vp_in_nI (n := i1) (N := 6) (by omega) (by decide)) dX2_find_64 (fun H locs hP hD hS => ?_)
        obtain ⟨hP, hD⟩ : wPD D A [(Yh, .inr (2, [.ref Ya0, .ref Ya1, .ref Ya2, .int (nI (YS 3 0))])), (Ya0, .inl (cI, 6, .inl (upd (nF (z1.1)) (nI i1).toNatClampNeg (nI (NS 0 ((LS 7 v_d) * 6 + i1)))))), (Ya1, .inl (cI, 6, .inl (nF (z1.2)))), (Ya2, .inl (cI, 427, .inl (nF (YS 2)))), (Lh, .inr (0, [.int (nI (LS 0 0)), .ref La1, .ref La2, .int (nI (LS 3 0)), .ref La4, .ref La5, .int (nI (LS 6 0)), .ref La7, .ref La8, .ref La9, .int (nI (LS 10 0)), .int (nI (LS 11 0))])), (La1, .inl (cI, 6, .inl (nF (LS 1)))), (La2, .inl (cI, 6, .inl (nF (LS 2)))), (La4, .inl (cI, 5, .inl (nF (LS 4)))), (La5, .inl (cI, 30, .inl (nF (LS 5)))), (La7, .inl (cI, 5, .inl (nF (LS 7)))), (La8, .inl (cI, 5, .inl (nF (LS 8)))), (La9, .inl (cI, 5, .inl (nF (LS 9)))), (Nh, .inr (1, [.ref Na0, .ref Na1, .int (nI (NS 2 0))])), (Na0, .inl (cI, 36, .inl (nF (NS 0)))), (Na1, .inl (cI, 360, .inl (nF (NS 1))))] H := ⟨hP, hD⟩
        rw [nF_st (by omega)] at hP hD
        refine lv_aload_n hx hb dX2_find_65 rfl (lv_at hl 1 rfl) ?_
        refine va_get (D := D) (ci := 2) (v := .ref Ya1) (C := RX2) (T := TX2) (N := 4) hx hb hts in_X2_find_2 hown hK.1 hP 0 rfl rfl 1 (by decide) (hts (.fieldLink RX2 15 "ChildCoins$Payment" "used" "[I") (List.mem_of_getElem? (i := 2) rfl)) (fun _ h9 => h9) rfl dX2_find_66 ?_
        refine lv_iload hx hb dX2_find_69 (lv_at hl 6 rfl) ?_
        refine lv_iconst (v := nI 0) hx hb dX2_find_71 (by decide) ?_
        refine va_iast hx hb hK.1 hP hD hS 2 0 rfl rfl (vp_in_nI (n := i1) (N := 6) (by omega) (by decide)) dX2_find_72 (fun H locs hP hD hS => ?_)
        obtain ⟨hP, hD⟩ : wPD D A [(Yh, .inr (2, [.ref Ya0, .ref Ya1, .ref Ya2, .int (nI (YS 3 0))])), (Ya0, .inl (cI, 6, .inl (nF (un (z1.1) i1 (NS 0 ((LS 7 v_d) * 6 + i1)))))), (Ya1, .inl (cI, 6, .inl (upd (nF (z1.2)) (nI i1).toNatClampNeg (nI 0)))), (Ya2, .inl (cI, 427, .inl (nF (YS 2)))), (Lh, .inr (0, [.int (nI (LS 0 0)), .ref La1, .ref La2, .int (nI (LS 3 0)), .ref La4, .ref La5, .int (nI (LS 6 0)), .ref La7, .ref La8, .ref La9, .int (nI (LS 10 0)), .int (nI (LS 11 0))])), (La1, .inl (cI, 6, .inl (nF (LS 1)))), (La2, .inl (cI, 6, .inl (nF (LS 2)))), (La4, .inl (cI, 5, .inl (nF (LS 4)))), (La5, .inl (cI, 30, .inl (nF (LS 5)))), (La7, .inl (cI, 5, .inl (nF (LS 7)))), (La8, .inl (cI, 5, .inl (nF (LS 8)))), (La9, .inl (cI, 5, .inl (nF (LS 9)))), (Nh, .inr (1, [.ref Na0, .ref Na1, .int (nI (NS 2 0))])), (Na0, .inl (cI, 36, .inl (nF (NS 0)))), (Na1, .inl (cI, 360, .inl (nF (NS 1))))] H := ⟨hP, hD⟩
        rw [nF_st (by omega)] at hP hD
        refine lv_iinc (v := nI (i1 + 1)) (lv' := [(5, .int (nI (i1 + 1))), (6, .int (nI 1)), (0, .ref Yh), (1, .ref Lh), (2, .ref Nh), (3, .int (nI v_d)), (4, .int (nI v_b))]) hx hb dX2_find_73 hl (k := 6) rfl (nI_add i1 1) (by decide) rfl (fun ls hl => ?_)
        refine lv_goto (tgt := 3) hx hb dX2_find_76 (by decide) ?_
        have hl : lv_has ls 7 [(0, .ref Yh), (1, .ref Lh), (2, .ref Nh), (3, .int (nI v_d)), (4, .int (nI v_b)), (5, .int (nI (i1 + 1)))] := lv_sub hl [2, 3, 4, 5, 6, 0] rfl
        exact ih1 (un (z1.1) i1 (NS 0 ((LS 7 v_d) * 6 + i1)), un (z1.2) i1 0) (PI_st hI1 (hN.c99 _) (Nat.le_refl _) (fun q => absurd q (by omega))) _ _ _ hP hD hS hl
