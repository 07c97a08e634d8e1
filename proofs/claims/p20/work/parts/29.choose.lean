set_option maxRecDepth 20000 in
theorem dAX2_choose : decA cX2_choose [(0, .iload_n 2, 1), (1, .istore_n 3, 1), (2, .iconst 0, 1), (3, .istore 4, 2), (5, .iload 4, 2), (7, .aload_n 1, 1), (8, .getfield 29, 3), (11, .if_icmp .ge 110, 3), (14, .aload_n 0, 1), (15, .getfield 18, 3), (18, .iload 4, 2), (20, .bipush 61, 2), (22, .imul, 1), (23, .iload_n 3, 1), (24, .iadd, 1), (25, .iaload, 1), (26, .istore 5, 2), (28, .iconst 0, 1), (29, .istore 6, 2), (31, .iload 6, 2), (33, .aload_n 0, 1), (34, .getfield 9, 3), (37, .iload 4, 2), (39, .iaload, 1), (40, .if_icmp .gt 75, 3), (43, .iload 6, 2), (45, .aload_n 1, 1), (46, .getfield 58, 3), (49, .iload 4, 2), (51, .iaload, 1), (52, .imul, 1), (53, .iload_n 3, 1), (54, .if_icmp .gt 61, 3), (57, .iload_n 3, 1), (58, .iload 6, 2), (60, .aload_n 1, 1), (61, .getfield 58, 3), (64, .iload 4, 2), (66, .iaload, 1), (67, .imul, 1), (68, .isub, 1), (69, .istore 7, 2), (71, .iload 6, 2), (73, .aload_n 0, 1), (74, .getfield 18, 3), (77, .iload 4, 2), (79, .iconst 1, 1), (80, .iadd, 1), (81, .bipush 61, 2), (83, .imul, 1), (84, .iload 7, 2), (86, .iadd, 1), (87, .iaload, 1), (88, .iadd, 1), (89, .iload 5, 2), (91, .if_icmp .ne 18, 3), (94, .aload_n 0, 1), (95, .getfield 15, 3), (98, .iload 4, 2), (100, .iload 6, 2), (102, .iastore, 1), (103, .iload 7, 2), (105, .istore_n 3, 1), (106, .goto 9, 3), (109, .iinc 6 1, 3), (112, .goto (-81), 3), (115, .iinc 4 1, 3), (118, .goto (-113), 3), (121, .return_, 1)] = true := by decide +kernel
theorem dX2_choose_0 : decode cX2_choose 0 = .ok (.iload_n 2, 1) := decA_get dAX2_choose 0 rfl
theorem dX2_choose_1 : decode cX2_choose 1 = .ok (.istore_n 3, 1) := decA_get dAX2_choose 1 rfl
theorem dX2_choose_2 : decode cX2_choose 2 = .ok (.iconst 0, 1) := decA_get dAX2_choose 2 rfl
theorem dX2_choose_3 : decode cX2_choose 3 = .ok (.istore 4, 2) := decA_get dAX2_choose 3 rfl
theorem dX2_choose_5 : decode cX2_choose 5 = .ok (.iload 4, 2) := decA_get dAX2_choose 4 rfl
theorem dX2_choose_7 : decode cX2_choose 7 = .ok (.aload_n 1, 1) := decA_get dAX2_choose 5 rfl
theorem dX2_choose_8 : decode cX2_choose 8 = .ok (.getfield 29, 3) := decA_get dAX2_choose 6 rfl
theorem in_X2_choose_0 : ∀ w ∈ wsX00, w ∈ wsX2_choose := fun w h => (gd_ids wi_X2_choose wm_X2_choose wi_X00 (by decide +kernel) w h).1
theorem dX2_choose_11 : decode cX2_choose 11 = .ok (.if_icmp .ge 110, 3) := decA_get dAX2_choose 7 rfl
theorem dX2_choose_121 : decode cX2_choose 121 = .ok (.return_, 1) := decA_get dAX2_choose 68 rfl
theorem dX2_choose_14 : decode cX2_choose 14 = .ok (.aload_n 0, 1) := decA_get dAX2_choose 8 rfl
theorem dX2_choose_15 : decode cX2_choose 15 = .ok (.getfield 18, 3) := decA_get dAX2_choose 9 rfl
theorem in_X2_choose_2 : ∀ w ∈ wsX20, w ∈ wsX2_choose := fun w h => (gd_ids wi_X2_choose wm_X2_choose wi_X20 (by decide +kernel) w h).1
theorem dX2_choose_18 : decode cX2_choose 18 = .ok (.iload 4, 2) := decA_get dAX2_choose 10 rfl
theorem dX2_choose_20 : decode cX2_choose 20 = .ok (.bipush 61, 2) := decA_get dAX2_choose 11 rfl
theorem dX2_choose_22 : decode cX2_choose 22 = .ok (.imul, 1) := decA_get dAX2_choose 12 rfl
theorem dX2_choose_23 : decode cX2_choose 23 = .ok (.iload_n 3, 1) := decA_get dAX2_choose 13 rfl
theorem dX2_choose_24 : decode cX2_choose 24 = .ok (.iadd, 1) := decA_get dAX2_choose 14 rfl
theorem dX2_choose_25 : decode cX2_choose 25 = .ok (.iaload, 1) := decA_get dAX2_choose 15 rfl
theorem dX2_choose_26 : decode cX2_choose 26 = .ok (.istore 5, 2) := decA_get dAX2_choose 16 rfl
theorem dX2_choose_28 : decode cX2_choose 28 = .ok (.iconst 0, 1) := decA_get dAX2_choose 17 rfl
theorem dX2_choose_29 : decode cX2_choose 29 = .ok (.istore 6, 2) := decA_get dAX2_choose 18 rfl
theorem dX2_choose_31 : decode cX2_choose 31 = .ok (.iload 6, 2) := decA_get dAX2_choose 19 rfl
theorem dX2_choose_33 : decode cX2_choose 33 = .ok (.aload_n 0, 1) := decA_get dAX2_choose 20 rfl
theorem dX2_choose_34 : decode cX2_choose 34 = .ok (.getfield 9, 3) := decA_get dAX2_choose 21 rfl
theorem dX2_choose_37 : decode cX2_choose 37 = .ok (.iload 4, 2) := decA_get dAX2_choose 22 rfl
theorem dX2_choose_39 : decode cX2_choose 39 = .ok (.iaload, 1) := decA_get dAX2_choose 23 rfl
theorem dX2_choose_40 : decode cX2_choose 40 = .ok (.if_icmp .gt 75, 3) := decA_get dAX2_choose 24 rfl
theorem dX2_choose_115 : decode cX2_choose 115 = .ok (.iinc 4 1, 3) := decA_get dAX2_choose 66 rfl
theorem dX2_choose_118 : decode cX2_choose 118 = .ok (.goto (-113), 3) := decA_get dAX2_choose 67 rfl
theorem dX2_choose_43 : decode cX2_choose 43 = .ok (.iload 6, 2) := decA_get dAX2_choose 25 rfl
theorem dX2_choose_45 : decode cX2_choose 45 = .ok (.aload_n 1, 1) := decA_get dAX2_choose 26 rfl
theorem dX2_choose_46 : decode cX2_choose 46 = .ok (.getfield 58, 3) := decA_get dAX2_choose 27 rfl
theorem dX2_choose_49 : decode cX2_choose 49 = .ok (.iload 4, 2) := decA_get dAX2_choose 28 rfl
theorem dX2_choose_51 : decode cX2_choose 51 = .ok (.iaload, 1) := decA_get dAX2_choose 29 rfl
theorem dX2_choose_52 : decode cX2_choose 52 = .ok (.imul, 1) := decA_get dAX2_choose 30 rfl
theorem dX2_choose_53 : decode cX2_choose 53 = .ok (.iload_n 3, 1) := decA_get dAX2_choose 31 rfl
theorem dX2_choose_54 : decode cX2_choose 54 = .ok (.if_icmp .gt 61, 3) := decA_get dAX2_choose 32 rfl
theorem dX2_choose_57 : decode cX2_choose 57 = .ok (.iload_n 3, 1) := decA_get dAX2_choose 33 rfl
theorem dX2_choose_58 : decode cX2_choose 58 = .ok (.iload 6, 2) := decA_get dAX2_choose 34 rfl
theorem dX2_choose_60 : decode cX2_choose 60 = .ok (.aload_n 1, 1) := decA_get dAX2_choose 35 rfl
theorem dX2_choose_61 : decode cX2_choose 61 = .ok (.getfield 58, 3) := decA_get dAX2_choose 36 rfl
theorem dX2_choose_64 : decode cX2_choose 64 = .ok (.iload 4, 2) := decA_get dAX2_choose 37 rfl
theorem dX2_choose_66 : decode cX2_choose 66 = .ok (.iaload, 1) := decA_get dAX2_choose 38 rfl
theorem dX2_choose_67 : decode cX2_choose 67 = .ok (.imul, 1) := decA_get dAX2_choose 39 rfl
theorem dX2_choose_68 : decode cX2_choose 68 = .ok (.isub, 1) := decA_get dAX2_choose 40 rfl
theorem dX2_choose_69 : decode cX2_choose 69 = .ok (.istore 7, 2) := decA_get dAX2_choose 41 rfl
theorem dX2_choose_71 : decode cX2_choose 71 = .ok (.iload 6, 2) := decA_get dAX2_choose 42 rfl
theorem dX2_choose_73 : decode cX2_choose 73 = .ok (.aload_n 0, 1) := decA_get dAX2_choose 43 rfl
theorem dX2_choose_74 : decode cX2_choose 74 = .ok (.getfield 18, 3) := decA_get dAX2_choose 44 rfl
theorem dX2_choose_77 : decode cX2_choose 77 = .ok (.iload 4, 2) := decA_get dAX2_choose 45 rfl
theorem dX2_choose_79 : decode cX2_choose 79 = .ok (.iconst 1, 1) := decA_get dAX2_choose 46 rfl
theorem dX2_choose_80 : decode cX2_choose 80 = .ok (.iadd, 1) := decA_get dAX2_choose 47 rfl
theorem dX2_choose_81 : decode cX2_choose 81 = .ok (.bipush 61, 2) := decA_get dAX2_choose 48 rfl
theorem dX2_choose_83 : decode cX2_choose 83 = .ok (.imul, 1) := decA_get dAX2_choose 49 rfl
theorem dX2_choose_84 : decode cX2_choose 84 = .ok (.iload 7, 2) := decA_get dAX2_choose 50 rfl
theorem dX2_choose_86 : decode cX2_choose 86 = .ok (.iadd, 1) := decA_get dAX2_choose 51 rfl
theorem dX2_choose_87 : decode cX2_choose 87 = .ok (.iaload, 1) := decA_get dAX2_choose 52 rfl
theorem dX2_choose_88 : decode cX2_choose 88 = .ok (.iadd, 1) := decA_get dAX2_choose 53 rfl
theorem dX2_choose_89 : decode cX2_choose 89 = .ok (.iload 5, 2) := decA_get dAX2_choose 54 rfl
theorem dX2_choose_91 : decode cX2_choose 91 = .ok (.if_icmp .ne 18, 3) := decA_get dAX2_choose 55 rfl
theorem dX2_choose_109 : decode cX2_choose 109 = .ok (.iinc 6 1, 3) := decA_get dAX2_choose 64 rfl
theorem dX2_choose_112 : decode cX2_choose 112 = .ok (.goto (-81), 3) := decA_get dAX2_choose 65 rfl
theorem dX2_choose_94 : decode cX2_choose 94 = .ok (.aload_n 0, 1) := decA_get dAX2_choose 56 rfl
theorem dX2_choose_95 : decode cX2_choose 95 = .ok (.getfield 15, 3) := decA_get dAX2_choose 57 rfl
theorem dX2_choose_98 : decode cX2_choose 98 = .ok (.iload 4, 2) := decA_get dAX2_choose 58 rfl
theorem dX2_choose_100 : decode cX2_choose 100 = .ok (.iload 6, 2) := decA_get dAX2_choose 59 rfl
theorem dX2_choose_102 : decode cX2_choose 102 = .ok (.iastore, 1) := decA_get dAX2_choose 60 rfl
theorem dX2_choose_103 : decode cX2_choose 103 = .ok (.iload 7, 2) := decA_get dAX2_choose 61 rfl
theorem dX2_choose_105 : decode cX2_choose 105 = .ok (.istore_n 3, 1) := decA_get dAX2_choose 62 rfl
theorem dX2_choose_106 : decode cX2_choose 106 = .ok (.goto 9, 3) := decA_get dAX2_choose 63 rfl
set_option maxHeartbeats 4000000 in
set_option maxRecDepth 100000 in
theorem g_choose (l : Launch) (D : va_G) (cI cB cZ cN : ClassId) (Yh : Nat) (Ya0 : Nat) (Ya1 : Nat) (Ya2 : Nat) (YS : Nat → Nat → Nat) (Lh : Nat) (La1 : Nat) (La2 : Nat) (La4 : Nat) (La5 : Nat) (La7 : Nat) (La8 : Nat) (La9 : Nat) (LS : Nat → Nat → Nat) (v_z : Nat) (hL : LandOk LS) (hs0 : ∀ j, YS 0 j ≤ 99) (hu0 : ∀ j, YS 1 j ≤ YS 0 j) (hf0 : ∀ j, YS 2 j ≤ 1000000) (hz : v_z ≤ 60) : Cv (S := (Nat → Nat → Nat)) l D cI cB cZ cN yX2_choose wsX2_choose ({ frames := 0, cells := 0, slots := 0, locals := 0 } : Room) [.ref Yh, .ref Lh, .int (nI v_z)] [(Yh, .inr (2, [.ref Ya0, .ref Ya1, .ref Ya2, .int (nI (YS 3 0))])), (Ya0, .inl (cI, 6, .inl (nF (YS 0)))), (Ya1, .inl (cI, 6, .inl (nF (YS 1)))), (Ya2, .inl (cI, 427, .inl (nF (YS 2)))), (Lh, .inr (0, [.int (nI (LS 0 0)), .ref La1, .ref La2, .int (nI (LS 3 0)), .ref La4, .ref La5, .int (nI (LS 6 0)), .ref La7, .ref La8, .ref La9, .int (nI (LS 10 0)), .int (nI (LS 11 0))])), (La1, .inl (cI, 6, .inl (nF (LS 1)))), (La2, .inl (cI, 6, .inl (nF (LS 2)))), (La4, .inl (cI, 5, .inl (nF (LS 4)))), (La5, .inl (cI, 30, .inl (nF (LS 5)))), (La7, .inl (cI, 5, .inl (nF (LS 7)))), (La8, .inl (cI, 5, .inl (nF (LS 8)))), (La9, .inl (cI, 5, .inl (nF (LS 9))))] (fun (u : (Nat → Nat → Nat)) => ∃ g, u = ua YS 1 g ∧ ∀ j, g j ≤ YS 0 j) (fun u => [(Yh, .inr (2, [.ref Ya0, .ref Ya1, .ref Ya2, .int (nI (u 3 0))])), (Ya0, .inl (cI, 6, .inl (nF (u 0)))), (Ya1, .inl (cI, 6, .inl (nF (u 1)))), (Ya2, .inl (cI, 427, .inl (nF (u 2)))), (Lh, .inr (0, [.int (nI (LS 0 0)), .ref La1, .ref La2, .int (nI (LS 3 0)), .ref La4, .ref La5, .int (nI (LS 6 0)), .ref La7, .ref La8, .ref La9, .int (nI (LS 10 0)), .int (nI (LS 11 0))])), (La1, .inl (cI, 6, .inl (nF (LS 1)))), (La2, .inl (cI, 6, .inl (nF (LS 2)))), (La4, .inl (cI, 5, .inl (nF (LS 4)))), (La5, .inl (cI, 30, .inl (nF (LS 5)))), (La7, .inl (cI, 5, .inl (nF (LS 7)))), (La8, .inl (cI, 5, .inl (nF (LS 8)))), (La9, .inl (cI, 5, .inl (nF (LS 9))))]) := by
  refine bx_of (D := D) (cI := cI) (cB := cB) (cZ := cZ) (cN := cN) (y := yX2_choose) (wd := wsX2_choose) (rm := ({ frames := 0, cells := 0, slots := 0, locals := 0 } : Room)) (av := [.ref Yh, .ref Lh, .int (nI v_z)]) (wc := [(Yh, .inr (2, [.ref Ya0, .ref Ya1, .ref Ya2, .int (nI (YS 3 0))])), (Ya0, .inl (cI, 6, .inl (nF (YS 0)))), (Ya1, .inl (cI, 6, .inl (nF (YS 1)))), (Ya2, .inl (cI, 427, .inl (nF (YS 2)))), (Lh, .inr (0, [.int (nI (LS 0 0)), .ref La1, .ref La2, .int (nI (LS 3 0)), .ref La4, .ref La5, .int (nI (LS 6 0)), .ref La7, .ref La8, .ref La9, .int (nI (LS 10 0)), .int (nI (LS 11 0))])), (La1, .inl (cI, 6, .inl (nF (LS 1)))), (La2, .inl (cI, 6, .inl (nF (LS 2)))), (La4, .inl (cI, 5, .inl (nF (LS 4)))), (La5, .inl (cI, 30, .inl (nF (LS 5)))), (La7, .inl (cI, 5, .inl (nF (LS 7)))), (La8, .inl (cI, 5, .inl (nF (LS 8)))), (La9, .inl (cI, 5, .inl (nF (LS 9))))]) (cc := cX2_choose) (maxL := 8) (ret := none) (Qc := fun _ A => va_Qv (S := (Nat → Nat → Nat)) (fun (u : (Nat → Nat → Nat)) => ∃ g, u = ua YS 1 g ∧ ∀ j, g j ≤ YS 0 j) (Aft D (fun (u : (Nat → Nat → Nat)) => [(Yh, .inr (2, [.ref Ya0, .ref Ya1, .ref Ya2, .int (nI (u 3 0))])), (Ya0, .inl (cI, 6, .inl (nF (u 0)))), (Ya1, .inl (cI, 6, .inl (nF (u 1)))), (Ya2, .inl (cI, 427, .inl (nF (u 2)))), (Lh, .inr (0, [.int (nI (LS 0 0)), .ref La1, .ref La2, .int (nI (LS 3 0)), .ref La4, .ref La5, .int (nI (LS 6 0)), .ref La7, .ref La8, .ref La9, .int (nI (LS 10 0)), .int (nI (LS 11 0))])), (La1, .inl (cI, 6, .inl (nF (LS 1)))), (La2, .inl (cI, 6, .inl (nF (LS 2)))), (La4, .inl (cI, 5, .inl (nF (LS 4)))), (La5, .inl (cI, 30, .inl (nF (LS 5)))), (La7, .inl (cI, 5, .inl (nF (LS 7)))), (La8, .inl (cI, 5, .inl (nF (LS 8)))), (La9, .inl (cI, 5, .inl (nF (LS 9))))]) A) A) (by decide) rfl (Nat.le_of_ble_eq_true rfl) ?_
  intro p e s m below meth c A H locs ⟨hx, hb, hr, hml, hown, hts, hlk, hnm⟩ hK hP hD hS hA ls hl
  have hl : lv_has ls 8 [(0, .ref Yh), (1, .ref Lh), (2, .int (nI v_z))] := hl
  have hown : s.vm.findClass RX2 = some m.cls := hown
  obtain ⟨bl0, bl3, bl6, bl10, bl11, bl1, bl2, bl4, bl5, bl7, bl8, bl9⟩ := hL
  refine lv_iload_n hx hb dX2_choose_0 rfl (lv_at hl 2 rfl) ?_
  refine lv_istore_n (lv' := [(3, .int (nI v_z)), (0, .ref Yh), (1, .ref Lh), (2, .int (nI v_z))]) hx hb dX2_choose_1 rfl hl (by decide) rfl (fun ls hl => ?_)
  refine lv_iconst (v := nI 0) hx hb dX2_choose_2 (by decide) ?_
  refine lv_istore (lv' := [(4, .int (nI 0)), (3, .int (nI v_z)), (0, .ref Yh), (1, .ref Lh), (2, .int (nI v_z))]) hx hb dX2_choose_3 hl (by decide) rfl (fun ls hl => ?_)
  refine loopS (σ := (Nat → Nat) × Nat) (D := D) (A := A) (fun i1 z1 => (∀ j, z1.1 j ≤ YS 0 j) ∧ z1.2 ≤ v_z) (fun i1 z1 => [(Yh, .inr (2, [.ref Ya0, .ref Ya1, .ref Ya2, .int (nI (YS 3 0))])), (Ya0, .inl (cI, 6, .inl (nF (YS 0)))), (Ya1, .inl (cI, 6, .inl (nF (z1.1)))), (Ya2, .inl (cI, 427, .inl (nF (YS 2)))), (Lh, .inr (0, [.int (nI (LS 0 0)), .ref La1, .ref La2, .int (nI (LS 3 0)), .ref La4, .ref La5, .int (nI (LS 6 0)), .ref La7, .ref La8, .ref La9, .int (nI (LS 10 0)), .int (nI (LS 11 0))])), (La1, .inl (cI, 6, .inl (nF (LS 1)))), (La2, .inl (cI, 6, .inl (nF (LS 2)))), (La4, .inl (cI, 5, .inl (nF (LS 4)))), (La5, .inl (cI, 30, .inl (nF (LS 5)))), (La7, .inl (cI, 5, .inl (nF (LS 7)))), (La8, .inl (cI, 5, .inl (nF (LS 8)))), (La9, .inl (cI, 5, .inl (nF (LS 9))))]) (fun i1 z1 => [(0, .ref Yh), (1, .ref Lh), (2, .int (nI v_z)), (3, .int (nI z1.2)), (4, .int (nI i1))]) 5 8 (LS 0 0) 0 (Nat.zero_le _) ?_ ?_ (YS 1, v_z) ⟨hu0, Nat.le_refl _⟩ _ _ ls (by first | exact hP) (by first | exact hD) hS (lv_sub hl [2, 3, 4, 1, 0] rfl)
  · intro z1 hI1 H locs ls hP hD hS hl
    have hl : lv_has ls 8 [(0, .ref Yh), (1, .ref Lh), (2, .int (nI v_z)), (3, .int (nI z1.2)), (4, .int (nI (LS 0 0)))] := hl
    have hr1 := hI1.2
    obtain ⟨hP, hD⟩ : wPD D A [(Yh, .inr (2, [.ref Ya0, .ref Ya1, .ref Ya2, .int (nI (YS 3 0))])), (Ya0, .inl (cI, 6, .inl (nF (YS 0)))), (Ya1, .inl (cI, 6, .inl (nF (z1.1)))), (Ya2, .inl (cI, 427, .inl (nF (YS 2)))), (Lh, .inr (0, [.int (nI (LS 0 0)), .ref La1, .ref La2, .int (nI (LS 3 0)), .ref La4, .ref La5, .int (nI (LS 6 0)), .ref La7, .ref La8, .ref La9, .int (nI (LS 10 0)), .int (nI (LS 11 0))])), (La1, .inl (cI, 6, .inl (nF (LS 1)))), (La2, .inl (cI, 6, .inl (nF (LS 2)))), (La4, .inl (cI, 5, .inl (nF (LS 4)))), (La5, .inl (cI, 30, .inl (nF (LS 5)))), (La7, .inl (cI, 5, .inl (nF (LS 7)))), (La8, .inl (cI, 5, .inl (nF (LS 8)))), (La9, .inl (cI, 5, .inl (nF (LS 9))))] H := ⟨hP, hD⟩
    refine lv_iload hx hb dX2_choose_5 (lv_at hl 4 rfl) ?_
    refine lv_aload_n hx hb dX2_choose_7 rfl (lv_at hl 1 rfl) ?_
    refine va_getN (D := D) (ci := 0) (v := .int (nI (LS 0 0))) (C := RX0) (T := TX0) (N := 12) hx hb hts in_X2_choose_0 hown hK.1 hP 4 rfl rfl 0 (by decide) (nfX2_29 hK.2) (fun _ h9 => h9) rfl dX2_choose_8 ?_
    refine nb_icmp_ge (tgt := 121) hx hb dX2_choose_11 (by decide) (by omega) (by omega) (fun hq1 => ?_) (fun hq1 => absurd hq1 (by omega))
    exact en_v hx hb hr hlk hP hD hS (ua YS 1 (z1.1)) [0, 1, 2, 3, 4, 5, 6, 7, 8, 9, 10, 11] (by decide) rfl (Nat.le_of_ble_eq_true rfl) (Nat.le_of_ble_eq_true rfl) dX2_choose_121 ⟨_, rfl, hI1.1⟩
  · intro i1 hi01 hi1 z1 hI1 ih1 H locs ls hP hD hS hl
    have hl : lv_has ls 8 [(0, .ref Yh), (1, .ref Lh), (2, .int (nI v_z)), (3, .int (nI z1.2)), (4, .int (nI i1))] := hl
    have hr1 := hI1.2
    obtain ⟨hP, hD⟩ : wPD D A [(Yh, .inr (2, [.ref Ya0, .ref Ya1, .ref Ya2, .int (nI (YS 3 0))])), (Ya0, .inl (cI, 6, .inl (nF (YS 0)))), (Ya1, .inl (cI, 6, .inl (nF (z1.1)))), (Ya2, .inl (cI, 427, .inl (nF (YS 2)))), (Lh, .inr (0, [.int (nI (LS 0 0)), .ref La1, .ref La2, .int (nI (LS 3 0)), .ref La4, .ref La5, .int (nI (LS 6 0)), .ref La7, .ref La8, .ref La9, .int (nI (LS 10 0)), .int (nI (LS 11 0))])), (La1, .inl (cI, 6, .inl (nF (LS 1)))), (La2, .inl (cI, 6, .inl (nF (LS 2)))), (La4, .inl (cI, 5, .inl (nF (LS 4)))), (La5, .inl (cI, 30, .inl (nF (LS 5)))), (La7, .inl (cI, 5, .inl (nF (LS 7)))), (La8, .inl (cI, 5, .inl (nF (LS 8)))), (La9, .inl (cI, 5, .inl (nF (LS 9))))] H := ⟨hP, hD⟩
    refine lv_iload hx hb dX2_choose_5 (lv_at hl 4 rfl) ?_
    refine lv_aload_n hx hb dX2_choose_7 rfl (lv_at hl 1 rfl) ?_
    refine va_getN (D := D) (ci := 0) (v := .int (nI (LS 0 0))) (C := RX0) (T := TX0) (N := 12) hx hb hts in_X2_choose_0 hown hK.1 hP 4 rfl rfl 0 (by decide) (nfX2_29 hK.2) (fun _ h9 => h9) rfl dX2_choose_8 ?_
    refine nb_icmp_ge (tgt := 121) hx hb dX2_choose_11 (by decide) (by omega) (by omega) (fun hq2 => absurd hq2 (by omega)) (fun hq2 => ?_)
    refine lv_aload_n hx hb dX2_choose_14 rfl (lv_at hl 0 rfl) ?_
    refine va_get (D := D) (ci := 2) (v := .ref Ya2) (C := RX2) (T := TX2) (N := 4) hx hb hts in_X2_choose_2 hown hK.1 hP 0 rfl rfl 2 (by decide) (hts (.fieldLink RX2 18 "ChildCoins$Payment" "fewest" "[I") (List.mem_of_getElem? (i := 1) rfl)) (fun _ h9 => h9) rfl dX2_choose_15 ?_
    refine lv_iload hx hb dX2_choose_18 (lv_at hl 4 rfl) ?_
    refine lv_bipush (v := nI 61) hx hb dX2_choose_20 (by decide) ?_
    refine lv_imul hx hb dX2_choose_22 ?_
    refine set_i (y := nI (i1 * 61)) (pk_mul i1 61) ?_
    refine lv_iload_n hx hb dX2_choose_23 rfl (lv_at hl 3 rfl) ?_
    refine lv_iadd hx hb dX2_choose_24 ?_
    refine set_i (y := nI ((i1 * 61) + z1.2)) (nI_add (i1 * 61) z1.2) ?_
    refine va_iald hx hb hK.1 hP 3 0 rfl rfl (vp_in_nI (n := (i1 * 61) + z1.2) (N := 427) (by omega) (by decide)) dX2_choose_25 ?_
    refine set_i (y := nI (YS 2 ((i1 * 61) + z1.2))) (nF_ld (by omega)) ?_
    have b3 := hf0 ((i1 * 61) + z1.2)
    refine lv_istore (lv' := [(5, .int (nI (YS 2 ((i1 * 61) + z1.2)))), (0, .ref Yh), (1, .ref Lh), (2, .int (nI v_z)), (3, .int (nI z1.2)), (4, .int (nI i1))]) hx hb dX2_choose_26 hl (by decide) rfl (fun ls hl => ?_)
    refine lv_iconst (v := nI 0) hx hb dX2_choose_28 (by decide) ?_
    refine lv_istore (lv' := [(6, .int (nI 0)), (5, .int (nI (YS 2 ((i1 * 61) + z1.2)))), (0, .ref Yh), (1, .ref Lh), (2, .int (nI v_z)), (3, .int (nI z1.2)), (4, .int (nI i1))]) hx hb dX2_choose_29 hl (by decide) rfl (fun ls hl => ?_)
    refine loopS (σ := Unit) (D := D) (A := A) (fun i2 z2 => True) (fun i2 z2 => [(Yh, .inr (2, [.ref Ya0, .ref Ya1, .ref Ya2, .int (nI (YS 3 0))])), (Ya0, .inl (cI, 6, .inl (nF (YS 0)))), (Ya1, .inl (cI, 6, .inl (nF (z1.1)))), (Ya2, .inl (cI, 427, .inl (nF (YS 2)))), (Lh, .inr (0, [.int (nI (LS 0 0)), .ref La1, .ref La2, .int (nI (LS 3 0)), .ref La4, .ref La5, .int (nI (LS 6 0)), .ref La7, .ref La8, .ref La9, .int (nI (LS 10 0)), .int (nI (LS 11 0))])), (La1, .inl (cI, 6, .inl (nF (LS 1)))), (La2, .inl (cI, 6, .inl (nF (LS 2)))), (La4, .inl (cI, 5, .inl (nF (LS 4)))), (La5, .inl (cI, 30, .inl (nF (LS 5)))), (La7, .inl (cI, 5, .inl (nF (LS 7)))), (La8, .inl (cI, 5, .inl (nF (LS 8)))), (La9, .inl (cI, 5, .inl (nF (LS 9))))]) (fun i2 z2 => [(0, .ref Yh), (1, .ref Lh), (2, .int (nI v_z)), (3, .int (nI z1.2)), (4, .int (nI i1)), (5, .int (nI (YS 2 ((i1 * 61) + z1.2)))), (6, .int (nI i2))]) 31 8 (YS 0 i1 + 1) 0 (Nat.zero_le _) ?_ ?_ () trivial _ _ ls (by first | exact hP) (by first | exact hD) hS (lv_sub hl [2, 3, 4, 5, 6, 1, 0] rfl)
    · intro z2 hI2 H locs ls hP hD hS hl
      have hl : lv_has ls 8 [(0, .ref Yh), (1, .ref Lh), (2, .int (nI v_z)), (3, .int (nI z1.2)), (4, .int (nI i1)), (5, .int (nI (YS 2 ((i1 * 61) + z1.2)))), (6, .int (nI (YS 0 i1 + 1)))] := hl
      obtain ⟨hP, hD⟩ : wPD D A [(Yh, .inr (2, [.ref Ya0, .ref Ya1, .ref Ya2, .int (nI (YS 3 0))])), (Ya0, .inl (cI, 6, .inl (nF (YS 0)))), (Ya1, .inl (cI, 6, .inl (nF (z1.1)))), (Ya2, .inl (cI, 427, .inl (nF (YS 2)))), (Lh, .inr (0, [.int (nI (LS 0 0)), .ref La1, .ref La2, .int (nI (LS 3 0)), .ref La4, .ref La5, .int (nI (LS 6 0)), .ref La7, .ref La8, .ref La9, .int (nI (LS 10 0)), .int (nI (LS 11 0))])), (La1, .inl (cI, 6, .inl (nF (LS 1)))), (La2, .inl (cI, 6, .inl (nF (LS 2)))), (La4, .inl (cI, 5, .inl (nF (LS 4)))), (La5, .inl (cI, 30, .inl (nF (LS 5)))), (La7, .inl (cI, 5, .inl (nF (LS 7)))), (La8, .inl (cI, 5, .inl (nF (LS 8)))), (La9, .inl (cI, 5, .inl (nF (LS 9))))] H := ⟨hP, hD⟩
      refine lv_iload hx hb dX2_choose_31 (lv_at hl 6 rfl) ?_
      refine lv_aload_n hx hb dX2_choose_33 rfl (lv_at hl 0 rfl) ?_
      refine va_get (D := D) (ci := 2) (v := .ref Ya0) (C := RX2) (T := TX2) (N := 4) hx hb hts in_X2_choose_2 hown hK.1 hP 0 rfl rfl 0 (by decide) (hts (.fieldLink RX2 9 "ChildCoins$Payment" "stock" "[I") (List.mem_of_getElem? (i := 2) rfl)) (fun _ h9 => h9) rfl dX2_choose_34 ?_
      refine lv_iload hx hb dX2_choose_37 (lv_at hl 4 rfl) ?_
      refine va_iald hx hb hK.1 hP 1 0 rfl rfl (vp_in_nI (n := i1) (N := 6) (by omega) (by decide)) dX2_choose_39 ?_
      refine set_i (y := nI (YS 0 i1)) (nF_ld (by omega)) ?_
      have b4 := hs0 i1
      refine nb_icmp_gt (tgt := 115) hx hb dX2_choose_40 (by decide) (by omega) (by omega) (fun hq5 => ?_) (fun hq5 => absurd hq5 (by omega))
      refine lv_iinc (v := nI (i1 + 1)) (lv' := [(4, .int (nI (i1 + 1))), (0, .ref Yh), (1, .ref Lh), (2, .int (nI v_z)), (3, .int (nI z1.2)), (5, .int (nI (YS 2 ((i1 * 61) + z1.2)))), (6, .int (nI (YS 0 i1 + 1)))]) hx hb dX2_choose_115 hl (k := 4) rfl (nI_add i1 1) (by decide) rfl (fun ls hl => ?_)
      refine lv_goto (tgt := 5) hx hb dX2_choose_118 (by decide) ?_
      have hl : lv_has ls 8 [(0, .ref Yh), (1, .ref Lh), (2, .int (nI v_z)), (3, .int (nI z1.2)), (4, .int (nI (i1 + 1)))] := lv_sub hl [1, 2, 3, 4, 0] rfl
      exact ih1 (z1.1, z1.2) ⟨by first | exact hI1.1 | exact un_le2 hI1.1 (by omega), by omega⟩ _ _ _ hP hD hS hl
    · intro i2 hi02 hi2 z2 hI2 ih2 H locs ls hP hD hS hl
      have hl : lv_has ls 8 [(0, .ref Yh), (1, .ref Lh), (2, .int (nI v_z)), (3, .int (nI z1.2)), (4, .int (nI i1)), (5, .int (nI (YS 2 ((i1 * 61) + z1.2)))), (6, .int (nI i2))] := hl
      obtain ⟨hP, hD⟩ : wPD D A [(Yh, .inr (2, [.ref Ya0, .ref Ya1, .ref Ya2, .int (nI (YS 3 0))])), (Ya0, .inl (cI, 6, .inl (nF (YS 0)))), (Ya1, .inl (cI, 6, .inl (nF (z1.1)))), (Ya2, .inl (cI, 427, .inl (nF (YS 2)))), (Lh, .inr (0, [.int (nI (LS 0 0)), .ref La1, .ref La2, .int (nI (LS 3 0)), .ref La4, .ref La5, .int (nI (LS 6 0)), .ref La7, .ref La8, .ref La9, .int (nI (LS 10 0)), .int (nI (LS 11 0))])), (La1, .inl (cI, 6, .inl (nF (LS 1)))), (La2, .inl (cI, 6, .inl (nF (LS 2)))), (La4, .inl (cI, 5, .inl (nF (LS 4)))), (La5, .inl (cI, 30, .inl (nF (LS 5)))), (La7, .inl (cI, 5, .inl (nF (LS 7)))), (La8, .inl (cI, 5, .inl (nF (LS 8)))), (La9, .inl (cI, 5, .inl (nF (LS 9))))] H := ⟨hP, hD⟩
      refine lv_iload hx hb dX2_choose_31 (lv_at hl 6 rfl) ?_
      refine lv_aload_n hx hb dX2_choose_33 rfl (lv_at hl 0 rfl) ?_
      refine va_get (D := D) (ci := 2) (v := .ref Ya0) (C := RX2) (T := TX2) (N := 4) hx hb hts in_X2_choose_2 hown hK.1 hP 0 rfl rfl 0 (by decide) (hts (.fieldLink RX2 9 "ChildCoins$Payment" "stock" "[I") (List.mem_of_getElem? (i := 2) rfl)) (fun _ h9 => h9) rfl dX2_choose_34 ?_
      refine lv_iload hx hb dX2_choose_37 (lv_at hl 4 rfl) ?_
      refine va_iald hx hb hK.1 hP 1 0 rfl rfl (vp_in_nI (n := i1) (N := 6) (by omega) (by decide)) dX2_choose_39 ?_
      refine set_i (y := nI (YS 0 i1)) (nF_ld (by omega)) ?_
      have b6 := hs0 i1
      refine nb_icmp_gt (tgt := 115) hx hb dX2_choose_40 (by decide) (by omega) (by omega) (fun hq7 => absurd hq7 (by omega)) (fun hq7 => ?_)
      have bs0 := hs0 i1
      have bw := Nat.mul_le_mul (show i2 ≤ 99 by omega) (bl2 i1)
      refine lv_iload hx hb dX2_choose_43 (lv_at hl 6 rfl) ?_
      refine lv_aload_n hx hb dX2_choose_45 rfl (lv_at hl 1 rfl) ?_
      refine va_getN (D := D) (ci := 0) (v := .ref La2) (C := RX0) (T := TX0) (N := 12) hx hb hts in_X2_choose_0 hown hK.1 hP 4 rfl rfl 2 (by decide) (nfX2_58 hK.2) (fun _ h9 => h9) rfl dX2_choose_46 ?_
      refine lv_iload hx hb dX2_choose_49 (lv_at hl 4 rfl) ?_
      refine va_iald hx hb hK.1 hP 6 0 rfl rfl (vp_in_nI (n := i1) (N := 6) (by omega) (by decide)) dX2_choose_51 ?_
      refine set_i (y := nI (LS 2 i1)) (nF_ld (by omega)) ?_
      have b8 := bl2 i1
      refine lv_imul hx hb dX2_choose_52 ?_
      refine set_i (y := nI (i2 * (LS 2 i1))) (pk_mul i2 (LS 2 i1)) ?_
      refine lv_iload_n hx hb dX2_choose_53 rfl (lv_at hl 3 rfl) ?_
      refine nb_icmp_gt (tgt := 115) hx hb dX2_choose_54 (by decide) (by omega) (by omega) (fun hq9 => ?_) (fun hq9 => ?_)
      · skip
        refine lv_iinc (v := nI (i1 + 1)) (lv' := [(4, .int (nI (i1 + 1))), (0, .ref Yh), (1, .ref Lh), (2, .int (nI v_z)), (3, .int (nI z1.2)), (5, .int (nI (YS 2 ((i1 * 61) + z1.2)))), (6, .int (nI i2))]) hx hb dX2_choose_115 hl (k := 4) rfl (nI_add i1 1) (by decide) rfl (fun ls hl => ?_)
        refine lv_goto (tgt := 5) hx hb dX2_choose_118 (by decide) ?_
        have hl : lv_has ls 8 [(0, .ref Yh), (1, .ref Lh), (2, .int (nI v_z)), (3, .int (nI z1.2)), (4, .int (nI (i1 + 1)))] := lv_sub hl [1, 2, 3, 4, 0] rfl
        exact ih1 (z1.1, z1.2) ⟨by first | exact hI1.1 | exact un_le2 hI1.1 (by omega), by omega⟩ _ _ _ hP hD hS hl
      · skip
        refine lv_iload_n hx hb dX2_choose_57 rfl (lv_at hl 3 rfl) ?_
        refine lv_iload hx hb dX2_choose_58 (lv_at hl 6 rfl) ?_
        refine lv_aload_n hx hb dX2_choose_60 rfl (lv_at hl 1 rfl) ?_
        refine va_getN (D := D) (ci := 0) (v := .ref La2) (C := RX0) (T := TX0) (N := 12) hx hb hts in_X2_choose_0 hown hK.1 hP 4 rfl rfl 2 (by decide) (nfX2_58 hK.2) (fun _ h9 => h9) rfl dX2_choose_61 ?_
        refine lv_iload hx hb dX2_choose_64 (lv_at hl 4 rfl) ?_
        refine va_iald hx hb hK.1 hP 6 0 rfl rfl (vp_in_nI (n := i1) (N := 6) (by omega) (by decide)) dX2_choose_66 ?_
        refine set_i (y := nI (LS 2 i1)) (nF_ld (by omega)) ?_
        have b10 := bl2 i1
        refine lv_imul hx hb dX2_choose_67 ?_
        refine set_i (y := nI (i2 * (LS 2 i1))) (pk_mul i2 (LS 2 i1)) ?_
        refine lv_isub hx hb dX2_choose_68 ?_
        refine set_i (y := nI (z1.2 - (i2 * (LS 2 i1)))) (pk_sub (by omega)) ?_
        refine lv_istore (lv' := [(7, .int (nI (z1.2 - (i2 * (LS 2 i1))))), (0, .ref Yh), (1, .ref Lh), (2, .int (nI v_z)), (3, .int (nI z1.2)), (4, .int (nI i1)), (5, .int (nI (YS 2 ((i1 * 61) + z1.2)))), (6, .int (nI i2))]) hx hb dX2_choose_69 hl (by decide) rfl (fun ls hl => ?_)
        refine lv_iload hx hb dX2_choose_71 (lv_at hl 7 rfl) ?_
        refine lv_aload_n hx hb dX2_choose_73 rfl (lv_at hl 1 rfl) ?_
        refine va_get (D := D) (ci := 2) (v := .ref Ya2) (C := RX2) (T := TX2) (N := 4) hx hb hts in_X2_choose_2 hown hK.1 hP 0 rfl rfl 2 (by decide) (hts (.fieldLink RX2 18 "ChildCoins$Payment" "fewest" "[I") (List.mem_of_getElem? (i := 1) rfl)) (fun _ h9 => h9) rfl dX2_choose_74 ?_
        refine lv_iload hx hb dX2_choose_77 (lv_at hl 5 rfl) ?_
        refine lv_iconst (v := nI 1) hx hb dX2_choose_79 (by decide) ?_
        refine lv_iadd hx hb dX2_choose_80 ?_
        refine set_i (y := nI (i1 + 1)) (nI_add i1 1) ?_
        refine lv_bipush (v := nI 61) hx hb dX2_choose_81 (by decide) ?_
        refine lv_imul hx hb dX2_choose_83 ?_
        refine set_i (y := nI ((i1 + 1) * 61)) (pk_mul (i1 + 1) 61) ?_
        refine lv_iload hx hb dX2_choose_84 (lv_at hl 0 rfl) ?_
        refine lv_iadd hx hb dX2_choose_86 ?_
        refine set_i (y := nI (((i1 + 1) * 61) + (z1.2 - (i2 * (LS 2 i1))))) (nI_add ((i1 + 1) * 61) (z1.2 - (i2 * (LS 2 i1)))) ?_
        refine va_iald hx hb hK.1 hP 3 0 rfl rfl (vp_in_nI (n := ((i1 + 1) * 61) + (z1.2 - (i2 * (LS 2 i1)))) (N := 427) (by omega) (by decide)) dX2_choose_87 ?_
        refine set_i (y := nI (YS 2 (((i1 + 1) * 61) + (z1.2 - (i2 * (LS 2 i1)))))) (nF_ld (by omega)) ?_
        have b11 := hf0 (((i1 + 1) * 61) + (z1.2 - (i2 * (LS 2 i1))))
        refine lv_iadd hx hb dX2_choose_88 ?_
        refine set_i (y := nI (i2 + (YS 2 (((i1 + 1) * 61) + (z1.2 - (i2 * (LS 2 i1))))))) (nI_add i2 (YS 2 (((i1 + 1) * 61) + (z1.2 - (i2 * (LS 2 i1)))))) ?_
        refine lv_iload hx hb dX2_choose_89 (lv_at hl 6 rfl) ?_
        refine nb_icmp_ne (tgt := 109) hx hb dX2_choose_91 (by decide) (by omega) (by omega) (fun hq12 => ?_) (fun hq12 => ?_)
        · skip
          refine lv_iinc (v := nI (i2 + 1)) (lv' := [(6, .int (nI (i2 + 1))), (7, .int (nI (z1.2 - (i2 * (LS 2 i1))))), (0, .ref Yh), (1, .ref Lh), (2, .int (nI v_z)), (3, .int (nI z1.2)), (4, .int (nI i1)), (5, .int (nI (YS 2 ((i1 * 61) + z1.2))))]) hx hb dX2_choose_109 hl (k := 7) rfl (nI_add i2 1) (by decide) rfl (fun ls hl => ?_)
          refine lv_goto (tgt := 31) hx hb dX2_choose_112 (by decide) ?_
          have hl : lv_has ls 8 [(0, .ref Yh), (1, .ref Lh), (2, .int (nI v_z)), (3, .int (nI z1.2)), (4, .int (nI i1)), (5, .int (nI (YS 2 ((i1 * 61) + z1.2)))), (6, .int (nI (i2 + 1)))] := lv_sub hl [2, 3, 4, 5, 6, 7, 0] rfl
          exact ih2 () trivial _ _ _ hP hD hS hl
        · skip
          refine lv_aload_n hx hb dX2_choose_94 rfl (lv_at hl 1 rfl) ?_
          refine va_get (D := D) (ci := 2) (v := .ref Ya1) (C := RX2) (T := TX2) (N := 4) hx hb hts in_X2_choose_2 hown hK.1 hP 0 rfl rfl 1 (by decide) (hts (.fieldLink RX2 15 "ChildCoins$Payment" "used" "[I") (List.mem_of_getElem? (i := 3) rfl)) (fun _ h9 => h9) rfl dX2_choose_95 ?_
          refine lv_iload hx hb dX2_choose_98 (lv_at hl 5 rfl) ?_
          refine lv_iload hx hb dX2_choose_100 (lv_at hl 7 rfl) ?_
          refine va_iast hx hb hK.1 hP hD hS 2 0 rfl rfl (vp_in_nI (n := i1) (N := 6) (by omega) (by decide)) dX2_choose_102 (fun H locs hP hD hS => ?_)
          obtain ⟨hP, hD⟩ : wPD D A [(Yh, .inr (2, [.ref Ya0, .ref Ya1, .ref Ya2, .int (nI (YS 3 0))])), (Ya0, .inl (cI, 6, .inl (nF (YS 0)))), (Ya1, .inl (cI, 6, .inl (upd (nF (z1.1)) (nI i1).toNatClampNeg (nI i2)))), (Ya2, .inl (cI, 427, .inl (nF (YS 2)))), (Lh, .inr (0, [.int (nI (LS 0 0)), .ref La1, .ref La2, .int (nI (LS 3 0)), .ref La4, .ref La5, .int (nI (LS 6 0)), .ref La7, .ref La8, .ref La9, .int (nI (LS 10 0)), .int (nI (LS 11 0))])), (La1, .inl (cI, 6, .inl (nF (LS 1)))), (La2, .inl (cI, 6, .inl (nF (LS 2)))), (La4, .inl (cI, 5, .inl (nF (LS 4)))), (La5, .inl (cI, 30, .inl (nF (LS 5)))), (La7, .inl (cI, 5, .inl (nF (LS 7)))), (La8, .inl (cI, 5, .inl (nF (LS 8)))), (La9, .inl (cI, 5, .inl (nF (LS 9))))] H := ⟨hP, hD⟩
          rw [nF_st (by omega)] at hP hD
          refine lv_iload hx hb dX2_choose_103 (lv_at hl 0 rfl) ?_
          refine lv_istore_n (lv' := [(3, .int (nI (z1.2 - (i2 * (LS 2 i1))))), (7, .int (nI (z1.2 - (i2 * (LS 2 i1))))), (0, .ref Yh), (1, .ref Lh), (2, .int (nI v_z)), (4, .int (nI i1)), (5, .int (nI (YS 2 ((i1 * 61) + z1.2)))), (6, .int (nI i2))]) hx hb dX2_choose_105 rfl hl (by decide) rfl (fun ls hl => ?_)
          refine lv_goto (tgt := 115) hx hb dX2_choose_106 (by decide) ?_
          refine lv_iinc (v := nI (i1 + 1)) (lv' := [(4, .int (nI (i1 + 1))), (3, .int (nI (z1.2 - (i2 * (LS 2 i1))))), (7, .int (nI (z1.2 - (i2 * (LS 2 i1))))), (0, .ref Yh), (1, .ref Lh), (2, .int (nI v_z)), (5, .int (nI (YS 2 ((i1 * 61) + z1.2)))), (6, .int (nI i2))]) hx hb dX2_choose_115 hl (k := 5) rfl (nI_add i1 1) (by decide) rfl (fun ls hl => ?_)
          refine lv_goto (tgt := 5) hx hb dX2_choose_118 (by decide) ?_
          have hl : lv_has ls 8 [(0, .ref Yh), (1, .ref Lh), (2, .int (nI v_z)), (3, .int (nI (z1.2 - (i2 * (LS 2 i1))))), (4, .int (nI (i1 + 1)))] := lv_sub hl [3, 4, 5, 1, 0] rfl
          exact ih1 (un (z1.1) i1 i2, z1.2 - (i2 * (LS 2 i1))) ⟨by first | exact hI1.1 | exact un_le2 hI1.1 (by omega), by omega⟩ _ _ _ hP hD hS hl
