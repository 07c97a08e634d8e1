set_option maxRecDepth 20000 in
theorem dAX2_fillFewest : decA cX2_fillFewest [(0, .aload_n 1, 1), (1, .getfield 29, 3), (4, .bipush 61, 2), (6, .imul, 1), (7, .istore_n 3, 1), (8, .iconst 0, 1), (9, .istore 4, 2), (11, .iload 4, 2), (13, .iload_n 2, 1), (14, .if_icmp .gt 29, 3), (17, .aload_n 0, 1), (18, .getfield 18, 3), (21, .iload_n 3, 1), (22, .iload 4, 2), (24, .iadd, 1), (25, .iload 4, 2), (27, .ifCond .ne 7, 3), (30, .iconst 0, 1), (31, .goto 5, 3), (34, .ldc 54, 2), (36, .iastore, 1), (37, .iinc 4 1, 3), (40, .goto (-29), 3), (43, .aload_n 1, 1), (44, .getfield 29, 3), (47, .iconst 1, 1), (48, .isub, 1), (49, .istore 4, 2), (51, .iload 4, 2), (53, .ifCond .lt 52, 3), (56, .iconst 0, 1), (57, .istore 5, 2), (59, .iload 5, 2), (61, .iload_n 2, 1), (62, .if_icmp .gt 37, 3), (65, .aload_n 0, 1), (66, .getfield 18, 3), (69, .iload 4, 2), (71, .bipush 61, 2), (73, .imul, 1), (74, .iload 5, 2), (76, .iadd, 1), (77, .aload_n 0, 1), (78, .iload 4, 2), (80, .aload_n 1, 1), (81, .getfield 58, 3), (84, .iload 4, 2), (86, .iaload, 1), (87, .iload 5, 2), (89, .invokevirtual 61, 3), (92, .iastore, 1), (93, .iinc 5 1, 3), (96, .goto (-37), 3), (99, .iinc 4 (-1), 3), (102, .goto (-51), 3), (105, .return_, 1)] = true := by decide +kernel
theorem dX2_fillFewest_0 : decode cX2_fillFewest 0 = .ok (.aload_n 1, 1) := decA_get dAX2_fillFewest 0 rfl
theorem dX2_fillFewest_1 : decode cX2_fillFewest 1 = .ok (.getfield 29, 3) := decA_get dAX2_fillFewest 1 rfl
theorem in_X2_fillFewest_0 : ∀ w ∈ wsX00, w ∈ wsX2_fillFewest := fun w h => (gd_ids wi_X2_fillFewest wm_X2_fillFewest wi_X00 (by decide +kernel) w h).1
theorem dX2_fillFewest_4 : decode cX2_fillFewest 4 = .ok (.bipush 61, 2) := decA_get dAX2_fillFewest 2 rfl
theorem dX2_fillFewest_6 : decode cX2_fillFewest 6 = .ok (.imul, 1) := decA_get dAX2_fillFewest 3 rfl
theorem dX2_fillFewest_7 : decode cX2_fillFewest 7 = .ok (.istore_n 3, 1) := decA_get dAX2_fillFewest 4 rfl
theorem dX2_fillFewest_8 : decode cX2_fillFewest 8 = .ok (.iconst 0, 1) := decA_get dAX2_fillFewest 5 rfl
theorem dX2_fillFewest_9 : decode cX2_fillFewest 9 = .ok (.istore 4, 2) := decA_get dAX2_fillFewest 6 rfl
theorem dX2_fillFewest_11 : decode cX2_fillFewest 11 = .ok (.iload 4, 2) := decA_get dAX2_fillFewest 7 rfl
theorem dX2_fillFewest_13 : decode cX2_fillFewest 13 = .ok (.iload_n 2, 1) := decA_get dAX2_fillFewest 8 rfl
theorem dX2_fillFewest_14 : decode cX2_fillFewest 14 = .ok (.if_icmp .gt 29, 3) := decA_get dAX2_fillFewest 9 rfl
theorem dX2_fillFewest_43 : decode cX2_fillFewest 43 = .ok (.aload_n 1, 1) := decA_get dAX2_fillFewest 23 rfl
theorem dX2_fillFewest_44 : decode cX2_fillFewest 44 = .ok (.getfield 29, 3) := decA_get dAX2_fillFewest 24 rfl
theorem dX2_fillFewest_47 : decode cX2_fillFewest 47 = .ok (.iconst 1, 1) := decA_get dAX2_fillFewest 25 rfl
theorem dX2_fillFewest_48 : decode cX2_fillFewest 48 = .ok (.isub, 1) := decA_get dAX2_fillFewest 26 rfl
theorem dX2_fillFewest_49 : decode cX2_fillFewest 49 = .ok (.istore 4, 2) := decA_get dAX2_fillFewest 27 rfl
theorem dX2_fillFewest_51 : decode cX2_fillFewest 51 = .ok (.iload 4, 2) := decA_get dAX2_fillFewest 28 rfl
theorem dX2_fillFewest_53 : decode cX2_fillFewest 53 = .ok (.ifCond .lt 52, 3) := decA_get dAX2_fillFewest 29 rfl
theorem dX2_fillFewest_105 : decode cX2_fillFewest 105 = .ok (.return_, 1) := decA_get dAX2_fillFewest 55 rfl
theorem dX2_fillFewest_56 : decode cX2_fillFewest 56 = .ok (.iconst 0, 1) := decA_get dAX2_fillFewest 30 rfl
theorem dX2_fillFewest_57 : decode cX2_fillFewest 57 = .ok (.istore 5, 2) := decA_get dAX2_fillFewest 31 rfl
theorem dX2_fillFewest_59 : decode cX2_fillFewest 59 = .ok (.iload 5, 2) := decA_get dAX2_fillFewest 32 rfl
theorem dX2_fillFewest_61 : decode cX2_fillFewest 61 = .ok (.iload_n 2, 1) := decA_get dAX2_fillFewest 33 rfl
theorem dX2_fillFewest_62 : decode cX2_fillFewest 62 = .ok (.if_icmp .gt 37, 3) := decA_get dAX2_fillFewest 34 rfl
theorem dX2_fillFewest_99 : decode cX2_fillFewest 99 = .ok (.iinc 4 (-1), 3) := decA_get dAX2_fillFewest 53 rfl
theorem dX2_fillFewest_102 : decode cX2_fillFewest 102 = .ok (.goto (-51), 3) := decA_get dAX2_fillFewest 54 rfl
theorem dX2_fillFewest_65 : decode cX2_fillFewest 65 = .ok (.aload_n 0, 1) := decA_get dAX2_fillFewest 35 rfl
theorem dX2_fillFewest_66 : decode cX2_fillFewest 66 = .ok (.getfield 18, 3) := decA_get dAX2_fillFewest 36 rfl
theorem in_X2_fillFewest_2 : ∀ w ∈ wsX20, w ∈ wsX2_fillFewest := fun w h => (gd_ids wi_X2_fillFewest wm_X2_fillFewest wi_X20 (by decide +kernel) w h).1
theorem dX2_fillFewest_69 : decode cX2_fillFewest 69 = .ok (.iload 4, 2) := decA_get dAX2_fillFewest 37 rfl
theorem dX2_fillFewest_71 : decode cX2_fillFewest 71 = .ok (.bipush 61, 2) := decA_get dAX2_fillFewest 38 rfl
theorem dX2_fillFewest_73 : decode cX2_fillFewest 73 = .ok (.imul, 1) := decA_get dAX2_fillFewest 39 rfl
theorem dX2_fillFewest_74 : decode cX2_fillFewest 74 = .ok (.iload 5, 2) := decA_get dAX2_fillFewest 40 rfl
theorem dX2_fillFewest_76 : decode cX2_fillFewest 76 = .ok (.iadd, 1) := decA_get dAX2_fillFewest 41 rfl
theorem dX2_fillFewest_77 : decode cX2_fillFewest 77 = .ok (.aload_n 0, 1) := decA_get dAX2_fillFewest 42 rfl
theorem dX2_fillFewest_78 : decode cX2_fillFewest 78 = .ok (.iload 4, 2) := decA_get dAX2_fillFewest 43 rfl
theorem dX2_fillFewest_80 : decode cX2_fillFewest 80 = .ok (.aload_n 1, 1) := decA_get dAX2_fillFewest 44 rfl
theorem dX2_fillFewest_81 : decode cX2_fillFewest 81 = .ok (.getfield 58, 3) := decA_get dAX2_fillFewest 45 rfl
theorem dX2_fillFewest_84 : decode cX2_fillFewest 84 = .ok (.iload 4, 2) := decA_get dAX2_fillFewest 46 rfl
theorem dX2_fillFewest_86 : decode cX2_fillFewest 86 = .ok (.iaload, 1) := decA_get dAX2_fillFewest 47 rfl
theorem dX2_fillFewest_87 : decode cX2_fillFewest 87 = .ok (.iload 5, 2) := decA_get dAX2_fillFewest 48 rfl
theorem dX2_fillFewest_89 : decode cX2_fillFewest 89 = .ok (.invokevirtual 61, 3) := decA_get dAX2_fillFewest 49 rfl
set_option maxRecDepth 20000 in
theorem ggX2_fillFewest_X2_fewestFrom : GoodIn wsX2_fillFewest wsX2_fewestFrom := gd_ids wi_X2_fillFewest wm_X2_fillFewest wi_X2_fewestFrom (by decide +kernel)
set_option maxRecDepth 20000 in
theorem gX2_fillFewest_X2_fewestFrom : GoodIn wsX2_fillFewest (wsV RX2 61 RX2 yX2_fewestFrom wsX2_fewestFrom) := goodIn_app (gd_ids wi_X2_fillFewest wm_X2_fillFewest (b := [150, 151, 152, 153]) rfl (by decide +kernel)) ggX2_fillFewest_X2_fewestFrom
theorem dX2_fillFewest_92 : decode cX2_fillFewest 92 = .ok (.iastore, 1) := decA_get dAX2_fillFewest 50 rfl
theorem dX2_fillFewest_93 : decode cX2_fillFewest 93 = .ok (.iinc 5 1, 3) := decA_get dAX2_fillFewest 51 rfl
theorem dX2_fillFewest_96 : decode cX2_fillFewest 96 = .ok (.goto (-37), 3) := decA_get dAX2_fillFewest 52 rfl
theorem dX2_fillFewest_17 : decode cX2_fillFewest 17 = .ok (.aload_n 0, 1) := decA_get dAX2_fillFewest 10 rfl
theorem dX2_fillFewest_18 : decode cX2_fillFewest 18 = .ok (.getfield 18, 3) := decA_get dAX2_fillFewest 11 rfl
theorem dX2_fillFewest_21 : decode cX2_fillFewest 21 = .ok (.iload_n 3, 1) := decA_get dAX2_fillFewest 12 rfl
theorem dX2_fillFewest_22 : decode cX2_fillFewest 22 = .ok (.iload 4, 2) := decA_get dAX2_fillFewest 13 rfl
theorem dX2_fillFewest_24 : decode cX2_fillFewest 24 = .ok (.iadd, 1) := decA_get dAX2_fillFewest 14 rfl
theorem dX2_fillFewest_25 : decode cX2_fillFewest 25 = .ok (.iload 4, 2) := decA_get dAX2_fillFewest 15 rfl
theorem dX2_fillFewest_27 : decode cX2_fillFewest 27 = .ok (.ifCond .ne 7, 3) := decA_get dAX2_fillFewest 16 rfl
theorem dX2_fillFewest_34 : decode cX2_fillFewest 34 = .ok (.ldc 54, 2) := decA_get dAX2_fillFewest 19 rfl
theorem dX2_fillFewest_36 : decode cX2_fillFewest 36 = .ok (.iastore, 1) := decA_get dAX2_fillFewest 20 rfl
theorem dX2_fillFewest_37 : decode cX2_fillFewest 37 = .ok (.iinc 4 1, 3) := decA_get dAX2_fillFewest 21 rfl
theorem dX2_fillFewest_40 : decode cX2_fillFewest 40 = .ok (.goto (-29), 3) := decA_get dAX2_fillFewest 22 rfl
theorem dX2_fillFewest_30 : decode cX2_fillFewest 30 = .ok (.iconst 0, 1) := decA_get dAX2_fillFewest 17 rfl
theorem dX2_fillFewest_31 : decode cX2_fillFewest 31 = .ok (.goto 5, 3) := decA_get dAX2_fillFewest 18 rfl
set_option maxHeartbeats 4000000 in
set_option maxRecDepth 100000 in
theorem g_fillFewest (l : Launch) (D : va_G) (cI cB cZ cN : ClassId) (Yh : Nat) (Ya0 : Nat) (Ya1 : Nat) (Ya2 : Nat) (YS : Nat → Nat → Nat) (Lh : Nat) (La1 : Nat) (La2 : Nat) (La4 : Nat) (La5 : Nat) (La7 : Nat) (La8 : Nat) (La9 : Nat) (LS : Nat → Nat → Nat) (v_z : Nat) (hL : LandOk LS) (hs0 : ∀ j, YS 0 j ≤ 99) (hf0 : ∀ j, YS 2 j ≤ 1000000) (hz : v_z ≤ 60) : Cv (S := (Nat → Nat → Nat)) l D cI cB cZ cN yX2_fillFewest wsX2_fillFewest ({ frames := 1, cells := 0, slots := 0, locals := 27 } : Room) [.ref Yh, .ref Lh, .int (nI v_z)] [(Yh, .inr (2, [.ref Ya0, .ref Ya1, .ref Ya2, .int (nI (YS 3 0))])), (Ya0, .inl (cI, 6, .inl (nF (YS 0)))), (Ya1, .inl (cI, 6, .inl (nF (YS 1)))), (Ya2, .inl (cI, 427, .inl (nF (YS 2)))), (Lh, .inr (0, [.int (nI (LS 0 0)), .ref La1, .ref La2, .int (nI (LS 3 0)), .ref La4, .ref La5, .int (nI (LS 6 0)), .ref La7, .ref La8, .ref La9, .int (nI (LS 10 0)), .int (nI (LS 11 0))])), (La1, .inl (cI, 6, .inl (nF (LS 1)))), (La2, .inl (cI, 6, .inl (nF (LS 2)))), (La4, .inl (cI, 5, .inl (nF (LS 4)))), (La5, .inl (cI, 30, .inl (nF (LS 5)))), (La7, .inl (cI, 5, .inl (nF (LS 7)))), (La8, .inl (cI, 5, .inl (nF (LS 8)))), (La9, .inl (cI, 5, .inl (nF (LS 9))))] (fun (u : (Nat → Nat → Nat)) => ∃ g, u = ua YS 2 g ∧ ∀ j, g j ≤ 1000000) (fun u => [(Yh, .inr (2, [.ref Ya0, .ref Ya1, .ref Ya2, .int (nI (u 3 0))])), (Ya0, .inl (cI, 6, .inl (nF (u 0)))), (Ya1, .inl (cI, 6, .inl (nF (u 1)))), (Ya2, .inl (cI, 427, .inl (nF (u 2)))), (Lh, .inr (0, [.int (nI (LS 0 0)), .ref La1, .ref La2, .int (nI (LS 3 0)), .ref La4, .ref La5, .int (nI (LS 6 0)), .ref La7, .ref La8, .ref La9, .int (nI (LS 10 0)), .int (nI (LS 11 0))])), (La1, .inl (cI, 6, .inl (nF (LS 1)))), (La2, .inl (cI, 6, .inl (nF (LS 2)))), (La4, .inl (cI, 5, .inl (nF (LS 4)))), (La5, .inl (cI, 30, .inl (nF (LS 5)))), (La7, .inl (cI, 5, .inl (nF (LS 7)))), (La8, .inl (cI, 5, .inl (nF (LS 8)))), (La9, .inl (cI, 5, .inl (nF (LS 9))))]) := by
  refine bx_of (D := D) (cI := cI) (cB := cB) (cZ := cZ) (cN := cN) (y := yX2_fillFewest) (wd := wsX2_fillFewest) (rm := ({ frames := 1, cells := 0, slots := 0, locals := 27 } : Room)) (av := [.ref Yh, .ref Lh, .int (nI v_z)]) (wc := [(Yh, .inr (2, [.ref Ya0, .ref Ya1, .ref Ya2, .int (nI (YS 3 0))])), (Ya0, .inl (cI, 6, .inl (nF (YS 0)))), (Ya1, .inl (cI, 6, .inl (nF (YS 1)))), (Ya2, .inl (cI, 427, .inl (nF (YS 2)))), (Lh, .inr (0, [.int (nI (LS 0 0)), .ref La1, .ref La2, .int (nI (LS 3 0)), .ref La4, .ref La5, .int (nI (LS 6 0)), .ref La7, .ref La8, .ref La9, .int (nI (LS 10 0)), .int (nI (LS 11 0))])), (La1, .inl (cI, 6, .inl (nF (LS 1)))), (La2, .inl (cI, 6, .inl (nF (LS 2)))), (La4, .inl (cI, 5, .inl (nF (LS 4)))), (La5, .inl (cI, 30, .inl (nF (LS 5)))), (La7, .inl (cI, 5, .inl (nF (LS 7)))), (La8, .inl (cI, 5, .inl (nF (LS 8)))), (La9, .inl (cI, 5, .inl (nF (LS 9))))]) (cc := cX2_fillFewest) (maxL := 6) (ret := none) (Qc := fun _ A => va_Qv (S := (Nat → Nat → Nat)) (fun (u : (Nat → Nat → Nat)) => ∃ g, u = ua YS 2 g ∧ ∀ j, g j ≤ 1000000) (Aft D (fun (u : (Nat → Nat → Nat)) => [(Yh, .inr (2, [.ref Ya0, .ref Ya1, .ref Ya2, .int (nI (u 3 0))])), (Ya0, .inl (cI, 6, .inl (nF (u 0)))), (Ya1, .inl (cI, 6, .inl (nF (u 1)))), (Ya2, .inl (cI, 427, .inl (nF (u 2)))), (Lh, .inr (0, [.int (nI (LS 0 0)), .ref La1, .ref La2, .int (nI (LS 3 0)), .ref La4, .ref La5, .int (nI (LS 6 0)), .ref La7, .ref La8, .ref La9, .int (nI (LS 10 0)), .int (nI (LS 11 0))])), (La1, .inl (cI, 6, .inl (nF (LS 1)))), (La2, .inl (cI, 6, .inl (nF (LS 2)))), (La4, .inl (cI, 5, .inl (nF (LS 4)))), (La5, .inl (cI, 30, .inl (nF (LS 5)))), (La7, .inl (cI, 5, .inl (nF (LS 7)))), (La8, .inl (cI, 5, .inl (nF (LS 8)))), (La9, .inl (cI, 5, .inl (nF (LS 9))))]) A) A) (by decide) rfl (Nat.le_of_ble_eq_true rfl) ?_
  intro p e s m below meth c A H locs ⟨hx, hb, hr, hml, hown, hts, hlk, hnm⟩ hK hP hD hS hA ls hl
  have hl : lv_has ls 6 [(0, .ref Yh), (1, .ref Lh), (2, .int (nI v_z))] := hl
  have hown : s.vm.findClass RX2 = some m.cls := hown
  obtain ⟨bl0, bl3, bl6, bl10, bl11, bl1, bl2, bl4, bl5, bl7, bl8, bl9⟩ := hL
  refine lv_aload_n hx hb dX2_fillFewest_0 rfl (lv_at hl 1 rfl) ?_
  refine va_getN (D := D) (ci := 0) (v := .int (nI (LS 0 0))) (C := RX0) (T := TX0) (N := 12) hx hb hts in_X2_fillFewest_0 hown hK.1 hP 4 rfl rfl 0 (by decide) (nfX2_29 hK.2) (fun _ h9 => h9) rfl dX2_fillFewest_1 ?_
  refine lv_bipush (v := nI 61) hx hb dX2_fillFewest_4 (by decide) ?_
  refine lv_imul hx hb dX2_fillFewest_6 ?_
  refine set_i (y := nI ((LS 0 0) * 61)) (pk_mul (LS 0 0) 61) ?_
  refine lv_istore_n (lv' := [(3, .int (nI ((LS 0 0) * 61))), (0, .ref Yh), (1, .ref Lh), (2, .int (nI v_z))]) hx hb dX2_fillFewest_7 rfl hl (by decide) rfl (fun ls hl => ?_)
  refine lv_iconst (v := nI 0) hx hb dX2_fillFewest_8 (by decide) ?_
  refine lv_istore (lv' := [(4, .int (nI 0)), (3, .int (nI ((LS 0 0) * 61))), (0, .ref Yh), (1, .ref Lh), (2, .int (nI v_z))]) hx hb dX2_fillFewest_9 hl (by decide) rfl (fun ls hl => ?_)
  refine loopS (σ := Nat → Nat) (D := D) (A := A) (fun i1 z1 => ∀ j, z1 j ≤ 1000000) (fun i1 z1 => [(Yh, .inr (2, [.ref Ya0, .ref Ya1, .ref Ya2, .int (nI (YS 3 0))])), (Ya0, .inl (cI, 6, .inl (nF (YS 0)))), (Ya1, .inl (cI, 6, .inl (nF (YS 1)))), (Ya2, .inl (cI, 427, .inl (nF (z1)))), (Lh, .inr (0, [.int (nI (LS 0 0)), .ref La1, .ref La2, .int (nI (LS 3 0)), .ref La4, .ref La5, .int (nI (LS 6 0)), .ref La7, .ref La8, .ref La9, .int (nI (LS 10 0)), .int (nI (LS 11 0))])), (La1, .inl (cI, 6, .inl (nF (LS 1)))), (La2, .inl (cI, 6, .inl (nF (LS 2)))), (La4, .inl (cI, 5, .inl (nF (LS 4)))), (La5, .inl (cI, 30, .inl (nF (LS 5)))), (La7, .inl (cI, 5, .inl (nF (LS 7)))), (La8, .inl (cI, 5, .inl (nF (LS 8)))), (La9, .inl (cI, 5, .inl (nF (LS 9))))]) (fun i1 z1 => [(0, .ref Yh), (1, .ref Lh), (2, .int (nI v_z)), (3, .int (nI ((LS 0 0) * 61))), (4, .int (nI i1))]) 11 6 (v_z + 1) 0 (Nat.zero_le _) ?_ ?_ (YS 2) hf0 _ _ ls (by first | exact hP) (by first | exact hD) hS (lv_sub hl [2, 3, 4, 1, 0] rfl)
  · intro z1 hI1 H locs ls hP hD hS hl
    have hl : lv_has ls 6 [(0, .ref Yh), (1, .ref Lh), (2, .int (nI v_z)), (3, .int (nI ((LS 0 0) * 61))), (4, .int (nI (v_z + 1)))] := hl
    obtain ⟨hP, hD⟩ : wPD D A [(Yh, .inr (2, [.ref Ya0, .ref Ya1, .ref Ya2, .int (nI (YS 3 0))])), (Ya0, .inl (cI, 6, .inl (nF (YS 0)))), (Ya1, .inl (cI, 6, .inl (nF (YS 1)))), (Ya2, .inl (cI, 427, .inl (nF (z1)))), (Lh, .inr (0, [.int (nI (LS 0 0)), .ref La1, .ref La2, .int (nI (LS 3 0)), .ref La4, .ref La5, .int (nI (LS 6 0)), .ref La7, .ref La8, .ref La9, .int (nI (LS 10 0)), .int (nI (LS 11 0))])), (La1, .inl (cI, 6, .inl (nF (LS 1)))), (La2, .inl (cI, 6, .inl (nF (LS 2)))), (La4, .inl (cI, 5, .inl (nF (LS 4)))), (La5, .inl (cI, 30, .inl (nF (LS 5)))), (La7, .inl (cI, 5, .inl (nF (LS 7)))), (La8, .inl (cI, 5, .inl (nF (LS 8)))), (La9, .inl (cI, 5, .inl (nF (LS 9))))] H := ⟨hP, hD⟩
    refine lv_iload hx hb dX2_fillFewest_11 (lv_at hl 4 rfl) ?_
    refine lv_iload_n hx hb dX2_fillFewest_13 rfl (lv_at hl 2 rfl) ?_
    refine nb_icmp_gt (tgt := 43) hx hb dX2_fillFewest_14 (by decide) (by omega) (by omega) (fun hq1 => ?_) (fun hq1 => absurd hq1 (by omega))
    refine lv_aload_n hx hb dX2_fillFewest_43 rfl (lv_at hl 1 rfl) ?_
    refine va_getN (D := D) (ci := 0) (v := .int (nI (LS 0 0))) (C := RX0) (T := TX0) (N := 12) hx hb hts in_X2_fillFewest_0 hown hK.1 hP 4 rfl rfl 0 (by decide) (nfX2_29 hK.2) (fun _ h9 => h9) rfl dX2_fillFewest_44 ?_
    refine lv_iconst (v := nI 1) hx hb dX2_fillFewest_47 (by decide) ?_
    refine lv_isub hx hb dX2_fillFewest_48 ?_
    refine lv_istore (lv' := [(4, .int (nI (LS 0 0) - nI 1)), (0, .ref Yh), (1, .ref Lh), (2, .int (nI v_z)), (3, .int (nI ((LS 0 0) * 61)))]) hx hb dX2_fillFewest_49 hl (by decide) rfl (fun ls hl => ?_)
    refine loopS (σ := Nat → Nat) (D := D) (A := A) (fun i2 z2 => ∀ j, z2 j ≤ 1000000) (fun i2 z2 => [(Yh, .inr (2, [.ref Ya0, .ref Ya1, .ref Ya2, .int (nI (YS 3 0))])), (Ya0, .inl (cI, 6, .inl (nF (YS 0)))), (Ya1, .inl (cI, 6, .inl (nF (YS 1)))), (Ya2, .inl (cI, 427, .inl (nF (z2)))), (Lh, .inr (0, [.int (nI (LS 0 0)), .ref La1, .ref La2, .int (nI (LS 3 0)), .ref La4, .ref La5, .int (nI (LS 6 0)), .ref La7, .ref La8, .ref La9, .int (nI (LS 10 0)), .int (nI (LS 11 0))])), (La1, .inl (cI, 6, .inl (nF (LS 1)))), (La2, .inl (cI, 6, .inl (nF (LS 2)))), (La4, .inl (cI, 5, .inl (nF (LS 4)))), (La5, .inl (cI, 30, .inl (nF (LS 5)))), (La7, .inl (cI, 5, .inl (nF (LS 7)))), (La8, .inl (cI, 5, .inl (nF (LS 8)))), (La9, .inl (cI, 5, .inl (nF (LS 9))))]) (fun i2 z2 => [(0, .ref Yh), (1, .ref Lh), (2, .int (nI v_z)), (3, .int (nI ((LS 0 0) * 61))), (4, .int (nI (LS 0 0 - i2) - nI 1))]) 51 6 (LS 0 0) 0 (Nat.zero_le _) ?_ ?_ z1 hI1 _ _ ls (by first | exact hP) (by first | exact hD) hS (lv_sub hl [1, 2, 3, 4, 0] rfl)
    · intro z2 hI2 H locs ls hP hD hS hl
      have hl : lv_has ls 6 [(0, .ref Yh), (1, .ref Lh), (2, .int (nI v_z)), (3, .int (nI ((LS 0 0) * 61))), (4, .int (nI (LS 0 0 - (LS 0 0)) - nI 1))] := hl
      obtain ⟨hP, hD⟩ : wPD D A [(Yh, .inr (2, [.ref Ya0, .ref Ya1, .ref Ya2, .int (nI (YS 3 0))])), (Ya0, .inl (cI, 6, .inl (nF (YS 0)))), (Ya1, .inl (cI, 6, .inl (nF (YS 1)))), (Ya2, .inl (cI, 427, .inl (nF (z2)))), (Lh, .inr (0, [.int (nI (LS 0 0)), .ref La1, .ref La2, .int (nI (LS 3 0)), .ref La4, .ref La5, .int (nI (LS 6 0)), .ref La7, .ref La8, .ref La9, .int (nI (LS 10 0)), .int (nI (LS 11 0))])), (La1, .inl (cI, 6, .inl (nF (LS 1)))), (La2, .inl (cI, 6, .inl (nF (LS 2)))), (La4, .inl (cI, 5, .inl (nF (LS 4)))), (La5, .inl (cI, 30, .inl (nF (LS 5)))), (La7, .inl (cI, 5, .inl (nF (LS 7)))), (La8, .inl (cI, 5, .inl (nF (LS 8)))), (La9, .inl (cI, 5, .inl (nF (LS 9))))] H := ⟨hP, hD⟩
      refine lv_iload hx hb dX2_fillFewest_51 (lv_at hl 4 rfl) ?_
      refine nb_if_lts (tgt := 105) hx hb dX2_fillFewest_53 (by decide) (by omega) (by omega) (fun hq2 => ?_) (fun hq2 => absurd hq2 (by omega))
      exact en_v hx hb hr hlk hP hD hS (ua YS 2 (z2)) [0, 1, 2, 3, 4, 5, 6, 7, 8, 9, 10, 11] (by decide) rfl (Nat.le_of_ble_eq_true rfl) (Nat.le_of_ble_eq_true rfl) dX2_fillFewest_105 ⟨_, rfl, hI2⟩
    · intro i2 hi02 hi2 z2 hI2 ih2 H locs ls hP hD hS hl
      have hl : lv_has ls 6 [(0, .ref Yh), (1, .ref Lh), (2, .int (nI v_z)), (3, .int (nI ((LS 0 0) * 61))), (4, .int (nI (LS 0 0 - i2) - nI 1))] := hl
      obtain ⟨hP, hD⟩ : wPD D A [(Yh, .inr (2, [.ref Ya0, .ref Ya1, .ref Ya2, .int (nI (YS 3 0))])), (Ya0, .inl (cI, 6, .inl (nF (YS 0)))), (Ya1, .inl (cI, 6, .inl (nF (YS 1)))), (Ya2, .inl (cI, 427, .inl (nF (z2)))), (Lh, .inr (0, [.int (nI (LS 0 0)), .ref La1, .ref La2, .int (nI (LS 3 0)), .ref La4, .ref La5, .int (nI (LS 6 0)), .ref La7, .ref La8, .ref La9, .int (nI (LS 10 0)), .int (nI (LS 11 0))])), (La1, .inl (cI, 6, .inl (nF (LS 1)))), (La2, .inl (cI, 6, .inl (nF (LS 2)))), (La4, .inl (cI, 5, .inl (nF (LS 4)))), (La5, .inl (cI, 30, .inl (nF (LS 5)))), (La7, .inl (cI, 5, .inl (nF (LS 7)))), (La8, .inl (cI, 5, .inl (nF (LS 8)))), (La9, .inl (cI, 5, .inl (nF (LS 9))))] H := ⟨hP, hD⟩
      refine lv_iload hx hb dX2_fillFewest_51 (lv_at hl 4 rfl) ?_
      refine nb_if_lts (tgt := 105) hx hb dX2_fillFewest_53 (by decide) (by omega) (by omega) (fun hq3 => absurd hq3 (by omega)) (fun hq3 => ?_)
      rw [pk_sub (a := LS 0 0 - i2) (b := 1) (by omega)] at hl
      refine lv_iconst (v := nI 0) hx hb dX2_fillFewest_56 (by decide) ?_
      refine lv_istore (lv' := [(5, .int (nI 0)), (0, .ref Yh), (1, .ref Lh), (2, .int (nI v_z)), (3, .int (nI ((LS 0 0) * 61))), (4, .int (nI (LS 0 0 - i2 - 1)))]) hx hb dX2_fillFewest_57 hl (by decide) rfl (fun ls hl => ?_)
      refine loopS (σ := Nat → Nat) (D := D) (A := A) (fun i3 z3 => ∀ j, z3 j ≤ 1000000) (fun i3 z3 => [(Yh, .inr (2, [.ref Ya0, .ref Ya1, .ref Ya2, .int (nI (YS 3 0))])), (Ya0, .inl (cI, 6, .inl (nF (YS 0)))), (Ya1, .inl (cI, 6, .inl (nF (YS 1)))), (Ya2, .inl (cI, 427, .inl (nF (z3)))), (Lh, .inr (0, [.int (nI (LS 0 0)), .ref La1, .ref La2, .int (nI (LS 3 0)), .ref La4, .ref La5, .int (nI (LS 6 0)), .ref La7, .ref La8, .ref La9, .int (nI (LS 10 0)), .int (nI (LS 11 0))])), (La1, .inl (cI, 6, .inl (nF (LS 1)))), (La2, .inl (cI, 6, .inl (nF (LS 2)))), (La4, .inl (cI, 5, .inl (nF (LS 4)))), (La5, .inl (cI, 30, .inl (nF (LS 5)))), (La7, .inl (cI, 5, .inl (nF (LS 7)))), (La8, .inl (cI, 5, .inl (nF (LS 8)))), (La9, .inl (cI, 5, .inl (nF (LS 9))))]) (fun i3 z3 => [(0, .ref Yh), (1, .ref Lh), (2, .int (nI v_z)), (3, .int (nI ((LS 0 0) * 61))), (4, .int (nI (LS 0 0 - i2 - 1))), (5, .int (nI i3))]) 59 6 (v_z + 1) 0 (Nat.zero_le _) ?_ ?_ z2 hI2 _ _ ls (by first | exact hP) (by first | exact hD) hS (lv_sub hl [1, 2, 3, 4, 5, 0] rfl)
      · intro z3 hI3 H locs ls hP hD hS hl
        have hl : lv_has ls 6 [(0, .ref Yh), (1, .ref Lh), (2, .int (nI v_z)), (3, .int (nI ((LS 0 0) * 61))), (4, .int (nI (LS 0 0 - i2 - 1))), (5, .int (nI (v_z + 1)))] := hl
        obtain ⟨hP, hD⟩ : wPD D A [(Yh, .inr (2, [.ref Ya0, .ref Ya1, .ref Ya2, .int (nI (YS 3 0))])), (Ya0, .inl (cI, 6, .inl (nF (YS 0)))), (Ya1, .inl (cI, 6, .inl (nF (YS 1)))), (Ya2, .inl (cI, 427, .inl (nF (z3)))), (Lh, .inr (0, [.int (nI (LS 0 0)), .ref La1, .ref La2, .int (nI (LS 3 0)), .ref La4, .ref La5, .int (nI (LS 6 0)), .ref La7, .ref La8, .ref La9, .int (nI (LS 10 0)), .int (nI (LS 11 0))])), (La1, .inl (cI, 6, .inl (nF (LS 1)))), (La2, .inl (cI, 6, .inl (nF (LS 2)))), (La4, .inl (cI, 5, .inl (nF (LS 4)))), (La5, .inl (cI, 30, .inl (nF (LS 5)))), (La7, .inl (cI, 5, .inl (nF (LS 7)))), (La8, .inl (cI, 5, .inl (nF (LS 8)))), (La9, .inl (cI, 5, .inl (nF (LS 9))))] H := ⟨hP, hD⟩
        refine lv_iload hx hb dX2_fillFewest_59 (lv_at hl 5 rfl) ?_
        refine lv_iload_n hx hb dX2_fillFewest_61 rfl (lv_at hl 2 rfl) ?_
        refine nb_icmp_gt (tgt := 99) hx hb dX2_fillFewest_62 (by decide) (by omega) (by omega) (fun hq4 => ?_) (fun hq4 => absurd hq4 (by omega))
        refine lv_iinc (v := nI (LS 0 0 - i2 - 1) - nI 1) (lv' := [(4, .int (nI (LS 0 0 - i2 - 1) - nI 1)), (0, .ref Yh), (1, .ref Lh), (2, .int (nI v_z)), (3, .int (nI ((LS 0 0) * 61))), (5, .int (nI (v_z + 1)))]) hx hb dX2_fillFewest_99 hl (k := 4) rfl (m1_sub (LS 0 0 - i2 - 1)) (by decide) rfl (fun ls hl => ?_)
        refine lv_goto (tgt := 51) hx hb dX2_fillFewest_102 (by decide) ?_
        have hl : lv_has ls 6 [(0, .ref Yh), (1, .ref Lh), (2, .int (nI v_z)), (3, .int (nI ((LS 0 0) * 61))), (4, .int (nI (LS 0 0 - i2 - 1) - nI 1))] := lv_sub hl [1, 2, 3, 4, 0] rfl
        exact ih2 z3 hI3 _ _ _ hP hD hS hl
      · intro i3 hi03 hi3 z3 hI3 ih3 H locs ls hP hD hS hl
        have hl : lv_has ls 6 [(0, .ref Yh), (1, .ref Lh), (2, .int (nI v_z)), (3, .int (nI ((LS 0 0) * 61))), (4, .int (nI (LS 0 0 - i2 - 1))), (5, .int (nI i3))] := hl
        obtain ⟨hP, hD⟩ : wPD D A [(Yh, .inr (2, [.ref Ya0, .ref Ya1, .ref Ya2, .int (nI (YS 3 0))])), (Ya0, .inl (cI, 6, .inl (nF (YS 0)))), (Ya1, .inl (cI, 6, .inl (nF (YS 1)))), (Ya2, .inl (cI, 427, .inl (nF (z3)))), (Lh, .inr (0, [.int (nI (LS 0 0)), .ref La1, .ref La2, .int (nI (LS 3 0)), .ref La4, .ref La5, .int (nI (LS 6 0)), .ref La7, .ref La8, .ref La9, .int (nI (LS 10 0)), .int (nI (LS 11 0))])), (La1, .inl (cI, 6, .inl (nF (LS 1)))), (La2, .inl (cI, 6, .inl (nF (LS 2)))), (La4, .inl (cI, 5, .inl (nF (LS 4)))), (La5, .inl (cI, 30, .inl (nF (LS 5)))), (La7, .inl (cI, 5, .inl (nF (LS 7)))), (La8, .inl (cI, 5, .inl (nF (LS 8)))), (La9, .inl (cI, 5, .inl (nF (LS 9))))] H := ⟨hP, hD⟩
        refine lv_iload hx hb dX2_fillFewest_59 (lv_at hl 5 rfl) ?_
        refine lv_iload_n hx hb dX2_fillFewest_61 rfl (lv_at hl 2 rfl) ?_
        refine nb_icmp_gt (tgt := 99) hx hb dX2_fillFewest_62 (by decide) (by omega) (by omega) (fun hq5 => absurd hq5 (by omega)) (fun hq5 => ?_)
        refine lv_aload_n hx hb dX2_fillFewest_65 rfl (lv_at hl 0 rfl) ?_
        refine va_get (D := D) (ci := 2) (v := .ref Ya2) (C := RX2) (T := TX2) (N := 4) hx hb hts in_X2_fillFewest_2 hown hK.1 hP 0 rfl rfl 2 (by decide) (hts (.fieldLink RX2 18 "ChildCoins$Payment" "fewest" "[I") (List.mem_of_getElem? (i := 1) rfl)) (fun _ h9 => h9) rfl dX2_fillFewest_66 ?_
        refine lv_iload hx hb dX2_fillFewest_69 (lv_at hl 4 rfl) ?_
        refine lv_bipush (v := nI 61) hx hb dX2_fillFewest_71 (by decide) ?_
        refine lv_imul hx hb dX2_fillFewest_73 ?_
        refine set_i (y := nI ((LS 0 0 - i2 - 1) * 61)) (pk_mul (LS 0 0 - i2 - 1) 61) ?_
        refine lv_iload hx hb dX2_fillFewest_74 (lv_at hl 5 rfl) ?_
        refine lv_iadd hx hb dX2_fillFewest_76 ?_
        refine set_i (y := nI (((LS 0 0 - i2 - 1) * 61) + i3)) (nI_add ((LS 0 0 - i2 - 1) * 61) i3) ?_
        refine lv_aload_n hx hb dX2_fillFewest_77 rfl (lv_at hl 0 rfl) ?_
        refine lv_iload hx hb dX2_fillFewest_78 (lv_at hl 4 rfl) ?_
        refine lv_aload_n hx hb dX2_fillFewest_80 rfl (lv_at hl 1 rfl) ?_
        refine va_getN (D := D) (ci := 0) (v := .ref La2) (C := RX0) (T := TX0) (N := 12) hx hb hts in_X2_fillFewest_0 hown hK.1 hP 4 rfl rfl 2 (by decide) (nfX2_58 hK.2) (fun _ h9 => h9) rfl dX2_fillFewest_81 ?_
        refine lv_iload hx hb dX2_fillFewest_84 (lv_at hl 4 rfl) ?_
        refine va_iald hx hb hK.1 hP 6 0 rfl rfl (vp_in_nI (n := LS 0 0 - i2 - 1) (N := 6) (by omega) (by decide)) dX2_fillFewest_86 ?_
        refine set_i (y := nI (LS 2 (LS 0 0 - i2 - 1))) (nF_ld (by omega)) ?_
        have b6 := bl2 (LS 0 0 - i2 - 1)
        refine lv_iload hx hb dX2_fillFewest_87 (lv_at hl 5 rfl) ?_
        refine be_i0 (ru_V (As := [.int (nI (LS 0 0 - i2 - 1)), .int (nI (LS 2 (LS 0 0 - i2 - 1))), .int (nI i3)]) (rest := [.int (nI (((LS 0 0 - i2 - 1) * 61) + i3)), .ref Ya2]) ⟨hx, hb, hml, hown, hts⟩ (g_fewestFrom l D cI cB cZ cN Yh Ya0 Ya1 Ya2 (ua YS 2 (z3)) (LS 0 0 - i2 - 1) (LS 2 (LS 0 0 - i2 - 1)) i3 hs0 hI3 (by omega) (bl2 _) (by omega) H.size) gX2_fillFewest_X2_fewestFrom rfl ⟨rfl, by decide, by decide, (show Option.map (fun d => d.parameters.length) (parseMethodDescriptor yX2_fewestFrom.desc) = some 3 by decide +kernel)⟩ ⟨Nat.le_of_ble_eq_true rfl, Nat.le_of_ble_eq_true rfl⟩ hK hP hD 2 0 rfl rfl [0, 1, 2, 3] (by decide) rfl hl.1 rfl (Nat.le_of_ble_eq_true rfl) dX2_fillFewest_89 ⟨Nat.le_of_ble_eq_true rfl, Nat.le_of_ble_eq_true rfl⟩) hP hD hS hA [0, 1, 2, 3] rfl (fun r8 u7 H locs w9 hP hS => ?_)
        obtain rfl : r8 = nI (ffG (z3) (LS 0 0 - i2 - 1) (LS 2 (LS 0 0 - i2 - 1)) i3 (YS 0 (LS 0 0 - i2 - 1) + 1)) := w9
        have b10 := ffG_le (z3) (LS 0 0 - i2 - 1) (LS 2 (LS 0 0 - i2 - 1)) i3 (YS 0 (LS 0 0 - i2 - 1) + 1)
        refine va_iast hx hb hK.1 hP hD hS 3 0 rfl rfl (vp_in_nI (n := ((LS 0 0 - i2 - 1) * 61) + i3) (N := 427) (by omega) (by decide)) dX2_fillFewest_92 (fun H locs hP hD hS => ?_)
        obtain ⟨hP, hD⟩ : wPD D A [(Yh, .inr (2, [.ref Ya0, .ref Ya1, .ref Ya2, .int (nI (YS 3 0))])), (Ya0, .inl (cI, 6, .inl (nF (YS 0)))), (Ya1, .inl (cI, 6, .inl (nF (YS 1)))), (Ya2, .inl (cI, 427, .inl (upd (nF (z3)) (nI (((LS 0 0 - i2 - 1) * 61) + i3)).toNatClampNeg (nI (ffG (z3) (LS 0 0 - i2 - 1) (LS 2 (LS 0 0 - i2 - 1)) i3 (YS 0 (LS 0 0 - i2 - 1) + 1)))))), (Lh, .inr (0, [.int (nI (LS 0 0)), .ref La1, .ref La2, .int (nI (LS 3 0)), .ref La4, .ref La5, .int (nI (LS 6 0)), .ref La7, .ref La8, .ref La9, .int (nI (LS 10 0)), .int (nI (LS 11 0))])), (La1, .inl (cI, 6, .inl (nF (LS 1)))), (La2, .inl (cI, 6, .inl (nF (LS 2)))), (La4, .inl (cI, 5, .inl (nF (LS 4)))), (La5, .inl (cI, 30, .inl (nF (LS 5)))), (La7, .inl (cI, 5, .inl (nF (LS 7)))), (La8, .inl (cI, 5, .inl (nF (LS 8)))), (La9, .inl (cI, 5, .inl (nF (LS 9))))] H := ⟨hP, hD⟩
        rw [nF_st (by omega)] at hP hD
        refine lv_iinc (v := nI (i3 + 1)) (lv' := [(5, .int (nI (i3 + 1))), (0, .ref Yh), (1, .ref Lh), (2, .int (nI v_z)), (3, .int (nI ((LS 0 0) * 61))), (4, .int (nI (LS 0 0 - i2 - 1)))]) hx hb dX2_fillFewest_93 hl (k := 5) rfl (nI_add i3 1) (by decide) rfl (fun ls hl => ?_)
        refine lv_goto (tgt := 59) hx hb dX2_fillFewest_96 (by decide) ?_
        have hl : lv_has ls 6 [(0, .ref Yh), (1, .ref Lh), (2, .int (nI v_z)), (3, .int (nI ((LS 0 0) * 61))), (4, .int (nI (LS 0 0 - i2 - 1))), (5, .int (nI (i3 + 1)))] := lv_sub hl [1, 2, 3, 4, 5, 0] rfl
        exact ih3 (un (z3) (((LS 0 0 - i2 - 1) * 61) + i3) (ffG (z3) (LS 0 0 - i2 - 1) (LS 2 (LS 0 0 - i2 - 1)) i3 (YS 0 (LS 0 0 - i2 - 1) + 1))) (un_leM hI3 b10) _ _ _ hP hD hS hl
  · intro i1 hi01 hi1 z1 hI1 ih1 H locs ls hP hD hS hl
    have hl : lv_has ls 6 [(0, .ref Yh), (1, .ref Lh), (2, .int (nI v_z)), (3, .int (nI ((LS 0 0) * 61))), (4, .int (nI i1))] := hl
    obtain ⟨hP, hD⟩ : wPD D A [(Yh, .inr (2, [.ref Ya0, .ref Ya1, .ref Ya2, .int (nI (YS 3 0))])), (Ya0, .inl (cI, 6, .inl (nF (YS 0)))), (Ya1, .inl (cI, 6, .inl (nF (YS 1)))), (Ya2, .inl (cI, 427, .inl (nF (z1)))), (Lh, .inr (0, [.int (nI (LS 0 0)), .ref La1, .ref La2, .int (nI (LS 3 0)), .ref La4, .ref La5, .int (nI (LS 6 0)), .ref La7, .ref La8, .ref La9, .int (nI (LS 10 0)), .int (nI (LS 11 0))])), (La1, .inl (cI, 6, .inl (nF (LS 1)))), (La2, .inl (cI, 6, .inl (nF (LS 2)))), (La4, .inl (cI, 5, .inl (nF (LS 4)))), (La5, .inl (cI, 30, .inl (nF (LS 5)))), (La7, .inl (cI, 5, .inl (nF (LS 7)))), (La8, .inl (cI, 5, .inl (nF (LS 8)))), (La9, .inl (cI, 5, .inl (nF (LS 9))))] H := ⟨hP, hD⟩
    refine lv_iload hx hb dX2_fillFewest_11 (lv_at hl 4 rfl) ?_
    refine lv_iload_n hx hb dX2_fillFewest_13 rfl (lv_at hl 2 rfl) ?_
    refine nb_icmp_gt (tgt := 43) hx hb dX2_fillFewest_14 (by decide) (by omega) (by omega) (fun hq11 => absurd hq11 (by omega)) (fun hq11 => ?_)
    refine lv_aload_n hx hb dX2_fillFewest_17 rfl (lv_at hl 0 rfl) ?_
    refine va_get (D := D) (ci := 2) (v := .ref Ya2) (C := RX2) (T := TX2) (N := 4) hx hb hts in_X2_fillFewest_2 hown hK.1 hP 0 rfl rfl 2 (by decide) (hts (.fieldLink RX2 18 "ChildCoins$Payment" "fewest" "[I") (List.mem_of_getElem? (i := 1) rfl)) (fun _ h9 => h9) rfl dX2_fillFewest_18 ?_
    refine lv_iload_n hx hb dX2_fillFewest_21 rfl (lv_at hl 3 rfl) ?_
    refine lv_iload hx hb dX2_fillFewest_22 (lv_at hl 4 rfl) ?_
    refine lv_iadd hx hb dX2_fillFewest_24 ?_
    refine set_i (y := nI (((LS 0 0) * 61) + i1)) (nI_add ((LS 0 0) * 61) i1) ?_
    refine lv_iload hx hb dX2_fillFewest_25 (lv_at hl 4 rfl) ?_
    refine nb_if_ne (tgt := 34) hx hb dX2_fillFewest_27 (by decide) (by omega) (fun hq12 => ?_) (fun hq12 => ?_)
    · skip
      refine lv_ldc (v := 1000000) hx hb hown (hts (.constant RX2 54 (1000000)) (List.mem_of_getElem? (i := 2) rfl)) dX2_fillFewest_34 ?_
      refine set_i (y := nI 1000000) (by decide) ?_
      refine va_iast hx hb hK.1 hP hD hS 3 0 rfl rfl (vp_in_nI (n := ((LS 0 0) * 61) + i1) (N := 427) (by omega) (by decide)) dX2_fillFewest_36 (fun H locs hP hD hS => ?_)
      obtain ⟨hP, hD⟩ : wPD D A [(Yh, .inr (2, [.ref Ya0, .ref Ya1, .ref Ya2, .int (nI (YS 3 0))])), (Ya0, .inl (cI, 6, .inl (nF (YS 0)))), (Ya1, .inl (cI, 6, .inl (nF (YS 1)))), (Ya2, .inl (cI, 427, .inl (upd (nF (z1)) (nI (((LS 0 0) * 61) + i1)).toNatClampNeg (nI 1000000)))), (Lh, .inr (0, [.int (nI (LS 0 0)), .ref La1, .ref La2, .int (nI (LS 3 0)), .ref La4, .ref La5, .int (nI (LS 6 0)), .ref La7, .ref La8, .ref La9, .int (nI (LS 10 0)), .int (nI (LS 11 0))])), (La1, .inl (cI, 6, .inl (nF (LS 1)))), (La2, .inl (cI, 6, .inl (nF (LS 2)))), (La4, .inl (cI, 5, .inl (nF (LS 4)))), (La5, .inl (cI, 30, .inl (nF (LS 5)))), (La7, .inl (cI, 5, .inl (nF (LS 7)))), (La8, .inl (cI, 5, .inl (nF (LS 8)))), (La9, .inl (cI, 5, .inl (nF (LS 9))))] H := ⟨hP, hD⟩
      rw [nF_st (by omega)] at hP hD
      refine lv_iinc (v := nI (i1 + 1)) (lv' := [(4, .int (nI (i1 + 1))), (0, .ref Yh), (1, .ref Lh), (2, .int (nI v_z)), (3, .int (nI ((LS 0 0) * 61)))]) hx hb dX2_fillFewest_37 hl (k := 4) rfl (nI_add i1 1) (by decide) rfl (fun ls hl => ?_)
      refine lv_goto (tgt := 11) hx hb dX2_fillFewest_40 (by decide) ?_
      have hl : lv_has ls 6 [(0, .ref Yh), (1, .ref Lh), (2, .int (nI v_z)), (3, .int (nI ((LS 0 0) * 61))), (4, .int (nI (i1 + 1)))] := lv_sub hl [1, 2, 3, 4, 0] rfl
      exact ih1 (un (z1) (((LS 0 0) * 61) + i1) 1000000) (un_leM hI1 (by decide)) _ _ _ hP hD hS hl
    · skip
      refine lv_iconst (v := nI 0) hx hb dX2_fillFewest_30 (by decide) ?_
      refine lv_goto (tgt := 36) hx hb dX2_fillFewest_31 (by decide) ?_
      refine va_iast hx hb hK.1 hP hD hS 3 0 rfl rfl (vp_in_nI (n := ((LS 0 0) * 61) + i1) (N := 427) (by omega) (by decide)) dX2_fillFewest_36 (fun H locs hP hD hS => ?_)
      obtain ⟨hP, hD⟩ : wPD D A [(Yh, .inr (2, [.ref Ya0, .ref Ya1, .ref Ya2, .int (nI (YS 3 0))])), (Ya0, .inl (cI, 6, .inl (nF (YS 0)))), (Ya1, .inl (cI, 6, .inl (nF (YS 1)))), (Ya2, .inl (cI, 427, .inl (upd (nF (z1)) (nI (((LS 0 0) * 61) + i1)).toNatClampNeg (nI 0)))), (Lh, .inr (0, [.int (nI (LS 0 0)), .ref La1, .ref La2, .int (nI (LS 3 0)), .ref La4, .ref La5, .int (nI (LS 6 0)), .ref La7, .ref La8, .ref La9, .int (nI (LS 10 0)), .int (nI (LS 11 0))])), (La1, .inl (cI, 6, .inl (nF (LS 1)))), (La2, .inl (cI, 6, .inl (nF (LS 2)))), (La4, .inl (cI, 5, .inl (nF (LS 4)))), (La5, .inl (cI, 30, .inl (nF (LS 5)))), (La7, .inl (cI, 5, .inl (nF (LS 7)))), (La8, .inl (cI, 5, .inl (nF (LS 8)))), (La9, .inl (cI, 5, .inl (nF (LS 9))))] H := ⟨hP, hD⟩
      rw [nF_st (by omega)] at hP hD
      refine lv_iinc (v := nI (i1 + 1)) (lv' := [(4, .int (nI (i1 + 1))), (0, .ref Yh), (1, .ref Lh), (2, .int (nI v_z)), (3, .int (nI ((LS 0 0) * 61)))]) hx hb dX2_fillFewest_37 hl (k := 4) rfl (nI_add i1 1) (by decide) rfl (fun ls hl => ?_)
      refine lv_goto (tgt := 11) hx hb dX2_fillFewest_40 (by decide) ?_
      have hl : lv_has ls 6 [(0, .ref Yh), (1, .ref Lh), (2, .int (nI v_z)), (3, .int (nI ((LS 0 0) * 61))), (4, .int (nI (i1 + 1)))] := lv_sub hl [1, 2, 3, 4, 0] rfl
      exact ih1 (un (z1) (((LS 0 0) * 61) + i1) 0) (un_leM hI1 (by decide)) _ _ _ hP hD hS hl
