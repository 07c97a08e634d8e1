set_option maxRecDepth 20000 in
theorem dAX6_heirs : decA cX6_heirs [(0, .aload_n 0, 1), (1, .getfield 37, 3), (4, .iload_n 1, 1), (5, .invokevirtual 135, 3), (8, .ifCond .ne 5, 3), (11, .iconst 0, 1), (12, .ireturn, 1), (13, .iconst 0, 1), (14, .istore_n 2, 1), (15, .iconst 0, 1), (16, .istore_n 3, 1), (17, .iload_n 3, 1), (18, .aload_n 0, 1), (19, .getfield 27, 3), (22, .getfield 201, 3), (25, .if_icmp .ge 48, 3), (28, .iload_n 3, 1), (29, .aload_n 0, 1), (30, .getfield 27, 3), (33, .getfield 126, 3), (36, .iload_n 1, 1), (37, .iaload, 1), (38, .if_icmp .eq 29, 3), (41, .aload_n 0, 1), (42, .getfield 51, 3), (45, .aload_n 0, 1), (46, .getfield 27, 3), (49, .aload_n 0, 1), (50, .getfield 37, 3), (53, .iload_n 1, 1), (54, .iload_n 3, 1), (55, .invokevirtual 150, 3), (58, .ifCond .eq 9, 3), (61, .iload_n 2, 1), (62, .iconst 1, 1), (63, .iload_n 3, 1), (64, .ishl, 1), (65, .ior, 1), (66, .istore_n 2, 1), (67, .iinc 3 1, 3), (70, .goto (-53), 3), (73, .iload_n 2, 1), (74, .ireturn, 1)] = true := by decide +kernel
theorem dX6_heirs_0 : decode cX6_heirs 0 = .ok (.aload_n 0, 1) := decA_get dAX6_heirs 0 rfl
theorem dX6_heirs_1 : decode cX6_heirs 1 = .ok (.getfield 37, 3) := decA_get dAX6_heirs 1 rfl
theorem in_X6_heirs_6 : ∀ w ∈ wsX60, w ∈ wsX6_heirs := fun w h => (gd_ids wi_X6_heirs wm_X6_heirs wi_X60 (by decide +kernel) w h).1
theorem dX6_heirs_4 : decode cX6_heirs 4 = .ok (.iload_n 1, 1) := decA_get dAX6_heirs 2 rfl
theorem dX6_heirs_5 : decode cX6_heirs 5 = .ok (.invokevirtual 135, 3) := decA_get dAX6_heirs 3 rfl
set_option maxRecDepth 20000 in
theorem ggX6_heirs_X1_isOpen : GoodIn wsX6_heirs wsX1_isOpen := gd_ids wi_X6_heirs wm_X6_heirs wi_X1_isOpen (by decide +kernel)
theorem dX6_heirs_8 : decode cX6_heirs 8 = .ok (.ifCond .ne 5, 3) := decA_get dAX6_heirs 4 rfl
theorem dX6_heirs_13 : decode cX6_heirs 13 = .ok (.iconst 0, 1) := decA_get dAX6_heirs 7 rfl
theorem dX6_heirs_14 : decode cX6_heirs 14 = .ok (.istore_n 2, 1) := decA_get dAX6_heirs 8 rfl
theorem dX6_heirs_15 : decode cX6_heirs 15 = .ok (.iconst 0, 1) := decA_get dAX6_heirs 9 rfl
theorem dX6_heirs_16 : decode cX6_heirs 16 = .ok (.istore_n 3, 1) := decA_get dAX6_heirs 10 rfl
theorem dX6_heirs_17 : decode cX6_heirs 17 = .ok (.iload_n 3, 1) := decA_get dAX6_heirs 11 rfl
theorem dX6_heirs_18 : decode cX6_heirs 18 = .ok (.aload_n 0, 1) := decA_get dAX6_heirs 12 rfl
theorem dX6_heirs_19 : decode cX6_heirs 19 = .ok (.getfield 27, 3) := decA_get dAX6_heirs 13 rfl
theorem dX6_heirs_22 : decode cX6_heirs 22 = .ok (.getfield 201, 3) := decA_get dAX6_heirs 14 rfl
theorem in_X6_heirs_0 : ∀ w ∈ wsX00, w ∈ wsX6_heirs := fun w h => (gd_ids wi_X6_heirs wm_X6_heirs wi_X00 (by decide +kernel) w h).1
theorem dX6_heirs_25 : decode cX6_heirs 25 = .ok (.if_icmp .ge 48, 3) := decA_get dAX6_heirs 15 rfl
theorem dX6_heirs_73 : decode cX6_heirs 73 = .ok (.iload_n 2, 1) := decA_get dAX6_heirs 41 rfl
theorem dX6_heirs_74 : decode cX6_heirs 74 = .ok (.ireturn, 1) := decA_get dAX6_heirs 42 rfl
theorem dX6_heirs_28 : decode cX6_heirs 28 = .ok (.iload_n 3, 1) := decA_get dAX6_heirs 16 rfl
theorem dX6_heirs_29 : decode cX6_heirs 29 = .ok (.aload_n 0, 1) := decA_get dAX6_heirs 17 rfl
theorem dX6_heirs_30 : decode cX6_heirs 30 = .ok (.getfield 27, 3) := decA_get dAX6_heirs 18 rfl
theorem dX6_heirs_33 : decode cX6_heirs 33 = .ok (.getfield 126, 3) := decA_get dAX6_heirs 19 rfl
theorem dX6_heirs_36 : decode cX6_heirs 36 = .ok (.iload_n 1, 1) := decA_get dAX6_heirs 20 rfl
theorem dX6_heirs_37 : decode cX6_heirs 37 = .ok (.iaload, 1) := decA_get dAX6_heirs 21 rfl
theorem dX6_heirs_38 : decode cX6_heirs 38 = .ok (.if_icmp .eq 29, 3) := decA_get dAX6_heirs 22 rfl
theorem dX6_heirs_67 : decode cX6_heirs 67 = .ok (.iinc 3 1, 3) := decA_get dAX6_heirs 39 rfl
theorem dX6_heirs_70 : decode cX6_heirs 70 = .ok (.goto (-53), 3) := decA_get dAX6_heirs 40 rfl
theorem dX6_heirs_41 : decode cX6_heirs 41 = .ok (.aload_n 0, 1) := decA_get dAX6_heirs 23 rfl
theorem dX6_heirs_42 : decode cX6_heirs 42 = .ok (.getfield 51, 3) := decA_get dAX6_heirs 24 rfl
theorem dX6_heirs_45 : decode cX6_heirs 45 = .ok (.aload_n 0, 1) := decA_get dAX6_heirs 25 rfl
theorem dX6_heirs_46 : decode cX6_heirs 46 = .ok (.getfield 27, 3) := decA_get dAX6_heirs 26 rfl
theorem dX6_heirs_49 : decode cX6_heirs 49 = .ok (.aload_n 0, 1) := decA_get dAX6_heirs 27 rfl
theorem dX6_heirs_50 : decode cX6_heirs 50 = .ok (.getfield 37, 3) := decA_get dAX6_heirs 28 rfl
theorem dX6_heirs_53 : decode cX6_heirs 53 = .ok (.iload_n 1, 1) := decA_get dAX6_heirs 29 rfl
theorem dX6_heirs_54 : decode cX6_heirs 54 = .ok (.iload_n 3, 1) := decA_get dAX6_heirs 30 rfl
theorem dX6_heirs_55 : decode cX6_heirs 55 = .ok (.invokevirtual 150, 3) := decA_get dAX6_heirs 31 rfl
set_option maxRecDepth 20000 in
theorem ggX6_heirs_X2_settles : GoodIn wsX6_heirs wsX2_settles := gd_ids wi_X6_heirs wm_X6_heirs wi_X2_settles (by decide +kernel)
theorem dX6_heirs_58 : decode cX6_heirs 58 = .ok (.ifCond .eq 9, 3) := decA_get dAX6_heirs 32 rfl
theorem dX6_heirs_61 : decode cX6_heirs 61 = .ok (.iload_n 2, 1) := decA_get dAX6_heirs 33 rfl
theorem dX6_heirs_62 : decode cX6_heirs 62 = .ok (.iconst 1, 1) := decA_get dAX6_heirs 34 rfl
theorem dX6_heirs_63 : decode cX6_heirs 63 = .ok (.iload_n 3, 1) := decA_get dAX6_heirs 35 rfl
theorem dX6_heirs_64 : decode cX6_heirs 64 = .ok (.ishl, 1) := decA_get dAX6_heirs 36 rfl
theorem dX6_heirs_65 : decode cX6_heirs 65 = .ok (.ior, 1) := decA_get dAX6_heirs 37 rfl
theorem dX6_heirs_66 : decode cX6_heirs 66 = .ok (.istore_n 2, 1) := decA_get dAX6_heirs 38 rfl
theorem dX6_heirs_11 : decode cX6_heirs 11 = .ok (.iconst 0, 1) := decA_get dAX6_heirs 5 rfl
theorem dX6_heirs_12 : decode cX6_heirs 12 = .ok (.ireturn, 1) := decA_get dAX6_heirs 6 rfl
set_option maxHeartbeats 4000000 in
set_option maxRecDepth 100000 in
theorem g_heirs (l : Launch) (D : va_G) (cI cB cZ cN : ClassId) (Xh : Nat) (Xa6 : Nat) (Xa11 : Nat) (Th : Nat) (Rh : Nat) (Mh : Nat) (Wh : Nat) (Qh : Nat) (Xt : Int64) (Ih : Nat) (Jh : Nat) (XS : Nat → Nat → Nat) (Lh : Nat) (La1 : Nat) (La2 : Nat) (La4 : Nat) (La5 : Nat) (La7 : Nat) (La8 : Nat) (La9 : Nat) (LS : Nat → Nat → Nat) (Nh : Nat) (Na0 : Nat) (Na1 : Nat) (NS : Nat → Nat → Nat) (Yh : Nat) (Ya0 : Nat) (Ya1 : Nat) (Ya2 : Nat) (YS : Nat → Nat → Nat) (v_d : Nat) (hL : LandOk LS) (hN : NowOk NS) (hY : PayOk YS) (hd : v_d < 5) : Ci (S := (Nat → Nat → Nat)) l D cI cB cZ cN yX6_heirs wsX6_heirs ({ frames := 4, cells := 0, slots := 0, locals := 103 } : Room) [.ref Xh, .int (nI v_d)] [(Xh, .inr (6, [.ref Th, .int (nI (XS 1 0)), .ref Rh, .ref Lh, .ref Mh, .ref Nh, .ref Xa6, .int (nI (XS 7 0)), .ref Yh, .ref Wh, .ref Qh, .ref Xa11, .int (nI (XS 12 0)), .long Xt])), (Xa6, .inl (cN, 2, .inr (.inr (.inr (.inr (va_up (va_up (fun _ => none) 0 (some Ih)) 1 (some Jh))))))), (Xa11, .inl (cI, 6, .inl (nF (XS 11)))), (Lh, .inr (0, [.int (nI (LS 0 0)), .ref La1, .ref La2, .int (nI (LS 3 0)), .ref La4, .ref La5, .int (nI (LS 6 0)), .ref La7, .ref La8, .ref La9, .int (nI (LS 10 0)), .int (nI (LS 11 0))])), (La1, .inl (cI, 6, .inl (nF (LS 1)))), (La2, .inl (cI, 6, .inl (nF (LS 2)))), (La4, .inl (cI, 5, .inl (nF (LS 4)))), (La5, .inl (cI, 30, .inl (nF (LS 5)))), (La7, .inl (cI, 5, .inl (nF (LS 7)))), (La8, .inl (cI, 5, .inl (nF (LS 8)))), (La9, .inl (cI, 5, .inl (nF (LS 9)))), (Nh, .inr (1, [.ref Na0, .ref Na1, .int (nI (NS 2 0))])), (Na0, .inl (cI, 36, .inl (nF (NS 0)))), (Na1, .inl (cI, 360, .inl (nF (NS 1)))), (Yh, .inr (2, [.ref Ya0, .ref Ya1, .ref Ya2, .int (nI (YS 3 0))])), (Ya0, .inl (cI, 6, .inl (nF (YS 0)))), (Ya1, .inl (cI, 6, .inl (nF (YS 1)))), (Ya2, .inl (cI, 427, .inl (nF (YS 2))))] (fun (r : Int32) (u : (Nat → Nat → Nat)) => PayOk u) (fun u => [(Xh, .inr (6, [.ref Th, .int (nI (XS 1 0)), .ref Rh, .ref Lh, .ref Mh, .ref Nh, .ref Xa6, .int (nI (XS 7 0)), .ref Yh, .ref Wh, .ref Qh, .ref Xa11, .int (nI (XS 12 0)), .long Xt])), (Xa6, .inl (cN, 2, .inr (.inr (.inr (.inr (va_up (va_up (fun _ => none) 0 (some Ih)) 1 (some Jh))))))), (Xa11, .inl (cI, 6, .inl (nF (XS 11)))), (Lh, .inr (0, [.int (nI (LS 0 0)), .ref La1, .ref La2, .int (nI (LS 3 0)), .ref La4, .ref La5, .int (nI (LS 6 0)), .ref La7, .ref La8, .ref La9, .int (nI (LS 10 0)), .int (nI (LS 11 0))])), (La1, .inl (cI, 6, .inl (nF (LS 1)))), (La2, .inl (cI, 6, .inl (nF (LS 2)))), (La4, .inl (cI, 5, .inl (nF (LS 4)))), (La5, .inl (cI, 30, .inl (nF (LS 5)))), (La7, .inl (cI, 5, .inl (nF (LS 7)))), (La8, .inl (cI, 5, .inl (nF (LS 8)))), (La9, .inl (cI, 5, .inl (nF (LS 9)))), (Nh, .inr (1, [.ref Na0, .ref Na1, .int (nI (NS 2 0))])), (Na0, .inl (cI, 36, .inl (nF (NS 0)))), (Na1, .inl (cI, 360, .inl (nF (NS 1)))), (Yh, .inr (2, [.ref Ya0, .ref Ya1, .ref Ya2, .int (nI (u 3 0))])), (Ya0, .inl (cI, 6, .inl (nF (u 0)))), (Ya1, .inl (cI, 6, .inl (nF (u 1)))), (Ya2, .inl (cI, 427, .inl (nF (u 2))))]) := by
  refine bx_of (D := D) (cI := cI) (cB := cB) (cZ := cZ) (cN := cN) (y := yX6_heirs) (wd := wsX6_heirs) (rm := ({ frames := 4, cells := 0, slots := 0, locals := 103 } : Room)) (av := [.ref Xh, .int (nI v_d)]) (wc := [(Xh, .inr (6, [.ref Th, .int (nI (XS 1 0)), .ref Rh, .ref Lh, .ref Mh, .ref Nh, .ref Xa6, .int (nI (XS 7 0)), .ref Yh, .ref Wh, .ref Qh, .ref Xa11, .int (nI (XS 12 0)), .long Xt])), (Xa6, .inl (cN, 2, .inr (.inr (.inr (.inr (va_up (va_up (fun _ => none) 0 (some Ih)) 1 (some Jh))))))), (Xa11, .inl (cI, 6, .inl (nF (XS 11)))), (Lh, .inr (0, [.int (nI (LS 0 0)), .ref La1, .ref La2, .int (nI (LS 3 0)), .ref La4, .ref La5, .int (nI (LS 6 0)), .ref La7, .ref La8, .ref La9, .int (nI (LS 10 0)), .int (nI (LS 11 0))])), (La1, .inl (cI, 6, .inl (nF (LS 1)))), (La2, .inl (cI, 6, .inl (nF (LS 2)))), (La4, .inl (cI, 5, .inl (nF (LS 4)))), (La5, .inl (cI, 30, .inl (nF (LS 5)))), (La7, .inl (cI, 5, .inl (nF (LS 7)))), (La8, .inl (cI, 5, .inl (nF (LS 8)))), (La9, .inl (cI, 5, .inl (nF (LS 9)))), (Nh, .inr (1, [.ref Na0, .ref Na1, .int (nI (NS 2 0))])), (Na0, .inl (cI, 36, .inl (nF (NS 0)))), (Na1, .inl (cI, 360, .inl (nF (NS 1)))), (Yh, .inr (2, [.ref Ya0, .ref Ya1, .ref Ya2, .int (nI (YS 3 0))])), (Ya0, .inl (cI, 6, .inl (nF (YS 0)))), (Ya1, .inl (cI, 6, .inl (nF (YS 1)))), (Ya2, .inl (cI, 427, .inl (nF (YS 2))))]) (cc := cX6_heirs) (maxL := 4) (ret := (some .int)) (Qc := fun _ A => va_Qi (S := (Nat → Nat → Nat)) (fun (r : Int32) (u : (Nat → Nat → Nat)) => PayOk u) (Aft D (fun (u : (Nat → Nat → Nat)) => [(Xh, .inr (6, [.ref Th, .int (nI (XS 1 0)), .ref Rh, .ref Lh, .ref Mh, .ref Nh, .ref Xa6, .int (nI (XS 7 0)), .ref Yh, .ref Wh, .ref Qh, .ref Xa11, .int (nI (XS 12 0)), .long Xt])), (Xa6, .inl (cN, 2, .inr (.inr (.inr (.inr (va_up (va_up (fun _ => none) 0 (some Ih)) 1 (some Jh))))))), (Xa11, .inl (cI, 6, .inl (nF (XS 11)))), (Lh, .inr (0, [.int (nI (LS 0 0)), .ref La1, .ref La2, .int (nI (LS 3 0)), .ref La4, .ref La5, .int (nI (LS 6 0)), .ref La7, .ref La8, .ref La9, .int (nI (LS 10 0)), .int (nI (LS 11 0))])), (La1, .inl (cI, 6, .inl (nF (LS 1)))), (La2, .inl (cI, 6, .inl (nF (LS 2)))), (La4, .inl (cI, 5, .inl (nF (LS 4)))), (La5, .inl (cI, 30, .inl (nF (LS 5)))), (La7, .inl (cI, 5, .inl (nF (LS 7)))), (La8, .inl (cI, 5, .inl (nF (LS 8)))), (La9, .inl (cI, 5, .inl (nF (LS 9)))), (Nh, .inr (1, [.ref Na0, .ref Na1, .int (nI (NS 2 0))])), (Na0, .inl (cI, 36, .inl (nF (NS 0)))), (Na1, .inl (cI, 360, .inl (nF (NS 1)))), (Yh, .inr (2, [.ref Ya0, .ref Ya1, .ref Ya2, .int (nI (u 3 0))])), (Ya0, .inl (cI, 6, .inl (nF (u 0)))), (Ya1, .inl (cI, 6, .inl (nF (u 1)))), (Ya2, .inl (cI, 427, .inl (nF (u 2))))]) A) A) (by decide) rfl (Nat.le_of_ble_eq_true rfl) ?_
  intro p e s m below meth c A H locs ⟨hx, hb, hr, hml, hown, hts, hlk, hnm⟩ hK hP hD hS hA ls hl
  have hl : lv_has ls 4 [(0, .ref Xh), (1, .int (nI v_d))] := hl
  have hown : s.vm.findClass RX6 = some m.cls := hown
  have hL0 := hL
  obtain ⟨bl0, bl3, bl6, bl10, bl11, bl1, bl2, bl4, bl5, bl7, bl8, bl9⟩ := hL
  refine lv_aload_n hx hb dX6_heirs_0 rfl (lv_at hl 0 rfl) ?_
  refine va_get (D := D) (ci := 6) (v := .ref Nh) (C := RX6) (T := TX6) (N := 14) hx hb hts in_X6_heirs_6 hown hK.1 hP 0 rfl rfl 5 (by decide) (hts (.fieldLink RX6 37 "ChildCoins" "present" "LChildCoins$Now;") (List.mem_of_getElem? (i := 1) rfl)) (fun _ h9 => h9) rfl dX6_heirs_1 ?_
  refine lv_iload_n hx hb dX6_heirs_4 rfl (lv_at hl 1 rfl) ?_
  refine be_i0 (ru_N (C := RX1) (host := "ChildCoins") (As := [.int (nI v_d)]) (rest := []) ⟨hx, hb, hml, hown, hts⟩ (g_isOpen l D cI cB cZ cN Nh Na0 Na1 NS v_d hN (by omega) H.size) ggX6_heirs_X1_isOpen rfl (nmX6_135 hK.2) (hts (.initialized RX1) (List.mem_of_getElem? (i := 5) rfl)) (hts (.instanceMethod yX1_isOpen) (List.mem_of_getElem? (i := 4) rfl)) (hts (.selects RX1 yX1_isOpen yX1_isOpen) (List.mem_of_getElem? (i := 6) rfl)) ⟨by decide, by decide, (show Option.map (fun d => d.parameters.length) (parseMethodDescriptor yX1_isOpen.desc) = some 1 by decide +kernel)⟩ ⟨Nat.le_of_ble_eq_true rfl, Nat.le_of_ble_eq_true rfl⟩ hK hP hD 1 11 rfl rfl [11, 12, 13] (by decide) rfl hl.1 rfl (Nat.le_of_ble_eq_true rfl) dX6_heirs_5 ⟨Nat.le_of_ble_eq_true rfl, Nat.le_of_ble_eq_true rfl⟩) hP hD hS hA [11, 12, 13] rfl (fun r2 u1 H locs w3 hP hS => ?_)
  obtain rfl : r2 = nI (NS 0 35 / 2 ^ v_d % 2) := w3
  have b4 := bit_le (NS 0 35) v_d
  refine nb_if_ne (tgt := 13) hx hb dX6_heirs_8 (by decide) (by omega) (fun hq5 => ?_) (fun hq5 => ?_)
  · skip
    refine lv_iconst (v := nI 0) hx hb dX6_heirs_13 (by decide) ?_
    refine lv_istore_n (lv' := [(2, .int (nI 0)), (0, .ref Xh), (1, .int (nI v_d))]) hx hb dX6_heirs_14 rfl hl (by decide) rfl (fun ls hl => ?_)
    refine lv_iconst (v := nI 0) hx hb dX6_heirs_15 (by decide) ?_
    refine lv_istore_n (lv' := [(3, .int (nI 0)), (2, .int (nI 0)), (0, .ref Xh), (1, .int (nI v_d))]) hx hb dX6_heirs_16 rfl hl (by decide) rfl (fun ls hl => ?_)
    refine loopS (σ := Int32 × (Nat → Nat → Nat)) (D := D) (A := A) (fun i1 z1 => PayOk z1.2) (fun i1 z1 => [(Xh, .inr (6, [.ref Th, .int (nI (XS 1 0)), .ref Rh, .ref Lh, .ref Mh, .ref Nh, .ref Xa6, .int (nI (XS 7 0)), .ref Yh, .ref Wh, .ref Qh, .ref Xa11, .int (nI (XS 12 0)), .long Xt])), (Xa6, .inl (cN, 2, .inr (.inr (.inr (.inr (va_up (va_up (fun _ => none) 0 (some Ih)) 1 (some Jh))))))), (Xa11, .inl (cI, 6, .inl (nF (XS 11)))), (Lh, .inr (0, [.int (nI (LS 0 0)), .ref La1, .ref La2, .int (nI (LS 3 0)), .ref La4, .ref La5, .int (nI (LS 6 0)), .ref La7, .ref La8, .ref La9, .int (nI (LS 10 0)), .int (nI (LS 11 0))])), (La1, .inl (cI, 6, .inl (nF (LS 1)))), (La2, .inl (cI, 6, .inl (nF (LS 2)))), (La4, .inl (cI, 5, .inl (nF (LS 4)))), (La5, .inl (cI, 30, .inl (nF (LS 5)))), (La7, .inl (cI, 5, .inl (nF (LS 7)))), (La8, .inl (cI, 5, .inl (nF (LS 8)))), (La9, .inl (cI, 5, .inl (nF (LS 9)))), (Nh, .inr (1, [.ref Na0, .ref Na1, .int (nI (NS 2 0))])), (Na0, .inl (cI, 36, .inl (nF (NS 0)))), (Na1, .inl (cI, 360, .inl (nF (NS 1)))), (Yh, .inr (2, [.ref Ya0, .ref Ya1, .ref Ya2, .int (nI (z1.2 3 0))])), (Ya0, .inl (cI, 6, .inl (nF (z1.2 0)))), (Ya1, .inl (cI, 6, .inl (nF (z1.2 1)))), (Ya2, .inl (cI, 427, .inl (nF (z1.2 2))))]) (fun i1 z1 => [(0, .ref Xh), (1, .int (nI v_d)), (2, .int z1.1), (3, .int (nI i1))]) 17 4 (LS 3 0) 0 (Nat.zero_le _) ?_ ?_ (nI 0, YS) hY _ _ ls (by first | exact hP) (by first | exact hD) hS (lv_sub hl [2, 3, 1, 0] rfl)
    · intro z1 hI1 H locs ls hP hD hS hl
      have hl : lv_has ls 4 [(0, .ref Xh), (1, .int (nI v_d)), (2, .int z1.1), (3, .int (nI (LS 3 0)))] := hl
      obtain ⟨hP, hD⟩ : wPD D A [(Xh, .inr (6, [.ref Th, .int (nI (XS 1 0)), .ref Rh, .ref Lh, .ref Mh, .ref Nh, .ref Xa6, .int (nI (XS 7 0)), .ref Yh, .ref Wh, .ref Qh, .ref Xa11, .int (nI (XS 12 0)), .long Xt])), (Xa6, .inl (cN, 2, .inr (.inr (.inr (.inr (va_up (va_up (fun _ => none) 0 (some Ih)) 1 (some Jh))))))), (Xa11, .inl (cI, 6, .inl (nF (XS 11)))), (Lh, .inr (0, [.int (nI (LS 0 0)), .ref La1, .ref La2, .int (nI (LS 3 0)), .ref La4, .ref La5, .int (nI (LS 6 0)), .ref La7, .ref La8, .ref La9, .int (nI (LS 10 0)), .int (nI (LS 11 0))])), (La1, .inl (cI, 6, .inl (nF (LS 1)))), (La2, .inl (cI, 6, .inl (nF (LS 2)))), (La4, .inl (cI, 5, .inl (nF (LS 4)))), (La5, .inl (cI, 30, .inl (nF (LS 5)))), (La7, .inl (cI, 5, .inl (nF (LS 7)))), (La8, .inl (cI, 5, .inl (nF (LS 8)))), (La9, .inl (cI, 5, .inl (nF (LS 9)))), (Nh, .inr (1, [.ref Na0, .ref Na1, .int (nI (NS 2 0))])), (Na0, .inl (cI, 36, .inl (nF (NS 0)))), (Na1, .inl (cI, 360, .inl (nF (NS 1)))), (Yh, .inr (2, [.ref Ya0, .ref Ya1, .ref Ya2, .int (nI (z1.2 3 0))])), (Ya0, .inl (cI, 6, .inl (nF (z1.2 0)))), (Ya1, .inl (cI, 6, .inl (nF (z1.2 1)))), (Ya2, .inl (cI, 427, .inl (nF (z1.2 2))))] H := ⟨hP, hD⟩
      refine lv_iload_n hx hb dX6_heirs_17 rfl (lv_at hl 3 rfl) ?_
      refine lv_aload_n hx hb dX6_heirs_18 rfl (lv_at hl 0 rfl) ?_
      refine va_get (D := D) (ci := 6) (v := .ref Lh) (C := RX6) (T := TX6) (N := 14) hx hb hts in_X6_heirs_6 hown hK.1 hP 0 rfl rfl 3 (by decide) (hts (.fieldLink RX6 27 "ChildCoins" "ours" "LChildCoins$Land;") (List.mem_of_getElem? (i := 2) rfl)) (fun _ h9 => h9) rfl dX6_heirs_19 ?_
      refine va_getN (D := D) (ci := 0) (v := .int (nI (LS 3 0))) (C := RX0) (T := TX0) (N := 12) hx hb hts in_X6_heirs_0 hown hK.1 hP 3 rfl rfl 3 (by decide) (nfX6_201 hK.2) (fun _ h9 => h9) rfl dX6_heirs_22 ?_
      refine nb_icmp_ge (tgt := 73) hx hb dX6_heirs_25 (by decide) (by omega) (by omega) (fun hq6 => ?_) (fun hq6 => absurd hq6 (by omega))
      refine lv_iload_n hx hb dX6_heirs_73 rfl (lv_at hl 2 rfl) ?_
      exact en_i hx hb hr hlk hP hD hS z1.2 [0, 1, 2, 3, 4, 5, 6, 7, 8, 9, 10, 11, 12, 13, 14, 15, 16, 17] (by decide) rfl (Nat.le_of_ble_eq_true rfl) (Nat.le_of_ble_eq_true rfl) dX6_heirs_74 hI1
    · intro i1 hi01 hi1 z1 hI1 ih1 H locs ls hP hD hS hl
      have hl : lv_has ls 4 [(0, .ref Xh), (1, .int (nI v_d)), (2, .int z1.1), (3, .int (nI i1))] := hl
      obtain ⟨hP, hD⟩ : wPD D A [(Xh, .inr (6, [.ref Th, .int (nI (XS 1 0)), .ref Rh, .ref Lh, .ref Mh, .ref Nh, .ref Xa6, .int (nI (XS 7 0)), .ref Yh, .ref Wh, .ref Qh, .ref Xa11, .int (nI (XS 12 0)), .long Xt])), (Xa6, .inl (cN, 2, .inr (.inr (.inr (.inr (va_up (va_up (fun _ => none) 0 (some Ih)) 1 (some Jh))))))), (Xa11, .inl (cI, 6, .inl (nF (XS 11)))), (Lh, .inr (0, [.int (nI (LS 0 0)), .ref La1, .ref La2, .int (nI (LS 3 0)), .ref La4, .ref La5, .int (nI (LS 6 0)), .ref La7, .ref La8, .ref La9, .int (nI (LS 10 0)), .int (nI (LS 11 0))])), (La1, .inl (cI, 6, .inl (nF (LS 1)))), (La2, .inl (cI, 6, .inl (nF (LS 2)))), (La4, .inl (cI, 5, .inl (nF (LS 4)))), (La5, .inl (cI, 30, .inl (nF (LS 5)))), (La7, .inl (cI, 5, .inl (nF (LS 7)))), (La8, .inl (cI, 5, .inl (nF (LS 8)))), (La9, .inl (cI, 5, .inl (nF (LS 9)))), (Nh, .inr (1, [.ref Na0, .ref Na1, .int (nI (NS 2 0))])), (Na0, .inl (cI, 36, .inl (nF (NS 0)))), (Na1, .inl (cI, 360, .inl (nF (NS 1)))), (Yh, .inr (2, [.ref Ya0, .ref Ya1, .ref Ya2, .int (nI (z1.2 3 0))])), (Ya0, .inl (cI, 6, .inl (nF (z1.2 0)))), (Ya1, .inl (cI, 6, .inl (nF (z1.2 1)))), (Ya2, .inl (cI, 427, .inl (nF (z1.2 2))))] H := ⟨hP, hD⟩
      refine lv_iload_n hx hb dX6_heirs_17 rfl (lv_at hl 3 rfl) ?_
      refine lv_aload_n hx hb dX6_heirs_18 rfl (lv_at hl 0 rfl) ?_
      refine va_get (D := D) (ci := 6) (v := .ref Lh) (C := RX6) (T := TX6) (N := 14) hx hb hts in_X6_heirs_6 hown hK.1 hP 0 rfl rfl 3 (by decide) (hts (.fieldLink RX6 27 "ChildCoins" "ours" "LChildCoins$Land;") (List.mem_of_getElem? (i := 2) rfl)) (fun _ h9 => h9) rfl dX6_heirs_19 ?_
      refine va_getN (D := D) (ci := 0) (v := .int (nI (LS 3 0))) (C := RX0) (T := TX0) (N := 12) hx hb hts in_X6_heirs_0 hown hK.1 hP 3 rfl rfl 3 (by decide) (nfX6_201 hK.2) (fun _ h9 => h9) rfl dX6_heirs_22 ?_
      refine nb_icmp_ge (tgt := 73) hx hb dX6_heirs_25 (by decide) (by omega) (by omega) (fun hq7 => absurd hq7 (by omega)) (fun hq7 => ?_)
      refine lv_iload_n hx hb dX6_heirs_28 rfl (lv_at hl 3 rfl) ?_
      refine lv_aload_n hx hb dX6_heirs_29 rfl (lv_at hl 0 rfl) ?_
      refine va_get (D := D) (ci := 6) (v := .ref Lh) (C := RX6) (T := TX6) (N := 14) hx hb hts in_X6_heirs_6 hown hK.1 hP 0 rfl rfl 3 (by decide) (hts (.fieldLink RX6 27 "ChildCoins" "ours" "LChildCoins$Land;") (List.mem_of_getElem? (i := 2) rfl)) (fun _ h9 => h9) rfl dX6_heirs_30 ?_
      refine va_getN (D := D) (ci := 0) (v := .ref La7) (C := RX0) (T := TX0) (N := 12) hx hb hts in_X6_heirs_0 hown hK.1 hP 3 rfl rfl 7 (by decide) (nfX6_126 hK.2) (fun _ h9 => h9) rfl dX6_heirs_33 ?_
      refine lv_iload_n hx hb dX6_heirs_36 rfl (lv_at hl 1 rfl) ?_
      refine va_iald hx hb hK.1 hP 8 0 rfl rfl (vp_in_nI (n := v_d) (N := 5) (by omega) (by decide)) dX6_heirs_37 ?_
      refine set_i (y := nI (LS 7 v_d)) (nF_ld (by omega)) ?_
      have b8 := bl7 v_d
      refine nb_icmp_eq (tgt := 67) hx hb dX6_heirs_38 (by decide) (by omega) (by omega) (fun hq9 => ?_) (fun hq9 => ?_)
      · skip
        refine lv_iinc (v := nI (i1 + 1)) (lv' := [(3, .int (nI (i1 + 1))), (0, .ref Xh), (1, .int (nI v_d)), (2, .int z1.1)]) hx hb dX6_heirs_67 hl (k := 3) rfl (nI_add i1 1) (by decide) rfl (fun ls hl => ?_)
        refine lv_goto (tgt := 17) hx hb dX6_heirs_70 (by decide) ?_
        have hl : lv_has ls 4 [(0, .ref Xh), (1, .int (nI v_d)), (2, .int z1.1), (3, .int (nI (i1 + 1)))] := lv_sub hl [1, 2, 3, 0] rfl
        exact ih1 (z1.1, z1.2) hI1 _ _ _ hP hD hS hl
      · skip
        refine lv_aload_n hx hb dX6_heirs_41 rfl (lv_at hl 0 rfl) ?_
        refine va_get (D := D) (ci := 6) (v := .ref Yh) (C := RX6) (T := TX6) (N := 14) hx hb hts in_X6_heirs_6 hown hK.1 hP 0 rfl rfl 8 (by decide) (hts (.fieldLink RX6 51 "ChildCoins" "payment" "LChildCoins$Payment;") (List.mem_of_getElem? (i := 3) rfl)) (fun _ h9 => h9) rfl dX6_heirs_42 ?_
        refine lv_aload_n hx hb dX6_heirs_45 rfl (lv_at hl 0 rfl) ?_
        refine va_get (D := D) (ci := 6) (v := .ref Lh) (C := RX6) (T := TX6) (N := 14) hx hb hts in_X6_heirs_6 hown hK.1 hP 0 rfl rfl 3 (by decide) (hts (.fieldLink RX6 27 "ChildCoins" "ours" "LChildCoins$Land;") (List.mem_of_getElem? (i := 2) rfl)) (fun _ h9 => h9) rfl dX6_heirs_46 ?_
        refine lv_aload_n hx hb dX6_heirs_49 rfl (lv_at hl 0 rfl) ?_
        refine va_get (D := D) (ci := 6) (v := .ref Nh) (C := RX6) (T := TX6) (N := 14) hx hb hts in_X6_heirs_6 hown hK.1 hP 0 rfl rfl 5 (by decide) (hts (.fieldLink RX6 37 "ChildCoins" "present" "LChildCoins$Now;") (List.mem_of_getElem? (i := 1) rfl)) (fun _ h9 => h9) rfl dX6_heirs_50 ?_
        refine lv_iload_n hx hb dX6_heirs_53 rfl (lv_at hl 1 rfl) ?_
        refine lv_iload_n hx hb dX6_heirs_54 rfl (lv_at hl 3 rfl) ?_
        refine be_i (free := fun _ => False) (wr := [(Xh, .inr (6, [.ref Th, .int (nI (XS 1 0)), .ref Rh, .ref Lh, .ref Mh, .ref Nh, .ref Xa6, .int (nI (XS 7 0)), .ref Yh, .ref Wh, .ref Qh, .ref Xa11, .int (nI (XS 12 0)), .long Xt])), (Xa6, .inl (cN, 2, .inr (.inr (.inr (.inr (va_up (va_up (fun _ => none) 0 (some Ih)) 1 (some Jh))))))), (Xa11, .inl (cI, 6, .inl (nF (XS 11))))]) (ru_N (C := RX2) (host := "ChildCoins") (As := [.ref Lh, .ref Nh, .int (nI v_d), .int (nI i1)]) (rest := []) ⟨hx, hb, hml, hown, hts⟩ (g_settles l D cI cB cZ cN Yh Ya0 Ya1 Ya2 z1.2 Lh La1 La2 La4 La5 La7 La8 La9 LS Nh Na0 Na1 NS v_d i1 hL0 hN hI1 (by omega) (by omega) H.size) ggX6_heirs_X2_settles rfl (nmX6_150 hK.2) (hts (.initialized RX2) (List.mem_of_getElem? (i := 10) rfl)) (hts (.instanceMethod yX2_settles) (List.mem_of_getElem? (i := 9) rfl)) (hts (.selects RX2 yX2_settles yX2_settles) (List.mem_of_getElem? (i := 11) rfl)) ⟨by decide, by decide, (show Option.map (fun d => d.parameters.length) (parseMethodDescriptor yX2_settles.desc) = some 4 by decide +kernel)⟩ ⟨Nat.le_of_ble_eq_true rfl, Nat.le_of_ble_eq_true rfl⟩ hK hP hD 2 14 rfl rfl [14, 15, 16, 17, 3, 4, 5, 6, 7, 8, 9, 10, 11, 12, 13] (by decide) rfl hl.1 rfl (Nat.le_of_ble_eq_true rfl) dX6_heirs_55 ⟨Nat.le_of_ble_eq_true rfl, Nat.le_of_ble_eq_true rfl⟩) hP hD hS hA [14, 15, 16, 17, 3, 4, 5, 6, 7, 8, 9, 10, 11, 12, 13] [0, 1, 2] rfl rfl (by decide) (by decide) (fun r11 u10 H locs w12 hP hD hS => ?_)
        obtain ⟨hq13, hq14⟩ := w12
        rcases hq14 with ⟨rfl, hq15⟩ | rfl
        · skip
          obtain ⟨hP, hD⟩ : wPD D A [(Xh, .inr (6, [.ref Th, .int (nI (XS 1 0)), .ref Rh, .ref Lh, .ref Mh, .ref Nh, .ref Xa6, .int (nI (XS 7 0)), .ref Yh, .ref Wh, .ref Qh, .ref Xa11, .int (nI (XS 12 0)), .long Xt])), (Xa6, .inl (cN, 2, .inr (.inr (.inr (.inr (va_up (va_up (fun _ => none) 0 (some Ih)) 1 (some Jh))))))), (Xa11, .inl (cI, 6, .inl (nF (XS 11)))), (Yh, .inr (2, [.ref Ya0, .ref Ya1, .ref Ya2, .int (nI (u10 3 0))])), (Ya0, .inl (cI, 6, .inl (nF (u10 0)))), (Ya1, .inl (cI, 6, .inl (nF (u10 1)))), (Ya2, .inl (cI, 427, .inl (nF (u10 2)))), (Lh, .inr (0, [.int (nI (LS 0 0)), .ref La1, .ref La2, .int (nI (LS 3 0)), .ref La4, .ref La5, .int (nI (LS 6 0)), .ref La7, .ref La8, .ref La9, .int (nI (LS 10 0)), .int (nI (LS 11 0))])), (La1, .inl (cI, 6, .inl (nF (LS 1)))), (La2, .inl (cI, 6, .inl (nF (LS 2)))), (La4, .inl (cI, 5, .inl (nF (LS 4)))), (La5, .inl (cI, 30, .inl (nF (LS 5)))), (La7, .inl (cI, 5, .inl (nF (LS 7)))), (La8, .inl (cI, 5, .inl (nF (LS 8)))), (La9, .inl (cI, 5, .inl (nF (LS 9)))), (Nh, .inr (1, [.ref Na0, .ref Na1, .int (nI (NS 2 0))])), (Na0, .inl (cI, 36, .inl (nF (NS 0)))), (Na1, .inl (cI, 360, .inl (nF (NS 1))))] H := ⟨hP, hD⟩
          refine nb_if_eq (tgt := 67) hx hb dX6_heirs_58 (by decide) (by omega) (fun hq16 => absurd hq16 (by omega)) (fun hq16 => ?_)
          refine lv_iload_n hx hb dX6_heirs_61 rfl (lv_at hl 2 rfl) ?_
          refine lv_iconst (v := nI 1) hx hb dX6_heirs_62 (by decide) ?_
          refine lv_iload_n hx hb dX6_heirs_63 rfl (lv_at hl 3 rfl) ?_
          refine lv_ishl hx hb dX6_heirs_64 ?_
          refine set_i (y := nI (2 ^ i1)) (shl_1 (by omega)) ?_
          refine lv_ior hx hb dX6_heirs_65 ?_
          refine lv_istore_n (lv' := [(2, .int (z1.1 ||| (nI (2 ^ i1)))), (0, .ref Xh), (1, .int (nI v_d)), (3, .int (nI i1))]) hx hb dX6_heirs_66 rfl hl (by decide) rfl (fun ls hl => ?_)
          refine lv_iinc (v := nI (i1 + 1)) (lv' := [(3, .int (nI (i1 + 1))), (2, .int (z1.1 ||| (nI (2 ^ i1)))), (0, .ref Xh), (1, .int (nI v_d))]) hx hb dX6_heirs_67 hl (k := 3) rfl (nI_add i1 1) (by decide) rfl (fun ls hl => ?_)
          refine lv_goto (tgt := 17) hx hb dX6_heirs_70 (by decide) ?_
          have hl : lv_has ls 4 [(0, .ref Xh), (1, .int (nI v_d)), (2, .int (z1.1 ||| (nI (2 ^ i1)))), (3, .int (nI (i1 + 1)))] := lv_sub hl [2, 3, 1, 0] rfl
          have hP := hP.sub (ws' := [(Xh, .inr (6, [.ref Th, .int (nI (XS 1 0)), .ref Rh, .ref Lh, .ref Mh, .ref Nh, .ref Xa6, .int (nI (XS 7 0)), .ref Yh, .ref Wh, .ref Qh, .ref Xa11, .int (nI (XS 12 0)), .long Xt])), (Xa6, .inl (cN, 2, .inr (.inr (.inr (.inr (va_up (va_up (fun _ => none) 0 (some Ih)) 1 (some Jh))))))), (Xa11, .inl (cI, 6, .inl (nF (XS 11)))), (Lh, .inr (0, [.int (nI (LS 0 0)), .ref La1, .ref La2, .int (nI (LS 3 0)), .ref La4, .ref La5, .int (nI (LS 6 0)), .ref La7, .ref La8, .ref La9, .int (nI (LS 10 0)), .int (nI (LS 11 0))])), (La1, .inl (cI, 6, .inl (nF (LS 1)))), (La2, .inl (cI, 6, .inl (nF (LS 2)))), (La4, .inl (cI, 5, .inl (nF (LS 4)))), (La5, .inl (cI, 30, .inl (nF (LS 5)))), (La7, .inl (cI, 5, .inl (nF (LS 7)))), (La8, .inl (cI, 5, .inl (nF (LS 8)))), (La9, .inl (cI, 5, .inl (nF (LS 9)))), (Nh, .inr (1, [.ref Na0, .ref Na1, .int (nI (NS 2 0))])), (Na0, .inl (cI, 36, .inl (nF (NS 0)))), (Na1, .inl (cI, 360, .inl (nF (NS 1)))), (Yh, .inr (2, [.ref Ya0, .ref Ya1, .ref Ya2, .int (nI (u10 3 0))])), (Ya0, .inl (cI, 6, .inl (nF (u10 0)))), (Ya1, .inl (cI, 6, .inl (nF (u10 1)))), (Ya2, .inl (cI, 427, .inl (nF (u10 2))))]) [0, 1, 2, 7, 8, 9, 10, 11, 12, 13, 14, 15, 16, 17, 3, 4, 5, 6] rfl
          have hD := hD.sub (ws' := [(Xh, .inr (6, [.ref Th, .int (nI (XS 1 0)), .ref Rh, .ref Lh, .ref Mh, .ref Nh, .ref Xa6, .int (nI (XS 7 0)), .ref Yh, .ref Wh, .ref Qh, .ref Xa11, .int (nI (XS 12 0)), .long Xt])), (Xa6, .inl (cN, 2, .inr (.inr (.inr (.inr (va_up (va_up (fun _ => none) 0 (some Ih)) 1 (some Jh))))))), (Xa11, .inl (cI, 6, .inl (nF (XS 11)))), (Lh, .inr (0, [.int (nI (LS 0 0)), .ref La1, .ref La2, .int (nI (LS 3 0)), .ref La4, .ref La5, .int (nI (LS 6 0)), .ref La7, .ref La8, .ref La9, .int (nI (LS 10 0)), .int (nI (LS 11 0))])), (La1, .inl (cI, 6, .inl (nF (LS 1)))), (La2, .inl (cI, 6, .inl (nF (LS 2)))), (La4, .inl (cI, 5, .inl (nF (LS 4)))), (La5, .inl (cI, 30, .inl (nF (LS 5)))), (La7, .inl (cI, 5, .inl (nF (LS 7)))), (La8, .inl (cI, 5, .inl (nF (LS 8)))), (La9, .inl (cI, 5, .inl (nF (LS 9)))), (Nh, .inr (1, [.ref Na0, .ref Na1, .int (nI (NS 2 0))])), (Na0, .inl (cI, 36, .inl (nF (NS 0)))), (Na1, .inl (cI, 360, .inl (nF (NS 1)))), (Yh, .inr (2, [.ref Ya0, .ref Ya1, .ref Ya2, .int (nI (u10 3 0))])), (Ya0, .inl (cI, 6, .inl (nF (u10 0)))), (Ya1, .inl (cI, 6, .inl (nF (u10 1)))), (Ya2, .inl (cI, 427, .inl (nF (u10 2))))]) [0, 1, 2, 7, 8, 9, 10, 11, 12, 13, 14, 15, 16, 17, 3, 4, 5, 6] (by decide) rfl
          exact ih1 (z1.1 ||| (nI (2 ^ i1)), u10) hq13.1 _ _ _ hP hD hS hl
        · skip
          obtain ⟨hP, hD⟩ : wPD D A [(Xh, .inr (6, [.ref Th, .int (nI (XS 1 0)), .ref Rh, .ref Lh, .ref Mh, .ref Nh, .ref Xa6, .int (nI (XS 7 0)), .ref Yh, .ref Wh, .ref Qh, .ref Xa11, .int (nI (XS 12 0)), .long Xt])), (Xa6, .inl (cN, 2, .inr (.inr (.inr (.inr (va_up (va_up (fun _ => none) 0 (some Ih)) 1 (some Jh))))))), (Xa11, .inl (cI, 6, .inl (nF (XS 11)))), (Yh, .inr (2, [.ref Ya0, .ref Ya1, .ref Ya2, .int (nI (u10 3 0))])), (Ya0, .inl (cI, 6, .inl (nF (u10 0)))), (Ya1, .inl (cI, 6, .inl (nF (u10 1)))), (Ya2, .inl (cI, 427, .inl (nF (u10 2)))), (Lh, .inr (0, [.int (nI (LS 0 0)), .ref La1, .ref La2, .int (nI (LS 3 0)), .ref La4, .ref La5, .int (nI (LS 6 0)), .ref La7, .ref La8, .ref La9, .int (nI (LS 10 0)), .int (nI (LS 11 0))])), (La1, .inl (cI, 6, .inl (nF (LS 1)))), (La2, .inl (cI, 6, .inl (nF (LS 2)))), (La4, .inl (cI, 5, .inl (nF (LS 4)))), (La5, .inl (cI, 30, .inl (nF (LS 5)))), (La7, .inl (cI, 5, .inl (nF (LS 7)))), (La8, .inl (cI, 5, .inl (nF (LS 8)))), (La9, .inl (cI, 5, .inl (nF (LS 9)))), (Nh, .inr (1, [.ref Na0, .ref Na1, .int (nI (NS 2 0))])), (Na0, .inl (cI, 36, .inl (nF (NS 0)))), (Na1, .inl (cI, 360, .inl (nF (NS 1))))] H := ⟨hP, hD⟩
          refine nb_if_eq (tgt := 67) hx hb dX6_heirs_58 (by decide) (by omega) (fun hq17 => ?_) (fun hq17 => absurd hq17 (by omega))
          refine lv_iinc (v := nI (i1 + 1)) (lv' := [(3, .int (nI (i1 + 1))), (0, .ref Xh), (1, .int (nI v_d)), (2, .int z1.1)]) hx hb dX6_heirs_67 hl (k := 3) rfl (nI_add i1 1) (by decide) rfl (fun ls hl => ?_)
          refine lv_goto (tgt := 17) hx hb dX6_heirs_70 (by decide) ?_
          have hl : lv_has ls 4 [(0, .ref Xh), (1, .int (nI v_d)), (2, .int z1.1), (3, .int (nI (i1 + 1)))] := lv_sub hl [1, 2, 3, 0] rfl
          have hP := hP.sub (ws' := [(Xh, .inr (6, [.ref Th, .int (nI (XS 1 0)), .ref Rh, .ref Lh, .ref Mh, .ref Nh, .ref Xa6, .int (nI (XS 7 0)), .ref Yh, .ref Wh, .ref Qh, .ref Xa11, .int (nI (XS 12 0)), .long Xt])), (Xa6, .inl (cN, 2, .inr (.inr (.inr (.inr (va_up (va_up (fun _ => none) 0 (some Ih)) 1 (some Jh))))))), (Xa11, .inl (cI, 6, .inl (nF (XS 11)))), (Lh, .inr (0, [.int (nI (LS 0 0)), .ref La1, .ref La2, .int (nI (LS 3 0)), .ref La4, .ref La5, .int (nI (LS 6 0)), .ref La7, .ref La8, .ref La9, .int (nI (LS 10 0)), .int (nI (LS 11 0))])), (La1, .inl (cI, 6, .inl (nF (LS 1)))), (La2, .inl (cI, 6, .inl (nF (LS 2)))), (La4, .inl (cI, 5, .inl (nF (LS 4)))), (La5, .inl (cI, 30, .inl (nF (LS 5)))), (La7, .inl (cI, 5, .inl (nF (LS 7)))), (La8, .inl (cI, 5, .inl (nF (LS 8)))), (La9, .inl (cI, 5, .inl (nF (LS 9)))), (Nh, .inr (1, [.ref Na0, .ref Na1, .int (nI (NS 2 0))])), (Na0, .inl (cI, 36, .inl (nF (NS 0)))), (Na1, .inl (cI, 360, .inl (nF (NS 1)))), (Yh, .inr (2, [.ref Ya0, .ref Ya1, .ref Ya2, .int (nI (u10 3 0))])), (Ya0, .inl (cI, 6, .inl (nF (u10 0)))), (Ya1, .inl (cI, 6, .inl (nF (u10 1)))), (Ya2, .inl (cI, 427, .inl (nF (u10 2))))]) [0, 1, 2, 7, 8, 9, 10, 11, 12, 13, 14, 15, 16, 17, 3, 4, 5, 6] rfl
          have hD := hD.sub (ws' := [(Xh, .inr (6, [.ref Th, .int (nI (XS 1 0)), .ref Rh, .ref Lh, .ref Mh, .ref Nh, .ref Xa6, .int (nI (XS 7 0)), .ref Yh, .ref Wh, .ref Qh, .ref Xa11, .int (nI (XS 12 0)), .long Xt])), (Xa6, .inl (cN, 2, .inr (.inr (.inr (.inr (va_up (va_up (fun _ => none) 0 (some Ih)) 1 (some Jh))))))), (Xa11, .inl (cI, 6, .inl (nF (XS 11)))), (Lh, .inr (0, [.int (nI (LS 0 0)), .ref La1, .ref La2, .int (nI (LS 3 0)), .ref La4, .ref La5, .int (nI (LS 6 0)), .ref La7, .ref La8, .ref La9, .int (nI (LS 10 0)), .int (nI (LS 11 0))])), (La1, .inl (cI, 6, .inl (nF (LS 1)))), (La2, .inl (cI, 6, .inl (nF (LS 2)))), (La4, .inl (cI, 5, .inl (nF (LS 4)))), (La5, .inl (cI, 30, .inl (nF (LS 5)))), (La7, .inl (cI, 5, .inl (nF (LS 7)))), (La8, .inl (cI, 5, .inl (nF (LS 8)))), (La9, .inl (cI, 5, .inl (nF (LS 9)))), (Nh, .inr (1, [.ref Na0, .ref Na1, .int (nI (NS 2 0))])), (Na0, .inl (cI, 36, .inl (nF (NS 0)))), (Na1, .inl (cI, 360, .inl (nF (NS 1)))), (Yh, .inr (2, [.ref Ya0, .ref Ya1, .ref Ya2, .int (nI (u10 3 0))])), (Ya0, .inl (cI, 6, .inl (nF (u10 0)))), (Ya1, .inl (cI, 6, .inl (nF (u10 1)))), (Ya2, .inl (cI, 427, .inl (nF (u10 2))))]) [0, 1, 2, 7, 8, 9, 10, 11, 12, 13, 14, 15, 16, 17, 3, 4, 5, 6] (by decide) rfl
          exact ih1 (z1.1, u10) hq13.1 _ _ _ hP hD hS hl
  · skip
    refine lv_iconst (v := nI 0) hx hb dX6_heirs_11 (by decide) ?_
    exact en_i hx hb hr hlk hP hD hS YS [0, 1, 2, 3, 4, 5, 6, 7, 8, 9, 10, 11, 12, 13, 14, 15, 16, 17] (by decide) rfl (Nat.le_of_ble_eq_true rfl) (Nat.le_of_ble_eq_true rfl) dX6_heirs_12 hY
set_option maxRecDepth 20000 in
theorem dAX6_helpless : decA cX6_helpless [(0, .iconst 0, 1), (1, .istore_n 1, 1), (2, .iconst 0, 1), (3, .istore_n 2, 1), (4, .iload_n 2, 1), (5, .aload_n 0, 1), (6, .getfield 27, 3), (9, .getfield 257, 3), (12, .if_icmp .ge 34, 3), (15, .aload_n 0, 1), (16, .getfield 37, 3), (19, .iload_n 2, 1), (20, .invokevirtual 135, 3), (23, .ifCond .eq 17, 3), (26, .aload_n 0, 1), (27, .iload_n 2, 1), (28, .invokevirtual 144, 3), (31, .ifCond .ne 9, 3), (34, .iload_n 1, 1), (35, .iconst 1, 1), (36, .iload_n 2, 1), (37, .ishl, 1), (38, .ior, 1), (39, .istore_n 1, 1), (40, .iinc 2 1, 3), (43, .goto (-39), 3), (46, .iload_n 1, 1), (47, .ireturn, 1)] = true := by decide +kernel
theorem dX6_helpless_0 : decode cX6_helpless 0 = .ok (.iconst 0, 1) := decA_get dAX6_helpless 0 rfl
theorem dX6_helpless_1 : decode cX6_helpless 1 = .ok (.istore_n 1, 1) := decA_get dAX6_helpless 1 rfl
theorem dX6_helpless_2 : decode cX6_helpless 2 = .ok (.iconst 0, 1) := decA_get dAX6_helpless 2 rfl
theorem dX6_helpless_3 : decode cX6_helpless 3 = .ok (.istore_n 2, 1) := decA_get dAX6_helpless 3 rfl
theorem dX6_helpless_4 : decode cX6_helpless 4 = .ok (.iload_n 2, 1) := decA_get dAX6_helpless 4 rfl
theorem dX6_helpless_5 : decode cX6_helpless 5 = .ok (.aload_n 0, 1) := decA_get dAX6_helpless 5 rfl
theorem dX6_helpless_6 : decode cX6_helpless 6 = .ok (.getfield 27, 3) := decA_get dAX6_helpless 6 rfl
theorem in_X6_helpless_6 : ∀ w ∈ wsX60, w ∈ wsX6_helpless := fun w h => (gd_ids wi_X6_helpless wm_X6_helpless wi_X60 (by decide +kernel) w h).1
theorem dX6_helpless_9 : decode cX6_helpless 9 = .ok (.getfield 257, 3) := decA_get dAX6_helpless 7 rfl
theorem in_X6_helpless_0 : ∀ w ∈ wsX00, w ∈ wsX6_helpless := fun w h => (gd_ids wi_X6_helpless wm_X6_helpless wi_X00 (by decide +kernel) w h).1
theorem dX6_helpless_12 : decode cX6_helpless 12 = .ok (.if_icmp .ge 34, 3) := decA_get dAX6_helpless 8 rfl
theorem dX6_helpless_46 : decode cX6_helpless 46 = .ok (.iload_n 1, 1) := decA_get dAX6_helpless 26 rfl
theorem dX6_helpless_47 : decode cX6_helpless 47 = .ok (.ireturn, 1) := decA_get dAX6_helpless 27 rfl
theorem dX6_helpless_15 : decode cX6_helpless 15 = .ok (.aload_n 0, 1) := decA_get dAX6_helpless 9 rfl
theorem dX6_helpless_16 : decode cX6_helpless 16 = .ok (.getfield 37, 3) := decA_get dAX6_helpless 10 rfl
theorem dX6_helpless_19 : decode cX6_helpless 19 = .ok (.iload_n 2, 1) := decA_get dAX6_helpless 11 rfl
theorem dX6_helpless_20 : decode cX6_helpless 20 = .ok (.invokevirtual 135, 3) := decA_get dAX6_helpless 12 rfl
set_option maxRecDepth 20000 in
theorem ggX6_helpless_X1_isOpen : GoodIn wsX6_helpless wsX1_isOpen := gd_ids wi_X6_helpless wm_X6_helpless wi_X1_isOpen (by decide +kernel)
theorem dX6_helpless_23 : decode cX6_helpless 23 = .ok (.ifCond .eq 17, 3) := decA_get dAX6_helpless 13 rfl
theorem dX6_helpless_40 : decode cX6_helpless 40 = .ok (.iinc 2 1, 3) := decA_get dAX6_helpless 24 rfl
theorem dX6_helpless_43 : decode cX6_helpless 43 = .ok (.goto (-39), 3) := decA_get dAX6_helpless 25 rfl
theorem dX6_helpless_26 : decode cX6_helpless 26 = .ok (.aload_n 0, 1) := decA_get dAX6_helpless 14 rfl
theorem dX6_helpless_27 : decode cX6_helpless 27 = .ok (.iload_n 2, 1) := decA_get dAX6_helpless 15 rfl
theorem dX6_helpless_28 : decode cX6_helpless 28 = .ok (.invokevirtual 144, 3) := decA_get dAX6_helpless 16 rfl
set_option maxRecDepth 20000 in
theorem ggX6_helpless_X6_worldPays : GoodIn wsX6_helpless wsX6_worldPays := gd_ids wi_X6_helpless wm_X6_helpless wi_X6_worldPays (by decide +kernel)
set_option maxRecDepth 20000 in
theorem gX6_helpless_X6_worldPays : GoodIn wsX6_helpless (wsV RX6 144 RX6 yX6_worldPays wsX6_worldPays) := goodIn_app (gd_ids wi_X6_helpless wm_X6_helpless (b := [360, 361, 362, 344]) rfl (by decide +kernel)) ggX6_helpless_X6_worldPays
theorem dX6_helpless_31 : decode cX6_helpless 31 = .ok (.ifCond .ne 9, 3) := decA_get dAX6_helpless 17 rfl
theorem dX6_helpless_34 : decode cX6_helpless 34 = .ok (.iload_n 1, 1) := decA_get dAX6_helpless 18 rfl
theorem dX6_helpless_35 : decode cX6_helpless 35 = .ok (.iconst 1, 1) := decA_get dAX6_helpless 19 rfl
theorem dX6_helpless_36 : decode cX6_helpless 36 = .ok (.iload_n 2, 1) := decA_get dAX6_helpless 20 rfl
theorem dX6_helpless_37 : decode cX6_helpless 37 = .ok (.ishl, 1) := decA_get dAX6_helpless 21 rfl
theorem dX6_helpless_38 : decode cX6_helpless 38 = .ok (.ior, 1) := decA_get dAX6_helpless 22 rfl
theorem dX6_helpless_39 : decode cX6_helpless 39 = .ok (.istore_n 1, 1) := decA_get dAX6_helpless 23 rfl
set_option maxRecDepth 20000 in
theorem dAX6_allTakenDoFor : decA cX6_allTakenDoFor [(0, .iconst 0, 1), (1, .istore_n 2, 1), (2, .iload_n 2, 1), (3, .aload_n 0, 1), (4, .getfield 72, 3), (7, .if_icmp .ge 31, 3), (10, .aload_n 0, 1), (11, .getfield 27, 3), (14, .aload_n 0, 1), (15, .getfield 69, 3), (18, .iload_n 2, 1), (19, .iaload, 1), (20, .iload_n 1, 1), (21, .bipush 7, 2), (23, .iadd, 1), (24, .invokevirtual 273, 3), (27, .ifCond .ne 5, 3), (30, .iconst 0, 1), (31, .ireturn, 1), (32, .iinc 2 1, 3), (35, .goto (-33), 3), (38, .iconst 1, 1), (39, .ireturn, 1)] = true := by decide +kernel
theorem dX6_allTakenDoFor_0 : decode cX6_allTakenDoFor 0 = .ok (.iconst 0, 1) := decA_get dAX6_allTakenDoFor 0 rfl
theorem dX6_allTakenDoFor_1 : decode cX6_allTakenDoFor 1 = .ok (.istore_n 2, 1) := decA_get dAX6_allTakenDoFor 1 rfl
theorem dX6_allTakenDoFor_2 : decode cX6_allTakenDoFor 2 = .ok (.iload_n 2, 1) := decA_get dAX6_allTakenDoFor 2 rfl
theorem dX6_allTakenDoFor_3 : decode cX6_allTakenDoFor 3 = .ok (.aload_n 0, 1) := decA_get dAX6_allTakenDoFor 3 rfl
theorem dX6_allTakenDoFor_4 : decode cX6_allTakenDoFor 4 = .ok (.getfield 72, 3) := decA_get dAX6_allTakenDoFor 4 rfl
theorem in_X6_allTakenDoFor_6 : ∀ w ∈ wsX60, w ∈ wsX6_allTakenDoFor := fun w h => (gd_ids wi_X6_allTakenDoFor wm_X6_allTakenDoFor wi_X60 (by decide +kernel) w h).1
theorem dX6_allTakenDoFor_7 : decode cX6_allTakenDoFor 7 = .ok (.if_icmp .ge 31, 3) := decA_get dAX6_allTakenDoFor 5 rfl
theorem dX6_allTakenDoFor_38 : decode cX6_allTakenDoFor 38 = .ok (.iconst 1, 1) := decA_get dAX6_allTakenDoFor 21 rfl
theorem dX6_allTakenDoFor_39 : decode cX6_allTakenDoFor 39 = .ok (.ireturn, 1) := decA_get dAX6_allTakenDoFor 22 rfl
theorem dX6_allTakenDoFor_10 : decode cX6_allTakenDoFor 10 = .ok (.aload_n 0, 1) := decA_get dAX6_allTakenDoFor 6 rfl
theorem dX6_allTakenDoFor_11 : decode cX6_allTakenDoFor 11 = .ok (.getfield 27, 3) := decA_get dAX6_allTakenDoFor 7 rfl
theorem dX6_allTakenDoFor_14 : decode cX6_allTakenDoFor 14 = .ok (.aload_n 0, 1) := decA_get dAX6_allTakenDoFor 8 rfl
theorem dX6_allTakenDoFor_15 : decode cX6_allTakenDoFor 15 = .ok (.getfield 69, 3) := decA_get dAX6_allTakenDoFor 9 rfl
theorem dX6_allTakenDoFor_18 : decode cX6_allTakenDoFor 18 = .ok (.iload_n 2, 1) := decA_get dAX6_allTakenDoFor 10 rfl
theorem dX6_allTakenDoFor_19 : decode cX6_allTakenDoFor 19 = .ok (.iaload, 1) := decA_get dAX6_allTakenDoFor 11 rfl
theorem dX6_allTakenDoFor_20 : decode cX6_allTakenDoFor 20 = .ok (.iload_n 1, 1) := decA_get dAX6_allTakenDoFor 12 rfl
theorem dX6_allTakenDoFor_21 : decode cX6_allTakenDoFor 21 = .ok (.bipush 7, 2) := decA_get dAX6_allTakenDoFor 13 rfl
theorem dX6_allTakenDoFor_23 : decode cX6_allTakenDoFor 23 = .ok (.iadd, 1) := decA_get dAX6_allTakenDoFor 14 rfl
theorem dX6_allTakenDoFor_24 : decode cX6_allTakenDoFor 24 = .ok (.invokevirtual 273, 3) := decA_get dAX6_allTakenDoFor 15 rfl
set_option maxRecDepth 20000 in
theorem ggX6_allTakenDoFor_X0_isAbout : GoodIn wsX6_allTakenDoFor wsX0_isAbout := gd_ids wi_X6_allTakenDoFor wm_X6_allTakenDoFor wi_X0_isAbout (by decide +kernel)
theorem dX6_allTakenDoFor_27 : decode cX6_allTakenDoFor 27 = .ok (.ifCond .ne 5, 3) := decA_get dAX6_allTakenDoFor 16 rfl
theorem dX6_allTakenDoFor_32 : decode cX6_allTakenDoFor 32 = .ok (.iinc 2 1, 3) := decA_get dAX6_allTakenDoFor 19 rfl
theorem dX6_allTakenDoFor_35 : decode cX6_allTakenDoFor 35 = .ok (.goto (-33), 3) := decA_get dAX6_allTakenDoFor 20 rfl
theorem dX6_allTakenDoFor_30 : decode cX6_allTakenDoFor 30 = .ok (.iconst 0, 1) := decA_get dAX6_allTakenDoFor 17 rfl
theorem dX6_allTakenDoFor_31 : decode cX6_allTakenDoFor 31 = .ok (.ireturn, 1) := decA_get dAX6_allTakenDoFor 18 rfl
set_option maxRecDepth 20000 in
theorem dAX6_years : decA cX6_years [(0, .iload_n 1, 1), (1, .ifCond .lt 8, 3), (4, .iload_n 1, 1), (5, .iconst 2, 1), (6, .if_icmp .le 5, 3), (9, .iconst (-1), 1), (10, .ireturn, 1), (11, .iconst 0, 1), (12, .istore_n 2, 1), (13, .bipush (-9), 2), (15, .istore_n 3, 1), (16, .bipush (-9), 2), (18, .istore 4, 2), (20, .iconst 0, 1), (21, .istore 5, 2), (23, .iload 5, 2), (25, .bipush 60, 2), (27, .if_icmp .gt 35, 3), (30, .aload_n 0, 1), (31, .iload 5, 2), (33, .invokevirtual 223, 3), (36, .ifCond .ne 6, 3), (39, .goto 17, 3), (42, .iload_n 2, 1), (43, .ifCond .ne 6, 3), (46, .iload 5, 2), (48, .istore_n 3, 1), (49, .iload 5, 2), (51, .istore 4, 2), (53, .iinc 2 1, 3), (56, .iinc 5 1, 3), (59, .goto (-36), 3), (62, .iload_n 1, 1), (63, .ifCond .ne 5, 3), (66, .iload_n 2, 1), (67, .ireturn, 1), (68, .iload_n 1, 1), (69, .iconst 1, 1), (70, .if_icmp .ne 7, 3), (73, .iload_n 3, 1), (74, .goto 5, 3), (77, .iload 4, 2), (79, .ireturn, 1)] = true := by decide +kernel
theorem dX6_years_0 : decode cX6_years 0 = .ok (.iload_n 1, 1) := decA_get dAX6_years 0 rfl
theorem dX6_years_1 : decode cX6_years 1 = .ok (.ifCond .lt 8, 3) := decA_get dAX6_years 1 rfl
theorem dX6_years_9 : decode cX6_years 9 = .ok (.iconst (-1), 1) := decA_get dAX6_years 5 rfl
theorem dX6_years_10 : decode cX6_years 10 = .ok (.ireturn, 1) := decA_get dAX6_years 6 rfl
theorem dX6_years_4 : decode cX6_years 4 = .ok (.iload_n 1, 1) := decA_get dAX6_years 2 rfl
theorem dX6_years_5 : decode cX6_years 5 = .ok (.iconst 2, 1) := decA_get dAX6_years 3 rfl
theorem dX6_years_6 : decode cX6_years 6 = .ok (.if_icmp .le 5, 3) := decA_get dAX6_years 4 rfl
theorem dX6_years_11 : decode cX6_years 11 = .ok (.iconst 0, 1) := decA_get dAX6_years 7 rfl
theorem dX6_years_12 : decode cX6_years 12 = .ok (.istore_n 2, 1) := decA_get dAX6_years 8 rfl
theorem dX6_years_13 : decode cX6_years 13 = .ok (.bipush (-9), 2) := decA_get dAX6_years 9 rfl
theorem dX6_years_15 : decode cX6_years 15 = .ok (.istore_n 3, 1) := decA_get dAX6_years 10 rfl
theorem dX6_years_16 : decode cX6_years 16 = .ok (.bipush (-9), 2) := decA_get dAX6_years 11 rfl
theorem dX6_years_18 : decode cX6_years 18 = .ok (.istore 4, 2) := decA_get dAX6_years 12 rfl
theorem dX6_years_20 : decode cX6_years 20 = .ok (.iconst 0, 1) := decA_get dAX6_years 13 rfl
theorem dX6_years_21 : decode cX6_years 21 = .ok (.istore 5, 2) := decA_get dAX6_years 14 rfl
theorem dX6_years_23 : decode cX6_years 23 = .ok (.iload 5, 2) := decA_get dAX6_years 15 rfl
theorem dX6_years_25 : decode cX6_years 25 = .ok (.bipush 60, 2) := decA_get dAX6_years 16 rfl
theorem dX6_years_27 : decode cX6_years 27 = .ok (.if_icmp .gt 35, 3) := decA_get dAX6_years 17 rfl
theorem dX6_years_62 : decode cX6_years 62 = .ok (.iload_n 1, 1) := decA_get dAX6_years 32 rfl
theorem dX6_years_63 : decode cX6_years 63 = .ok (.ifCond .ne 5, 3) := decA_get dAX6_years 33 rfl
theorem dX6_years_68 : decode cX6_years 68 = .ok (.iload_n 1, 1) := decA_get dAX6_years 36 rfl
theorem dX6_years_69 : decode cX6_years 69 = .ok (.iconst 1, 1) := decA_get dAX6_years 37 rfl
theorem dX6_years_70 : decode cX6_years 70 = .ok (.if_icmp .ne 7, 3) := decA_get dAX6_years 38 rfl
theorem dX6_years_77 : decode cX6_years 77 = .ok (.iload 4, 2) := decA_get dAX6_years 41 rfl
theorem dX6_years_79 : decode cX6_years 79 = .ok (.ireturn, 1) := decA_get dAX6_years 42 rfl
theorem dX6_years_73 : decode cX6_years 73 = .ok (.iload_n 3, 1) := decA_get dAX6_years 39 rfl
theorem dX6_years_74 : decode cX6_years 74 = .ok (.goto 5, 3) := decA_get dAX6_years 40 rfl
theorem dX6_years_66 : decode cX6_years 66 = .ok (.iload_n 2, 1) := decA_get dAX6_years 34 rfl
theorem dX6_years_67 : decode cX6_years 67 = .ok (.ireturn, 1) := decA_get dAX6_years 35 rfl
theorem dX6_years_30 : decode cX6_years 30 = .ok (.aload_n 0, 1) := decA_get dAX6_years 18 rfl
theorem dX6_years_31 : decode cX6_years 31 = .ok (.iload 5, 2) := decA_get dAX6_years 19 rfl
theorem dX6_years_33 : decode cX6_years 33 = .ok (.invokevirtual 223, 3) := decA_get dAX6_years 20 rfl
set_option maxRecDepth 20000 in
theorem ggX6_years_X6_allTakenDoFor : GoodIn wsX6_years wsX6_allTakenDoFor := gd_ids wi_X6_years wm_X6_years wi_X6_allTakenDoFor (by decide +kernel)
set_option maxRecDepth 20000 in
theorem gX6_years_X6_allTakenDoFor : GoodIn wsX6_years (wsV RX6 223 RX6 yX6_allTakenDoFor wsX6_allTakenDoFor) := goodIn_app (gd_ids wi_X6_years wm_X6_years (b := [410, 411, 412, 344]) rfl (by decide +kernel)) ggX6_years_X6_allTakenDoFor
theorem dX6_years_36 : decode cX6_years 36 = .ok (.ifCond .ne 6, 3) := decA_get dAX6_years 21 rfl
theorem dX6_years_39 : decode cX6_years 39 = .ok (.goto 17, 3) := decA_get dAX6_years 22 rfl
theorem dX6_years_56 : decode cX6_years 56 = .ok (.iinc 5 1, 3) := decA_get dAX6_years 30 rfl
theorem dX6_years_59 : decode cX6_years 59 = .ok (.goto (-36), 3) := decA_get dAX6_years 31 rfl
theorem dX6_years_42 : decode cX6_years 42 = .ok (.iload_n 2, 1) := decA_get dAX6_years 23 rfl
theorem dX6_years_43 : decode cX6_years 43 = .ok (.ifCond .ne 6, 3) := decA_get dAX6_years 24 rfl
theorem dX6_years_49 : decode cX6_years 49 = .ok (.iload 5, 2) := decA_get dAX6_years 27 rfl
theorem dX6_years_51 : decode cX6_years 51 = .ok (.istore 4, 2) := decA_get dAX6_years 28 rfl
theorem dX6_years_53 : decode cX6_years 53 = .ok (.iinc 2 1, 3) := decA_get dAX6_years 29 rfl
theorem dX6_years_46 : decode cX6_years 46 = .ok (.iload 5, 2) := decA_get dAX6_years 25 rfl
theorem dX6_years_48 : decode cX6_years 48 = .ok (.istore_n 3, 1) := decA_get dAX6_years 26 rfl
