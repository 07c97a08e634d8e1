set_option maxRecDepth 20000 in
theorem dAX2_settles : decA cX2_settles [(0, .aload_n 0, 1), (1, .aload_n 1, 1), (2, .aload_n 2, 1), (3, .iload_n 3, 1), (4, .iload 4, 2), (6, .invokevirtual 25, 3), (9, .ifCond .ne 5, 3), (12, .iconst 0, 1), (13, .ireturn, 1), (14, .iconst 0, 1), (15, .istore 5, 2), (17, .iload 5, 2), (19, .aload_n 1, 1), (20, .getfield 29, 3), (23, .if_icmp .ge 32, 3), (26, .aload_n 2, 1), (27, .iload 4, 2), (29, .iload 5, 2), (31, .invokevirtual 34, 3), (34, .aload_n 0, 1), (35, .getfield 15, 3), (38, .iload 5, 2), (40, .iaload, 1), (41, .iadd, 1), (42, .bipush 99, 2), (44, .if_icmp .le 5, 3), (47, .iconst 0, 1), (48, .ireturn, 1), (49, .iinc 5 1, 3), (52, .goto (-35), 3), (55, .iconst 1, 1), (56, .ireturn, 1)] = true := by decide +kernel
theorem dX2_settles_0 : decode cX2_settles 0 = .ok (.aload_n 0, 1) := decA_get dAX2_settles 0 rfl
theorem dX2_settles_1 : decode cX2_settles 1 = .ok (.aload_n 1, 1) := decA_get dAX2_settles 1 rfl
theorem dX2_settles_2 : decode cX2_settles 2 = .ok (.aload_n 2, 1) := decA_get dAX2_settles 2 rfl
theorem dX2_settles_3 : decode cX2_settles 3 = .ok (.iload_n 3, 1) := decA_get dAX2_settles 3 rfl
theorem dX2_settles_4 : decode cX2_settles 4 = .ok (.iload 4, 2) := decA_get dAX2_settles 4 rfl
theorem dX2_settles_6 : decode cX2_settles 6 = .ok (.invokevirtual 25, 3) := decA_get dAX2_settles 5 rfl
set_option maxRecDepth 20000 in
theorem ggX2_settles_X2_find : GoodIn wsX2_settles wsX2_find := gd_ids wi_X2_settles wm_X2_settles wi_X2_find (by decide +kernel)
set_option maxRecDepth 20000 in
theorem gX2_settles_X2_find : GoodIn wsX2_settles (wsV RX2 25 RX2 yX2_find wsX2_find) := goodIn_app (gd_ids wi_X2_settles wm_X2_settles (b := [162, 163, 164, 153]) rfl (by decide +kernel)) ggX2_settles_X2_find
theorem dX2_settles_9 : decode cX2_settles 9 = .ok (.ifCond .ne 5, 3) := decA_get dAX2_settles 6 rfl
theorem dX2_settles_12 : decode cX2_settles 12 = .ok (.iconst 0, 1) := decA_get dAX2_settles 7 rfl
theorem dX2_settles_13 : decode cX2_settles 13 = .ok (.ireturn, 1) := decA_get dAX2_settles 8 rfl
theorem dX2_settles_14 : decode cX2_settles 14 = .ok (.iconst 0, 1) := decA_get dAX2_settles 9 rfl
theorem dX2_settles_15 : decode cX2_settles 15 = .ok (.istore 5, 2) := decA_get dAX2_settles 10 rfl
theorem dX2_settles_17 : decode cX2_settles 17 = .ok (.iload 5, 2) := decA_get dAX2_settles 11 rfl
theorem dX2_settles_19 : decode cX2_settles 19 = .ok (.aload_n 1, 1) := decA_get dAX2_settles 12 rfl
theorem dX2_settles_20 : decode cX2_settles 20 = .ok (.getfield 29, 3) := decA_get dAX2_settles 13 rfl
theorem in_X2_settles_0 : ∀ w ∈ wsX00, w ∈ wsX2_settles := fun w h => (gd_ids wi_X2_settles wm_X2_settles wi_X00 (by decide +kernel) w h).1
theorem dX2_settles_23 : decode cX2_settles 23 = .ok (.if_icmp .ge 32, 3) := decA_get dAX2_settles 14 rfl
theorem dX2_settles_55 : decode cX2_settles 55 = .ok (.iconst 1, 1) := decA_get dAX2_settles 30 rfl
theorem dX2_settles_56 : decode cX2_settles 56 = .ok (.ireturn, 1) := decA_get dAX2_settles 31 rfl
theorem dX2_settles_26 : decode cX2_settles 26 = .ok (.aload_n 2, 1) := decA_get dAX2_settles 15 rfl
theorem dX2_settles_27 : decode cX2_settles 27 = .ok (.iload 4, 2) := decA_get dAX2_settles 16 rfl
theorem dX2_settles_29 : decode cX2_settles 29 = .ok (.iload 5, 2) := decA_get dAX2_settles 17 rfl
theorem dX2_settles_31 : decode cX2_settles 31 = .ok (.invokevirtual 34, 3) := decA_get dAX2_settles 18 rfl
set_option maxRecDepth 20000 in
theorem ggX2_settles_X1_held : GoodIn wsX2_settles wsX1_held := gd_ids wi_X2_settles wm_X2_settles wi_X1_held (by decide +kernel)
theorem dX2_settles_34 : decode cX2_settles 34 = .ok (.aload_n 0, 1) := decA_get dAX2_settles 19 rfl
theorem dX2_settles_35 : decode cX2_settles 35 = .ok (.getfield 15, 3) := decA_get dAX2_settles 20 rfl
theorem in_X2_settles_2 : ∀ w ∈ wsX20, w ∈ wsX2_settles := fun w h => (gd_ids wi_X2_settles wm_X2_settles wi_X20 (by decide +kernel) w h).1
theorem dX2_settles_38 : decode cX2_settles 38 = .ok (.iload 5, 2) := decA_get dAX2_settles 21 rfl
theorem dX2_settles_40 : decode cX2_settles 40 = .ok (.iaload, 1) := decA_get dAX2_settles 22 rfl
theorem dX2_settles_41 : decode cX2_settles 41 = .ok (.iadd, 1) := decA_get dAX2_settles 23 rfl
theorem dX2_settles_42 : decode cX2_settles 42 = .ok (.bipush 99, 2) := decA_get dAX2_settles 24 rfl
theorem dX2_settles_44 : decode cX2_settles 44 = .ok (.if_icmp .le 5, 3) := decA_get dAX2_settles 25 rfl
theorem dX2_settles_49 : decode cX2_settles 49 = .ok (.iinc 5 1, 3) := decA_get dAX2_settles 28 rfl
theorem dX2_settles_52 : decode cX2_settles 52 = .ok (.goto (-35), 3) := decA_get dAX2_settles 29 rfl
theorem dX2_settles_47 : decode cX2_settles 47 = .ok (.iconst 0, 1) := decA_get dAX2_settles 26 rfl
theorem dX2_settles_48 : decode cX2_settles 48 = .ok (.ireturn, 1) := decA_get dAX2_settles 27 rfl
set_option maxHeartbeats 4000000 in
set_option maxRecDepth 100000 in
theorem g_settles (l : Launch) (D : va_G) (cI cB cZ cN : ClassId) (Yh : Nat) (Ya0 : Nat) (Ya1 : Nat) (Ya2 : Nat) (YS : Nat → Nat → Nat) (Lh : Nat) (La1 : Nat) (La2 : Nat) (La4 : Nat) (La5 : Nat) (La7 : Nat) (La8 : Nat) (La9 : Nat) (LS : Nat → Nat → Nat) (Nh : Nat) (Na0 : Nat) (Na1 : Nat) (NS : Nat → Nat → Nat) (v_d : Nat) (v_b : Nat) (hL : LandOk LS) (hN : NowOk NS) (hY : PayOk YS) (hd : v_d < 5) (hb2 : v_b < 5) : Ci (S := (Nat → Nat → Nat)) l D cI cB cZ cN yX2_settles wsX2_settles ({ frames := 3, cells := 0, slots := 0, locals := 78 } : Room) [.ref Yh, .ref Lh, .ref Nh, .int (nI v_d), .int (nI v_b)] [(Yh, .inr (2, [.ref Ya0, .ref Ya1, .ref Ya2, .int (nI (YS 3 0))])), (Ya0, .inl (cI, 6, .inl (nF (YS 0)))), (Ya1, .inl (cI, 6, .inl (nF (YS 1)))), (Ya2, .inl (cI, 427, .inl (nF (YS 2)))), (Lh, .inr (0, [.int (nI (LS 0 0)), .ref La1, .ref La2, .int (nI (LS 3 0)), .ref La4, .ref La5, .int (nI (LS 6 0)), .ref La7, .ref La8, .ref La9, .int (nI (LS 10 0)), .int (nI (LS 11 0))])), (La1, .inl (cI, 6, .inl (nF (LS 1)))), (La2, .inl (cI, 6, .inl (nF (LS 2)))), (La4, .inl (cI, 5, .inl (nF (LS 4)))), (La5, .inl (cI, 30, .inl (nF (LS 5)))), (La7, .inl (cI, 5, .inl (nF (LS 7)))), (La8, .inl (cI, 5, .inl (nF (LS 8)))), (La9, .inl (cI, 5, .inl (nF (LS 9)))), (Nh, .inr (1, [.ref Na0, .ref Na1, .int (nI (NS 2 0))])), (Na0, .inl (cI, 36, .inl (nF (NS 0)))), (Na1, .inl (cI, 360, .inl (nF (NS 1))))] (fun (r : Int32) (u : (Nat → Nat → Nat)) => (PayOk u ∧ PI (u 0) (u 1) (fun c => NS 0 (LS 7 v_d * 6 + c)) (LS 0 0) 6) ∧ ((r = nI 1 ∧ ∀ c, c < 6 → NS 0 (v_b * 6 + c) + u 1 c ≤ 99) ∨ r = nI 0)) (fun u => [(Yh, .inr (2, [.ref Ya0, .ref Ya1, .ref Ya2, .int (nI (u 3 0))])), (Ya0, .inl (cI, 6, .inl (nF (u 0)))), (Ya1, .inl (cI, 6, .inl (nF (u 1)))), (Ya2, .inl (cI, 427, .inl (nF (u 2)))), (Lh, .inr (0, [.int (nI (LS 0 0)), .ref La1, .ref La2, .int (nI (LS 3 0)), .ref La4, .ref La5, .int (nI (LS 6 0)), .ref La7, .ref La8, .ref La9, .int (nI (LS 10 0)), .int (nI (LS 11 0))])), (La1, .inl (cI, 6, .inl (nF (LS 1)))), (La2, .inl (cI, 6, .inl (nF (LS 2)))), (La4, .inl (cI, 5, .inl (nF (LS 4)))), (La5, .inl (cI, 30, .inl (nF (LS 5)))), (La7, .inl (cI, 5, .inl (nF (LS 7)))), (La8, .inl (cI, 5, .inl (nF (LS 8)))), (La9, .inl (cI, 5, .inl (nF (LS 9)))), (Nh, .inr (1, [.ref Na0, .ref Na1, .int (nI (NS 2 0))])), (Na0, .inl (cI, 36, .inl (nF (NS 0)))), (Na1, .inl (cI, 360, .inl (nF (NS 1))))]) := by
  refine bx_of (D := D) (cI := cI) (cB := cB) (cZ := cZ) (cN := cN) (y := yX2_settles) (wd := wsX2_settles) (rm := ({ frames := 3, cells := 0, slots := 0, locals := 78 } : Room)) (av := [.ref Yh, .ref Lh, .ref Nh, .int (nI v_d), .int (nI v_b)]) (wc := [(Yh, .inr (2, [.ref Ya0, .ref Ya1, .ref Ya2, .int (nI (YS 3 0))])), (Ya0, .inl (cI, 6, .inl (nF (YS 0)))), (Ya1, .inl (cI, 6, .inl (nF (YS 1)))), (Ya2, .inl (cI, 427, .inl (nF (YS 2)))), (Lh, .inr (0, [.int (nI (LS 0 0)), .ref La1, .ref La2, .int (nI (LS 3 0)), .ref La4, .ref La5, .int (nI (LS 6 0)), .ref La7, .ref La8, .ref La9, .int (nI (LS 10 0)), .int (nI (LS 11 0))])), (La1, .inl (cI, 6, .inl (nF (LS 1)))), (La2, .inl (cI, 6, .inl (nF (LS 2)))), (La4, .inl (cI, 5, .inl (nF (LS 4)))), (La5, .inl (cI, 30, .inl (nF (LS 5)))), (La7, .inl (cI, 5, .inl (nF (LS 7)))), (La8, .inl (cI, 5, .inl (nF (LS 8)))), (La9, .inl (cI, 5, .inl (nF (LS 9)))), (Nh, .inr (1, [.ref Na0, .ref Na1, .int (nI (NS 2 0))])), (Na0, .inl (cI, 36, .inl (nF (NS 0)))), (Na1, .inl (cI, 360, .inl (nF (NS 1))))]) (cc := cX2_settles) (maxL := 6) (ret := (some .boolean)) (Qc := fun _ A => va_Qi (S := (Nat → Nat → Nat)) (fun (r : Int32) (u : (Nat → Nat → Nat)) => (PayOk u ∧ PI (u 0) (u 1) (fun c => NS 0 (LS 7 v_d * 6 + c)) (LS 0 0) 6) ∧ ((r = nI 1 ∧ ∀ c, c < 6 → NS 0 (v_b * 6 + c) + u 1 c ≤ 99) ∨ r = nI 0)) (Aft D (fun (u : (Nat → Nat → Nat)) => [(Yh, .inr (2, [.ref Ya0, .ref Ya1, .ref Ya2, .int (nI (u 3 0))])), (Ya0, .inl (cI, 6, .inl (nF (u 0)))), (Ya1, .inl (cI, 6, .inl (nF (u 1)))), (Ya2, .inl (cI, 427, .inl (nF (u 2)))), (Lh, .inr (0, [.int (nI (LS 0 0)), .ref La1, .ref La2, .int (nI (LS 3 0)), .ref La4, .ref La5, .int (nI (LS 6 0)), .ref La7, .ref La8, .ref La9, .int (nI (LS 10 0)), .int (nI (LS 11 0))])), (La1, .inl (cI, 6, .inl (nF (LS 1)))), (La2, .inl (cI, 6, .inl (nF (LS 2)))), (La4, .inl (cI, 5, .inl (nF (LS 4)))), (La5, .inl (cI, 30, .inl (nF (LS 5)))), (La7, .inl (cI, 5, .inl (nF (LS 7)))), (La8, .inl (cI, 5, .inl (nF (LS 8)))), (La9, .inl (cI, 5, .inl (nF (LS 9)))), (Nh, .inr (1, [.ref Na0, .ref Na1, .int (nI (NS 2 0))])), (Na0, .inl (cI, 36, .inl (nF (NS 0)))), (Na1, .inl (cI, 360, .inl (nF (NS 1))))]) A) A) (by decide) rfl (Nat.le_of_ble_eq_true rfl) ?_
  intro p e s m below meth c A H locs ⟨hx, hb, hr, hml, hown, hts, hlk, hnm⟩ hK hP hD hS hA ls hl
  have hl : lv_has ls 6 [(0, .ref Yh), (1, .ref Lh), (2, .ref Nh), (3, .int (nI v_d)), (4, .int (nI v_b))] := hl
  have hown : s.vm.findClass RX2 = some m.cls := hown
  have hL0 := hL
  obtain ⟨bl0, bl3, bl6, bl10, bl11, bl1, bl2, bl4, bl5, bl7, bl8, bl9⟩ := hL
  have bn0 := hN.c99
  refine lv_aload_n hx hb dX2_settles_0 rfl (lv_at hl 0 rfl) ?_
  refine lv_aload_n hx hb dX2_settles_1 rfl (lv_at hl 1 rfl) ?_
  refine lv_aload_n hx hb dX2_settles_2 rfl (lv_at hl 2 rfl) ?_
  refine lv_iload_n hx hb dX2_settles_3 rfl (lv_at hl 3 rfl) ?_
  refine lv_iload hx hb dX2_settles_4 (lv_at hl 4 rfl) ?_
  refine be_i (free := fun _ => False) (wr := []) (ru_V (As := [.ref Lh, .ref Nh, .int (nI v_d), .int (nI v_b)]) (rest := []) ⟨hx, hb, hml, hown, hts⟩ (g_find l D cI cB cZ cN Yh Ya0 Ya1 Ya2 YS Lh La1 La2 La4 La5 La7 La8 La9 LS Nh Na0 Na1 NS v_d v_b hL0 hN hY hd hb2 H.size) gX2_settles_X2_find rfl ⟨rfl, by decide, by decide, (show Option.map (fun d => d.parameters.length) (parseMethodDescriptor yX2_find.desc) = some 4 by decide +kernel)⟩ ⟨Nat.le_of_ble_eq_true rfl, Nat.le_of_ble_eq_true rfl⟩ hK hP hD 2 0 rfl rfl [0, 1, 2, 3, 4, 5, 6, 7, 8, 9, 10, 11, 12, 13, 14] (by decide) rfl hl.1 rfl (Nat.le_of_ble_eq_true rfl) dX2_settles_6 ⟨Nat.le_of_ble_eq_true rfl, Nat.le_of_ble_eq_true rfl⟩) hP hD hS hA [0, 1, 2, 3, 4, 5, 6, 7, 8, 9, 10, 11, 12, 13, 14] [] rfl rfl (by decide) (by decide) (fun r2 u1 H locs w3 hP hD hS => ?_)
  obtain ⟨hq4, hq5⟩ := w3
  rcases hq5 with rfl | rfl
  · skip
    obtain ⟨hP, hD⟩ : wPD D A [(Yh, .inr (2, [.ref Ya0, .ref Ya1, .ref Ya2, .int (nI (u1 3 0))])), (Ya0, .inl (cI, 6, .inl (nF (u1 0)))), (Ya1, .inl (cI, 6, .inl (nF (u1 1)))), (Ya2, .inl (cI, 427, .inl (nF (u1 2)))), (Lh, .inr (0, [.int (nI (LS 0 0)), .ref La1, .ref La2, .int (nI (LS 3 0)), .ref La4, .ref La5, .int (nI (LS 6 0)), .ref La7, .ref La8, .ref La9, .int (nI (LS 10 0)), .int (nI (LS 11 0))])), (La1, .inl (cI, 6, .inl (nF (LS 1)))), (La2, .inl (cI, 6, .inl (nF (LS 2)))), (La4, .inl (cI, 5, .inl (nF (LS 4)))), (La5, .inl (cI, 30, .inl (nF (LS 5)))), (La7, .inl (cI, 5, .inl (nF (LS 7)))), (La8, .inl (cI, 5, .inl (nF (LS 8)))), (La9, .inl (cI, 5, .inl (nF (LS 9)))), (Nh, .inr (1, [.ref Na0, .ref Na1, .int (nI (NS 2 0))])), (Na0, .inl (cI, 36, .inl (nF (NS 0)))), (Na1, .inl (cI, 360, .inl (nF (NS 1))))] H := ⟨hP, hD⟩
    refine nb_if_ne (tgt := 14) hx hb dX2_settles_9 (by decide) (by omega) (fun hq6 => absurd hq6 (by omega)) (fun hq6 => ?_)
    refine lv_iconst (v := nI 0) hx hb dX2_settles_12 (by decide) ?_
    exact en_z hx hb hr hlk hP hD hS u1 [0, 1, 2, 3, 4, 5, 6, 7, 8, 9, 10, 11, 12, 13, 14] (by decide) rfl (Nat.le_of_ble_eq_true rfl) (Nat.le_of_ble_eq_true rfl) dX2_settles_13 rfl ⟨hq4, Or.inr rfl⟩
  · skip
    obtain ⟨hP, hD⟩ : wPD D A [(Yh, .inr (2, [.ref Ya0, .ref Ya1, .ref Ya2, .int (nI (u1 3 0))])), (Ya0, .inl (cI, 6, .inl (nF (u1 0)))), (Ya1, .inl (cI, 6, .inl (nF (u1 1)))), (Ya2, .inl (cI, 427, .inl (nF (u1 2)))), (Lh, .inr (0, [.int (nI (LS 0 0)), .ref La1, .ref La2, .int (nI (LS 3 0)), .ref La4, .ref La5, .int (nI (LS 6 0)), .ref La7, .ref La8, .ref La9, .int (nI (LS 10 0)), .int (nI (LS 11 0))])), (La1, .inl (cI, 6, .inl (nF (LS 1)))), (La2, .inl (cI, 6, .inl (nF (LS 2)))), (La4, .inl (cI, 5, .inl (nF (LS 4)))), (La5, .inl (cI, 30, .inl (nF (LS 5)))), (La7, .inl (cI, 5, .inl (nF (LS 7)))), (La8, .inl (cI, 5, .inl (nF (LS 8)))), (La9, .inl (cI, 5, .inl (nF (LS 9)))), (Nh, .inr (1, [.ref Na0, .ref Na1, .int (nI (NS 2 0))])), (Na0, .inl (cI, 36, .inl (nF (NS 0)))), (Na1, .inl (cI, 360, .inl (nF (NS 1))))] H := ⟨hP, hD⟩
    refine nb_if_ne (tgt := 14) hx hb dX2_settles_9 (by decide) (by omega) (fun hq7 => ?_) (fun hq7 => absurd hq7 (by omega))
    refine lv_iconst (v := nI 0) hx hb dX2_settles_14 (by decide) ?_
    refine lv_istore (lv' := [(5, .int (nI 0)), (0, .ref Yh), (1, .ref Lh), (2, .ref Nh), (3, .int (nI v_d)), (4, .int (nI v_b))]) hx hb dX2_settles_15 hl (by decide) rfl (fun ls hl => ?_)
    refine loopS (σ := Unit) (D := D) (A := A) (fun i1 z1 => ∀ c, c < i1 → NS 0 (v_b * 6 + c) + u1 1 c ≤ 99) (fun i1 z1 => [(Yh, .inr (2, [.ref Ya0, .ref Ya1, .ref Ya2, .int (nI (u1 3 0))])), (Ya0, .inl (cI, 6, .inl (nF (u1 0)))), (Ya1, .inl (cI, 6, .inl (nF (u1 1)))), (Ya2, .inl (cI, 427, .inl (nF (u1 2)))), (Lh, .inr (0, [.int (nI (LS 0 0)), .ref La1, .ref La2, .int (nI (LS 3 0)), .ref La4, .ref La5, .int (nI (LS 6 0)), .ref La7, .ref La8, .ref La9, .int (nI (LS 10 0)), .int (nI (LS 11 0))])), (La1, .inl (cI, 6, .inl (nF (LS 1)))), (La2, .inl (cI, 6, .inl (nF (LS 2)))), (La4, .inl (cI, 5, .inl (nF (LS 4)))), (La5, .inl (cI, 30, .inl (nF (LS 5)))), (La7, .inl (cI, 5, .inl (nF (LS 7)))), (La8, .inl (cI, 5, .inl (nF (LS 8)))), (La9, .inl (cI, 5, .inl (nF (LS 9)))), (Nh, .inr (1, [.ref Na0, .ref Na1, .int (nI (NS 2 0))])), (Na0, .inl (cI, 36, .inl (nF (NS 0)))), (Na1, .inl (cI, 360, .inl (nF (NS 1))))]) (fun i1 z1 => [(0, .ref Yh), (1, .ref Lh), (2, .ref Nh), (3, .int (nI v_d)), (4, .int (nI v_b)), (5, .int (nI i1))]) 17 6 (LS 0 0) 0 (Nat.zero_le _) ?_ ?_ () (fun c hc => absurd hc (by omega)) _ _ ls (by first | exact hP) (by first | exact hD) hS (lv_sub hl [1, 2, 3, 4, 5, 0] rfl)
    · intro z1 hI1 H locs ls hP hD hS hl
      have hl : lv_has ls 6 [(0, .ref Yh), (1, .ref Lh), (2, .ref Nh), (3, .int (nI v_d)), (4, .int (nI v_b)), (5, .int (nI (LS 0 0)))] := hl
      obtain ⟨hP, hD⟩ : wPD D A [(Yh, .inr (2, [.ref Ya0, .ref Ya1, .ref Ya2, .int (nI (u1 3 0))])), (Ya0, .inl (cI, 6, .inl (nF (u1 0)))), (Ya1, .inl (cI, 6, .inl (nF (u1 1)))), (Ya2, .inl (cI, 427, .inl (nF (u1 2)))), (Lh, .inr (0, [.int (nI (LS 0 0)), .ref La1, .ref La2, .int (nI (LS 3 0)), .ref La4, .ref La5, .int (nI (LS 6 0)), .ref La7, .ref La8, .ref La9, .int (nI (LS 10 0)), .int (nI (LS 11 0))])), (La1, .inl (cI, 6, .inl (nF (LS 1)))), (La2, .inl (cI, 6, .inl (nF (LS 2)))), (La4, .inl (cI, 5, .inl (nF (LS 4)))), (La5, .inl (cI, 30, .inl (nF (LS 5)))), (La7, .inl (cI, 5, .inl (nF (LS 7)))), (La8, .inl (cI, 5, .inl (nF (LS 8)))), (La9, .inl (cI, 5, .inl (nF (LS 9)))), (Nh, .inr (1, [.ref Na0, .ref Na1, .int (nI (NS 2 0))])), (Na0, .inl (cI, 36, .inl (nF (NS 0)))), (Na1, .inl (cI, 360, .inl (nF (NS 1))))] H := ⟨hP, hD⟩
      refine lv_iload hx hb dX2_settles_17 (lv_at hl 5 rfl) ?_
      refine lv_aload_n hx hb dX2_settles_19 rfl (lv_at hl 1 rfl) ?_
      refine va_getN (D := D) (ci := 0) (v := .int (nI (LS 0 0))) (C := RX0) (T := TX0) (N := 12) hx hb hts in_X2_settles_0 hown hK.1 hP 4 rfl rfl 0 (by decide) (nfX2_29 hK.2) (fun _ h9 => h9) rfl dX2_settles_20 ?_
      refine nb_icmp_ge (tgt := 55) hx hb dX2_settles_23 (by decide) (by omega) (by omega) (fun hq8 => ?_) (fun hq8 => absurd hq8 (by omega))
      refine lv_iconst (v := nI 1) hx hb dX2_settles_55 (by decide) ?_
      exact en_z hx hb hr hlk hP hD hS u1 [0, 1, 2, 3, 4, 5, 6, 7, 8, 9, 10, 11, 12, 13, 14] (by decide) rfl (Nat.le_of_ble_eq_true rfl) (Nat.le_of_ble_eq_true rfl) dX2_settles_56 rfl ⟨hq4, Or.inl ⟨rfl, PI_99 (x := fun c => NS 0 (v_b * 6 + c)) hq4.2 (fun j => hN.c99 _) hI1⟩⟩
    · intro i1 hi01 hi1 z1 hI1 ih1 H locs ls hP hD hS hl
      have hl : lv_has ls 6 [(0, .ref Yh), (1, .ref Lh), (2, .ref Nh), (3, .int (nI v_d)), (4, .int (nI v_b)), (5, .int (nI i1))] := hl
      obtain ⟨hP, hD⟩ : wPD D A [(Yh, .inr (2, [.ref Ya0, .ref Ya1, .ref Ya2, .int (nI (u1 3 0))])), (Ya0, .inl (cI, 6, .inl (nF (u1 0)))), (Ya1, .inl (cI, 6, .inl (nF (u1 1)))), (Ya2, .inl (cI, 427, .inl (nF (u1 2)))), (Lh, .inr (0, [.int (nI (LS 0 0)), .ref La1, .ref La2, .int (nI (LS 3 0)), .ref La4, .ref La5, .int (nI (LS 6 0)), .ref La7, .ref La8, .ref La9, .int (nI (LS 10 0)), .int (nI (LS 11 0))])), (La1, .inl (cI, 6, .inl (nF (LS 1)))), (La2, .inl (cI, 6, .inl (nF (LS 2)))), (La4, .inl (cI, 5, .inl (nF (LS 4)))), (La5, .inl (cI, 30, .inl (nF (LS 5)))), (La7, .inl (cI, 5, .inl (nF (LS 7)))), (La8, .inl (cI, 5, .inl (nF (LS 8)))), (La9, .inl (cI, 5, .inl (nF (LS 9)))), (Nh, .inr (1, [.ref Na0, .ref Na1, .int (nI (NS 2 0))])), (Na0, .inl (cI, 36, .inl (nF (NS 0)))), (Na1, .inl (cI, 360, .inl (nF (NS 1))))] H := ⟨hP, hD⟩
      refine lv_iload hx hb dX2_settles_17 (lv_at hl 5 rfl) ?_
      refine lv_aload_n hx hb dX2_settles_19 rfl (lv_at hl 1 rfl) ?_
      refine va_getN (D := D) (ci := 0) (v := .int (nI (LS 0 0))) (C := RX0) (T := TX0) (N := 12) hx hb hts in_X2_settles_0 hown hK.1 hP 4 rfl rfl 0 (by decide) (nfX2_29 hK.2) (fun _ h9 => h9) rfl dX2_settles_20 ?_
      refine nb_icmp_ge (tgt := 55) hx hb dX2_settles_23 (by decide) (by omega) (by omega) (fun hq9 => absurd hq9 (by omega)) (fun hq9 => ?_)
      refine lv_aload_n hx hb dX2_settles_26 rfl (lv_at hl 2 rfl) ?_
      refine lv_iload hx hb dX2_settles_27 (lv_at hl 4 rfl) ?_
      refine lv_iload hx hb dX2_settles_29 (lv_at hl 5 rfl) ?_
      refine be_i0 (ru_N (C := RX1) (host := "ChildCoins") (As := [.int (nI v_b), .int (nI i1)]) (rest := []) ⟨hx, hb, hml, hown, hts⟩ (g_held l D cI cB cZ cN Nh Na0 Na1 NS v_b i1 hN hb2 (by omega) H.size) ggX2_settles_X1_held rfl (nmX2_34 hK.2) (hts (.initialized RX1) (List.mem_of_getElem? (i := 23) rfl)) (hts (.instanceMethod yX1_held) (List.mem_of_getElem? (i := 22) rfl)) (hts (.selects RX1 yX1_held yX1_held) (List.mem_of_getElem? (i := 24) rfl)) ⟨by decide, by decide, (show Option.map (fun d => d.parameters.length) (parseMethodDescriptor yX1_held.desc) = some 2 by decide +kernel)⟩ ⟨Nat.le_of_ble_eq_true rfl, Nat.le_of_ble_eq_true rfl⟩ hK hP hD 1 12 rfl rfl [12, 13, 14] (by decide) rfl hl.1 rfl (Nat.le_of_ble_eq_true rfl) dX2_settles_31 ⟨Nat.le_of_ble_eq_true rfl, Nat.le_of_ble_eq_true rfl⟩) hP hD hS hA [12, 13, 14] rfl (fun r11 u10 H locs w12 hP hS => ?_)
      obtain rfl : r11 = nI (NS 0 (v_b * 6 + i1)) := w12
      have b13 := bn0 (v_b * 6 + i1)
      refine lv_aload_n hx hb dX2_settles_34 rfl (lv_at hl 0 rfl) ?_
      refine va_get (D := D) (ci := 2) (v := .ref Ya1) (C := RX2) (T := TX2) (N := 4) hx hb hts in_X2_settles_2 hown hK.1 hP 0 rfl rfl 1 (by decide) (hts (.fieldLink RX2 15 "ChildCoins$Payment" "used" "[I") (List.mem_of_getElem? (i := 1) rfl)) (fun _ h9 => h9) rfl dX2_settles_35 ?_
      refine lv_iload hx hb dX2_settles_38 (lv_at hl 5 rfl) ?_
      refine va_iald hx hb hK.1 hP 2 0 rfl rfl (vp_in_nI (n := i1) (N := 6) (by omega) (by decide)) dX2_settles_40 ?_
      refine set_i (y := nI (u1 1 i1)) (nF_ld (by omega)) ?_
      have bu := Nat.le_trans (hq4.1.2.1 i1) (hq4.1.1 i1)
      refine lv_iadd hx hb dX2_settles_41 ?_
      refine set_i (y := nI ((NS 0 (v_b * 6 + i1)) + (u1 1 i1))) (nI_add (NS 0 (v_b * 6 + i1)) (u1 1 i1)) ?_
      refine lv_bipush (v := nI 99) hx hb dX2_settles_42 (by decide) ?_
      refine nb_icmp_le (tgt := 49) hx hb dX2_settles_44 (by decide) (by omega) (by omega) (fun hq14 => ?_) (fun hq14 => ?_)
      · skip
        refine lv_iinc (v := nI (i1 + 1)) (lv' := [(5, .int (nI (i1 + 1))), (0, .ref Yh), (1, .ref Lh), (2, .ref Nh), (3, .int (nI v_d)), (4, .int (nI v_b))]) hx hb dX2_settles_49 hl (k := 5) rfl (nI_add i1 1) (by decide) rfl (fun ls hl => ?_)
        refine lv_goto (tgt := 17) hx hb dX2_settles_52 (by decide) ?_
        have hl : lv_has ls 6 [(0, .ref Yh), (1, .ref Lh), (2, .ref Nh), (3, .int (nI v_d)), (4, .int (nI v_b)), (5, .int (nI (i1 + 1)))] := lv_sub hl [1, 2, 3, 4, 5, 0] rfl
        exact ih1 () (fun c hc => (Nat.lt_succ_iff_lt_or_eq.mp hc).elim (hI1 c) (fun q => by rw [q]; exact hq14)) _ _ _ hP hD hS hl
      · skip
        refine lv_iconst (v := nI 0) hx hb dX2_settles_47 (by decide) ?_
        exact en_z hx hb hr hlk hP hD hS u1 [0, 1, 2, 3, 4, 5, 6, 7, 8, 9, 10, 11, 12, 13, 14] (by decide) rfl (Nat.le_of_ble_eq_true rfl) (Nat.le_of_ble_eq_true rfl) dX2_settles_48 rfl ⟨hq4, Or.inr rfl⟩
