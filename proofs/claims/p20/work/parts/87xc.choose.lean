set_option maxHeartbeats 4000000 in
set_option maxRecDepth 100000 in
theorem g_chooseE (l : Launch) (D : va_G) (cI cB cZ cN : ClassId) (Yh : Nat) (Ya0 : Nat) (Ya1 : Nat) (Ya2 : Nat) (YS : Nat → Nat → Nat) (Lh : Nat) (La1 : Nat) (La2 : Nat) (La4 : Nat) (La5 : Nat) (La7 : Nat) (La8 : Nat) (La9 : Nat) (LS : Nat → Nat → Nat) (v_z : Nat) (hL : LandOk LS) (hs0 : ∀ j, YS 0 j ≤ 99) (hu0 : ∀ j, YS 1 j ≤ YS 0 j) (hf0 : ∀ j, YS 2 j ≤ 1000000) (hz : v_z ≤ 60) (hTab : TabX (YS 2) (LS 2) (YS 0) (LS 0 0) v_z) : Cv (S := (Nat → Nat → Nat)) l D cI cB cZ cN yX2_choose wsX2_choose ({ frames := 0, cells := 0, slots := 0, locals := 0 } : Room) [.ref Yh, .ref Lh, .int (nI v_z)] [(Yh, .inr (2, [.ref Ya0, .ref Ya1, .ref Ya2, .int (nI (YS 3 0))])), (Ya0, .inl (cI, 6, .inl (nF (YS 0)))), (Ya1, .inl (cI, 6, .inl (nF (YS 1)))), (Ya2, .inl (cI, 427, .inl (nF (YS 2)))), (Lh, .inr (0, [.int (nI (LS 0 0)), .ref La1, .ref La2, .int (nI (LS 3 0)), .ref La4, .ref La5, .int (nI (LS 6 0)), .ref La7, .ref La8, .ref La9, .int (nI (LS 10 0)), .int (nI (LS 11 0))])), (La1, .inl (cI, 6, .inl (nF (LS 1)))), (La2, .inl (cI, 6, .inl (nF (LS 2)))), (La4, .inl (cI, 5, .inl (nF (LS 4)))), (La5, .inl (cI, 30, .inl (nF (LS 5)))), (La7, .inl (cI, 5, .inl (nF (LS 7)))), (La8, .inl (cI, 5, .inl (nF (LS 8)))), (La9, .inl (cI, 5, .inl (nF (LS 9))))] (fun (u : (Nat → Nat → Nat)) => ∃ g, u = ua YS 1 g ∧ (∀ j, g j ≤ YS 0 j) ∧ (∀ j, LS 0 0 ≤ j → g j = YS 1 j) ∧ ∃ l, ChI (YS 2) (LS 2) (YS 0) v_z g (LS 0 0) l) (fun u => [(Yh, .inr (2, [.ref Ya0, .ref Ya1, .ref Ya2, .int (nI (u 3 0))])), (Ya0, .inl (cI, 6, .inl (nF (u 0)))), (Ya1, .inl (cI, 6, .inl (nF (u 1)))), (Ya2, .inl (cI, 427, .inl (nF (u 2)))), (Lh, .inr (0, [.int (nI (LS 0 0)), .ref La1, .ref La2, .int (nI (LS 3 0)), .ref La4, .ref La5, .int (nI (LS 6 0)), .ref La7, .ref La8, .ref La9, .int (nI (LS 10 0)), .int (nI (LS 11 0))])), (La1, .inl (cI, 6, .inl (nF (LS 1)))), (La2, .inl (cI, 6, .inl (nF (LS 2)))), (La4, .inl (cI, 5, .inl (nF (LS 4)))), (La5, .inl (cI, 30, .inl (nF (LS 5)))), (La7, .inl (cI, 5, .inl (nF (LS 7)))), (La8, .inl (cI, 5, .inl (nF (LS 8)))), (La9, .inl (cI, 5, .inl (nF (LS 9))))]) := by
  refine bx_of (D := D) (cI := cI) (cB := cB) (cZ := cZ) (cN := cN) (y := yX2_choose) (wd := wsX2_choose) (rm := ({ frames := 0, cells := 0, slots := 0, locals := 0 } : Room)) (av := [.ref Yh, .ref Lh, .int (nI v_z)]) (wc := [(Yh, .inr (2, [.ref Ya0, .ref Ya1, .ref Ya2, .int (nI (YS 3 0))])), (Ya0, .inl (cI, 6, .inl (nF (YS 0)))), (Ya1, .inl (cI, 6, .inl (nF (YS 1)))), (Ya2, .inl (cI, 427, .inl (nF (YS 2)))), (Lh, .inr (0, [.int (nI (LS 0 0)), .ref La1, .ref La2, .int (nI (LS 3 0)), .ref La4, .ref La5, .int (nI (LS 6 0)), .ref La7, .ref La8, .ref La9, .int (nI (LS 10 0)), .int (nI (LS 11 0))])), (La1, .inl (cI, 6, .inl (nF (LS 1)))), (La2, .inl (cI, 6, .inl (nF (LS 2)))), (La4, .inl (cI, 5, .inl (nF (LS 4)))), (La5, .inl (cI, 30, .inl (nF (LS 5)))), (La7, .inl (cI, 5, .inl (nF (LS 7)))), (La8, .inl (cI, 5, .inl (nF (LS 8)))), (La9, .inl (cI, 5, .inl (nF (LS 9))))]) (cc := cX2_choose) (maxL := 8) (ret := none) (Qc := fun _ A => va_Qv (S := (Nat → Nat → Nat)) (fun (u : (Nat → Nat → Nat)) => ∃ g, u = ua YS 1 g ∧ (∀ j, g j ≤ YS 0 j) ∧ (∀ j, LS 0 0 ≤ j → g j = YS 1 j) ∧ ∃ l, ChI (YS 2) (LS 2) (YS 0) v_z g (LS 0 0) l) (Aft D (fun (u : (Nat → Nat → Nat)) => [(Yh, .inr (2, [.ref Ya0, .ref Ya1, .ref Ya2, .int (nI (u 3 0))])), (Ya0, .inl (cI, 6, .inl (nF (u 0)))), (Ya1, .inl (cI, 6, .inl (nF (u 1)))), (Ya2, .inl (cI, 427, .inl (nF (u 2)))), (Lh, .inr (0, [.int (nI (LS 0 0)), .ref La1, .ref La2, .int (nI (LS 3 0)), .ref La4, .ref La5, .int (nI (LS 6 0)), .ref La7, .ref La8, .ref La9, .int (nI (LS 10 0)), .int (nI (LS 11 0))])), (La1, .inl (cI, 6, .inl (nF (LS 1)))), (La2, .inl (cI, 6, .inl (nF (LS 2)))), (La4, .inl (cI, 5, .inl (nF (LS 4)))), (La5, .inl (cI, 30, .inl (nF (LS 5)))), (La7, .inl (cI, 5, .inl (nF (LS 7)))), (La8, .inl (cI, 5, .inl (nF (LS 8)))), (La9, .inl (cI, 5, .inl (nF (LS 9))))]) A) A) (by decide) rfl (Nat.le_of_ble_eq_true rfl) ?_
  intro p e s m below meth c A H locs ⟨hx, hb, hr, hml, hown, hts, hlk, hnm⟩ hK hP hD hS hA ls hl
  have hl : lv_has ls 8 [(0, .ref Yh), (1, .ref Lh), (2, .int (nI v_z))] := hl
  have hown : s.vm.findClass RX2 = some m.cls := hown
  obtain ⟨bl0, bl3, bl6, bl10, bl11, bl1, bl2, bl4, bl5, bl7, bl8, bl9⟩ := hL
  refine lv_iload_n hx hb dX2_choose_0 rfl (lv_at hl 2 rfl) ?_
  refine lv_istore_n (lv' := [(3, .int (nI v_z)), (0, .ref Yh), (1, .ref Lh), (2, .int (nI v_z))]) hx hb dX2_choose_1 rfl hl (by decide) rfl (fun ls hl => ?_)
  refine lv_iconst (v := nI 0) hx hb dX2_choose_2 (by decide) ?_
  refine lv_istore (lv' := [(4, .int (nI 0)), (3, .int (nI v_z)), (0, .ref Yh), (1, .ref Lh), (2, .int (nI v_z))]) hx hb dX2_choose_3 hl (by decide) rfl (fun ls hl => ?_)
  refine loopS (σ := (Nat → Nat) × Nat) (D := D) (A := A) (fun i1 z1 => (∀ j, z1.1 j ≤ YS 0 j) ∧ z1.2 ≤ v_z ∧ ChI (YS 2) (LS 2) (YS 0) v_z z1.1 i1 z1.2 ∧ ∀ j, LS 0 0 ≤ j → z1.1 j = YS 1 j) (fun i1 z1 => [(Yh, .inr (2, [.ref Ya0, .ref Ya1, .ref Ya2, .int (nI (YS 3 0))])), (Ya0, .inl (cI, 6, .inl (nF (YS 0)))), (Ya1, .inl (cI, 6, .inl (nF (z1.1)))), (Ya2, .inl (cI, 427, .inl (nF (YS 2)))), (Lh, .inr (0, [.int (nI (LS 0 0)), .ref La1, .ref La2, .int (nI (LS 3 0)), .ref La4, .ref La5, .int (nI (LS 6 0)), .ref La7, .ref La8, .ref La9, .int (nI (LS 10 0)), .int (nI (LS 11 0))])), (La1, .inl (cI, 6, .inl (nF (LS 1)))), (La2, .inl (cI, 6, .inl (nF (LS 2)))), (La4, .inl (cI, 5, .inl (nF (LS 4)))), (La5, .inl (cI, 30, .inl (nF (LS 5)))), (La7, .inl (cI, 5, .inl (nF (LS 7)))), (La8, .inl (cI, 5, .inl (nF (LS 8)))), (La9, .inl (cI, 5, .inl (nF (LS 9))))]) (fun i1 z1 => [(0, .ref Yh), (1, .ref Lh), (2, .int (nI v_z)), (3, .int (nI z1.2)), (4, .int (nI i1))]) 5 8 (LS 0 0) 0 (Nat.zero_le _) ?_ ?_ (YS 1, v_z) ⟨hu0, Nat.le_refl _, ChI_0 _ _ _ _ _, fun _ _ => rfl⟩ _ _ ls (by first | exact hP) (by first | exact hD) hS (lv_sub hl [2, 3, 4, 1, 0] rfl)
  · intro z1 hI1 H locs ls hP hD hS hl
    have hl : lv_has ls 8 [(0, .ref Yh), (1, .ref Lh), (2, .int (nI v_z)), (3, .int (nI z1.2)), (4, .int (nI (LS 0 0)))] := hl
    have hr1 := hI1.2.1
    obtain ⟨hP, hD⟩ : wPD D A [(Yh, .inr (2, [.ref Ya0, .ref Ya1, .ref Ya2, .int (nI (YS 3 0))])), (Ya0, .inl (cI, 6, .inl (nF (YS 0)))), (Ya1, .inl (cI, 6, .inl (nF (z1.1)))), (Ya2, .inl (cI, 427, .inl (nF (YS 2)))), (Lh, .inr (0, [.int (nI (LS 0 0)), .ref La1, .ref La2, .int (nI (LS 3 0)), .ref La4, .ref La5, .int (nI (LS 6 0)), .ref La7, .ref La8, .ref La9, .int (nI (LS 10 0)), .int (nI (LS 11 0))])), (La1, .inl (cI, 6, .inl (nF (LS 1)))), (La2, .inl (cI, 6, .inl (nF (LS 2)))), (La4, .inl (cI, 5, .inl (nF (LS 4)))), (La5, .inl (cI, 30, .inl (nF (LS 5)))), (La7, .inl (cI, 5, .inl (nF (LS 7)))), (La8, .inl (cI, 5, .inl (nF (LS 8)))), (La9, .inl (cI, 5, .inl (nF (LS 9))))] H := ⟨hP, hD⟩
    refine lv_iload hx hb dX2_choose_5 (lv_at hl 4 rfl) ?_
    refine lv_aload_n hx hb dX2_choose_7 rfl (lv_at hl 1 rfl) ?_
    refine va_getN (D := D) (ci := 0) (v := .int (nI (LS 0 0))) (C := RX0) (T := TX0) (N := 12) hx hb hts in_X2_choose_0 hown hK.1 hP 4 rfl rfl 0 (by decide) (nfX2_29 hK.2) (fun _ h9 => h9) rfl dX2_choose_8 ?_
    refine nb_icmp_ge (tgt := 121) hx hb dX2_choose_11 (by decide) (by omega) (by omega) (fun hq1 => ?_) (fun hq1 => absurd hq1 (by omega))
    exact en_v hx hb hr hlk hP hD hS (ua YS 1 (z1.1)) [0, 1, 2, 3, 4, 5, 6, 7, 8, 9, 10, 11] (by decide) rfl (Nat.le_of_ble_eq_true rfl) (Nat.le_of_ble_eq_true rfl) dX2_choose_121 ⟨_, rfl, hI1.1, hI1.2.2.2, _, hI1.2.2.1⟩
  · intro i1 hi01 hi1 z1 hI1 ih1 H locs ls hP hD hS hl
    have hl : lv_has ls 8 [(0, .ref Yh), (1, .ref Lh), (2, .int (nI v_z)), (3, .int (nI z1.2)), (4, .int (nI i1))] := hl
    have hr1 := hI1.2.1
    obtain ⟨hP, hD⟩ : wPD D A [(Yh, .inr (2, [.ref Ya0, .ref Ya1, .ref Ya2, .int (nI (YS 3 0))])), (Ya0, .inl (cI, 6, .inl (nF (YS 0)))), (Ya1, .inl (cI, 6, .inl (nF (z1.1)))), (Ya2, .inl (cI, 427, .inl (nF (YS 2)))), (Lh, .inr (0, [.int (nI (LS 0 0)), .ref La1, .ref La2, .int (nI (LS 3 0)), .ref La4, .ref La5, .int (nI (LS 6 0)), .ref La7, .ref La8, .ref La9, .int (nI (LS 10 0)), .int (nI (LS 11 0))])), (La1, .inl (cI, 6, .inl (nF (LS 1)))), (La2, .inl (cI, 6, .inl (nF (LS 2)))), (La4, .inl (cI, 5, .inl (nF (LS 4)))), (La5, .inl (cI, 30, .inl (nF (LS 5)))), (La7, .inl (cI, 5, .inl (nF (LS 7)))), (La8, .inl (cI, 5, .inl (nF (LS 8)))), (La9, .inl (cI, 5, .inl (nF (LS 9))))] H := ⟨hP, hD⟩
    refine lv_iload hx hb dX2_choose_5 (lv_at hl 4 rfl) ?_
    refine lv_aload_n hx hb dX2_choose_7 rfl (lv_at hl 1 rfl) ?_
    refine va_getN (D := D) (ci := 0) (v := .int (nI (LS 0 0))) (C := RX0) (T := TX0) (N := 12) hx hb hts in_X2_choose_0 hown hK.1 hP 4 rfl rfl 0 (by decide) (nfX2_29 hK.2) (fun _ h9 => h9) rfl dX2_choose_8 ?_
    refine nb_icmp_ge (tgt := 121) hx hb dX2_choose_11 (by decide) (by omega) (by omega) (fun hq2 => absurd hq2 (by omega)) (fun hq2 => ?_)
    refine lv_aload_n hx hb dX2_choose_14 rfl (lv_at hl 0 rfl) ?_
    refine va_get (D := D) (ci := 2) (v := .ref Ya2) (C := RX2) (T := TX2) (N := 4) hx hb hts in_X2_choose_2 hown hK.1 hP 0 rfl rfl 2 (by decide) (hts (.fieldLink RX2 18 "ChildCoins$Payment" "fewest" "[I") (List.mem_of_getElem? (i := 1) rfl)) (fun _ h9 => h9) rfl dX2_choose_15 ?_
    refine lv_iload hx hb dX2_choose_18 (lv_at hl 4 rfl) ?_
    refine lv_bipush (v := nI 61) hx hb dX2_choose_20 (by decide) ?_
    refine lv_imul hx hb dX2_choose_22 ?_
    refine set_i (y := nI (i1 * 61)) (pk_mul i1 61) ?_
    refine lv_iload_n hx hb dX2_choose_23 rfl (lv_at hl 3 rfl) ?_
    refine lv_iadd hx hb dX2_choose_24 ?_
    refine set_i (y := nI ((i1 * 61) + z1.2)) (nI_add (i1 * 61) z1.2) ?_
    refine va_iald hx hb hK.1 hP 3 0 rfl rfl (vp_in_nI (n := (i1 * 61) + z1.2) (N := 427) (by omega) (by decide)) dX2_choose_25 ?_
    refine set_i (y := nI (YS 2 ((i1 * 61) + z1.2))) (nF_ld (by omega)) ?_
    have b3 := hf0 ((i1 * 61) + z1.2)
    refine lv_istore (lv' := [(5, .int (nI (YS 2 ((i1 * 61) + z1.2)))), (0, .ref Yh), (1, .ref Lh), (2, .int (nI v_z)), (3, .int (nI z1.2)), (4, .int (nI i1))]) hx hb dX2_choose_26 hl (by decide) rfl (fun ls hl => ?_)
    refine lv_iconst (v := nI 0) hx hb dX2_choose_28 (by decide) ?_
    refine lv_istore (lv' := [(6, .int (nI 0)), (5, .int (nI (YS 2 ((i1 * 61) + z1.2)))), (0, .ref Yh), (1, .ref Lh), (2, .int (nI v_z)), (3, .int (nI z1.2)), (4, .int (nI i1))]) hx hb dX2_choose_29 hl (by decide) rfl (fun ls hl => ?_)
    refine loopS (σ := Unit) (D := D) (A := A) (fun i2 z2 => ∀ k, k < i2 → YS 2 (61 * i1 + z1.2) ≠ k + YS 2 (61 * (i1 + 1) + z1.2 - k * LS 2 i1)) (fun i2 z2 => [(Yh, .inr (2, [.ref Ya0, .ref Ya1, .ref Ya2, .int (nI (YS 3 0))])), (Ya0, .inl (cI, 6, .inl (nF (YS 0)))), (Ya1, .inl (cI, 6, .inl (nF (z1.1)))), (Ya2, .inl (cI, 427, .inl (nF (YS 2)))), (Lh, .inr (0, [.int (nI (LS 0 0)), .ref La1, .ref La2, .int (nI (LS 3 0)), .ref La4, .ref La5, .int (nI (LS 6 0)), .ref La7, .ref La8, .ref La9, .int (nI (LS 10 0)), .int (nI (LS 11 0))])), (La1, .inl (cI, 6, .inl (nF (LS 1)))), (La2, .inl (cI, 6, .inl (nF (LS 2)))), (La4, .inl (cI, 5, .inl (nF (LS 4)))), (La5, .inl (cI, 30, .inl (nF (LS 5)))), (La7, .inl (cI, 5, .inl (nF (LS 7)))), (La8, .inl (cI, 5, .inl (nF (LS 8)))), (La9, .inl (cI, 5, .inl (nF (LS 9))))]) (fun i2 z2 => [(0, .ref Yh), (1, .ref Lh), (2, .int (nI v_z)), (3, .int (nI z1.2)), (4, .int (nI i1)), (5, .int (nI (YS 2 ((i1 * 61) + z1.2)))), (6, .int (nI i2))]) 31 8 (YS 0 i1 + 1) 0 (Nat.zero_le _) ?_ ?_ () (fun k q => absurd q (Nat.not_lt_zero k)) _ _ ls (by first | exact hP) (by first | exact hD) hS (lv_sub hl [2, 3, 4, 5, 6, 1, 0] rfl)
    · intro z2 hI2 H locs ls hP hD hS hl
      have hl : lv_has ls 8 [(0, .ref Yh), (1, .ref Lh), (2, .int (nI v_z)), (3, .int (nI z1.2)), (4, .int (nI i1)), (5, .int (nI (YS 2 ((i1 * 61) + z1.2)))), (6, .int (nI (YS 0 i1 + 1)))] := hl
      obtain ⟨hP, hD⟩ : wPD D A [(Yh, .inr (2, [.ref Ya0, .ref Ya1, .ref Ya2, .int (nI (YS 3 0))])), (Ya0, .inl (cI, 6, .inl (nF (YS 0)))), (Ya1, .inl (cI, 6, .inl (nF (z1.1)))), (Ya2, .inl (cI, 427, .inl (nF (YS 2)))), (Lh, .inr (0, [.int (nI (LS 0 0)), .ref La1, .ref La2, .int (nI (LS 3 0)), .ref La4, .ref La5, .int (nI (LS 6 0)), .ref La7, .ref La8, .ref La9, .int (nI (LS 10 0)), .int (nI (LS 11 0))])), (La1, .inl (cI, 6, .inl (nF (LS 1)))), (La2, .inl (cI, 6, .inl (nF (LS 2)))), (La4, .inl (cI, 5, .inl (nF (LS 4)))), (La5, .inl (cI, 30, .inl (nF (LS 5)))), (La7, .inl (cI, 5, .inl (nF (LS 7)))), (La8, .inl (cI, 5, .inl (nF (LS 8)))), (La9, .inl (cI, 5, .inl (nF (LS 9))))] H := ⟨hP, hD⟩
      refine lv_iload hx hb dX2_choose_31 (lv_at hl 6 rfl) ?_
      refine lv_aload_n hx hb dX2_choose_33 rfl (lv_at hl 0 rfl) ?_
      refine va_get (D := D) (ci := 2) (v := .ref Ya0) (C := RX2) (T := TX2) (N := 4) hx hb hts in_X2_choose_2 hown hK.1 hP 0 rfl rfl 0 (by decide) (hts (.fieldLink RX2 9 "ChildCoins$Payment" "stock" "[I") (List.mem_of_getElem? (i := 2) rfl)) (fun _ h9 => h9) rfl dX2_choose_34 ?_
      refine lv_iload hx hb dX2_choose_37 (lv_at hl 4 rfl) ?_
      refine va_iald hx hb hK.1 hP 1 0 rfl rfl (vp_in_nI (n := i1) (N := 6) (by omega) (by decide)) dX2_choose_39 ?_
      refine set_i (y := nI (YS 0 i1)) (nF_ld (by omega)) ?_
      have b4 := hs0 i1
      refine nb_icmp_gt (tgt := 115) hx hb dX2_choose_40 (by decide) (by omega) (by omega) (fun hq5 => ?_) (fun hq5 => absurd hq5 (by omega))
      exfalso
      obtain ⟨m9, hm1, hm2, hm3⟩ := (hTab.2 i1 z1.2 (by omega) (by omega)).1
      rcases Nat.lt_or_ge m9 (YS 0 i1 + 1) with y9 | y9
      · exact hI2 m9 y9 hm3
      · first | omega | (have q9 := Nat.mul_le_mul_right (LS 2 i1) y9; omega)
    · intro i2 hi02 hi2 z2 hI2 ih2 H locs ls hP hD hS hl
      have hl : lv_has ls 8 [(0, .ref Yh), (1, .ref Lh), (2, .int (nI v_z)), (3, .int (nI z1.2)), (4, .int (nI i1)), (5, .int (nI (YS 2 ((i1 * 61) + z1.2)))), (6, .int (nI i2))] := hl
      obtain ⟨hP, hD⟩ : wPD D A [(Yh, .inr (2, [.ref Ya0, .ref Ya1, .ref Ya2, .int (nI (YS 3 0))])), (Ya0, .inl (cI, 6, .inl (nF (YS 0)))), (Ya1, .inl (cI, 6, .inl (nF (z1.1)))), (Ya2, .inl (cI, 427, .inl (nF (YS 2)))), (Lh, .inr (0, [.int (nI (LS 0 0)), .ref La1, .ref La2, .int (nI (LS 3 0)), .ref La4, .ref La5, .int (nI (LS 6 0)), .ref La7, .ref La8, .ref La9, .int (nI (LS 10 0)), .int (nI (LS 11 0))])), (La1, .inl (cI, 6, .inl (nF (LS 1)))), (La2, .inl (cI, 6, .inl (nF (LS 2)))), (La4, .inl (cI, 5, .inl (nF (LS 4)))), (La5, .inl (cI, 30, .inl (nF (LS 5)))), (La7, .inl (cI, 5, .inl (nF (LS 7)))), (La8, .inl (cI, 5, .inl (nF (LS 8)))), (La9, .inl (cI, 5, .inl (nF (LS 9))))] H := ⟨hP, hD⟩
      refine lv_iload hx hb dX2_choose_31 (lv_at hl 6 rfl) ?_
      refine lv_aload_n hx hb dX2_choose_33 rfl (lv_at hl 0 rfl) ?_
      refine va_get (D := D) (ci := 2) (v := .ref Ya0) (C := RX2) (T := TX2) (N := 4) hx hb hts in_X2_choose_2 hown hK.1 hP 0 rfl rfl 0 (by decide) (hts (.fieldLink RX2 9 "ChildCoins$Payment" "stock" "[I") (List.mem_of_getElem? (i := 2) rfl)) (fun _ h9 => h9) rfl dX2_choose_34 ?_
      refine lv_iload hx hb dX2_choose_37 (lv_at hl 4 rfl) ?_
      refine va_iald hx hb hK.1 hP 1 0 rfl rfl (vp_in_nI (n := i1) (N := 6) (by omega) (by decide)) dX2_choose_39 ?_
      refine set_i (y := nI (YS 0 i1)) (nF_ld (by omega)) ?_
      have b6 := hs0 i1
      refine nb_icmp_gt (tgt := 115) hx hb dX2_choose_40 (by decide) (by omega) (by omega) (fun hq7 => absurd hq7 (by omega)) (fun hq7 => ?_)
      have bs0 := hs0 i1
      have bw := Nat.mul_le_mul (show i2 ≤ 99 by omega) (bl2 i1)
      refine lv_iload hx hb dX2_choose_43 (lv_at hl 6 rfl) ?_
      refine lv_aload_n hx hb dX2_choose_45 rfl (lv_at hl 1 rfl) ?_
      refine va_getN (D := D) (ci := 0) (v := .ref La2) (C := RX0) (T := TX0) (N := 12) hx hb hts in_X2_choose_0 hown hK.1 hP 4 rfl rfl 2 (by decide) (nfX2_58 hK.2) (fun _ h9 => h9) rfl dX2_choose_46 ?_
      refine lv_iload hx hb dX2_choose_49 (lv_at hl 4 rfl) ?_
      refine va_iald hx hb hK.1 hP 6 0 rfl rfl (vp_in_nI (n := i1) (N := 6) (by omega) (by decide)) dX2_choose_51 ?_
      refine set_i (y := nI (LS 2 i1)) (nF_ld (by omega)) ?_
      have b8 := bl2 i1
      refine lv_imul hx hb dX2_choose_52 ?_
      refine set_i (y := nI (i2 * (LS 2 i1))) (pk_mul i2 (LS 2 i1)) ?_
      refine lv_iload_n hx hb dX2_choose_53 rfl (lv_at hl 3 rfl) ?_
      refine nb_icmp_gt (tgt := 115) hx hb dX2_choose_54 (by decide) (by omega) (by omega) (fun hq9 => ?_) (fun hq9 => ?_)
      · skip
        exfalso
        obtain ⟨m9, hm1, hm2, hm3⟩ := (hTab.2 i1 z1.2 (by omega) (by omega)).1
        rcases Nat.lt_or_ge m9 (i2) with y9 | y9
        · exact hI2 m9 y9 hm3
        · first | omega | (have q9 := Nat.mul_le_mul_right (LS 2 i1) y9; omega)
      · skip
        refine lv_iload_n hx hb dX2_choose_57 rfl (lv_at hl 3 rfl) ?_
        refine lv_iload hx hb dX2_choose_58 (lv_at hl 6 rfl) ?_
        refine lv_aload_n hx hb dX2_choose_60 rfl (lv_at hl 1 rfl) ?_
        refine va_getN (D := D) (ci := 0) (v := .ref La2) (C := RX0) (T := TX0) (N := 12) hx hb hts in_X2_choose_0 hown hK.1 hP 4 rfl rfl 2 (by decide) (nfX2_58 hK.2) (fun _ h9 => h9) rfl dX2_choose_61 ?_
        refine lv_iload hx hb dX2_choose_64 (lv_at hl 4 rfl) ?_
        refine va_iald hx hb hK.1 hP 6 0 rfl rfl (vp_in_nI (n := i1) (N := 6) (by omega) (by decide)) dX2_choose_66 ?_
        refine set_i (y := nI (LS 2 i1)) (nF_ld (by omega)) ?_
        have b10 := bl2 i1
        refine lv_imul hx hb dX2_choose_67 ?_
        refine set_i (y := nI (i2 * (LS 2 i1))) (pk_mul i2 (LS 2 i1)) ?_
        refine lv_isub hx hb dX2_choose_68 ?_
        refine set_i (y := nI (z1.2 - (i2 * (LS 2 i1)))) (pk_sub (by omega)) ?_
        refine lv_istore (lv' := [(7, .int (nI (z1.2 - (i2 * (LS 2 i1))))), (0, .ref Yh), (1, .ref Lh), (2, .int (nI v_z)), (3, .int (nI z1.2)), (4, .int (nI i1)), (5, .int (nI (YS 2 ((i1 * 61) + z1.2)))), (6, .int (nI i2))]) hx hb dX2_choose_69 hl (by decide) rfl (fun ls hl => ?_)
        refine lv_iload hx hb dX2_choose_71 (lv_at hl 7 rfl) ?_
        refine lv_aload_n hx hb dX2_choose_73 rfl (lv_at hl 1 rfl) ?_
        refine va_get (D := D) (ci := 2) (v := .ref Ya2) (C := RX2) (T := TX2) (N := 4) hx hb hts in_X2_choose_2 hown hK.1 hP 0 rfl rfl 2 (by decide) (hts (.fieldLink RX2 18 "ChildCoins$Payment" "fewest" "[I") (List.mem_of_getElem? (i := 1) rfl)) (fun _ h9 => h9) rfl dX2_choose_74 ?_
        refine lv_iload hx hb dX2_choose_77 (lv_at hl 5 rfl) ?_
        refine lv_iconst (v := nI 1) hx hb dX2_choose_79 (by decide) ?_
        refine lv_iadd hx hb dX2_choose_80 ?_
        refine set_i (y := nI (i1 + 1)) (nI_add i1 1) ?_
        refine lv_bipush (v := nI 61) hx hb dX2_choose_81 (by decide) ?_
        refine lv_imul hx hb dX2_choose_83 ?_
        refine set_i (y := nI ((i1 + 1) * 61)) (pk_mul (i1 + 1) 61) ?_
        refine lv_iload hx hb dX2_choose_84 (lv_at hl 0 rfl) ?_
        refine lv_iadd hx hb dX2_choose_86 ?_
        refine set_i (y := nI (((i1 + 1) * 61) + (z1.2 - (i2 * (LS 2 i1))))) (nI_add ((i1 + 1) * 61) (z1.2 - (i2 * (LS 2 i1)))) ?_
        refine va_iald hx hb hK.1 hP 3 0 rfl rfl (vp_in_nI (n := ((i1 + 1) * 61) + (z1.2 - (i2 * (LS 2 i1)))) (N := 427) (by omega) (by decide)) dX2_choose_87 ?_
        refine set_i (y := nI (YS 2 (((i1 + 1) * 61) + (z1.2 - (i2 * (LS 2 i1)))))) (nF_ld (by omega)) ?_
        have b11 := hf0 (((i1 + 1) * 61) + (z1.2 - (i2 * (LS 2 i1))))
        refine lv_iadd hx hb dX2_choose_88 ?_
        refine set_i (y := nI (i2 + (YS 2 (((i1 + 1) * 61) + (z1.2 - (i2 * (LS 2 i1))))))) (nI_add i2 (YS 2 (((i1 + 1) * 61) + (z1.2 - (i2 * (LS 2 i1)))))) ?_
        refine lv_iload hx hb dX2_choose_89 (lv_at hl 6 rfl) ?_
        refine nb_icmp_ne (tgt := 109) hx hb dX2_choose_91 (by decide) (by omega) (by omega) (fun hq12 => ?_) (fun hq12 => ?_)
        · skip
          refine lv_iinc (v := nI (i2 + 1)) (lv' := [(6, .int (nI (i2 + 1))), (7, .int (nI (z1.2 - (i2 * (LS 2 i1))))), (0, .ref Yh), (1, .ref Lh), (2, .int (nI v_z)), (3, .int (nI z1.2)), (4, .int (nI i1)), (5, .int (nI (YS 2 ((i1 * 61) + z1.2))))]) hx hb dX2_choose_109 hl (k := 7) rfl (nI_add i2 1) (by decide) rfl (fun ls hl => ?_)
          refine lv_goto (tgt := 31) hx hb dX2_choose_112 (by decide) ?_
          have hl : lv_has ls 8 [(0, .ref Yh), (1, .ref Lh), (2, .int (nI v_z)), (3, .int (nI z1.2)), (4, .int (nI i1)), (5, .int (nI (YS 2 ((i1 * 61) + z1.2)))), (6, .int (nI (i2 + 1)))] := lv_sub hl [2, 3, 4, 5, 6, 7, 0] rfl
          exact ih2 () (fun k q => by rcases (show k < i2 ∨ k = i2 by omega) with y | y; exact hI2 k y; rw [y]; exact chXn (by omega) hq12) _ _ _ hP hD hS hl
        · skip
          refine lv_aload_n hx hb dX2_choose_94 rfl (lv_at hl 1 rfl) ?_
          refine va_get (D := D) (ci := 2) (v := .ref Ya1) (C := RX2) (T := TX2) (N := 4) hx hb hts in_X2_choose_2 hown hK.1 hP 0 rfl rfl 1 (by decide) (hts (.fieldLink RX2 15 "ChildCoins$Payment" "used" "[I") (List.mem_of_getElem? (i := 3) rfl)) (fun _ h9 => h9) rfl dX2_choose_95 ?_
          refine lv_iload hx hb dX2_choose_98 (lv_at hl 5 rfl) ?_
          refine lv_iload hx hb dX2_choose_100 (lv_at hl 7 rfl) ?_
          refine va_iast hx hb hK.1 hP hD hS 2 0 rfl rfl (vp_in_nI (n := i1) (N := 6) (by omega) (by decide)) dX2_choose_102 (fun H locs hP hD hS => ?_)
          obtain ⟨hP, hD⟩ : wPD D A [(Yh, .inr (2, [.ref Ya0, .ref Ya1, .ref Ya2, .int (nI (YS 3 0))])), (Ya0, .inl (cI, 6, .inl (nF (YS 0)))), (Ya1, .inl (cI, 6, .inl (upd (nF (z1.1)) (nI i1).toNatClampNeg (nI i2)))), (Ya2, .inl (cI, 427, .inl (nF (YS 2)))), (Lh, .inr (0, [.int (nI (LS 0 0)), .ref La1, .ref La2, .int (nI (LS 3 0)), .ref La4, .ref La5, .int (nI (LS 6 0)), .ref La7, .ref La8, .ref La9, .int (nI (LS 10 0)), .int (nI (LS 11 0))])), (La1, .inl (cI, 6, .inl (nF (LS 1)))), (La2, .inl (cI, 6, .inl (nF (LS 2)))), (La4, .inl (cI, 5, .inl (nF (LS 4)))), (La5, .inl (cI, 30, .inl (nF (LS 5)))), (La7, .inl (cI, 5, .inl (nF (LS 7)))), (La8, .inl (cI, 5, .inl (nF (LS 8)))), (La9, .inl (cI, 5, .inl (nF (LS 9))))] H := ⟨hP, hD⟩
          rw [nF_st (by omega)] at hP hD
          refine lv_iload hx hb dX2_choose_103 (lv_at hl 0 rfl) ?_
          refine lv_istore_n (lv' := [(3, .int (nI (z1.2 - (i2 * (LS 2 i1))))), (7, .int (nI (z1.2 - (i2 * (LS 2 i1))))), (0, .ref Yh), (1, .ref Lh), (2, .int (nI v_z)), (4, .int (nI i1)), (5, .int (nI (YS 2 ((i1 * 61) + z1.2)))), (6, .int (nI i2))]) hx hb dX2_choose_105 rfl hl (by decide) rfl (fun ls hl => ?_)
          refine lv_goto (tgt := 115) hx hb dX2_choose_106 (by decide) ?_
          refine lv_iinc (v := nI (i1 + 1)) (lv' := [(4, .int (nI (i1 + 1))), (3, .int (nI (z1.2 - (i2 * (LS 2 i1))))), (7, .int (nI (z1.2 - (i2 * (LS 2 i1))))), (0, .ref Yh), (1, .ref Lh), (2, .int (nI v_z)), (5, .int (nI (YS 2 ((i1 * 61) + z1.2)))), (6, .int (nI i2))]) hx hb dX2_choose_115 hl (k := 5) rfl (nI_add i1 1) (by decide) rfl (fun ls hl => ?_)
          refine lv_goto (tgt := 5) hx hb dX2_choose_118 (by decide) ?_
          have hl : lv_has ls 8 [(0, .ref Yh), (1, .ref Lh), (2, .int (nI v_z)), (3, .int (nI (z1.2 - (i2 * (LS 2 i1))))), (4, .int (nI (i1 + 1)))] := lv_sub hl [3, 4, 5, 1, 0] rfl
          exact ih1 (un (z1.1) i1 i2, z1.2 - (i2 * (LS 2 i1))) ⟨un_le2 hI1.1 (by omega), (by first | omega | (dsimp only; omega)), ChI_s hI1.2.2.1 (by omega) (by omega) (chX (by omega) hq12) hI2, fun j q => (un_n (show j ≠ i1 by omega)).trans (hI1.2.2.2 j q)⟩ _ _ _ hP hD hS hl
