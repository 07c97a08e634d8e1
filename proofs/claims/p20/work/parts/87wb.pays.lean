set_option maxHeartbeats 4000000 in
set_option maxRecDepth 100000 in
theorem g_paysWithoutE (l : Launch) (D : va_G) (cI cB cZ cN : ClassId) (Wh : Nat) (Wa0 : Nat) (Wa1 : Nat) (WS : Nat → Nat → Nat) (v_l : Nat) (hW : WorldOk WS) (hl6 : v_l < 64) (hw1 : ∀ c, c < WS 2 0 → 1 ≤ WS 1 c ∧ WS 1 c ≤ 9) : Ci (S := Unit) l D cI cB cZ cN yX5_paysWithout wsX5_paysWithout ({ frames := 0, cells := 0, slots := 0, locals := 0 } : Room) [.ref Wh, .int (nI v_l)] [(Wh, .inr (5, [.ref Wa0, .ref Wa1, .int (nI (WS 2 0)), .int (nI (WS 3 0))])), (Wa0, .inl (cI, 6, .inl (nF (WS 0)))), (Wa1, .inl (cI, 6, .inl (nF (WS 1))))] (fun (r : Int32) (_ : Unit) => (r = nI 1 ∧ rch (WS 1) (tl WS v_l) (WS 2 0) (WS 3 0)) ∨ (r = nI 0 ∧ ¬ rch (WS 1) (tl WS v_l) (WS 2 0) (WS 3 0))) (fun u => [(Wh, .inr (5, [.ref Wa0, .ref Wa1, .int (nI (WS 2 0)), .int (nI (WS 3 0))])), (Wa0, .inl (cI, 6, .inl (nF (WS 0)))), (Wa1, .inl (cI, 6, .inl (nF (WS 1))))]) := by
  refine bx_of (D := D) (cI := cI) (cB := cB) (cZ := cZ) (cN := cN) (y := yX5_paysWithout) (wd := wsX5_paysWithout) (rm := ({ frames := 0, cells := 0, slots := 0, locals := 0 } : Room)) (av := [.ref Wh, .int (nI v_l)]) (wc := [(Wh, .inr (5, [.ref Wa0, .ref Wa1, .int (nI (WS 2 0)), .int (nI (WS 3 0))])), (Wa0, .inl (cI, 6, .inl (nF (WS 0)))), (Wa1, .inl (cI, 6, .inl (nF (WS 1))))]) (cc := cX5_paysWithout) (maxL := 7) (ret := (some .boolean)) (Qc := fun _ A => va_Qi (S := Unit) (fun (r : Int32) (_ : Unit) => (r = nI 1 ∧ rch (WS 1) (tl WS v_l) (WS 2 0) (WS 3 0)) ∨ (r = nI 0 ∧ ¬ rch (WS 1) (tl WS v_l) (WS 2 0) (WS 3 0))) (Aft D (fun (u : Unit) => [(Wh, .inr (5, [.ref Wa0, .ref Wa1, .int (nI (WS 2 0)), .int (nI (WS 3 0))])), (Wa0, .inl (cI, 6, .inl (nF (WS 0)))), (Wa1, .inl (cI, 6, .inl (nF (WS 1))))]) A) A) (by decide) rfl (Nat.le_of_ble_eq_true rfl) ?_
  intro p e s m below meth c A H locs ⟨hx, hb, hr, hml, hown, hts, hlk, hnm⟩ hK hP hD hS hA ls hl
  have hl : lv_has ls 7 [(0, .ref Wh), (1, .int (nI v_l))] := hl
  have hown : s.vm.findClass RX5 = some m.cls := hown
  obtain ⟨bw2, bw3, bw0, bw1⟩ := hW
  have hW0 : WorldOk WS := ⟨bw2, bw3, bw0, bw1⟩
  refine lv_lconst (v := 1) hx hb dX5_paysWithout_0 (by decide) ?_
  refine lv_lstore_n (lv' := [(2, .long 1), (0, .ref Wh), (1, .int (nI v_l))]) hx hb dX5_paysWithout_1 rfl hl (by decide) rfl (fun ls hl => ?_)
  refine lv_iconst (v := nI 0) hx hb dX5_paysWithout_2 (by decide) ?_
  refine lv_istore (lv' := [(4, .int (nI 0)), (2, .long 1), (0, .ref Wh), (1, .int (nI v_l))]) hx hb dX5_paysWithout_3 hl (by decide) rfl (fun ls hl => ?_)
  refine loopS (σ := Int64) (D := D) (A := A) (fun i1 z1 => RI WS v_l i1 z1) (fun i1 z1 => [(Wh, .inr (5, [.ref Wa0, .ref Wa1, .int (nI (WS 2 0)), .int (nI (WS 3 0))])), (Wa0, .inl (cI, 6, .inl (nF (WS 0)))), (Wa1, .inl (cI, 6, .inl (nF (WS 1))))]) (fun i1 z1 => [(0, .ref Wh), (1, .int (nI v_l)), (2, .long z1), (4, .int (nI i1))]) 5 7 (WS 2 0) 0 (Nat.zero_le _) ?_ ?_ 1 (RI_0 bw3) _ _ ls (by first | exact hP) (by first | exact hD) hS (lv_sub hl [2, 3, 1, 0] rfl)
  · intro z1 hI1 H locs ls hP hD hS hl
    have hl : lv_has ls 7 [(0, .ref Wh), (1, .int (nI v_l)), (2, .long z1), (4, .int (nI (WS 2 0)))] := hl
    obtain ⟨hP, hD⟩ : wPD D A [(Wh, .inr (5, [.ref Wa0, .ref Wa1, .int (nI (WS 2 0)), .int (nI (WS 3 0))])), (Wa0, .inl (cI, 6, .inl (nF (WS 0)))), (Wa1, .inl (cI, 6, .inl (nF (WS 1))))] H := ⟨hP, hD⟩
    refine lv_iload hx hb dX5_paysWithout_5 (lv_at hl 3 rfl) ?_
    refine lv_aload_n hx hb dX5_paysWithout_7 rfl (lv_at hl 0 rfl) ?_
    refine va_get (D := D) (ci := 5) (v := .int (nI (WS 2 0))) (C := RX5) (T := TX5) (N := 4) hx hb hts in_X5_paysWithout_5 hown hK.1 hP 0 rfl rfl 2 (by decide) (hts (.fieldLink RX5 18 "ChildCoins$World" "coins" "I") (List.mem_of_getElem? (i := 1) rfl)) (fun _ h9 => h9) rfl dX5_paysWithout_8 ?_
    refine nb_icmp_ge (tgt := 90) hx hb dX5_paysWithout_11 (by decide) (by omega) (by omega) (fun hq1 => ?_) (fun hq1 => absurd hq1 (by omega))
    refine lv_lload_n hx hb dX5_paysWithout_90 rfl (lv_at hl 2 rfl) ?_
    refine lv_aload_n hx hb dX5_paysWithout_91 rfl (lv_at hl 0 rfl) ?_
    refine va_get (D := D) (ci := 5) (v := .int (nI (WS 3 0))) (C := RX5) (T := TX5) (N := 4) hx hb hts in_X5_paysWithout_5 hown hK.1 hP 0 rfl rfl 3 (by decide) (hts (.fieldLink RX5 22 "ChildCoins$World" "sum" "I") (List.mem_of_getElem? (i := 3) rfl)) (fun _ h9 => h9) rfl dX5_paysWithout_92 ?_
    refine lv_lushr (v := (z1.toUInt64 >>> ((nI (WS 3 0)).toInt64.toUInt64 &&& Int64.toUInt64 63)).toInt64) hx hb dX5_paysWithout_95 rfl ?_
    refine lv_lconst (v := 1) hx hb dX5_paysWithout_96 (by decide) ?_
    refine lv_land hx hb dX5_paysWithout_97 ?_
    refine lv_lconst (v := 1) hx hb dX5_paysWithout_98 (by decide) ?_
    refine W.lcmp hx hb dX5_paysWithout_99 ?_
    refine lv_if_ne (tgt := 107) hx hb dX5_paysWithout_100 (by decide) (fun hq2 => ?_) (fun hq2 => ?_)
    · skip
      refine lv_iconst (v := nI 0) hx hb dX5_paysWithout_107 (by decide) ?_
      exact en_z hx hb hr hlk hP hD hS () [0, 1, 2] (by decide) rfl (Nat.le_of_ble_eq_true rfl) (Nat.le_of_ble_eq_true rfl) dX5_paysWithout_108 rfl (Or.inr ⟨rfl, fun q => hq2 (lcmp_w.mpr (((rb_fin (by omega)).trans (hI1 _ (Nat.le_refl _))).mpr q))⟩)
    · skip
      refine lv_iconst (v := nI 1) hx hb dX5_paysWithout_103 (by decide) ?_
      refine lv_goto (tgt := 108) hx hb dX5_paysWithout_104 (by decide) ?_
      exact en_z hx hb hr hlk hP hD hS () [0, 1, 2] (by decide) rfl (Nat.le_of_ble_eq_true rfl) (Nat.le_of_ble_eq_true rfl) dX5_paysWithout_108 rfl (Or.inl ⟨rfl, ((rb_fin (by omega)).trans (hI1 _ (Nat.le_refl _))).mp (lcmp_w.mp hq2)⟩)
  · intro i1 hi01 hi1 z1 hI1 ih1 H locs ls hP hD hS hl
    have hl : lv_has ls 7 [(0, .ref Wh), (1, .int (nI v_l)), (2, .long z1), (4, .int (nI i1))] := hl
    obtain ⟨hP, hD⟩ : wPD D A [(Wh, .inr (5, [.ref Wa0, .ref Wa1, .int (nI (WS 2 0)), .int (nI (WS 3 0))])), (Wa0, .inl (cI, 6, .inl (nF (WS 0)))), (Wa1, .inl (cI, 6, .inl (nF (WS 1))))] H := ⟨hP, hD⟩
    refine lv_iload hx hb dX5_paysWithout_5 (lv_at hl 3 rfl) ?_
    refine lv_aload_n hx hb dX5_paysWithout_7 rfl (lv_at hl 0 rfl) ?_
    refine va_get (D := D) (ci := 5) (v := .int (nI (WS 2 0))) (C := RX5) (T := TX5) (N := 4) hx hb hts in_X5_paysWithout_5 hown hK.1 hP 0 rfl rfl 2 (by decide) (hts (.fieldLink RX5 18 "ChildCoins$World" "coins" "I") (List.mem_of_getElem? (i := 1) rfl)) (fun _ h9 => h9) rfl dX5_paysWithout_8 ?_
    refine nb_icmp_ge (tgt := 90) hx hb dX5_paysWithout_11 (by decide) (by omega) (by omega) (fun hq3 => absurd hq3 (by omega)) (fun hq3 => ?_)
    have bdv := Nat.div_le_self v_l (2 ^ i1)
    refine lv_iload_n hx hb dX5_paysWithout_14 rfl (lv_at hl 1 rfl) ?_
    refine lv_iload hx hb dX5_paysWithout_15 (lv_at hl 3 rfl) ?_
    refine lv_ishr hx hb dX5_paysWithout_17 ?_
    refine set_i (y := nI (v_l / 2 ^ i1)) (nI_shr (by omega) (by omega)) ?_
    refine lv_iconst (v := nI 1) hx hb dX5_paysWithout_18 (by decide) ?_
    refine lv_iand hx hb dX5_paysWithout_19 ?_
    refine set_i (y := nI ((v_l / 2 ^ i1) % 2)) (nI_and1 (by omega)) ?_
    refine lv_iconst (v := nI 1) hx hb dX5_paysWithout_20 (by decide) ?_
    refine nb_icmp_ne (tgt := 27) hx hb dX5_paysWithout_21 (by decide) (by omega) (by omega) (fun hq4 => ?_) (fun hq4 => ?_)
    · skip
      refine lv_iconst (v := nI 0) hx hb dX5_paysWithout_27 (by decide) ?_
      refine lv_istore (lv' := [(5, .int (nI 0)), (0, .ref Wh), (1, .int (nI v_l)), (2, .long z1), (4, .int (nI i1))]) hx hb dX5_paysWithout_28 hl (by decide) rfl (fun ls hl => ?_)
      refine lv_iconst (v := nI 0) hx hb dX5_paysWithout_30 (by decide) ?_
      refine lv_istore (lv' := [(6, .int (nI 0)), (5, .int (nI 0)), (0, .ref Wh), (1, .int (nI v_l)), (2, .long z1), (4, .int (nI i1))]) hx hb dX5_paysWithout_31 hl (by decide) rfl (fun ls hl => ?_)
      refine loopS (σ := Int64 × Nat) (D := D) (A := A) (fun i2 z2 => RJ WS v_l i1 i2 z2.1 ∧ z2.2 = i2 * WS 1 i1) (fun i2 z2 => [(Wh, .inr (5, [.ref Wa0, .ref Wa1, .int (nI (WS 2 0)), .int (nI (WS 3 0))])), (Wa0, .inl (cI, 6, .inl (nF (WS 0)))), (Wa1, .inl (cI, 6, .inl (nF (WS 1))))]) (fun i2 z2 => [(0, .ref Wh), (1, .int (nI v_l)), (2, .long z2.1), (4, .int (nI i1)), (5, .int (nI z2.2)), (6, .int (nI i2))]) 33 7 (WS 0 i1) 0 (Nat.zero_le _) ?_ ?_ (z1, 0) ⟨RJ_0 hI1, (Nat.zero_mul _).symm⟩ _ _ ls (by first | exact hP) (by first | exact hD) hS (lv_sub hl [2, 3, 4, 5, 1, 0] rfl)
      · intro z2 hI2 H locs ls hP hD hS hl
        have hl : lv_has ls 7 [(0, .ref Wh), (1, .int (nI v_l)), (2, .long z2.1), (4, .int (nI i1)), (5, .int (nI z2.2)), (6, .int (nI (WS 0 i1)))] := hl
        have hlb : z2.2 ≤ 495 * 99 := by rw [hI2.2]; exact Nat.mul_le_mul (Nat.le_trans (by omega) (bw0 i1)) (bw1 i1)
        obtain ⟨hP, hD⟩ : wPD D A [(Wh, .inr (5, [.ref Wa0, .ref Wa1, .int (nI (WS 2 0)), .int (nI (WS 3 0))])), (Wa0, .inl (cI, 6, .inl (nF (WS 0)))), (Wa1, .inl (cI, 6, .inl (nF (WS 1))))] H := ⟨hP, hD⟩
        refine lv_iload hx hb dX5_paysWithout_33 (lv_at hl 5 rfl) ?_
        refine lv_aload_n hx hb dX5_paysWithout_35 rfl (lv_at hl 0 rfl) ?_
        refine va_get (D := D) (ci := 5) (v := .ref Wa0) (C := RX5) (T := TX5) (N := 4) hx hb hts in_X5_paysWithout_5 hown hK.1 hP 0 rfl rfl 0 (by decide) (hts (.fieldLink RX5 9 "ChildCoins$World" "stock" "[I") (List.mem_of_getElem? (i := 2) rfl)) (fun _ h9 => h9) rfl dX5_paysWithout_36 ?_
        refine lv_iload hx hb dX5_paysWithout_39 (lv_at hl 3 rfl) ?_
        refine va_iald hx hb hK.1 hP 1 0 rfl rfl (vp_in_nI (n := i1) (N := 6) (by omega) (by decide)) dX5_paysWithout_41 ?_
        refine set_i (y := nI (WS 0 i1)) (nF_ld (by omega)) ?_
        have b5 := bw0 i1
        refine nb_icmp_ge (tgt := 84) hx hb dX5_paysWithout_42 (by decide) (by omega) (by omega) (fun hq6 => ?_) (fun hq6 => absurd hq6 (by omega))
        refine lv_iinc (v := nI (i1 + 1)) (lv' := [(4, .int (nI (i1 + 1))), (0, .ref Wh), (1, .int (nI v_l)), (2, .long z2.1), (5, .int (nI z2.2)), (6, .int (nI (WS 0 i1)))]) hx hb dX5_paysWithout_84 hl (k := 3) rfl (nI_add i1 1) (by decide) rfl (fun ls hl => ?_)
        refine lv_goto (tgt := 5) hx hb dX5_paysWithout_87 (by decide) ?_
        have hl : lv_has ls 7 [(0, .ref Wh), (1, .int (nI v_l)), (2, .long z2.1), (4, .int (nI (i1 + 1)))] := lv_sub hl [1, 2, 3, 0] rfl
        exact ih1 z2.1 (RI_s hI2.1 hq4 (Nat.le_refl _) (Or.inl rfl) (hw1 i1 (by omega)).1) _ _ _ hP hD hS hl
      · intro i2 hi02 hi2 z2 hI2 ih2 H locs ls hP hD hS hl
        have hl : lv_has ls 7 [(0, .ref Wh), (1, .int (nI v_l)), (2, .long z2.1), (4, .int (nI i1)), (5, .int (nI z2.2)), (6, .int (nI i2))] := hl
        have hlb : z2.2 ≤ 495 * 99 := by rw [hI2.2]; exact Nat.mul_le_mul (Nat.le_trans (by omega) (bw0 i1)) (bw1 i1)
        obtain ⟨hP, hD⟩ : wPD D A [(Wh, .inr (5, [.ref Wa0, .ref Wa1, .int (nI (WS 2 0)), .int (nI (WS 3 0))])), (Wa0, .inl (cI, 6, .inl (nF (WS 0)))), (Wa1, .inl (cI, 6, .inl (nF (WS 1))))] H := ⟨hP, hD⟩
        refine lv_iload hx hb dX5_paysWithout_33 (lv_at hl 5 rfl) ?_
        refine lv_aload_n hx hb dX5_paysWithout_35 rfl (lv_at hl 0 rfl) ?_
        refine va_get (D := D) (ci := 5) (v := .ref Wa0) (C := RX5) (T := TX5) (N := 4) hx hb hts in_X5_paysWithout_5 hown hK.1 hP 0 rfl rfl 0 (by decide) (hts (.fieldLink RX5 9 "ChildCoins$World" "stock" "[I") (List.mem_of_getElem? (i := 2) rfl)) (fun _ h9 => h9) rfl dX5_paysWithout_36 ?_
        refine lv_iload hx hb dX5_paysWithout_39 (lv_at hl 3 rfl) ?_
        refine va_iald hx hb hK.1 hP 1 0 rfl rfl (vp_in_nI (n := i1) (N := 6) (by omega) (by decide)) dX5_paysWithout_41 ?_
        refine set_i (y := nI (WS 0 i1)) (nF_ld (by omega)) ?_
        have b7 := bw0 i1
        refine nb_icmp_ge (tgt := 84) hx hb dX5_paysWithout_42 (by decide) (by omega) (by omega) (fun hq8 => absurd hq8 (by omega)) (fun hq8 => ?_)
        refine lv_iload hx hb dX5_paysWithout_45 (lv_at hl 4 rfl) ?_
        refine lv_aload_n hx hb dX5_paysWithout_47 rfl (lv_at hl 0 rfl) ?_
        refine va_get (D := D) (ci := 5) (v := .int (nI (WS 3 0))) (C := RX5) (T := TX5) (N := 4) hx hb hts in_X5_paysWithout_5 hown hK.1 hP 0 rfl rfl 3 (by decide) (hts (.fieldLink RX5 22 "ChildCoins$World" "sum" "I") (List.mem_of_getElem? (i := 3) rfl)) (fun _ h9 => h9) rfl dX5_paysWithout_48 ?_
        refine nb_icmp_ge (tgt := 84) hx hb dX5_paysWithout_51 (by decide) (by omega) (by omega) (fun hq9 => ?_) (fun hq9 => ?_)
        · skip
          refine lv_iinc (v := nI (i1 + 1)) (lv' := [(4, .int (nI (i1 + 1))), (0, .ref Wh), (1, .int (nI v_l)), (2, .long z2.1), (5, .int (nI z2.2)), (6, .int (nI i2))]) hx hb dX5_paysWithout_84 hl (k := 3) rfl (nI_add i1 1) (by decide) rfl (fun ls hl => ?_)
          refine lv_goto (tgt := 5) hx hb dX5_paysWithout_87 (by decide) ?_
          have hl : lv_has ls 7 [(0, .ref Wh), (1, .int (nI v_l)), (2, .long z2.1), (4, .int (nI (i1 + 1)))] := lv_sub hl [1, 2, 3, 0] rfl
          exact ih1 z2.1 (RI_s hI2.1 hq4 (by omega) (Or.inr (by rw [← hI2.2]; exact hq9)) (hw1 i1 (by omega)).1) _ _ _ hP hD hS hl
        · skip
          refine lv_lload_n hx hb dX5_paysWithout_54 rfl (lv_at hl 2 rfl) ?_
          refine lv_lload_n hx hb dX5_paysWithout_55 rfl (lv_at hl 2 rfl) ?_
          refine lv_aload_n hx hb dX5_paysWithout_56 rfl (lv_at hl 0 rfl) ?_
          refine va_get (D := D) (ci := 5) (v := .ref Wa1) (C := RX5) (T := TX5) (N := 4) hx hb hts in_X5_paysWithout_5 hown hK.1 hP 0 rfl rfl 1 (by decide) (hts (.fieldLink RX5 15 "ChildCoins$World" "worth" "[I") (List.mem_of_getElem? (i := 4) rfl)) (fun _ h9 => h9) rfl dX5_paysWithout_57 ?_
          refine lv_iload hx hb dX5_paysWithout_60 (lv_at hl 3 rfl) ?_
          refine va_iald hx hb hK.1 hP 2 0 rfl rfl (vp_in_nI (n := i1) (N := 6) (by omega) (by decide)) dX5_paysWithout_62 ?_
          refine set_i (y := nI (WS 1 i1)) (nF_ld (by omega)) ?_
          have b10 := bw1 i1
          refine lv_lshl (v := z2.1 <<< ((nI (WS 1 i1)).toInt64 &&& 63)) hx hb dX5_paysWithout_63 rfl ?_
          refine lv_lor hx hb dX5_paysWithout_64 ?_
          refine lv_lstore_n (lv' := [(2, .long (z2.1 ||| (z2.1 <<< ((nI (WS 1 i1)).toInt64 &&& 63)))), (0, .ref Wh), (1, .int (nI v_l)), (4, .int (nI i1)), (5, .int (nI z2.2)), (6, .int (nI i2))]) hx hb dX5_paysWithout_65 rfl hl (by decide) rfl (fun ls hl => ?_)
          refine lv_iload hx hb dX5_paysWithout_66 (lv_at hl 4 rfl) ?_
          refine lv_aload_n hx hb dX5_paysWithout_68 rfl (lv_at hl 1 rfl) ?_
          refine va_get (D := D) (ci := 5) (v := .ref Wa1) (C := RX5) (T := TX5) (N := 4) hx hb hts in_X5_paysWithout_5 hown hK.1 hP 0 rfl rfl 1 (by decide) (hts (.fieldLink RX5 15 "ChildCoins$World" "worth" "[I") (List.mem_of_getElem? (i := 4) rfl)) (fun _ h9 => h9) rfl dX5_paysWithout_69 ?_
          refine lv_iload hx hb dX5_paysWithout_72 (lv_at hl 3 rfl) ?_
          refine va_iald hx hb hK.1 hP 2 0 rfl rfl (vp_in_nI (n := i1) (N := 6) (by omega) (by decide)) dX5_paysWithout_74 ?_
          refine set_i (y := nI (WS 1 i1)) (nF_ld (by omega)) ?_
          have b11 := bw1 i1
          refine lv_iadd hx hb dX5_paysWithout_75 ?_
          refine set_i (y := nI (z2.2 + (WS 1 i1))) (nI_add z2.2 (WS 1 i1)) ?_
          refine lv_istore (lv' := [(5, .int (nI (z2.2 + (WS 1 i1)))), (2, .long (z2.1 ||| (z2.1 <<< ((nI (WS 1 i1)).toInt64 &&& 63)))), (0, .ref Wh), (1, .int (nI v_l)), (4, .int (nI i1)), (6, .int (nI i2))]) hx hb dX5_paysWithout_76 hl (by decide) rfl (fun ls hl => ?_)
          refine lv_iinc (v := nI (i2 + 1)) (lv' := [(6, .int (nI (i2 + 1))), (5, .int (nI (z2.2 + (WS 1 i1)))), (2, .long (z2.1 ||| (z2.1 <<< ((nI (WS 1 i1)).toInt64 &&& 63)))), (0, .ref Wh), (1, .int (nI v_l)), (4, .int (nI i1))]) hx hb dX5_paysWithout_78 hl (k := 5) rfl (nI_add i2 1) (by decide) rfl (fun ls hl => ?_)
          refine lv_goto (tgt := 33) hx hb dX5_paysWithout_81 (by decide) ?_
          have hl : lv_has ls 7 [(0, .ref Wh), (1, .int (nI v_l)), (2, .long (z2.1 ||| (z2.1 <<< ((nI (WS 1 i1)).toInt64 &&& 63)))), (4, .int (nI i1)), (5, .int (nI (z2.2 + (WS 1 i1)))), (6, .int (nI (i2 + 1)))] := lv_sub hl [3, 4, 2, 5, 1, 0] rfl
          exact ih2 (z2.1 ||| (z2.1 <<< ((nI (WS 1 i1)).toInt64 &&& 63)), z2.2 + (WS 1 i1)) ⟨RJ_s hI2.1 bw3 (hw1 i1 (by omega)).2, (by show _ = (i2 + 1) * WS 1 i1; rw [Nat.succ_mul, ← hI2.2])⟩ _ _ _ hP hD hS hl
    · skip
      refine lv_goto (tgt := 84) hx hb dX5_paysWithout_24 (by decide) ?_
      refine lv_iinc (v := nI (i1 + 1)) (lv' := [(4, .int (nI (i1 + 1))), (0, .ref Wh), (1, .int (nI v_l)), (2, .long z1)]) hx hb dX5_paysWithout_84 hl (k := 3) rfl (nI_add i1 1) (by decide) rfl (fun ls hl => ?_)
      refine lv_goto (tgt := 5) hx hb dX5_paysWithout_87 (by decide) ?_
      have hl : lv_has ls 7 [(0, .ref Wh), (1, .int (nI v_l)), (2, .long z1), (4, .int (nI (i1 + 1)))] := lv_sub hl [1, 2, 3, 0] rfl
      exact ih1 z1 (RI_l hI1 hq4) _ _ _ hP hD hS hl
