set_option maxRecDepth 20000 in
theorem dAX2_fewestFrom : decA cX2_fewestFrom [(0, .ldc 54, 2), (2, .istore 4, 2), (4, .iload_n 3, 1), (5, .istore 5, 2), (7, .iconst 0, 1), (8, .istore 6, 2), (10, .iload 6, 2), (12, .aload_n 0, 1), (13, .getfield 9, 3), (16, .iload_n 1, 1), (17, .iaload, 1), (18, .if_icmp .gt 50, 3), (21, .iload 5, 2), (23, .ifCond .lt 45, 3), (26, .iload 6, 2), (28, .aload_n 0, 1), (29, .getfield 18, 3), (32, .iload_n 1, 1), (33, .iconst 1, 1), (34, .iadd, 1), (35, .bipush 61, 2), (37, .imul, 1), (38, .iload 5, 2), (40, .iadd, 1), (41, .iaload, 1), (42, .iadd, 1), (43, .istore 7, 2), (45, .iload 7, 2), (47, .iload 4, 2), (49, .if_icmp .ge 7, 3), (52, .iload 7, 2), (54, .istore 4, 2), (56, .iload 5, 2), (58, .iload_n 2, 1), (59, .isub, 1), (60, .istore 5, 2), (62, .iinc 6 1, 3), (65, .goto (-55), 3), (68, .iload 4, 2), (70, .ireturn, 1)] = true := by decide +kernel
theorem dX2_fewestFrom_0 : decode cX2_fewestFrom 0 = .ok (.ldc 54, 2) := decA_get dAX2_fewestFrom 0 rfl
theorem dX2_fewestFrom_2 : decode cX2_fewestFrom 2 = .ok (.istore 4, 2) := decA_get dAX2_fewestFrom 1 rfl
theorem dX2_fewestFrom_4 : decode cX2_fewestFrom 4 = .ok (.iload_n 3, 1) := decA_get dAX2_fewestFrom 2 rfl
theorem dX2_fewestFrom_5 : decode cX2_fewestFrom 5 = .ok (.istore 5, 2) := decA_get dAX2_fewestFrom 3 rfl
theorem dX2_fewestFrom_7 : decode cX2_fewestFrom 7 = .ok (.iconst 0, 1) := decA_get dAX2_fewestFrom 4 rfl
theorem dX2_fewestFrom_8 : decode cX2_fewestFrom 8 = .ok (.istore 6, 2) := decA_get dAX2_fewestFrom 5 rfl
theorem dX2_fewestFrom_10 : decode cX2_fewestFrom 10 = .ok (.iload 6, 2) := decA_get dAX2_fewestFrom 6 rfl
theorem dX2_fewestFrom_12 : decode cX2_fewestFrom 12 = .ok (.aload_n 0, 1) := decA_get dAX2_fewestFrom 7 rfl
theorem dX2_fewestFrom_13 : decode cX2_fewestFrom 13 = .ok (.getfield 9, 3) := decA_get dAX2_fewestFrom 8 rfl
theorem in_X2_fewestFrom_2 : ∀ w ∈ wsX20, w ∈ wsX2_fewestFrom := fun w h => (gd_ids wi_X2_fewestFrom wm_X2_fewestFrom wi_X20 (by decide +kernel) w h).1
theorem dX2_fewestFrom_16 : decode cX2_fewestFrom 16 = .ok (.iload_n 1, 1) := decA_get dAX2_fewestFrom 9 rfl
theorem dX2_fewestFrom_17 : decode cX2_fewestFrom 17 = .ok (.iaload, 1) := decA_get dAX2_fewestFrom 10 rfl
theorem dX2_fewestFrom_18 : decode cX2_fewestFrom 18 = .ok (.if_icmp .gt 50, 3) := decA_get dAX2_fewestFrom 11 rfl
theorem dX2_fewestFrom_68 : decode cX2_fewestFrom 68 = .ok (.iload 4, 2) := decA_get dAX2_fewestFrom 38 rfl
theorem dX2_fewestFrom_70 : decode cX2_fewestFrom 70 = .ok (.ireturn, 1) := decA_get dAX2_fewestFrom 39 rfl
theorem dX2_fewestFrom_21 : decode cX2_fewestFrom 21 = .ok (.iload 5, 2) := decA_get dAX2_fewestFrom 12 rfl
theorem dX2_fewestFrom_23 : decode cX2_fewestFrom 23 = .ok (.ifCond .lt 45, 3) := decA_get dAX2_fewestFrom 13 rfl
theorem dX2_fewestFrom_26 : decode cX2_fewestFrom 26 = .ok (.iload 6, 2) := decA_get dAX2_fewestFrom 14 rfl
theorem dX2_fewestFrom_28 : decode cX2_fewestFrom 28 = .ok (.aload_n 0, 1) := decA_get dAX2_fewestFrom 15 rfl
theorem dX2_fewestFrom_29 : decode cX2_fewestFrom 29 = .ok (.getfield 18, 3) := decA_get dAX2_fewestFrom 16 rfl
theorem dX2_fewestFrom_32 : decode cX2_fewestFrom 32 = .ok (.iload_n 1, 1) := decA_get dAX2_fewestFrom 17 rfl
theorem dX2_fewestFrom_33 : decode cX2_fewestFrom 33 = .ok (.iconst 1, 1) := decA_get dAX2_fewestFrom 18 rfl
theorem dX2_fewestFrom_34 : decode cX2_fewestFrom 34 = .ok (.iadd, 1) := decA_get dAX2_fewestFrom 19 rfl
theorem dX2_fewestFrom_35 : decode cX2_fewestFrom 35 = .ok (.bipush 61, 2) := decA_get dAX2_fewestFrom 20 rfl
theorem dX2_fewestFrom_37 : decode cX2_fewestFrom 37 = .ok (.imul, 1) := decA_get dAX2_fewestFrom 21 rfl
theorem dX2_fewestFrom_38 : decode cX2_fewestFrom 38 = .ok (.iload 5, 2) := decA_get dAX2_fewestFrom 22 rfl
theorem dX2_fewestFrom_40 : decode cX2_fewestFrom 40 = .ok (.iadd, 1) := decA_get dAX2_fewestFrom 23 rfl
theorem dX2_fewestFrom_41 : decode cX2_fewestFrom 41 = .ok (.iaload, 1) := decA_get dAX2_fewestFrom 24 rfl
theorem dX2_fewestFrom_42 : decode cX2_fewestFrom 42 = .ok (.iadd, 1) := decA_get dAX2_fewestFrom 25 rfl
theorem dX2_fewestFrom_43 : decode cX2_fewestFrom 43 = .ok (.istore 7, 2) := decA_get dAX2_fewestFrom 26 rfl
theorem dX2_fewestFrom_45 : decode cX2_fewestFrom 45 = .ok (.iload 7, 2) := decA_get dAX2_fewestFrom 27 rfl
theorem dX2_fewestFrom_47 : decode cX2_fewestFrom 47 = .ok (.iload 4, 2) := decA_get dAX2_fewestFrom 28 rfl
theorem dX2_fewestFrom_49 : decode cX2_fewestFrom 49 = .ok (.if_icmp .ge 7, 3) := decA_get dAX2_fewestFrom 29 rfl
theorem dX2_fewestFrom_56 : decode cX2_fewestFrom 56 = .ok (.iload 5, 2) := decA_get dAX2_fewestFrom 32 rfl
theorem dX2_fewestFrom_58 : decode cX2_fewestFrom 58 = .ok (.iload_n 2, 1) := decA_get dAX2_fewestFrom 33 rfl
theorem dX2_fewestFrom_59 : decode cX2_fewestFrom 59 = .ok (.isub, 1) := decA_get dAX2_fewestFrom 34 rfl
theorem dX2_fewestFrom_60 : decode cX2_fewestFrom 60 = .ok (.istore 5, 2) := decA_get dAX2_fewestFrom 35 rfl
theorem dX2_fewestFrom_62 : decode cX2_fewestFrom 62 = .ok (.iinc 6 1, 3) := decA_get dAX2_fewestFrom 36 rfl
theorem dX2_fewestFrom_65 : decode cX2_fewestFrom 65 = .ok (.goto (-55), 3) := decA_get dAX2_fewestFrom 37 rfl
theorem dX2_fewestFrom_52 : decode cX2_fewestFrom 52 = .ok (.iload 7, 2) := decA_get dAX2_fewestFrom 30 rfl
theorem dX2_fewestFrom_54 : decode cX2_fewestFrom 54 = .ok (.istore 4, 2) := decA_get dAX2_fewestFrom 31 rfl
set_option maxHeartbeats 4000000 in
set_option maxRecDepth 100000 in
theorem g_fewestFrom (l : Launch) (D : va_G) (cI cB cZ cN : ClassId) (Yh : Nat) (Ya0 : Nat) (Ya1 : Nat) (Ya2 : Nat) (YS : Nat → Nat → Nat) (v_c : Nat) (v_w : Nat) (v_z : Nat) (hs0 : ∀ j, YS 0 j ≤ 99) (hf0 : ∀ j, YS 2 j ≤ 1000000) (hc : v_c < 6) (hw : v_w ≤ 99) (hz : v_z ≤ 60) : Ci (S := Unit) l D cI cB cZ cN yX2_fewestFrom wsX2_fewestFrom ({ frames := 0, cells := 0, slots := 0, locals := 0 } : Room) [.ref Yh, .int (nI v_c), .int (nI v_w), .int (nI v_z)] [(Yh, .inr (2, [.ref Ya0, .ref Ya1, .ref Ya2, .int (nI (YS 3 0))])), (Ya0, .inl (cI, 6, .inl (nF (YS 0)))), (Ya1, .inl (cI, 6, .inl (nF (YS 1)))), (Ya2, .inl (cI, 427, .inl (nF (YS 2))))] (fun (r : Int32) (_ : Unit) => r = nI (ffG (YS 2) v_c v_w v_z (YS 0 v_c + 1))) (fun u => [(Yh, .inr (2, [.ref Ya0, .ref Ya1, .ref Ya2, .int (nI (YS 3 0))])), (Ya0, .inl (cI, 6, .inl (nF (YS 0)))), (Ya1, .inl (cI, 6, .inl (nF (YS 1)))), (Ya2, .inl (cI, 427, .inl (nF (YS 2))))]) := by
  refine bx_of (D := D) (cI := cI) (cB := cB) (cZ := cZ) (cN := cN) (y := yX2_fewestFrom) (wd := wsX2_fewestFrom) (rm := ({ frames := 0, cells := 0, slots := 0, locals := 0 } : Room)) (av := [.ref Yh, .int (nI v_c), .int (nI v_w), .int (nI v_z)]) (wc := [(Yh, .inr (2, [.ref Ya0, .ref Ya1, .ref Ya2, .int (nI (YS 3 0))])), (Ya0, .inl (cI, 6, .inl (nF (YS 0)))), (Ya1, .inl (cI, 6, .inl (nF (YS 1)))), (Ya2, .inl (cI, 427, .inl (nF (YS 2))))]) (cc := cX2_fewestFrom) (maxL := 8) (ret := (some .int)) (Qc := fun _ A => va_Qi (S := Unit) (fun (r : Int32) (_ : Unit) => r = nI (ffG (YS 2) v_c v_w v_z (YS 0 v_c + 1))) (Aft D (fun (u : Unit) => [(Yh, .inr (2, [.ref Ya0, .ref Ya1, .ref Ya2, .int (nI (YS 3 0))])), (Ya0, .inl (cI, 6, .inl (nF (YS 0)))), (Ya1, .inl (cI, 6, .inl (nF (YS 1)))), (Ya2, .inl (cI, 427, .inl (nF (YS 2))))]) A) A) (by decide) rfl (Nat.le_of_ble_eq_true rfl) ?_
  intro p e s m below meth c A H locs ⟨hx, hb, hr, hml, hown, hts, hlk, hnm⟩ hK hP hD hS hA ls hl
  have hl : lv_has ls 8 [(0, .ref Yh), (1, .int (nI v_c)), (2, .int (nI v_w)), (3, .int (nI v_z))] := hl
  have hown : s.vm.findClass RX2 = some m.cls := hown
  refine lv_ldc (v := 1000000) hx hb hown (hts (.constant RX2 54 (1000000)) (List.mem_of_getElem? (i := 1) rfl)) dX2_fewestFrom_0 ?_
  refine set_i (y := nI 1000000) (by decide) ?_
  refine lv_istore (lv' := [(4, .int (nI 1000000)), (0, .ref Yh), (1, .int (nI v_c)), (2, .int (nI v_w)), (3, .int (nI v_z))]) hx hb dX2_fewestFrom_2 hl (by decide) rfl (fun ls hl => ?_)
  refine lv_iload_n hx hb dX2_fewestFrom_4 rfl (lv_at hl 4 rfl) ?_
  refine set_i (y := nI v_z - nI (v_w * 0)) (sub_0 v_z) ?_
  refine lv_istore (lv' := [(5, .int (nI v_z - nI (v_w * 0))), (4, .int (nI 1000000)), (0, .ref Yh), (1, .int (nI v_c)), (2, .int (nI v_w)), (3, .int (nI v_z))]) hx hb dX2_fewestFrom_5 hl (by decide) rfl (fun ls hl => ?_)
  refine lv_iconst (v := nI 0) hx hb dX2_fewestFrom_7 (by decide) ?_
  refine lv_istore (lv' := [(6, .int (nI 0)), (5, .int (nI v_z - nI (v_w * 0))), (4, .int (nI 1000000)), (0, .ref Yh), (1, .int (nI v_c)), (2, .int (nI v_w)), (3, .int (nI v_z))]) hx hb dX2_fewestFrom_8 hl (by decide) rfl (fun ls hl => ?_)
  refine loopW (D := D) (A := A) (fun i => [(Yh, .inr (2, [.ref Ya0, .ref Ya1, .ref Ya2, .int (nI (YS 3 0))])), (Ya0, .inl (cI, 6, .inl (nF (YS 0)))), (Ya1, .inl (cI, 6, .inl (nF (YS 1)))), (Ya2, .inl (cI, 427, .inl (nF (YS 2))))]) (fun i => [(0, .ref Yh), (1, .int (nI v_c)), (2, .int (nI v_w)), (3, .int (nI v_z)), (4, .int (nI (ffG (YS 2) v_c v_w v_z i))), (5, .int (nI v_z - nI (v_w * i))), (6, .int (nI i))]) 10 8 (YS 0 v_c + 1) 0 (Nat.zero_le _) ?_ ?_ _ _ ls (by first | exact hP | (rw [fill_0]; exact hP)) (by first | exact hD | (rw [fill_0]; exact hD)) hS (lv_sub hl [3, 4, 5, 6, 2, 1, 0] rfl)
  · intro H locs ls hP hD hS hl
    have hl : lv_has ls 8 [(0, .ref Yh), (1, .int (nI v_c)), (2, .int (nI v_w)), (3, .int (nI v_z)), (4, .int (nI (ffG (YS 2) v_c v_w v_z (YS 0 v_c + 1)))), (5, .int (nI v_z - nI (v_w * (YS 0 v_c + 1)))), (6, .int (nI (YS 0 v_c + 1)))] := hl
    obtain ⟨hP, hD⟩ : wPD D A [(Yh, .inr (2, [.ref Ya0, .ref Ya1, .ref Ya2, .int (nI (YS 3 0))])), (Ya0, .inl (cI, 6, .inl (nF (YS 0)))), (Ya1, .inl (cI, 6, .inl (nF (YS 1)))), (Ya2, .inl (cI, 427, .inl (nF (YS 2))))] H := ⟨hP, hD⟩
    refine lv_iload hx hb dX2_fewestFrom_10 (lv_at hl 6 rfl) ?_
    refine lv_aload_n hx hb dX2_fewestFrom_12 rfl (lv_at hl 0 rfl) ?_
    refine va_get (D := D) (ci := 2) (v := .ref Ya0) (C := RX2) (T := TX2) (N := 4) hx hb hts in_X2_fewestFrom_2 hown hK.1 hP 0 rfl rfl 0 (by decide) (hts (.fieldLink RX2 9 "ChildCoins$Payment" "stock" "[I") (List.mem_of_getElem? (i := 2) rfl)) (fun _ h9 => h9) rfl dX2_fewestFrom_13 ?_
    refine lv_iload_n hx hb dX2_fewestFrom_16 rfl (lv_at hl 1 rfl) ?_
    refine va_iald hx hb hK.1 hP 1 0 rfl rfl (vp_in_nI (n := v_c) (N := 6) (by omega) (by decide)) dX2_fewestFrom_17 ?_
    refine set_i (y := nI (YS 0 v_c)) (nF_ld (by omega)) ?_
    have b1 := hs0 v_c
    refine nb_icmp_gt (tgt := 68) hx hb dX2_fewestFrom_18 (by decide) (by omega) (by omega) (fun hq2 => ?_) (fun hq2 => absurd hq2 (by omega))
    refine lv_iload hx hb dX2_fewestFrom_68 (lv_at hl 4 rfl) ?_
    exact en_i hx hb hr hlk hP hD hS () [0, 1, 2, 3] (by decide) rfl (Nat.le_of_ble_eq_true rfl) (Nat.le_of_ble_eq_true rfl) dX2_fewestFrom_70 rfl
  · intro i hi0 hi ih H locs ls hP hD hS hl
    have hl : lv_has ls 8 [(0, .ref Yh), (1, .int (nI v_c)), (2, .int (nI v_w)), (3, .int (nI v_z)), (4, .int (nI (ffG (YS 2) v_c v_w v_z i))), (5, .int (nI v_z - nI (v_w * i))), (6, .int (nI i))] := hl
    obtain ⟨hP, hD⟩ : wPD D A [(Yh, .inr (2, [.ref Ya0, .ref Ya1, .ref Ya2, .int (nI (YS 3 0))])), (Ya0, .inl (cI, 6, .inl (nF (YS 0)))), (Ya1, .inl (cI, 6, .inl (nF (YS 1)))), (Ya2, .inl (cI, 427, .inl (nF (YS 2))))] H := ⟨hP, hD⟩
    refine lv_iload hx hb dX2_fewestFrom_10 (lv_at hl 6 rfl) ?_
    refine lv_aload_n hx hb dX2_fewestFrom_12 rfl (lv_at hl 0 rfl) ?_
    refine va_get (D := D) (ci := 2) (v := .ref Ya0) (C := RX2) (T := TX2) (N := 4) hx hb hts in_X2_fewestFrom_2 hown hK.1 hP 0 rfl rfl 0 (by decide) (hts (.fieldLink RX2 9 "ChildCoins$Payment" "stock" "[I") (List.mem_of_getElem? (i := 2) rfl)) (fun _ h9 => h9) rfl dX2_fewestFrom_13 ?_
    refine lv_iload_n hx hb dX2_fewestFrom_16 rfl (lv_at hl 1 rfl) ?_
    refine va_iald hx hb hK.1 hP 1 0 rfl rfl (vp_in_nI (n := v_c) (N := 6) (by omega) (by decide)) dX2_fewestFrom_17 ?_
    refine set_i (y := nI (YS 0 v_c)) (nF_ld (by omega)) ?_
    have b3 := hs0 v_c
    refine nb_icmp_gt (tgt := 68) hx hb dX2_fewestFrom_18 (by decide) (by omega) (by omega) (fun hq4 => absurd hq4 (by omega)) (fun hq4 => ?_)
    have bw := Nat.mul_le_mul hw (show i ≤ 100 by omega)
    have bf := ffG_le (YS 2) v_c v_w v_z i
    refine lv_iload hx hb dX2_fewestFrom_21 (lv_at hl 5 rfl) ?_
    refine nb_if_lts (tgt := 68) hx hb dX2_fewestFrom_23 (by decide) (by omega) (by omega) (fun hq5 => ?_) (fun hq5 => ?_)
    · skip
      refine lv_iload hx hb dX2_fewestFrom_68 (lv_at hl 4 rfl) ?_
      exact en_i hx hb hr hlk hP hD hS () [0, 1, 2, 3] (by decide) rfl (Nat.le_of_ble_eq_true rfl) (Nat.le_of_ble_eq_true rfl) dX2_fewestFrom_70 (congrArg nI ((ffG_o hq5 (YS 0 v_c + 1 - i)).trans (by rw [show i + (YS 0 v_c + 1 - i) = YS 0 v_c + 1 by omega])))
    · skip
      refine lv_iload hx hb dX2_fewestFrom_26 (lv_at hl 6 rfl) ?_
      refine lv_aload_n hx hb dX2_fewestFrom_28 rfl (lv_at hl 0 rfl) ?_
      refine va_get (D := D) (ci := 2) (v := .ref Ya2) (C := RX2) (T := TX2) (N := 4) hx hb hts in_X2_fewestFrom_2 hown hK.1 hP 0 rfl rfl 2 (by decide) (hts (.fieldLink RX2 18 "ChildCoins$Payment" "fewest" "[I") (List.mem_of_getElem? (i := 3) rfl)) (fun _ h9 => h9) rfl dX2_fewestFrom_29 ?_
      refine lv_iload_n hx hb dX2_fewestFrom_32 rfl (lv_at hl 1 rfl) ?_
      refine lv_iconst (v := nI 1) hx hb dX2_fewestFrom_33 (by decide) ?_
      refine lv_iadd hx hb dX2_fewestFrom_34 ?_
      refine set_i (y := nI (v_c + 1)) (nI_add v_c 1) ?_
      refine lv_bipush (v := nI 61) hx hb dX2_fewestFrom_35 (by decide) ?_
      refine lv_imul hx hb dX2_fewestFrom_37 ?_
      refine set_i (y := nI ((v_c + 1) * 61)) (pk_mul (v_c + 1) 61) ?_
      refine lv_iload hx hb dX2_fewestFrom_38 (lv_at hl 5 rfl) ?_
      refine lv_iadd hx hb dX2_fewestFrom_40 ?_
      refine set_i (y := nI (((v_c + 1) * 61) + (v_z - (v_w * i)))) (add_sb (by omega)) ?_
      refine va_iald hx hb hK.1 hP 3 0 rfl rfl (vp_in_nI (n := ((v_c + 1) * 61) + (v_z - (v_w * i))) (N := 427) (by omega) (by decide)) dX2_fewestFrom_41 ?_
      refine set_i (y := nI (YS 2 (((v_c + 1) * 61) + (v_z - (v_w * i))))) (nF_ld (by omega)) ?_
      have b6 := hf0 (((v_c + 1) * 61) + (v_z - (v_w * i)))
      refine lv_iadd hx hb dX2_fewestFrom_42 ?_
      refine set_i (y := nI (i + (YS 2 (((v_c + 1) * 61) + (v_z - (v_w * i)))))) (nI_add i (YS 2 (((v_c + 1) * 61) + (v_z - (v_w * i))))) ?_
      refine lv_istore (lv' := [(7, .int (nI (i + (YS 2 (((v_c + 1) * 61) + (v_z - (v_w * i))))))), (0, .ref Yh), (1, .int (nI v_c)), (2, .int (nI v_w)), (3, .int (nI v_z)), (4, .int (nI (ffG (YS 2) v_c v_w v_z i))), (5, .int (nI v_z - nI (v_w * i))), (6, .int (nI i))]) hx hb dX2_fewestFrom_43 hl (by decide) rfl (fun ls hl => ?_)
      refine lv_iload hx hb dX2_fewestFrom_45 (lv_at hl 0 rfl) ?_
      refine lv_iload hx hb dX2_fewestFrom_47 (lv_at hl 5 rfl) ?_
      refine nb_icmp_ge (tgt := 56) hx hb dX2_fewestFrom_49 (by decide) (by omega) (by omega) (fun hq7 => ?_) (fun hq7 => ?_)
      · skip
        refine lv_iload hx hb dX2_fewestFrom_56 (lv_at hl 6 rfl) ?_
        refine lv_iload_n hx hb dX2_fewestFrom_58 rfl (lv_at hl 3 rfl) ?_
        refine lv_isub hx hb dX2_fewestFrom_59 ?_
        refine set_i (y := nI v_z - nI (v_w * i + v_w)) (sub_st v_z (v_w * i) v_w) ?_
        refine lv_istore (lv' := [(5, .int (nI v_z - nI (v_w * i + v_w))), (7, .int (nI (i + (YS 2 (((v_c + 1) * 61) + (v_z - (v_w * i))))))), (0, .ref Yh), (1, .int (nI v_c)), (2, .int (nI v_w)), (3, .int (nI v_z)), (4, .int (nI (ffG (YS 2) v_c v_w v_z i))), (6, .int (nI i))]) hx hb dX2_fewestFrom_60 hl (by decide) rfl (fun ls hl => ?_)
        refine lv_iinc (v := nI (i + 1)) (lv' := [(6, .int (nI (i + 1))), (5, .int (nI v_z - nI (v_w * i + v_w))), (7, .int (nI (i + (YS 2 (((v_c + 1) * 61) + (v_z - (v_w * i))))))), (0, .ref Yh), (1, .int (nI v_c)), (2, .int (nI v_w)), (3, .int (nI v_z)), (4, .int (nI (ffG (YS 2) v_c v_w v_z i)))]) hx hb dX2_fewestFrom_62 hl (k := 7) rfl (nI_add i 1) (by decide) rfl (fun ls hl => ?_)
        refine lv_goto (tgt := 10) hx hb dX2_fewestFrom_65 (by decide) ?_
        have hl : lv_has ls 8 [(0, .ref Yh), (1, .int (nI v_c)), (2, .int (nI v_w)), (3, .int (nI v_z)), (4, .int (nI (ffG (YS 2) v_c v_w v_z i))), (5, .int (nI v_z - nI (v_w * i + v_w))), (6, .int (nI (i + 1)))] := lv_sub hl [3, 4, 5, 6, 7, 1, 0] rfl
        rw [ffG_f (g := YS 2) (c := v_c) (w := v_w) (z := v_z) (i := i) hq7] at hl
        exact ih _ _ _ hP hD hS hl
      · skip
        refine lv_iload hx hb dX2_fewestFrom_52 (lv_at hl 0 rfl) ?_
        refine lv_istore (lv' := [(4, .int (nI (i + (YS 2 (((v_c + 1) * 61) + (v_z - (v_w * i))))))), (7, .int (nI (i + (YS 2 (((v_c + 1) * 61) + (v_z - (v_w * i))))))), (0, .ref Yh), (1, .int (nI v_c)), (2, .int (nI v_w)), (3, .int (nI v_z)), (5, .int (nI v_z - nI (v_w * i))), (6, .int (nI i))]) hx hb dX2_fewestFrom_54 hl (by decide) rfl (fun ls hl => ?_)
        refine lv_iload hx hb dX2_fewestFrom_56 (lv_at hl 6 rfl) ?_
        refine lv_iload_n hx hb dX2_fewestFrom_58 rfl (lv_at hl 4 rfl) ?_
        refine lv_isub hx hb dX2_fewestFrom_59 ?_
        refine set_i (y := nI v_z - nI (v_w * i + v_w)) (sub_st v_z (v_w * i) v_w) ?_
        refine lv_istore (lv' := [(5, .int (nI v_z - nI (v_w * i + v_w))), (4, .int (nI (i + (YS 2 (((v_c + 1) * 61) + (v_z - (v_w * i))))))), (7, .int (nI (i + (YS 2 (((v_c + 1) * 61) + (v_z - (v_w * i))))))), (0, .ref Yh), (1, .int (nI v_c)), (2, .int (nI v_w)), (3, .int (nI v_z)), (6, .int (nI i))]) hx hb dX2_fewestFrom_60 hl (by decide) rfl (fun ls hl => ?_)
        refine lv_iinc (v := nI (i + 1)) (lv' := [(6, .int (nI (i + 1))), (5, .int (nI v_z - nI (v_w * i + v_w))), (4, .int (nI (i + (YS 2 (((v_c + 1) * 61) + (v_z - (v_w * i))))))), (7, .int (nI (i + (YS 2 (((v_c + 1) * 61) + (v_z - (v_w * i))))))), (0, .ref Yh), (1, .int (nI v_c)), (2, .int (nI v_w)), (3, .int (nI v_z))]) hx hb dX2_fewestFrom_62 hl (k := 7) rfl (nI_add i 1) (by decide) rfl (fun ls hl => ?_)
        refine lv_goto (tgt := 10) hx hb dX2_fewestFrom_65 (by decide) ?_
        have hl : lv_has ls 8 [(0, .ref Yh), (1, .int (nI v_c)), (2, .int (nI v_w)), (3, .int (nI v_z)), (4, .int (nI (i + (YS 2 (((v_c + 1) * 61) + (v_z - (v_w * i))))))), (5, .int (nI v_z - nI (v_w * i + v_w))), (6, .int (nI (i + 1)))] := lv_sub hl [4, 5, 6, 7, 2, 1, 0] rfl
        rw [ffG_t (g := YS 2) (c := v_c) (w := v_w) (z := v_z) (i := i) hq5 hq7] at hl
        exact ih _ _ _ hP hD hS hl
