theorem dX6_type_0 : decode cX6_type 0 = .ok (.iload_n 1, 1) := by decide +kernel
theorem dX6_type_1 : decode cX6_type 1 = .ok (.ifCond .lt 10, 3) := by decide +kernel
theorem dX6_type_11 : decode cX6_type 11 = .ok (.iconst (-1), 1) := by decide +kernel
theorem dX6_type_12 : decode cX6_type 12 = .ok (.ireturn, 1) := by decide +kernel
theorem dX6_type_4 : decode cX6_type 4 = .ok (.iload_n 1, 1) := by decide +kernel
theorem dX6_type_5 : decode cX6_type 5 = .ok (.sipush 255, 3) := by decide +kernel
theorem dX6_type_8 : decode cX6_type 8 = .ok (.if_icmp .le 5, 3) := by decide +kernel
theorem dX6_type_13 : decode cX6_type 13 = .ok (.aload_n 0, 1) := by decide +kernel
theorem dX6_type_14 : decode cX6_type 14 = .ok (.getfield 13, 3) := by decide +kernel
theorem in_X6_type_6 : ∀ w ∈ wsX60, w ∈ wsX6_type := fun w h => List.mem_cons_of_mem _ (List.mem_append_right _ h)
theorem dX6_type_17 : decode cX6_type 17 = .ok (.sipush 180, 3) := by decide +kernel
theorem dX6_type_20 : decode cX6_type 20 = .ok (.if_icmp .lt 6, 3) := by decide +kernel
theorem dX6_type_26 : decode cX6_type 26 = .ok (.aload_n 0, 1) := by decide +kernel
theorem dX6_type_27 : decode cX6_type 27 = .ok (.getfield 9, 3) := by decide +kernel
theorem dX6_type_30 : decode cX6_type 30 = .ok (.aload_n 0, 1) := by decide +kernel
theorem dX6_type_31 : decode cX6_type 31 = .ok (.getfield 13, 3) := by decide +kernel
theorem dX6_type_34 : decode cX6_type 34 = .ok (.iload_n 1, 1) := by decide +kernel
theorem dX6_type_35 : decode cX6_type 35 = .ok (.iastore, 1) := by decide +kernel
theorem dX6_type_36 : decode cX6_type 36 = .ok (.aload_n 0, 1) := by decide +kernel
theorem dX6_type_37 : decode cX6_type 37 = .ok (.dup, 1) := by decide +kernel
theorem dX6_type_38 : decode cX6_type 38 = .ok (.getfield 13, 3) := by decide +kernel
theorem dX6_type_41 : decode cX6_type 41 = .ok (.iconst 1, 1) := by decide +kernel
theorem dX6_type_42 : decode cX6_type 42 = .ok (.iadd, 1) := by decide +kernel
theorem dX6_type_43 : decode cX6_type 43 = .ok (.putfield 13, 3) := by decide +kernel
theorem dX6_type_46 : decode cX6_type 46 = .ok (.aload_n 0, 1) := by decide +kernel
theorem dX6_type_47 : decode cX6_type 47 = .ok (.getfield 13, 3) := by decide +kernel
theorem dX6_type_50 : decode cX6_type 50 = .ok (.ireturn, 1) := by decide +kernel
set_option maxHeartbeats 4000000 in
set_option maxRecDepth 100000 in
theorem c_X_type (l : Launch) (D : va_G) (cI cB cZ cN : ClassId) (h0 : Nat) (x0 : Nat) (x1 : Nat) (x3 : Nat) (x11 : Nat) (x19 : Nat) (x22 : Nat) (x29 : Nat) (x33 : Nat) (x36 : Nat) (x42 : Nat) (v_c : Int32)  : Ci (S := Unit) l D cI cB cZ cN yX6_type wsX6_type ({ frames := 0, cells := 0, slots := 0, locals := 0 } : Room) [.ref h0, .int v_c] [(h0, .inr (6, [.ref x0, .int 0, .ref x1, .ref x3, .ref x11, .ref x19, .ref x22, .int 0, .ref x29, .ref x33, .ref x36, .ref x42, .int 0, .long 0])), (x0, .inl (cI, 180, .inl zf))] (fun (r : Int32) (_ : Unit) => r = tpA v_c) (fun u => []) := by
  refine bx_of (D := D) (cI := cI) (cB := cB) (cZ := cZ) (cN := cN) (y := yX6_type) (wd := wsX6_type) (rm := ({ frames := 0, cells := 0, slots := 0, locals := 0 } : Room)) (av := [.ref h0, .int v_c]) (wc := [(h0, .inr (6, [.ref x0, .int 0, .ref x1, .ref x3, .ref x11, .ref x19, .ref x22, .int 0, .ref x29, .ref x33, .ref x36, .ref x42, .int 0, .long 0])), (x0, .inl (cI, 180, .inl zf))]) (cc := cX6_type) (maxL := 2) (ret := (some .int)) (Qc := fun _ A => va_Qi (S := Unit) (fun (r : Int32) (_ : Unit) => r = tpA v_c) (Aft D (fun (u : Unit) => []) A) A) (by decide) rfl (Nat.le_of_ble_eq_true rfl) ?_
  intro p e s m below meth c A H locs ⟨hx, hb, hr, hml, hown, hts, hlk, hnm⟩ hK hP hD hS hA ls hl
  have hl : lv_has ls 2 [(0, .ref h0), (1, .int v_c)] := hl
  have hown : s.vm.findClass RX6 = some m.cls := hown
  refine lv_iload_n hx hb dX6_type_0 rfl (lv_at hl 1 rfl) ?_
  refine lv_if_lt (tgt := 11) hx hb dX6_type_1 (by decide) (fun h1 => ?_) (fun h1 => ?_)
  · skip
    refine lv_iconst (v := -1) hx hb dX6_type_11 (by decide) ?_
    exact en_i hx hb hr hlk hP hD hS () [] (by decide) rfl (Nat.le_of_ble_eq_true rfl) (Nat.le_of_ble_eq_true rfl) dX6_type_12 (if_pos (inz_lt h1)).symm
  · skip
    refine lv_iload_n hx hb dX6_type_4 rfl (lv_at hl 1 rfl) ?_
    refine lv_sipush (v := 255) hx hb dX6_type_5 (by decide) ?_
    refine lv_icmp_le (tgt := 13) hx hb dX6_type_8 (by decide) (fun h2 => ?_) (fun h2 => ?_)
    · skip
      refine lv_aload_n hx hb dX6_type_13 rfl (lv_at hl 0 rfl) ?_
      refine va_get (D := D) (ci := 6) (v := .int 0) (C := RX6) (T := TX6) (N := 14) hx hb hts in_X6_type_6 hown hK.1 hP 0 rfl rfl 1 (by decide) (hts (.fieldLink RX6 13 "ChildCoins" "typed" "I") (List.mem_of_getElem? (i := 1) rfl)) (fun _ h9 => h9) rfl dX6_type_14 ?_
      refine lv_sipush (v := 180) hx hb dX6_type_17 (by decide) ?_
      refine lv_icmp_lt (tgt := 26) hx hb dX6_type_20 (by decide) (fun h3 => ?_) (fun h3 => absurd (by decide) h3)
      refine lv_aload_n hx hb dX6_type_26 rfl (lv_at hl 0 rfl) ?_
      refine va_get (D := D) (ci := 6) (v := .ref x0) (C := RX6) (T := TX6) (N := 14) hx hb hts in_X6_type_6 hown hK.1 hP 0 rfl rfl 0 (by decide) (hts (.fieldLink RX6 9 "ChildCoins" "text" "[I") (List.mem_of_getElem? (i := 2) rfl)) (fun _ h9 => h9) rfl dX6_type_27 ?_
      refine lv_aload_n hx hb dX6_type_30 rfl (lv_at hl 0 rfl) ?_
      refine va_get (D := D) (ci := 6) (v := .int 0) (C := RX6) (T := TX6) (N := 14) hx hb hts in_X6_type_6 hown hK.1 hP 0 rfl rfl 1 (by decide) (hts (.fieldLink RX6 13 "ChildCoins" "typed" "I") (List.mem_of_getElem? (i := 1) rfl)) (fun _ h9 => h9) rfl dX6_type_31 ?_
      refine lv_iload_n hx hb dX6_type_34 rfl (lv_at hl 1 rfl) ?_
      refine va_iast hx hb hK.1 hP hD hS 1 0 rfl rfl (vp_in_nI (n := 0) (N := 180) (by decide) (by decide)) dX6_type_35 (fun H locs hP hD hS => ?_)
      have hP : va_P D vwCl [(h0, .inr (6, [.ref x0, .int 0, .ref x1, .ref x3, .ref x11, .ref x19, .ref x22, .int 0, .ref x29, .ref x33, .ref x36, .ref x42, .int 0, .long 0])), (x0, .inl (cI, 180, .inl (upd zf 0 v_c)))] H := hP
      have hD : va_D A [(h0, .inr (6, [.ref x0, .int 0, .ref x1, .ref x3, .ref x11, .ref x19, .ref x22, .int 0, .ref x29, .ref x33, .ref x36, .ref x42, .int 0, .long 0])), (x0, .inl (cI, 180, .inl (upd zf 0 v_c)))] := hD
      refine lv_aload_n hx hb dX6_type_36 rfl (lv_at hl 0 rfl) ?_
      refine lv_dup hx hb dX6_type_37 rfl ?_
      refine va_get (D := D) (ci := 6) (v := .int 0) (C := RX6) (T := TX6) (N := 14) hx hb hts in_X6_type_6 hown hK.1 hP 0 rfl rfl 1 (by decide) (hts (.fieldLink RX6 13 "ChildCoins" "typed" "I") (List.mem_of_getElem? (i := 1) rfl)) (fun _ h9 => h9) rfl dX6_type_38 ?_
      refine lv_iconst (v := 1) hx hb dX6_type_41 (by decide) ?_
      refine lv_iadd hx hb dX6_type_42 ?_
      refine set_i (y := 1) (by decide) ?_
      refine va_put (D := D) (ci := 6) (v := .int 1) (ty := tyX6 1) (C := RX6) (T := TX6) (N := 14) hx hb hts in_X6_type_6 tyX6 tyX6_ok nmX6 hown hK.1 hP hD hS 0 rfl rfl 1 (by decide) (hts (.fieldLink RX6 13 "ChildCoins" "typed" "I") (List.mem_of_getElem? (i := 1) rfl)) (fun _ h9 => h9) rfl (tyX6_ok 1 (by decide)) rfl rfl (Nat.le_of_ble_eq_true rfl) dX6_type_43 (fun H locs hP hD hS => ?_)
      have hP : va_P D vwCl [(h0, .inr (6, [.ref x0, .int 1, .ref x1, .ref x3, .ref x11, .ref x19, .ref x22, .int 0, .ref x29, .ref x33, .ref x36, .ref x42, .int 0, .long 0])), (x0, .inl (cI, 180, .inl (upd zf 0 v_c)))] H := hP
      have hD : va_D A [(h0, .inr (6, [.ref x0, .int 1, .ref x1, .ref x3, .ref x11, .ref x19, .ref x22, .int 0, .ref x29, .ref x33, .ref x36, .ref x42, .int 0, .long 0])), (x0, .inl (cI, 180, .inl (upd zf 0 v_c)))] := hD
      refine lv_aload_n hx hb dX6_type_46 rfl (lv_at hl 0 rfl) ?_
      refine va_get (D := D) (ci := 6) (v := .int 1) (C := RX6) (T := TX6) (N := 14) hx hb hts in_X6_type_6 hown hK.1 hP 0 rfl rfl 1 (by decide) (hts (.fieldLink RX6 13 "ChildCoins" "typed" "I") (List.mem_of_getElem? (i := 1) rfl)) (fun _ h9 => h9) rfl dX6_type_47 ?_
      exact en_i hx hb hr hlk hP hD hS () [] (by decide) rfl (Nat.le_of_ble_eq_true rfl) (Nat.le_of_ble_eq_true rfl) dX6_type_50 (if_neg (inz_10 (inz_in2 h1 h2))).symm
    · skip
      refine lv_iconst (v := -1) hx hb dX6_type_11 (by decide) ?_
      exact en_i hx hb hr hlk hP hD hS () [] (by decide) rfl (Nat.le_of_ble_eq_true rfl) (Nat.le_of_ble_eq_true rfl) dX6_type_12 (if_pos (inz_nle h2)).symm
theorem dX6_clear_0 : decode cX6_clear 0 = .ok (.aload_n 0, 1) := by decide +kernel
theorem dX6_clear_1 : decode cX6_clear 1 = .ok (.getfield 13, 3) := by decide +kernel
theorem in_X6_clear_6 : ∀ w ∈ wsX60, w ∈ wsX6_clear := fun w h => List.mem_cons_of_mem _ (List.mem_append_right _ h)
theorem dX6_clear_4 : decode cX6_clear 4 = .ok (.istore_n 1, 1) := by decide +kernel
theorem dX6_clear_5 : decode cX6_clear 5 = .ok (.aload_n 0, 1) := by decide +kernel
theorem dX6_clear_6 : decode cX6_clear 6 = .ok (.iconst 0, 1) := by decide +kernel
theorem dX6_clear_7 : decode cX6_clear 7 = .ok (.putfield 13, 3) := by decide +kernel
theorem dX6_clear_10 : decode cX6_clear 10 = .ok (.iload_n 1, 1) := by decide +kernel
theorem dX6_clear_11 : decode cX6_clear 11 = .ok (.ireturn, 1) := by decide +kernel
set_option maxHeartbeats 4000000 in
set_option maxRecDepth 100000 in
theorem c_X_clear (l : Launch) (D : va_G) (cI cB cZ cN : ClassId) (h0 : Nat) (x0 : Nat) (x1 : Nat) (x3 : Nat) (x11 : Nat) (x19 : Nat) (x22 : Nat) (x29 : Nat) (x33 : Nat) (x36 : Nat) (x42 : Nat)  : Ci (S := Unit) l D cI cB cZ cN yX6_clear wsX6_clear ({ frames := 0, cells := 0, slots := 0, locals := 0 } : Room) [.ref h0] [(h0, .inr (6, [.ref x0, .int 0, .ref x1, .ref x3, .ref x11, .ref x19, .ref x22, .int 0, .ref x29, .ref x33, .ref x36, .ref x42, .int 0, .long 0]))] (fun (r : Int32) (_ : Unit) => r = 0) (fun u => []) := by
  refine bx_of (D := D) (cI := cI) (cB := cB) (cZ := cZ) (cN := cN) (y := yX6_clear) (wd := wsX6_clear) (rm := ({ frames := 0, cells := 0, slots := 0, locals := 0 } : Room)) (av := [.ref h0]) (wc := [(h0, .inr (6, [.ref x0, .int 0, .ref x1, .ref x3, .ref x11, .ref x19, .ref x22, .int 0, .ref x29, .ref x33, .ref x36, .ref x42, .int 0, .long 0]))]) (cc := cX6_clear) (maxL := 2) (ret := (some .int)) (Qc := fun _ A => va_Qi (S := Unit) (fun (r : Int32) (_ : Unit) => r = 0) (Aft D (fun (u : Unit) => []) A) A) (by decide) rfl (Nat.le_of_ble_eq_true rfl) ?_
  intro p e s m below meth c A H locs ⟨hx, hb, hr, hml, hown, hts, hlk, hnm⟩ hK hP hD hS hA ls hl
  have hl : lv_has ls 2 [(0, .ref h0)] := hl
  have hown : s.vm.findClass RX6 = some m.cls := hown
  refine lv_aload_n hx hb dX6_clear_0 rfl (lv_at hl 0 rfl) ?_
  refine va_get (D := D) (ci := 6) (v := .int 0) (C := RX6) (T := TX6) (N := 14) hx hb hts in_X6_clear_6 hown hK.1 hP 0 rfl rfl 1 (by decide) (hts (.fieldLink RX6 13 "ChildCoins" "typed" "I") (List.mem_of_getElem? (i := 1) rfl)) (fun _ h9 => h9) rfl dX6_clear_1 ?_
  refine lv_istore_n (lv' := [(1, .int 0), (0, .ref h0)]) hx hb dX6_clear_4 rfl hl (by decide) rfl (fun ls hl => ?_)
  refine lv_aload_n hx hb dX6_clear_5 rfl (lv_at hl 1 rfl) ?_
  refine lv_iconst (v := 0) hx hb dX6_clear_6 (by decide) ?_
  refine va_put (D := D) (ci := 6) (v := .int 0) (ty := tyX6 1) (C := RX6) (T := TX6) (N := 14) hx hb hts in_X6_clear_6 tyX6 tyX6_ok nmX6 hown hK.1 hP hD hS 0 rfl rfl 1 (by decide) (hts (.fieldLink RX6 13 "ChildCoins" "typed" "I") (List.mem_of_getElem? (i := 1) rfl)) (fun _ h9 => h9) rfl (tyX6_ok 1 (by decide)) rfl rfl (Nat.le_of_ble_eq_true rfl) dX6_clear_7 (fun H locs hP hD hS => ?_)
  have hP : va_P D vwCl [(h0, .inr (6, [.ref x0, .int 0, .ref x1, .ref x3, .ref x11, .ref x19, .ref x22, .int 0, .ref x29, .ref x33, .ref x36, .ref x42, .int 0, .long 0]))] H := hP
  have hD : va_D A [(h0, .inr (6, [.ref x0, .int 0, .ref x1, .ref x3, .ref x11, .ref x19, .ref x22, .int 0, .ref x29, .ref x33, .ref x36, .ref x42, .int 0, .long 0]))] := hD
  refine lv_iload_n hx hb dX6_clear_10 rfl (lv_at hl 0 rfl) ?_
  exact en_i hx hb hr hlk hP hD hS () [] (by decide) rfl (Nat.le_of_ble_eq_true rfl) (Nat.le_of_ble_eq_true rfl) dX6_clear_11 rfl
theorem dX6_land_0 : decode cX6_land 0 = .ok (.aload_n 0, 1) := by decide +kernel
theorem dX6_land_1 : decode cX6_land 1 = .ok (.getfield 20, 3) := by decide +kernel
theorem in_X6_land_6 : ∀ w ∈ wsX60, w ∈ wsX6_land := fun w h => List.mem_cons_of_mem _ (List.mem_append_left _ (List.mem_append_left _ (List.mem_append_left _ (List.mem_append_right _ h))))
theorem dX6_land_4 : decode cX6_land 4 = .ok (.aload_n 0, 1) := by decide +kernel
theorem dX6_land_5 : decode cX6_land 5 = .ok (.getfield 9, 3) := by decide +kernel
theorem dX6_land_8 : decode cX6_land 8 = .ok (.aload_n 0, 1) := by decide +kernel
theorem dX6_land_9 : decode cX6_land 9 = .ok (.getfield 13, 3) := by decide +kernel
theorem dX6_land_12 : decode cX6_land 12 = .ok (.aload_n 0, 1) := by decide +kernel
theorem dX6_land_13 : decode cX6_land 13 = .ok (.getfield 31, 3) := by decide +kernel
theorem dX6_land_16 : decode cX6_land 16 = .ok (.invokevirtual 79, 3) := by decide +kernel
set_option maxRecDepth 20000 in
theorem ggX6_land_X3_read : GoodIn wsX6_land wsX3_read := goodIn_r _ [12, 13, 14, 15, 16, 17, 18, 19, 20, 21, 22, 23, 24, 25, 26, 27, 28, 29, 30, 31, 32, 33, 34, 10, 35, 36, 37, 38, 39, 40, 41, 42, 43, 44, 45, 46, 47, 48, 49, 50, 51, 52, 53, 54, 55, 56, 57, 58, 59, 60, 61, 62, 63, 64, 65, 66, 67, 68, 69, 70, 71, 72, 73, 74, 75, 76, 77, 78, 79, 104, 105, 106, 107, 108, 109, 110, 111, 112, 113, 114, 115, 116, 117, 118, 119, 120, 121] (by decide +kernel) (by decide +kernel)
theorem dX6_land_19 : decode cX6_land 19 = .ok (.istore_n 1, 1) := by decide +kernel
theorem dX6_land_20 : decode cX6_land 20 = .ok (.iload_n 1, 1) := by decide +kernel
theorem dX6_land_21 : decode cX6_land 21 = .ok (.ifCond .ge 5, 3) := by decide +kernel
theorem dX6_land_26 : decode cX6_land 26 = .ok (.aload_n 0, 1) := by decide +kernel
theorem dX6_land_27 : decode cX6_land 27 = .ok (.getfield 27, 3) := by decide +kernel
theorem dX6_land_30 : decode cX6_land 30 = .ok (.astore_n 2, 1) := by decide +kernel
theorem dX6_land_31 : decode cX6_land 31 = .ok (.aload_n 0, 1) := by decide +kernel
theorem dX6_land_32 : decode cX6_land 32 = .ok (.aload_n 0, 1) := by decide +kernel
theorem dX6_land_33 : decode cX6_land 33 = .ok (.getfield 31, 3) := by decide +kernel
theorem dX6_land_36 : decode cX6_land 36 = .ok (.putfield 27, 3) := by decide +kernel
theorem dX6_land_39 : decode cX6_land 39 = .ok (.aload_n 0, 1) := by decide +kernel
theorem dX6_land_40 : decode cX6_land 40 = .ok (.aload_n 2, 1) := by decide +kernel
theorem dX6_land_41 : decode cX6_land 41 = .ok (.putfield 31, 3) := by decide +kernel
theorem dX6_land_44 : decode cX6_land 44 = .ok (.aload_n 0, 1) := by decide +kernel
theorem dX6_land_45 : decode cX6_land 45 = .ok (.getfield 37, 3) := by decide +kernel
theorem dX6_land_48 : decode cX6_land 48 = .ok (.aload_n 0, 1) := by decide +kernel
theorem dX6_land_49 : decode cX6_land 49 = .ok (.getfield 27, 3) := by decide +kernel
theorem dX6_land_52 : decode cX6_land 52 = .ok (.invokevirtual 83, 3) := by decide +kernel
set_option maxRecDepth 20000 in
theorem ggX6_land_X1_begin : GoodIn wsX6_land wsX1_begin := goodIn_r _ [83, 84, 85, 86, 87, 88, 89, 110, 111, 112, 113, 114, 115, 116, 117, 118, 119, 120, 121, 122, 123, 124] (by decide +kernel) (by decide +kernel)
theorem dX6_land_55 : decode cX6_land 55 = .ok (.aload_n 0, 1) := by decide +kernel
theorem dX6_land_56 : decode cX6_land 56 = .ok (.iconst 0, 1) := by decide +kernel
theorem dX6_land_57 : decode cX6_land 57 = .ok (.putfield 45, 3) := by decide +kernel
theorem dX6_land_60 : decode cX6_land 60 = .ok (.aload_n 0, 1) := by decide +kernel
theorem dX6_land_61 : decode cX6_land 61 = .ok (.iconst 0, 1) := by decide +kernel
theorem dX6_land_62 : decode cX6_land 62 = .ok (.putfield 72, 3) := by decide +kernel
theorem dX6_land_65 : decode cX6_land 65 = .ok (.aload_n 0, 1) := by decide +kernel
theorem dX6_land_66 : decode cX6_land 66 = .ok (.iconst 0, 1) := by decide +kernel
theorem dX6_land_67 : decode cX6_land 67 = .ok (.putfield 13, 3) := by decide +kernel
theorem dX6_land_70 : decode cX6_land 70 = .ok (.iload_n 1, 1) := by decide +kernel
theorem dX6_land_71 : decode cX6_land 71 = .ok (.ireturn, 1) := by decide +kernel
set_option maxHeartbeats 4000000 in
set_option maxRecDepth 100000 in
theorem c_X_land (l : Launch) (D : va_G) (cI cB cZ cN : ClassId) (h0 : Nat) (x0 : Nat) (x1 : Nat) (x3 : Nat) (x11 : Nat) (x19 : Nat) (x22 : Nat) (x29 : Nat) (x33 : Nat) (x36 : Nat) (x42 : Nat) (x2 : Nat) (x4 : Nat) (x5 : Nat) (x6 : Nat) (x7 : Nat) (x8 : Nat) (x9 : Nat) (x10 : Nat) (x12 : Nat) (x13 : Nat) (x14 : Nat) (x15 : Nat) (x16 : Nat) (x17 : Nat) (x18 : Nat) (x20 : Nat) (x21 : Nat)  : Ci (S := Unit) l D cI cB cZ cN yX6_land wsX6_land ({ frames := 2, cells := 0, slots := 0, locals := 61 } : Room) [.ref h0] [(h0, .inr (6, [.ref x0, .int 0, .ref x1, .ref x3, .ref x11, .ref x19, .ref x22, .int 0, .ref x29, .ref x33, .ref x36, .ref x42, .int 0, .long 0])), (x1, .inr (3, [.ref x2, .int 0, .int 0, .int 0, .int 0, .int 0])), (x0, .inl (cI, 180, .inl zf)), (x3, .inr (0, [.int 0, .ref x4, .ref x5, .int 0, .ref x6, .ref x7, .int 0, .ref x8, .ref x9, .ref x10, .int 9, .int 0])), (x11, .inr (0, [.int 0, .ref x12, .ref x13, .int 0, .ref x14, .ref x15, .int 0, .ref x16, .ref x17, .ref x18, .int 9, .int 0])), (x15, .inl (cI, 30, .inl zf)), (x17, .inl (cI, 5, .inl zf)), (x19, .inr (1, [.ref x20, .ref x21, .int 0])), (x20, .inl (cI, 36, .inl zf))] (fun (r : Int32) (_ : Unit) => r = 0) (fun u => []) := by
  refine bx_of (D := D) (cI := cI) (cB := cB) (cZ := cZ) (cN := cN) (y := yX6_land) (wd := wsX6_land) (rm := ({ frames := 2, cells := 0, slots := 0, locals := 61 } : Room)) (av := [.ref h0]) (wc := [(h0, .inr (6, [.ref x0, .int 0, .ref x1, .ref x3, .ref x11, .ref x19, .ref x22, .int 0, .ref x29, .ref x33, .ref x36, .ref x42, .int 0, .long 0])), (x1, .inr (3, [.ref x2, .int 0, .int 0, .int 0, .int 0, .int 0])), (x0, .inl (cI, 180, .inl zf)), (x3, .inr (0, [.int 0, .ref x4, .ref x5, .int 0, .ref x6, .ref x7, .int 0, .ref x8, .ref x9, .ref x10, .int 9, .int 0])), (x11, .inr (0, [.int 0, .ref x12, .ref x13, .int 0, .ref x14, .ref x15, .int 0, .ref x16, .ref x17, .ref x18, .int 9, .int 0])), (x15, .inl (cI, 30, .inl zf)), (x17, .inl (cI, 5, .inl zf)), (x19, .inr (1, [.ref x20, .ref x21, .int 0])), (x20, .inl (cI, 36, .inl zf))]) (cc := cX6_land) (maxL := 3) (ret := (some .int)) (Qc := fun _ A => va_Qi (S := Unit) (fun (r : Int32) (_ : Unit) => r = 0) (Aft D (fun (u : Unit) => []) A) A) (by decide) rfl (Nat.le_of_ble_eq_true rfl) ?_
  intro p e s m below meth c A H locs ⟨hx, hb, hr, hml, hown, hts, hlk, hnm⟩ hK hP hD hS hA ls hl
  have hl : lv_has ls 3 [(0, .ref h0)] := hl
  have hown : s.vm.findClass RX6 = some m.cls := hown
  refine lv_aload_n hx hb dX6_land_0 rfl (lv_at hl 0 rfl) ?_
  refine va_get (D := D) (ci := 6) (v := .ref x1) (C := RX6) (T := TX6) (N := 14) hx hb hts in_X6_land_6 hown hK.1 hP 0 rfl rfl 2 (by decide) (hts (.fieldLink RX6 20 "ChildCoins" "reader" "LChildCoins$Reader;") (List.mem_of_getElem? (i := 1) rfl)) (fun _ h9 => h9) rfl dX6_land_1 ?_
  refine lv_aload_n hx hb dX6_land_4 rfl (lv_at hl 0 rfl) ?_
  refine va_get (D := D) (ci := 6) (v := .ref x0) (C := RX6) (T := TX6) (N := 14) hx hb hts in_X6_land_6 hown hK.1 hP 0 rfl rfl 0 (by decide) (hts (.fieldLink RX6 9 "ChildCoins" "text" "[I") (List.mem_of_getElem? (i := 2) rfl)) (fun _ h9 => h9) rfl dX6_land_5 ?_
  refine lv_aload_n hx hb dX6_land_8 rfl (lv_at hl 0 rfl) ?_
  refine va_get (D := D) (ci := 6) (v := .int 0) (C := RX6) (T := TX6) (N := 14) hx hb hts in_X6_land_6 hown hK.1 hP 0 rfl rfl 1 (by decide) (hts (.fieldLink RX6 13 "ChildCoins" "typed" "I") (List.mem_of_getElem? (i := 3) rfl)) (fun _ h9 => h9) rfl dX6_land_9 ?_
  refine lv_aload_n hx hb dX6_land_12 rfl (lv_at hl 0 rfl) ?_
  refine va_get (D := D) (ci := 6) (v := .ref x11) (C := RX6) (T := TX6) (N := 14) hx hb hts in_X6_land_6 hown hK.1 hP 0 rfl rfl 4 (by decide) (hts (.fieldLink RX6 31 "ChildCoins" "draft" "LChildCoins$Land;") (List.mem_of_getElem? (i := 4) rfl)) (fun _ h9 => h9) rfl dX6_land_13 ?_
  refine be_i (free := va_A [(x1, .inr (3, [.ref x2, .int 0, .int 0, .int 0, .int 0, .int 0])), (x0, .inl (cI, 180, .inl zf)), (x11, .inr (0, [.int 0, .ref x12, .ref x13, .int 0, .ref x14, .ref x15, .int 0, .ref x16, .ref x17, .ref x18, .int 9, .int 0])), (x15, .inl (cI, 30, .inl zf))] H.size) (wc := [(x1, .inr (3, [.ref x2, .int 0, .int 0, .int 0, .int 0, .int 0])), (x0, .inl (cI, 180, .inl zf)), (x11, .inr (0, [.int 0, .ref x12, .ref x13, .int 0, .ref x14, .ref x15, .int 0, .ref x16, .ref x17, .ref x18, .int 9, .int 0])), (x15, .inl (cI, 30, .inl zf))]) (wr := [(h0, .inr (6, [.ref x0, .int 0, .ref x1, .ref x3, .ref x11, .ref x19, .ref x22, .int 0, .ref x29, .ref x33, .ref x36, .ref x42, .int 0, .long 0])), (x3, .inr (0, [.int 0, .ref x4, .ref x5, .int 0, .ref x6, .ref x7, .int 0, .ref x8, .ref x9, .ref x10, .int 9, .int 0])), (x17, .inl (cI, 5, .inl zf)), (x19, .inr (1, [.ref x20, .ref x21, .int 0])), (x20, .inl (cI, 36, .inl zf))]) (ru_N (C := RX3) (host := "ChildCoins") (As := [.ref x0, .int 0, .ref x11]) (rest := []) ⟨hx, hb, hml, hown, hts⟩ (c_R_read l D cI cB cZ cN x0 x1 x2 x11 x12 x13 x14 x15 x16 x17 x18 H.size) ggX6_land_X3_read rfl (nmX6_79 hK.2) (hts (.initialized RX3) (List.mem_of_getElem? (i := 10) rfl)) (hts (.instanceMethod yX3_read) (List.mem_of_getElem? (i := 9) rfl)) (hts (.selects RX3 yX3_read yX3_read) (List.mem_of_getElem? (i := 11) rfl)) ⟨by decide, by decide, (show Option.map (fun d => d.parameters.length) (parseMethodDescriptor yX3_read.desc) = some 3 by decide +kernel)⟩ ⟨Nat.le_of_ble_eq_true rfl, Nat.le_of_ble_eq_true rfl⟩ hK hP hD 3 1 rfl rfl [1, 2, 4, 5] (by decide) rfl hl.1 rfl (Nat.le_of_ble_eq_true rfl) dX6_land_16 ⟨Nat.le_of_ble_eq_true rfl, Nat.le_of_ble_eq_true rfl⟩) hP hD hS hA [1, 2, 4, 5] [0, 3, 6, 7, 8] rfl rfl (by decide) (by decide) (fun r2 u1 H locs w3 hP hD hS => ?_)
  have hP : va_P D vwCl [(h0, .inr (6, [.ref x0, .int 0, .ref x1, .ref x3, .ref x11, .ref x19, .ref x22, .int 0, .ref x29, .ref x33, .ref x36, .ref x42, .int 0, .long 0])), (x3, .inr (0, [.int 0, .ref x4, .ref x5, .int 0, .ref x6, .ref x7, .int 0, .ref x8, .ref x9, .ref x10, .int 9, .int 0])), (x17, .inl (cI, 5, .inl zf)), (x19, .inr (1, [.ref x20, .ref x21, .int 0])), (x20, .inl (cI, 36, .inl zf)), (x1, .inr (3, [.ref x0, .int 0, .int 0, .int 0, .int 0, .int 0])), (x0, .inl (cI, 180, .inl zf)), (x11, .inr (0, [.int 0, .ref x12, .ref x13, .int 0, .ref x14, .ref x15, .int 0, .ref x16, .ref x17, .ref x18, .int 9, .int 0])), (x15, .inl (cI, 30, .inl zf))] H := hP
  have hD : va_D A [(h0, .inr (6, [.ref x0, .int 0, .ref x1, .ref x3, .ref x11, .ref x19, .ref x22, .int 0, .ref x29, .ref x33, .ref x36, .ref x42, .int 0, .long 0])), (x3, .inr (0, [.int 0, .ref x4, .ref x5, .int 0, .ref x6, .ref x7, .int 0, .ref x8, .ref x9, .ref x10, .int 9, .int 0])), (x17, .inl (cI, 5, .inl zf)), (x19, .inr (1, [.ref x20, .ref x21, .int 0])), (x20, .inl (cI, 36, .inl zf)), (x1, .inr (3, [.ref x0, .int 0, .int 0, .int 0, .int 0, .int 0])), (x0, .inl (cI, 180, .inl zf)), (x11, .inr (0, [.int 0, .ref x12, .ref x13, .int 0, .ref x14, .ref x15, .int 0, .ref x16, .ref x17, .ref x18, .int 9, .int 0])), (x15, .inl (cI, 30, .inl zf))] := hD
  obtain rfl : r2 = 0 := w3
  refine lv_istore_n (lv' := [(1, .int 0), (0, .ref h0)]) hx hb dX6_land_19 rfl hl (by decide) rfl (fun ls hl => ?_)
  refine lv_iload_n hx hb dX6_land_20 rfl (lv_at hl 0 rfl) ?_
  refine lv_if_ge (tgt := 26) hx hb dX6_land_21 (by decide) (fun h4 => ?_) (fun h4 => absurd (by decide) h4)
  refine lv_aload_n hx hb dX6_land_26 rfl (lv_at hl 1 rfl) ?_
  refine va_get (D := D) (ci := 6) (v := .ref x3) (C := RX6) (T := TX6) (N := 14) hx hb hts in_X6_land_6 hown hK.1 hP 0 rfl rfl 3 (by decide) (hts (.fieldLink RX6 27 "ChildCoins" "ours" "LChildCoins$Land;") (List.mem_of_getElem? (i := 5) rfl)) (fun _ h9 => h9) rfl dX6_land_27 ?_
  refine lv_astore_n (lv' := [(2, .ref x3), (1, .int 0), (0, .ref h0)]) hx hb dX6_land_30 rfl hl (by decide) rfl (fun ls hl => ?_)
  refine lv_aload_n hx hb dX6_land_31 rfl (lv_at hl 2 rfl) ?_
  refine lv_aload_n hx hb dX6_land_32 rfl (lv_at hl 2 rfl) ?_
  refine va_get (D := D) (ci := 6) (v := .ref x11) (C := RX6) (T := TX6) (N := 14) hx hb hts in_X6_land_6 hown hK.1 hP 0 rfl rfl 4 (by decide) (hts (.fieldLink RX6 31 "ChildCoins" "draft" "LChildCoins$Land;") (List.mem_of_getElem? (i := 4) rfl)) (fun _ h9 => h9) rfl dX6_land_33 ?_
  refine va_put (D := D) (ci := 6) (v := .ref x11) (ty := tyX6 3) (C := RX6) (T := TX6) (N := 14) hx hb hts in_X6_land_6 tyX6 tyX6_ok nmX6 hown hK.1 hP hD hS 0 rfl rfl 3 (by decide) (hts (.fieldLink RX6 27 "ChildCoins" "ours" "LChildCoins$Land;") (List.mem_of_getElem? (i := 5) rfl)) (fun _ h9 => h9) rfl (tyX6_ok 3 (by decide)) rfl rfl (Nat.le_of_ble_eq_true rfl) dX6_land_36 (fun H locs hP hD hS => ?_)
  have hP : va_P D vwCl [(h0, .inr (6, [.ref x0, .int 0, .ref x1, .ref x11, .ref x11, .ref x19, .ref x22, .int 0, .ref x29, .ref x33, .ref x36, .ref x42, .int 0, .long 0])), (x3, .inr (0, [.int 0, .ref x4, .ref x5, .int 0, .ref x6, .ref x7, .int 0, .ref x8, .ref x9, .ref x10, .int 9, .int 0])), (x17, .inl (cI, 5, .inl zf)), (x19, .inr (1, [.ref x20, .ref x21, .int 0])), (x20, .inl (cI, 36, .inl zf)), (x1, .inr (3, [.ref x0, .int 0, .int 0, .int 0, .int 0, .int 0])), (x0, .inl (cI, 180, .inl zf)), (x11, .inr (0, [.int 0, .ref x12, .ref x13, .int 0, .ref x14, .ref x15, .int 0, .ref x16, .ref x17, .ref x18, .int 9, .int 0])), (x15, .inl (cI, 30, .inl zf))] H := hP
  have hD : va_D A [(h0, .inr (6, [.ref x0, .int 0, .ref x1, .ref x11, .ref x11, .ref x19, .ref x22, .int 0, .ref x29, .ref x33, .ref x36, .ref x42, .int 0, .long 0])), (x3, .inr (0, [.int 0, .ref x4, .ref x5, .int 0, .ref x6, .ref x7, .int 0, .ref x8, .ref x9, .ref x10, .int 9, .int 0])), (x17, .inl (cI, 5, .inl zf)), (x19, .inr (1, [.ref x20, .ref x21, .int 0])), (x20, .inl (cI, 36, .inl zf)), (x1, .inr (3, [.ref x0, .int 0, .int 0, .int 0, .int 0, .int 0])), (x0, .inl (cI, 180, .inl zf)), (x11, .inr (0, [.int 0, .ref x12, .ref x13, .int 0, .ref x14, .ref x15, .int 0, .ref x16, .ref x17, .ref x18, .int 9, .int 0])), (x15, .inl (cI, 30, .inl zf))] := hD
  refine lv_aload_n hx hb dX6_land_39 rfl (lv_at hl 2 rfl) ?_
  refine lv_aload_n hx hb dX6_land_40 rfl (lv_at hl 0 rfl) ?_
  refine va_put (D := D) (ci := 6) (v := .ref x3) (ty := tyX6 4) (C := RX6) (T := TX6) (N := 14) hx hb hts in_X6_land_6 tyX6 tyX6_ok nmX6 hown hK.1 hP hD hS 0 rfl rfl 4 (by decide) (hts (.fieldLink RX6 31 "ChildCoins" "draft" "LChildCoins$Land;") (List.mem_of_getElem? (i := 4) rfl)) (fun _ h9 => h9) rfl (tyX6_ok 4 (by decide)) rfl rfl (Nat.le_of_ble_eq_true rfl) dX6_land_41 (fun H locs hP hD hS => ?_)
  have hP : va_P D vwCl [(h0, .inr (6, [.ref x0, .int 0, .ref x1, .ref x11, .ref x3, .ref x19, .ref x22, .int 0, .ref x29, .ref x33, .ref x36, .ref x42, .int 0, .long 0])), (x3, .inr (0, [.int 0, .ref x4, .ref x5, .int 0, .ref x6, .ref x7, .int 0, .ref x8, .ref x9, .ref x10, .int 9, .int 0])), (x17, .inl (cI, 5, .inl zf)), (x19, .inr (1, [.ref x20, .ref x21, .int 0])), (x20, .inl (cI, 36, .inl zf)), (x1, .inr (3, [.ref x0, .int 0, .int 0, .int 0, .int 0, .int 0])), (x0, .inl (cI, 180, .inl zf)), (x11, .inr (0, [.int 0, .ref x12, .ref x13, .int 0, .ref x14, .ref x15, .int 0, .ref x16, .ref x17, .ref x18, .int 9, .int 0])), (x15, .inl (cI, 30, .inl zf))] H := hP
  have hD : va_D A [(h0, .inr (6, [.ref x0, .int 0, .ref x1, .ref x11, .ref x3, .ref x19, .ref x22, .int 0, .ref x29, .ref x33, .ref x36, .ref x42, .int 0, .long 0])), (x3, .inr (0, [.int 0, .ref x4, .ref x5, .int 0, .ref x6, .ref x7, .int 0, .ref x8, .ref x9, .ref x10, .int 9, .int 0])), (x17, .inl (cI, 5, .inl zf)), (x19, .inr (1, [.ref x20, .ref x21, .int 0])), (x20, .inl (cI, 36, .inl zf)), (x1, .inr (3, [.ref x0, .int 0, .int 0, .int 0, .int 0, .int 0])), (x0, .inl (cI, 180, .inl zf)), (x11, .inr (0, [.int 0, .ref x12, .ref x13, .int 0, .ref x14, .ref x15, .int 0, .ref x16, .ref x17, .ref x18, .int 9, .int 0])), (x15, .inl (cI, 30, .inl zf))] := hD
  refine lv_aload_n hx hb dX6_land_44 rfl (lv_at hl 2 rfl) ?_
  refine va_get (D := D) (ci := 6) (v := .ref x19) (C := RX6) (T := TX6) (N := 14) hx hb hts in_X6_land_6 hown hK.1 hP 0 rfl rfl 5 (by decide) (hts (.fieldLink RX6 37 "ChildCoins" "present" "LChildCoins$Now;") (List.mem_of_getElem? (i := 6) rfl)) (fun _ h9 => h9) rfl dX6_land_45 ?_
  refine lv_aload_n hx hb dX6_land_48 rfl (lv_at hl 2 rfl) ?_
  refine va_get (D := D) (ci := 6) (v := .ref x11) (C := RX6) (T := TX6) (N := 14) hx hb hts in_X6_land_6 hown hK.1 hP 0 rfl rfl 3 (by decide) (hts (.fieldLink RX6 27 "ChildCoins" "ours" "LChildCoins$Land;") (List.mem_of_getElem? (i := 5) rfl)) (fun _ h9 => h9) rfl dX6_land_49 ?_
  refine be_v (free := va_A [(x19, .inr (1, [.ref x20, .ref x21, .int 0])), (x20, .inl (cI, 36, .inl zf)), (x11, .inr (0, [.int 0, .ref x12, .ref x13, .int 0, .ref x14, .ref x15, .int 0, .ref x16, .ref x17, .ref x18, .int 9, .int 0])), (x15, .inl (cI, 30, .inl zf)), (x17, .inl (cI, 5, .inl zf))] H.size) (wc := [(x19, .inr (1, [.ref x20, .ref x21, .int 0])), (x20, .inl (cI, 36, .inl zf)), (x11, .inr (0, [.int 0, .ref x12, .ref x13, .int 0, .ref x14, .ref x15, .int 0, .ref x16, .ref x17, .ref x18, .int 9, .int 0])), (x15, .inl (cI, 30, .inl zf)), (x17, .inl (cI, 5, .inl zf))]) (wr := [(h0, .inr (6, [.ref x0, .int 0, .ref x1, .ref x11, .ref x3, .ref x19, .ref x22, .int 0, .ref x29, .ref x33, .ref x36, .ref x42, .int 0, .long 0])), (x3, .inr (0, [.int 0, .ref x4, .ref x5, .int 0, .ref x6, .ref x7, .int 0, .ref x8, .ref x9, .ref x10, .int 9, .int 0])), (x1, .inr (3, [.ref x0, .int 0, .int 0, .int 0, .int 0, .int 0])), (x0, .inl (cI, 180, .inl zf))]) (ru_N (C := RX1) (host := "ChildCoins") (As := [.ref x11]) (rest := []) ⟨hx, hb, hml, hown, hts⟩ (c_N_begin l D cI cB cZ cN x19 x20 x21 x11 x12 x13 x14 x15 x16 x17 x18 H.size) ggX6_land_X1_begin rfl (nmX6_83 hK.2) (hts (.initialized RX1) (List.mem_of_getElem? (i := 81) rfl)) (hts (.instanceMethod yX1_begin) (List.mem_of_getElem? (i := 80) rfl)) (hts (.selects RX1 yX1_begin yX1_begin) (List.mem_of_getElem? (i := 82) rfl)) ⟨by decide, by decide, (show Option.map (fun d => d.parameters.length) (parseMethodDescriptor yX1_begin.desc) = some 1 by decide +kernel)⟩ ⟨Nat.le_of_ble_eq_true rfl, Nat.le_of_ble_eq_true rfl⟩ hK hP hD 1 3 rfl rfl [3, 4, 7, 8, 2] (by decide) rfl hl.1 rfl (Nat.le_of_ble_eq_true rfl) dX6_land_52 ⟨Nat.le_of_ble_eq_true rfl, Nat.le_of_ble_eq_true rfl⟩) hP hD hS hA [3, 4, 7, 8, 2] [0, 1, 5, 6] rfl rfl (by decide) (by decide) (fun u5 H locs w7 hP hD hS => ?_)
  have hP : va_P D vwCl [(h0, .inr (6, [.ref x0, .int 0, .ref x1, .ref x11, .ref x3, .ref x19, .ref x22, .int 0, .ref x29, .ref x33, .ref x36, .ref x42, .int 0, .long 0])), (x3, .inr (0, [.int 0, .ref x4, .ref x5, .int 0, .ref x6, .ref x7, .int 0, .ref x8, .ref x9, .ref x10, .int 9, .int 0])), (x1, .inr (3, [.ref x0, .int 0, .int 0, .int 0, .int 0, .int 0])), (x0, .inl (cI, 180, .inl zf))] H := hP
  have hD : va_D A [(h0, .inr (6, [.ref x0, .int 0, .ref x1, .ref x11, .ref x3, .ref x19, .ref x22, .int 0, .ref x29, .ref x33, .ref x36, .ref x42, .int 0, .long 0])), (x3, .inr (0, [.int 0, .ref x4, .ref x5, .int 0, .ref x6, .ref x7, .int 0, .ref x8, .ref x9, .ref x10, .int 9, .int 0])), (x1, .inr (3, [.ref x0, .int 0, .int 0, .int 0, .int 0, .int 0])), (x0, .inl (cI, 180, .inl zf))] := hD
  refine lv_aload_n hx hb dX6_land_55 rfl (lv_at hl 2 rfl) ?_
  refine lv_iconst (v := 0) hx hb dX6_land_56 (by decide) ?_
  refine va_put (D := D) (ci := 6) (v := .int 0) (ty := tyX6 7) (C := RX6) (T := TX6) (N := 14) hx hb hts in_X6_land_6 tyX6 tyX6_ok nmX6 hown hK.1 hP hD hS 0 rfl rfl 7 (by decide) (hts (.fieldLink RX6 45 "ChildCoins" "keptImages" "I") (List.mem_of_getElem? (i := 7) rfl)) (fun _ h9 => h9) rfl (tyX6_ok 7 (by decide)) rfl rfl (Nat.le_of_ble_eq_true rfl) dX6_land_57 (fun H locs hP hD hS => ?_)
  have hP : va_P D vwCl [(h0, .inr (6, [.ref x0, .int 0, .ref x1, .ref x11, .ref x3, .ref x19, .ref x22, .int 0, .ref x29, .ref x33, .ref x36, .ref x42, .int 0, .long 0])), (x3, .inr (0, [.int 0, .ref x4, .ref x5, .int 0, .ref x6, .ref x7, .int 0, .ref x8, .ref x9, .ref x10, .int 9, .int 0])), (x1, .inr (3, [.ref x0, .int 0, .int 0, .int 0, .int 0, .int 0])), (x0, .inl (cI, 180, .inl zf))] H := hP
  have hD : va_D A [(h0, .inr (6, [.ref x0, .int 0, .ref x1, .ref x11, .ref x3, .ref x19, .ref x22, .int 0, .ref x29, .ref x33, .ref x36, .ref x42, .int 0, .long 0])), (x3, .inr (0, [.int 0, .ref x4, .ref x5, .int 0, .ref x6, .ref x7, .int 0, .ref x8, .ref x9, .ref x10, .int 9, .int 0])), (x1, .inr (3, [.ref x0, .int 0, .int 0, .int 0, .int 0, .int 0])), (x0, .inl (cI, 180, .inl zf))] := hD
  refine lv_aload_n hx hb dX6_land_60 rfl (lv_at hl 2 rfl) ?_
  refine lv_iconst (v := 0) hx hb dX6_land_61 (by decide) ?_
  refine va_put (D := D) (ci := 6) (v := .int 0) (ty := tyX6 12) (C := RX6) (T := TX6) (N := 14) hx hb hts in_X6_land_6 tyX6 tyX6_ok nmX6 hown hK.1 hP hD hS 0 rfl rfl 12 (by decide) (hts (.fieldLink RX6 72 "ChildCoins" "takenCount" "I") (List.mem_of_getElem? (i := 8) rfl)) (fun _ h9 => h9) rfl (tyX6_ok 12 (by decide)) rfl rfl (Nat.le_of_ble_eq_true rfl) dX6_land_62 (fun H locs hP hD hS => ?_)
  have hP : va_P D vwCl [(h0, .inr (6, [.ref x0, .int 0, .ref x1, .ref x11, .ref x3, .ref x19, .ref x22, .int 0, .ref x29, .ref x33, .ref x36, .ref x42, .int 0, .long 0])), (x3, .inr (0, [.int 0, .ref x4, .ref x5, .int 0, .ref x6, .ref x7, .int 0, .ref x8, .ref x9, .ref x10, .int 9, .int 0])), (x1, .inr (3, [.ref x0, .int 0, .int 0, .int 0, .int 0, .int 0])), (x0, .inl (cI, 180, .inl zf))] H := hP
  have hD : va_D A [(h0, .inr (6, [.ref x0, .int 0, .ref x1, .ref x11, .ref x3, .ref x19, .ref x22, .int 0, .ref x29, .ref x33, .ref x36, .ref x42, .int 0, .long 0])), (x3, .inr (0, [.int 0, .ref x4, .ref x5, .int 0, .ref x6, .ref x7, .int 0, .ref x8, .ref x9, .ref x10, .int 9, .int 0])), (x1, .inr (3, [.ref x0, .int 0, .int 0, .int 0, .int 0, .int 0])), (x0, .inl (cI, 180, .inl zf))] := hD
  refine lv_aload_n hx hb dX6_land_65 rfl (lv_at hl 2 rfl) ?_
  refine lv_iconst (v := 0) hx hb dX6_land_66 (by decide) ?_
  refine va_put (D := D) (ci := 6) (v := .int 0) (ty := tyX6 1) (C := RX6) (T := TX6) (N := 14) hx hb hts in_X6_land_6 tyX6 tyX6_ok nmX6 hown hK.1 hP hD hS 0 rfl rfl 1 (by decide) (hts (.fieldLink RX6 13 "ChildCoins" "typed" "I") (List.mem_of_getElem? (i := 3) rfl)) (fun _ h9 => h9) rfl (tyX6_ok 1 (by decide)) rfl rfl (Nat.le_of_ble_eq_true rfl) dX6_land_67 (fun H locs hP hD hS => ?_)
  have hP : va_P D vwCl [(h0, .inr (6, [.ref x0, .int 0, .ref x1, .ref x11, .ref x3, .ref x19, .ref x22, .int 0, .ref x29, .ref x33, .ref x36, .ref x42, .int 0, .long 0])), (x3, .inr (0, [.int 0, .ref x4, .ref x5, .int 0, .ref x6, .ref x7, .int 0, .ref x8, .ref x9, .ref x10, .int 9, .int 0])), (x1, .inr (3, [.ref x0, .int 0, .int 0, .int 0, .int 0, .int 0])), (x0, .inl (cI, 180, .inl zf))] H := hP
  have hD : va_D A [(h0, .inr (6, [.ref x0, .int 0, .ref x1, .ref x11, .ref x3, .ref x19, .ref x22, .int 0, .ref x29, .ref x33, .ref x36, .ref x42, .int 0, .long 0])), (x3, .inr (0, [.int 0, .ref x4, .ref x5, .int 0, .ref x6, .ref x7, .int 0, .ref x8, .ref x9, .ref x10, .int 9, .int 0])), (x1, .inr (3, [.ref x0, .int 0, .int 0, .int 0, .int 0, .int 0])), (x0, .inl (cI, 180, .inl zf))] := hD
  refine lv_iload_n hx hb dX6_land_70 rfl (lv_at hl 1 rfl) ?_
  exact en_i hx hb hr hlk hP hD hS () [] (by decide) rfl (Nat.le_of_ble_eq_true rfl) (Nat.le_of_ble_eq_true rfl) dX6_land_71 rfl
theorem dX6_coin_0 : decode cX6_coin 0 = .ok (.aload_n 0, 1) := by decide +kernel
theorem dX6_coin_1 : decode cX6_coin 1 = .ok (.getfield 27, 3) := by decide +kernel
theorem in_X6_coin_6 : ∀ w ∈ wsX60, w ∈ wsX6_coin := fun w h => List.mem_cons_of_mem _ (List.mem_append_left _ (List.mem_append_left _ (List.mem_append_right _ h)))
theorem dX6_coin_4 : decode cX6_coin 4 = .ok (.iload_n 1, 1) := by decide +kernel
theorem dX6_coin_5 : decode cX6_coin 5 = .ok (.invokevirtual 87, 3) := by decide +kernel
set_option maxRecDepth 20000 in
theorem ggX6_coin_X0_hasCoin : GoodIn wsX6_coin wsX0_hasCoin := goodIn_r _ [6, 7, 46, 47, 48, 49, 50, 51, 52, 53, 54, 55, 56, 57] (by decide +kernel) (by decide +kernel)
theorem dX6_coin_8 : decode cX6_coin 8 = .ok (.ifCond .ne 5, 3) := by decide +kernel
theorem dX6_coin_11 : decode cX6_coin 11 = .ok (.iconst (-1), 1) := by decide +kernel
theorem dX6_coin_12 : decode cX6_coin 12 = .ok (.ireturn, 1) := by decide +kernel
set_option maxHeartbeats 4000000 in
set_option maxRecDepth 100000 in
theorem c_X_coin (l : Launch) (D : va_G) (cI cB cZ cN : ClassId) (h0 : Nat) (x0 : Nat) (x1 : Nat) (x3 : Nat) (x11 : Nat) (x19 : Nat) (x22 : Nat) (x29 : Nat) (x33 : Nat) (x36 : Nat) (x42 : Nat) (x4 : Nat) (x5 : Nat) (x6 : Nat) (x7 : Nat) (x8 : Nat) (x9 : Nat) (x10 : Nat) (v_c : Int32) (v_w : Int32)  : Ci (S := Unit) l D cI cB cZ cN yX6_coin wsX6_coin ({ frames := 1, cells := 0, slots := 0, locals := 21 } : Room) [.ref h0, .int v_c, .int v_w] [(h0, .inr (6, [.ref x0, .int 0, .ref x1, .ref x3, .ref x11, .ref x19, .ref x22, .int 0, .ref x29, .ref x33, .ref x36, .ref x42, .int 0, .long 0])), (x3, .inr (0, [.int 0, .ref x4, .ref x5, .int 0, .ref x6, .ref x7, .int 0, .ref x8, .ref x9, .ref x10, .int 9, .int 0]))] (fun (r : Int32) (_ : Unit) => r = -1) (fun u => []) := by
  refine bx_of (D := D) (cI := cI) (cB := cB) (cZ := cZ) (cN := cN) (y := yX6_coin) (wd := wsX6_coin) (rm := ({ frames := 1, cells := 0, slots := 0, locals := 21 } : Room)) (av := [.ref h0, .int v_c, .int v_w]) (wc := [(h0, .inr (6, [.ref x0, .int 0, .ref x1, .ref x3, .ref x11, .ref x19, .ref x22, .int 0, .ref x29, .ref x33, .ref x36, .ref x42, .int 0, .long 0])), (x3, .inr (0, [.int 0, .ref x4, .ref x5, .int 0, .ref x6, .ref x7, .int 0, .ref x8, .ref x9, .ref x10, .int 9, .int 0]))]) (cc := cX6_coin) (maxL := 3) (ret := (some .int)) (Qc := fun _ A => va_Qi (S := Unit) (fun (r : Int32) (_ : Unit) => r = -1) (Aft D (fun (u : Unit) => []) A) A) (by decide) rfl (Nat.le_of_ble_eq_true rfl) ?_
  intro p e s m below meth c A H locs ⟨hx, hb, hr, hml, hown, hts, hlk, hnm⟩ hK hP hD hS hA ls hl
  have hl : lv_has ls 3 [(0, .ref h0), (1, .int v_c), (2, .int v_w)] := hl
  have hown : s.vm.findClass RX6 = some m.cls := hown
  refine lv_aload_n hx hb dX6_coin_0 rfl (lv_at hl 0 rfl) ?_
  refine va_get (D := D) (ci := 6) (v := .ref x3) (C := RX6) (T := TX6) (N := 14) hx hb hts in_X6_coin_6 hown hK.1 hP 0 rfl rfl 3 (by decide) (hts (.fieldLink RX6 27 "ChildCoins" "ours" "LChildCoins$Land;") (List.mem_of_getElem? (i := 1) rfl)) (fun _ h9 => h9) rfl dX6_coin_1 ?_
  refine lv_iload_n hx hb dX6_coin_4 rfl (lv_at hl 1 rfl) ?_
  refine be_i (free := va_A [(x3, .inr (0, [.int 0, .ref x4, .ref x5, .int 0, .ref x6, .ref x7, .int 0, .ref x8, .ref x9, .ref x10, .int 9, .int 0]))] H.size) (wc := [(x3, .inr (0, [.int 0, .ref x4, .ref x5, .int 0, .ref x6, .ref x7, .int 0, .ref x8, .ref x9, .ref x10, .int 9, .int 0]))]) (wr := [(h0, .inr (6, [.ref x0, .int 0, .ref x1, .ref x3, .ref x11, .ref x19, .ref x22, .int 0, .ref x29, .ref x33, .ref x36, .ref x42, .int 0, .long 0]))]) (ru_N (C := RX0) (host := "ChildCoins") (As := [.int v_c]) (rest := []) ⟨hx, hb, hml, hown, hts⟩ (c_L_hasCoin l D cI cB cZ cN x3 x4 x5 x6 x7 x8 x9 x10 v_c H.size) ggX6_coin_X0_hasCoin rfl (nmX6_87 hK.2) (hts (.initialized RX0) (List.mem_of_getElem? (i := 4) rfl)) (hts (.instanceMethod yX0_hasCoin) (List.mem_of_getElem? (i := 3) rfl)) (hts (.selects RX0 yX0_hasCoin yX0_hasCoin) (List.mem_of_getElem? (i := 5) rfl)) ⟨by decide, by decide, (show Option.map (fun d => d.parameters.length) (parseMethodDescriptor yX0_hasCoin.desc) = some 1 by decide +kernel)⟩ ⟨Nat.le_of_ble_eq_true rfl, Nat.le_of_ble_eq_true rfl⟩ hK hP hD 0 1 rfl rfl [1] (by decide) rfl hl.1 rfl (Nat.le_of_ble_eq_true rfl) dX6_coin_5 ⟨Nat.le_of_ble_eq_true rfl, Nat.le_of_ble_eq_true rfl⟩) hP hD hS hA [1] [0] rfl rfl (by decide) (by decide) (fun r2 u1 H locs w3 hP hD hS => ?_)
  have hP : va_P D vwCl [(h0, .inr (6, [.ref x0, .int 0, .ref x1, .ref x3, .ref x11, .ref x19, .ref x22, .int 0, .ref x29, .ref x33, .ref x36, .ref x42, .int 0, .long 0])), (x3, .inr (0, [.int 0, .ref x4, .ref x5, .int 0, .ref x6, .ref x7, .int 0, .ref x8, .ref x9, .ref x10, .int 9, .int 0]))] H := hP
  have hD : va_D A [(h0, .inr (6, [.ref x0, .int 0, .ref x1, .ref x3, .ref x11, .ref x19, .ref x22, .int 0, .ref x29, .ref x33, .ref x36, .ref x42, .int 0, .long 0])), (x3, .inr (0, [.int 0, .ref x4, .ref x5, .int 0, .ref x6, .ref x7, .int 0, .ref x8, .ref x9, .ref x10, .int 9, .int 0]))] := hD
  obtain rfl : r2 = 0 := w3
  refine lv_if_ne (tgt := 13) hx hb dX6_coin_8 (by decide) (fun h4 => absurd (by decide) h4) (fun h4 => ?_)
  refine lv_iconst (v := -1) hx hb dX6_coin_11 (by decide) ?_
  exact en_i hx hb hr hlk hP hD hS () [] (by decide) rfl (Nat.le_of_ble_eq_true rfl) (Nat.le_of_ble_eq_true rfl) dX6_coin_12 rfl
theorem dX6_person_0 : decode cX6_person 0 = .ok (.aload_n 0, 1) := by decide +kernel
theorem dX6_person_1 : decode cX6_person 1 = .ok (.getfield 27, 3) := by decide +kernel
theorem in_X6_person_6 : ∀ w ∈ wsX60, w ∈ wsX6_person := fun w h => List.mem_cons_of_mem _ (List.mem_append_left _ (List.mem_append_left _ (List.mem_append_right _ h)))
theorem dX6_person_4 : decode cX6_person 4 = .ok (.iload_n 1, 1) := by decide +kernel
theorem dX6_person_5 : decode cX6_person 5 = .ok (.invokevirtual 104, 3) := by decide +kernel
set_option maxRecDepth 20000 in
theorem ggX6_person_X0_hasPerson : GoodIn wsX6_person wsX0_hasPerson := goodIn_r _ [5, 6, 55, 56, 57, 58, 59, 60, 61, 62, 63, 64, 65, 66] (by decide +kernel) (by decide +kernel)
theorem dX6_person_8 : decode cX6_person 8 = .ok (.ifCond .ne 5, 3) := by decide +kernel
theorem dX6_person_11 : decode cX6_person 11 = .ok (.iconst (-1), 1) := by decide +kernel
theorem dX6_person_12 : decode cX6_person 12 = .ok (.ireturn, 1) := by decide +kernel
set_option maxHeartbeats 4000000 in
set_option maxRecDepth 100000 in
theorem c_X_person (l : Launch) (D : va_G) (cI cB cZ cN : ClassId) (h0 : Nat) (x0 : Nat) (x1 : Nat) (x3 : Nat) (x11 : Nat) (x19 : Nat) (x22 : Nat) (x29 : Nat) (x33 : Nat) (x36 : Nat) (x42 : Nat) (x4 : Nat) (x5 : Nat) (x6 : Nat) (x7 : Nat) (x8 : Nat) (x9 : Nat) (x10 : Nat) (v_c : Int32) (v_w : Int32)  : Ci (S := Unit) l D cI cB cZ cN yX6_person wsX6_person ({ frames := 1, cells := 0, slots := 0, locals := 21 } : Room) [.ref h0, .int v_c, .int v_w] [(h0, .inr (6, [.ref x0, .int 0, .ref x1, .ref x3, .ref x11, .ref x19, .ref x22, .int 0, .ref x29, .ref x33, .ref x36, .ref x42, .int 0, .long 0])), (x3, .inr (0, [.int 0, .ref x4, .ref x5, .int 0, .ref x6, .ref x7, .int 0, .ref x8, .ref x9, .ref x10, .int 9, .int 0]))] (fun (r : Int32) (_ : Unit) => r = -1) (fun u => []) := by
  refine bx_of (D := D) (cI := cI) (cB := cB) (cZ := cZ) (cN := cN) (y := yX6_person) (wd := wsX6_person) (rm := ({ frames := 1, cells := 0, slots := 0, locals := 21 } : Room)) (av := [.ref h0, .int v_c, .int v_w]) (wc := [(h0, .inr (6, [.ref x0, .int 0, .ref x1, .ref x3, .ref x11, .ref x19, .ref x22, .int 0, .ref x29, .ref x33, .ref x36, .ref x42, .int 0, .long 0])), (x3, .inr (0, [.int 0, .ref x4, .ref x5, .int 0, .ref x6, .ref x7, .int 0, .ref x8, .ref x9, .ref x10, .int 9, .int 0]))]) (cc := cX6_person) (maxL := 3) (ret := (some .int)) (Qc := fun _ A => va_Qi (S := Unit) (fun (r : Int32) (_ : Unit) => r = -1) (Aft D (fun (u : Unit) => []) A) A) (by decide) rfl (Nat.le_of_ble_eq_true rfl) ?_
  intro p e s m below meth c A H locs ⟨hx, hb, hr, hml, hown, hts, hlk, hnm⟩ hK hP hD hS hA ls hl
  have hl : lv_has ls 3 [(0, .ref h0), (1, .int v_c), (2, .int v_w)] := hl
  have hown : s.vm.findClass RX6 = some m.cls := hown
  refine lv_aload_n hx hb dX6_person_0 rfl (lv_at hl 0 rfl) ?_
  refine va_get (D := D) (ci := 6) (v := .ref x3) (C := RX6) (T := TX6) (N := 14) hx hb hts in_X6_person_6 hown hK.1 hP 0 rfl rfl 3 (by decide) (hts (.fieldLink RX6 27 "ChildCoins" "ours" "LChildCoins$Land;") (List.mem_of_getElem? (i := 1) rfl)) (fun _ h9 => h9) rfl dX6_person_1 ?_
  refine lv_iload_n hx hb dX6_person_4 rfl (lv_at hl 1 rfl) ?_
  refine be_i (free := va_A [(x3, .inr (0, [.int 0, .ref x4, .ref x5, .int 0, .ref x6, .ref x7, .int 0, .ref x8, .ref x9, .ref x10, .int 9, .int 0]))] H.size) (wc := [(x3, .inr (0, [.int 0, .ref x4, .ref x5, .int 0, .ref x6, .ref x7, .int 0, .ref x8, .ref x9, .ref x10, .int 9, .int 0]))]) (wr := [(h0, .inr (6, [.ref x0, .int 0, .ref x1, .ref x3, .ref x11, .ref x19, .ref x22, .int 0, .ref x29, .ref x33, .ref x36, .ref x42, .int 0, .long 0]))]) (ru_N (C := RX0) (host := "ChildCoins") (As := [.int v_c]) (rest := []) ⟨hx, hb, hml, hown, hts⟩ (c_L_hasPerson l D cI cB cZ cN x3 x4 x5 x6 x7 x8 x9 x10 v_c H.size) ggX6_person_X0_hasPerson rfl (nmX6_104 hK.2) (hts (.initialized RX0) (List.mem_of_getElem? (i := 3) rfl)) (hts (.instanceMethod yX0_hasPerson) (List.mem_of_getElem? (i := 2) rfl)) (hts (.selects RX0 yX0_hasPerson yX0_hasPerson) (List.mem_of_getElem? (i := 4) rfl)) ⟨by decide, by decide, (show Option.map (fun d => d.parameters.length) (parseMethodDescriptor yX0_hasPerson.desc) = some 1 by decide +kernel)⟩ ⟨Nat.le_of_ble_eq_true rfl, Nat.le_of_ble_eq_true rfl⟩ hK hP hD 0 1 rfl rfl [1] (by decide) rfl hl.1 rfl (Nat.le_of_ble_eq_true rfl) dX6_person_5 ⟨Nat.le_of_ble_eq_true rfl, Nat.le_of_ble_eq_true rfl⟩) hP hD hS hA [1] [0] rfl rfl (by decide) (by decide) (fun r2 u1 H locs w3 hP hD hS => ?_)
  have hP : va_P D vwCl [(h0, .inr (6, [.ref x0, .int 0, .ref x1, .ref x3, .ref x11, .ref x19, .ref x22, .int 0, .ref x29, .ref x33, .ref x36, .ref x42, .int 0, .long 0])), (x3, .inr (0, [.int 0, .ref x4, .ref x5, .int 0, .ref x6, .ref x7, .int 0, .ref x8, .ref x9, .ref x10, .int 9, .int 0]))] H := hP
  have hD : va_D A [(h0, .inr (6, [.ref x0, .int 0, .ref x1, .ref x3, .ref x11, .ref x19, .ref x22, .int 0, .ref x29, .ref x33, .ref x36, .ref x42, .int 0, .long 0])), (x3, .inr (0, [.int 0, .ref x4, .ref x5, .int 0, .ref x6, .ref x7, .int 0, .ref x8, .ref x9, .ref x10, .int 9, .int 0]))] := hD
  obtain rfl : r2 = 0 := w3
  refine lv_if_ne (tgt := 13) hx hb dX6_person_8 (by decide) (fun h4 => absurd (by decide) h4) (fun h4 => ?_)
  refine lv_iconst (v := -1) hx hb dX6_person_11 (by decide) ?_
  exact en_i hx hb hr hlk hP hD hS () [] (by decide) rfl (Nat.le_of_ble_eq_true rfl) (Nat.le_of_ble_eq_true rfl) dX6_person_12 rfl
theorem dX6_holds_0 : decode cX6_holds 0 = .ok (.aload_n 0, 1) := by decide +kernel
theorem dX6_holds_1 : decode cX6_holds 1 = .ok (.getfield 27, 3) := by decide +kernel
theorem in_X6_holds_6 : ∀ w ∈ wsX60, w ∈ wsX6_holds := fun w h => List.mem_cons_of_mem _ (List.mem_append_left _ (List.mem_append_left _ (List.mem_append_right _ h)))
theorem dX6_holds_4 : decode cX6_holds 4 = .ok (.iload_n 1, 1) := by decide +kernel
theorem dX6_holds_5 : decode cX6_holds 5 = .ok (.invokevirtual 104, 3) := by decide +kernel
set_option maxRecDepth 20000 in
theorem ggX6_holds_X0_hasPerson : GoodIn wsX6_holds wsX0_hasPerson := goodIn_r _ [6, 7, 31, 32, 33, 34, 35, 36, 37, 38, 39, 40, 41, 42] (by decide +kernel) (by decide +kernel)
theorem dX6_holds_8 : decode cX6_holds 8 = .ok (.ifCond .eq 14, 3) := by decide +kernel
theorem dX6_holds_22 : decode cX6_holds 22 = .ok (.iconst (-1), 1) := by decide +kernel
theorem dX6_holds_23 : decode cX6_holds 23 = .ok (.ireturn, 1) := by decide +kernel
set_option maxHeartbeats 4000000 in
set_option maxRecDepth 100000 in
theorem c_X_holds (l : Launch) (D : va_G) (cI cB cZ cN : ClassId) (h0 : Nat) (x0 : Nat) (x1 : Nat) (x3 : Nat) (x11 : Nat) (x19 : Nat) (x22 : Nat) (x29 : Nat) (x33 : Nat) (x36 : Nat) (x42 : Nat) (x4 : Nat) (x5 : Nat) (x6 : Nat) (x7 : Nat) (x8 : Nat) (x9 : Nat) (x10 : Nat) (v_c : Int32) (v_w : Int32)  : Ci (S := Unit) l D cI cB cZ cN yX6_holds wsX6_holds ({ frames := 1, cells := 0, slots := 0, locals := 21 } : Room) [.ref h0, .int v_c, .int v_w] [(h0, .inr (6, [.ref x0, .int 0, .ref x1, .ref x3, .ref x11, .ref x19, .ref x22, .int 0, .ref x29, .ref x33, .ref x36, .ref x42, .int 0, .long 0])), (x3, .inr (0, [.int 0, .ref x4, .ref x5, .int 0, .ref x6, .ref x7, .int 0, .ref x8, .ref x9, .ref x10, .int 9, .int 0]))] (fun (r : Int32) (_ : Unit) => r = -1) (fun u => []) := by
  refine bx_of (D := D) (cI := cI) (cB := cB) (cZ := cZ) (cN := cN) (y := yX6_holds) (wd := wsX6_holds) (rm := ({ frames := 1, cells := 0, slots := 0, locals := 21 } : Room)) (av := [.ref h0, .int v_c, .int v_w]) (wc := [(h0, .inr (6, [.ref x0, .int 0, .ref x1, .ref x3, .ref x11, .ref x19, .ref x22, .int 0, .ref x29, .ref x33, .ref x36, .ref x42, .int 0, .long 0])), (x3, .inr (0, [.int 0, .ref x4, .ref x5, .int 0, .ref x6, .ref x7, .int 0, .ref x8, .ref x9, .ref x10, .int 9, .int 0]))]) (cc := cX6_holds) (maxL := 3) (ret := (some .int)) (Qc := fun _ A => va_Qi (S := Unit) (fun (r : Int32) (_ : Unit) => r = -1) (Aft D (fun (u : Unit) => []) A) A) (by decide) rfl (Nat.le_of_ble_eq_true rfl) ?_
  intro p e s m below meth c A H locs ⟨hx, hb, hr, hml, hown, hts, hlk, hnm⟩ hK hP hD hS hA ls hl
  have hl : lv_has ls 3 [(0, .ref h0), (1, .int v_c), (2, .int v_w)] := hl
  have hown : s.vm.findClass RX6 = some m.cls := hown
  refine lv_aload_n hx hb dX6_holds_0 rfl (lv_at hl 0 rfl) ?_
  refine va_get (D := D) (ci := 6) (v := .ref x3) (C := RX6) (T := TX6) (N := 14) hx hb hts in_X6_holds_6 hown hK.1 hP 0 rfl rfl 3 (by decide) (hts (.fieldLink RX6 27 "ChildCoins" "ours" "LChildCoins$Land;") (List.mem_of_getElem? (i := 1) rfl)) (fun _ h9 => h9) rfl dX6_holds_1 ?_
  refine lv_iload_n hx hb dX6_holds_4 rfl (lv_at hl 1 rfl) ?_
  refine be_i (free := va_A [(x3, .inr (0, [.int 0, .ref x4, .ref x5, .int 0, .ref x6, .ref x7, .int 0, .ref x8, .ref x9, .ref x10, .int 9, .int 0]))] H.size) (wc := [(x3, .inr (0, [.int 0, .ref x4, .ref x5, .int 0, .ref x6, .ref x7, .int 0, .ref x8, .ref x9, .ref x10, .int 9, .int 0]))]) (wr := [(h0, .inr (6, [.ref x0, .int 0, .ref x1, .ref x3, .ref x11, .ref x19, .ref x22, .int 0, .ref x29, .ref x33, .ref x36, .ref x42, .int 0, .long 0]))]) (ru_N (C := RX0) (host := "ChildCoins") (As := [.int v_c]) (rest := []) ⟨hx, hb, hml, hown, hts⟩ (c_L_hasPerson l D cI cB cZ cN x3 x4 x5 x6 x7 x8 x9 x10 v_c H.size) ggX6_holds_X0_hasPerson rfl (nmX6_104 hK.2) (hts (.initialized RX0) (List.mem_of_getElem? (i := 4) rfl)) (hts (.instanceMethod yX0_hasPerson) (List.mem_of_getElem? (i := 3) rfl)) (hts (.selects RX0 yX0_hasPerson yX0_hasPerson) (List.mem_of_getElem? (i := 5) rfl)) ⟨by decide, by decide, (show Option.map (fun d => d.parameters.length) (parseMethodDescriptor yX0_hasPerson.desc) = some 1 by decide +kernel)⟩ ⟨Nat.le_of_ble_eq_true rfl, Nat.le_of_ble_eq_true rfl⟩ hK hP hD 0 1 rfl rfl [1] (by decide) rfl hl.1 rfl (Nat.le_of_ble_eq_true rfl) dX6_holds_5 ⟨Nat.le_of_ble_eq_true rfl, Nat.le_of_ble_eq_true rfl⟩) hP hD hS hA [1] [0] rfl rfl (by decide) (by decide) (fun r2 u1 H locs w3 hP hD hS => ?_)
  have hP : va_P D vwCl [(h0, .inr (6, [.ref x0, .int 0, .ref x1, .ref x3, .ref x11, .ref x19, .ref x22, .int 0, .ref x29, .ref x33, .ref x36, .ref x42, .int 0, .long 0])), (x3, .inr (0, [.int 0, .ref x4, .ref x5, .int 0, .ref x6, .ref x7, .int 0, .ref x8, .ref x9, .ref x10, .int 9, .int 0]))] H := hP
  have hD : va_D A [(h0, .inr (6, [.ref x0, .int 0, .ref x1, .ref x3, .ref x11, .ref x19, .ref x22, .int 0, .ref x29, .ref x33, .ref x36, .ref x42, .int 0, .long 0])), (x3, .inr (0, [.int 0, .ref x4, .ref x5, .int 0, .ref x6, .ref x7, .int 0, .ref x8, .ref x9, .ref x10, .int 9, .int 0]))] := hD
  obtain rfl : r2 = 0 := w3
  refine lv_if_eq (tgt := 22) hx hb dX6_holds_8 (by decide) (fun h4 => ?_) (fun h4 => absurd (by decide) h4)
  refine lv_iconst (v := -1) hx hb dX6_holds_22 (by decide) ?_
  exact en_i hx hb hr hlk hP hD hS () [] (by decide) rfl (Nat.le_of_ble_eq_true rfl) (Nat.le_of_ble_eq_true rfl) dX6_holds_23 rfl
theorem dX6_debt_0 : decode cX6_debt 0 = .ok (.aload_n 0, 1) := by decide +kernel
theorem dX6_debt_1 : decode cX6_debt 1 = .ok (.getfield 27, 3) := by decide +kernel
theorem in_X6_debt_6 : ∀ w ∈ wsX60, w ∈ wsX6_debt := fun w h => List.mem_cons_of_mem _ (List.mem_append_left _ (List.mem_append_left _ (List.mem_append_left _ (List.mem_append_left _ (List.mem_append_right _ h)))))
theorem dX6_debt_4 : decode cX6_debt 4 = .ok (.iload_n 1, 1) := by decide +kernel
theorem dX6_debt_5 : decode cX6_debt 5 = .ok (.invokevirtual 123, 3) := by decide +kernel
set_option maxRecDepth 20000 in
theorem ggX6_debt_X0_hasDebt : GoodIn wsX6_debt wsX0_hasDebt := goodIn_r _ [7, 8, 98, 99, 100, 101, 102, 103, 104, 105, 106, 107, 108, 109] (by decide +kernel) (by decide +kernel)
theorem dX6_debt_8 : decode cX6_debt 8 = .ok (.ifCond .ne 5, 3) := by decide +kernel
theorem dX6_debt_11 : decode cX6_debt 11 = .ok (.iconst (-1), 1) := by decide +kernel
theorem dX6_debt_12 : decode cX6_debt 12 = .ok (.ireturn, 1) := by decide +kernel
set_option maxHeartbeats 4000000 in
set_option maxRecDepth 100000 in
theorem c_X_debt (l : Launch) (D : va_G) (cI cB cZ cN : ClassId) (h0 : Nat) (x0 : Nat) (x1 : Nat) (x3 : Nat) (x11 : Nat) (x19 : Nat) (x22 : Nat) (x29 : Nat) (x33 : Nat) (x36 : Nat) (x42 : Nat) (x4 : Nat) (x5 : Nat) (x6 : Nat) (x7 : Nat) (x8 : Nat) (x9 : Nat) (x10 : Nat) (v_c : Int32) (v_w : Int32)  : Ci (S := Unit) l D cI cB cZ cN yX6_debt wsX6_debt ({ frames := 1, cells := 0, slots := 0, locals := 21 } : Room) [.ref h0, .int v_c, .int v_w] [(h0, .inr (6, [.ref x0, .int 0, .ref x1, .ref x3, .ref x11, .ref x19, .ref x22, .int 0, .ref x29, .ref x33, .ref x36, .ref x42, .int 0, .long 0])), (x3, .inr (0, [.int 0, .ref x4, .ref x5, .int 0, .ref x6, .ref x7, .int 0, .ref x8, .ref x9, .ref x10, .int 9, .int 0]))] (fun (r : Int32) (_ : Unit) => r = -1) (fun u => []) := by
  refine bx_of (D := D) (cI := cI) (cB := cB) (cZ := cZ) (cN := cN) (y := yX6_debt) (wd := wsX6_debt) (rm := ({ frames := 1, cells := 0, slots := 0, locals := 21 } : Room)) (av := [.ref h0, .int v_c, .int v_w]) (wc := [(h0, .inr (6, [.ref x0, .int 0, .ref x1, .ref x3, .ref x11, .ref x19, .ref x22, .int 0, .ref x29, .ref x33, .ref x36, .ref x42, .int 0, .long 0])), (x3, .inr (0, [.int 0, .ref x4, .ref x5, .int 0, .ref x6, .ref x7, .int 0, .ref x8, .ref x9, .ref x10, .int 9, .int 0]))]) (cc := cX6_debt) (maxL := 3) (ret := (some .int)) (Qc := fun _ A => va_Qi (S := Unit) (fun (r : Int32) (_ : Unit) => r = -1) (Aft D (fun (u : Unit) => []) A) A) (by decide) rfl (Nat.le_of_ble_eq_true rfl) ?_
  intro p e s m below meth c A H locs ⟨hx, hb, hr, hml, hown, hts, hlk, hnm⟩ hK hP hD hS hA ls hl
  have hl : lv_has ls 3 [(0, .ref h0), (1, .int v_c), (2, .int v_w)] := hl
  have hown : s.vm.findClass RX6 = some m.cls := hown
  refine lv_aload_n hx hb dX6_debt_0 rfl (lv_at hl 0 rfl) ?_
  refine va_get (D := D) (ci := 6) (v := .ref x3) (C := RX6) (T := TX6) (N := 14) hx hb hts in_X6_debt_6 hown hK.1 hP 0 rfl rfl 3 (by decide) (hts (.fieldLink RX6 27 "ChildCoins" "ours" "LChildCoins$Land;") (List.mem_of_getElem? (i := 1) rfl)) (fun _ h9 => h9) rfl dX6_debt_1 ?_
  refine lv_iload_n hx hb dX6_debt_4 rfl (lv_at hl 1 rfl) ?_
  refine be_i (free := va_A [(x3, .inr (0, [.int 0, .ref x4, .ref x5, .int 0, .ref x6, .ref x7, .int 0, .ref x8, .ref x9, .ref x10, .int 9, .int 0]))] H.size) (wc := [(x3, .inr (0, [.int 0, .ref x4, .ref x5, .int 0, .ref x6, .ref x7, .int 0, .ref x8, .ref x9, .ref x10, .int 9, .int 0]))]) (wr := [(h0, .inr (6, [.ref x0, .int 0, .ref x1, .ref x3, .ref x11, .ref x19, .ref x22, .int 0, .ref x29, .ref x33, .ref x36, .ref x42, .int 0, .long 0]))]) (ru_N (C := RX0) (host := "ChildCoins") (As := [.int v_c]) (rest := []) ⟨hx, hb, hml, hown, hts⟩ (c_L_hasDebt l D cI cB cZ cN x3 x4 x5 x6 x7 x8 x9 x10 v_c H.size) ggX6_debt_X0_hasDebt rfl (nmX6_123 hK.2) (hts (.initialized RX0) (List.mem_of_getElem? (i := 5) rfl)) (hts (.instanceMethod yX0_hasDebt) (List.mem_of_getElem? (i := 4) rfl)) (hts (.selects RX0 yX0_hasDebt yX0_hasDebt) (List.mem_of_getElem? (i := 6) rfl)) ⟨by decide, by decide, (show Option.map (fun d => d.parameters.length) (parseMethodDescriptor yX0_hasDebt.desc) = some 1 by decide +kernel)⟩ ⟨Nat.le_of_ble_eq_true rfl, Nat.le_of_ble_eq_true rfl⟩ hK hP hD 0 1 rfl rfl [1] (by decide) rfl hl.1 rfl (Nat.le_of_ble_eq_true rfl) dX6_debt_5 ⟨Nat.le_of_ble_eq_true rfl, Nat.le_of_ble_eq_true rfl⟩) hP hD hS hA [1] [0] rfl rfl (by decide) (by decide) (fun r2 u1 H locs w3 hP hD hS => ?_)
  have hP : va_P D vwCl [(h0, .inr (6, [.ref x0, .int 0, .ref x1, .ref x3, .ref x11, .ref x19, .ref x22, .int 0, .ref x29, .ref x33, .ref x36, .ref x42, .int 0, .long 0])), (x3, .inr (0, [.int 0, .ref x4, .ref x5, .int 0, .ref x6, .ref x7, .int 0, .ref x8, .ref x9, .ref x10, .int 9, .int 0]))] H := hP
  have hD : va_D A [(h0, .inr (6, [.ref x0, .int 0, .ref x1, .ref x3, .ref x11, .ref x19, .ref x22, .int 0, .ref x29, .ref x33, .ref x36, .ref x42, .int 0, .long 0])), (x3, .inr (0, [.int 0, .ref x4, .ref x5, .int 0, .ref x6, .ref x7, .int 0, .ref x8, .ref x9, .ref x10, .int 9, .int 0]))] := hD
  obtain rfl : r2 = 0 := w3
  refine lv_if_ne (tgt := 13) hx hb dX6_debt_8 (by decide) (fun h4 => absurd (by decide) h4) (fun h4 => ?_)
  refine lv_iconst (v := -1) hx hb dX6_debt_11 (by decide) ?_
  exact en_i hx hb hr hlk hP hD hS () [] (by decide) rfl (Nat.le_of_ble_eq_true rfl) (Nat.le_of_ble_eq_true rfl) dX6_debt_12 rfl
theorem dX6_pays_0 : decode cX6_pays 0 = .ok (.aload_n 0, 1) := by decide +kernel
theorem dX6_pays_1 : decode cX6_pays 1 = .ok (.getfield 27, 3) := by decide +kernel
theorem in_X6_pays_6 : ∀ w ∈ wsX60, w ∈ wsX6_pays := fun w h => List.mem_cons_of_mem _ (List.mem_append_left _ (List.mem_append_left _ (List.mem_append_left _ (List.mem_append_right _ h))))
theorem dX6_pays_4 : decode cX6_pays 4 = .ok (.iload_n 1, 1) := by decide +kernel
theorem dX6_pays_5 : decode cX6_pays 5 = .ok (.invokevirtual 123, 3) := by decide +kernel
set_option maxRecDepth 20000 in
theorem ggX6_pays_X0_hasDebt : GoodIn wsX6_pays wsX0_hasDebt := goodIn_r _ [7, 8, 86, 87, 88, 89, 90, 91, 92, 93, 94, 95, 96, 97] (by decide +kernel) (by decide +kernel)
theorem dX6_pays_8 : decode cX6_pays 8 = .ok (.ifCond .ne 5, 3) := by decide +kernel
theorem dX6_pays_11 : decode cX6_pays 11 = .ok (.iconst (-1), 1) := by decide +kernel
theorem dX6_pays_12 : decode cX6_pays 12 = .ok (.ireturn, 1) := by decide +kernel
set_option maxHeartbeats 4000000 in
set_option maxRecDepth 100000 in
theorem c_X_pays (l : Launch) (D : va_G) (cI cB cZ cN : ClassId) (h0 : Nat) (x0 : Nat) (x1 : Nat) (x3 : Nat) (x11 : Nat) (x19 : Nat) (x22 : Nat) (x29 : Nat) (x33 : Nat) (x36 : Nat) (x42 : Nat) (x4 : Nat) (x5 : Nat) (x6 : Nat) (x7 : Nat) (x8 : Nat) (x9 : Nat) (x10 : Nat) (v_c : Int32)  : Ci (S := Unit) l D cI cB cZ cN yX6_pays wsX6_pays ({ frames := 1, cells := 0, slots := 0, locals := 21 } : Room) [.ref h0, .int v_c] [(h0, .inr (6, [.ref x0, .int 0, .ref x1, .ref x3, .ref x11, .ref x19, .ref x22, .int 0, .ref x29, .ref x33, .ref x36, .ref x42, .int 0, .long 0])), (x3, .inr (0, [.int 0, .ref x4, .ref x5, .int 0, .ref x6, .ref x7, .int 0, .ref x8, .ref x9, .ref x10, .int 9, .int 0]))] (fun (r : Int32) (_ : Unit) => r = -1) (fun u => []) := by
  refine bx_of (D := D) (cI := cI) (cB := cB) (cZ := cZ) (cN := cN) (y := yX6_pays) (wd := wsX6_pays) (rm := ({ frames := 1, cells := 0, slots := 0, locals := 21 } : Room)) (av := [.ref h0, .int v_c]) (wc := [(h0, .inr (6, [.ref x0, .int 0, .ref x1, .ref x3, .ref x11, .ref x19, .ref x22, .int 0, .ref x29, .ref x33, .ref x36, .ref x42, .int 0, .long 0])), (x3, .inr (0, [.int 0, .ref x4, .ref x5, .int 0, .ref x6, .ref x7, .int 0, .ref x8, .ref x9, .ref x10, .int 9, .int 0]))]) (cc := cX6_pays) (maxL := 2) (ret := (some .int)) (Qc := fun _ A => va_Qi (S := Unit) (fun (r : Int32) (_ : Unit) => r = -1) (Aft D (fun (u : Unit) => []) A) A) (by decide) rfl (Nat.le_of_ble_eq_true rfl) ?_
  intro p e s m below meth c A H locs ⟨hx, hb, hr, hml, hown, hts, hlk, hnm⟩ hK hP hD hS hA ls hl
  have hl : lv_has ls 2 [(0, .ref h0), (1, .int v_c)] := hl
  have hown : s.vm.findClass RX6 = some m.cls := hown
  refine lv_aload_n hx hb dX6_pays_0 rfl (lv_at hl 0 rfl) ?_
  refine va_get (D := D) (ci := 6) (v := .ref x3) (C := RX6) (T := TX6) (N := 14) hx hb hts in_X6_pays_6 hown hK.1 hP 0 rfl rfl 3 (by decide) (hts (.fieldLink RX6 27 "ChildCoins" "ours" "LChildCoins$Land;") (List.mem_of_getElem? (i := 1) rfl)) (fun _ h9 => h9) rfl dX6_pays_1 ?_
  refine lv_iload_n hx hb dX6_pays_4 rfl (lv_at hl 1 rfl) ?_
  refine be_i (free := va_A [(x3, .inr (0, [.int 0, .ref x4, .ref x5, .int 0, .ref x6, .ref x7, .int 0, .ref x8, .ref x9, .ref x10, .int 9, .int 0]))] H.size) (wc := [(x3, .inr (0, [.int 0, .ref x4, .ref x5, .int 0, .ref x6, .ref x7, .int 0, .ref x8, .ref x9, .ref x10, .int 9, .int 0]))]) (wr := [(h0, .inr (6, [.ref x0, .int 0, .ref x1, .ref x3, .ref x11, .ref x19, .ref x22, .int 0, .ref x29, .ref x33, .ref x36, .ref x42, .int 0, .long 0]))]) (ru_N (C := RX0) (host := "ChildCoins") (As := [.int v_c]) (rest := []) ⟨hx, hb, hml, hown, hts⟩ (c_L_hasDebt l D cI cB cZ cN x3 x4 x5 x6 x7 x8 x9 x10 v_c H.size) ggX6_pays_X0_hasDebt rfl (nmX6_123 hK.2) (hts (.initialized RX0) (List.mem_of_getElem? (i := 5) rfl)) (hts (.instanceMethod yX0_hasDebt) (List.mem_of_getElem? (i := 4) rfl)) (hts (.selects RX0 yX0_hasDebt yX0_hasDebt) (List.mem_of_getElem? (i := 6) rfl)) ⟨by decide, by decide, (show Option.map (fun d => d.parameters.length) (parseMethodDescriptor yX0_hasDebt.desc) = some 1 by decide +kernel)⟩ ⟨Nat.le_of_ble_eq_true rfl, Nat.le_of_ble_eq_true rfl⟩ hK hP hD 0 1 rfl rfl [1] (by decide) rfl hl.1 rfl (Nat.le_of_ble_eq_true rfl) dX6_pays_5 ⟨Nat.le_of_ble_eq_true rfl, Nat.le_of_ble_eq_true rfl⟩) hP hD hS hA [1] [0] rfl rfl (by decide) (by decide) (fun r2 u1 H locs w3 hP hD hS => ?_)
  have hP : va_P D vwCl [(h0, .inr (6, [.ref x0, .int 0, .ref x1, .ref x3, .ref x11, .ref x19, .ref x22, .int 0, .ref x29, .ref x33, .ref x36, .ref x42, .int 0, .long 0])), (x3, .inr (0, [.int 0, .ref x4, .ref x5, .int 0, .ref x6, .ref x7, .int 0, .ref x8, .ref x9, .ref x10, .int 9, .int 0]))] H := hP
  have hD : va_D A [(h0, .inr (6, [.ref x0, .int 0, .ref x1, .ref x3, .ref x11, .ref x19, .ref x22, .int 0, .ref x29, .ref x33, .ref x36, .ref x42, .int 0, .long 0])), (x3, .inr (0, [.int 0, .ref x4, .ref x5, .int 0, .ref x6, .ref x7, .int 0, .ref x8, .ref x9, .ref x10, .int 9, .int 0]))] := hD
  obtain rfl : r2 = 0 := w3
  refine lv_if_ne (tgt := 13) hx hb dX6_pays_8 (by decide) (fun h4 => absurd (by decide) h4) (fun h4 => ?_)
  refine lv_iconst (v := -1) hx hb dX6_pays_11 (by decide) ?_
  exact en_i hx hb hr hlk hP hD hS () [] (by decide) rfl (Nat.le_of_ble_eq_true rfl) (Nat.le_of_ble_eq_true rfl) dX6_pays_12 rfl
theorem dX6_trades_0 : decode cX6_trades 0 = .ok (.aload_n 0, 1) := by decide +kernel
theorem dX6_trades_1 : decode cX6_trades 1 = .ok (.getfield 27, 3) := by decide +kernel
theorem in_X6_trades_6 : ∀ w ∈ wsX60, w ∈ wsX6_trades := fun w h => List.mem_cons_of_mem _ (List.mem_append_left _ (List.mem_append_left _ (List.mem_append_right _ h)))
theorem dX6_trades_4 : decode cX6_trades 4 = .ok (.iload_n 1, 1) := by decide +kernel
theorem dX6_trades_5 : decode cX6_trades 5 = .ok (.invokevirtual 104, 3) := by decide +kernel
set_option maxRecDepth 20000 in
theorem ggX6_trades_X0_hasPerson : GoodIn wsX6_trades wsX0_hasPerson := goodIn_r _ [6, 7, 43, 44, 45, 46, 47, 48, 49, 50, 51, 52, 53, 54] (by decide +kernel) (by decide +kernel)
theorem dX6_trades_8 : decode cX6_trades 8 = .ok (.ifCond .eq 37, 3) := by decide +kernel
theorem dX6_trades_45 : decode cX6_trades 45 = .ok (.iconst (-1), 1) := by decide +kernel
theorem dX6_trades_46 : decode cX6_trades 46 = .ok (.ireturn, 1) := by decide +kernel
set_option maxHeartbeats 4000000 in
set_option maxRecDepth 100000 in
theorem c_X_trades (l : Launch) (D : va_G) (cI cB cZ cN : ClassId) (h0 : Nat) (x0 : Nat) (x1 : Nat) (x3 : Nat) (x11 : Nat) (x19 : Nat) (x22 : Nat) (x29 : Nat) (x33 : Nat) (x36 : Nat) (x42 : Nat) (x4 : Nat) (x5 : Nat) (x6 : Nat) (x7 : Nat) (x8 : Nat) (x9 : Nat) (x10 : Nat) (v_c : Int32) (v_w : Int32) (v_q : Int32) (v_e : Int32)  : Ci (S := Unit) l D cI cB cZ cN yX6_trades wsX6_trades ({ frames := 1, cells := 0, slots := 0, locals := 21 } : Room) [.ref h0, .int v_c, .int v_w, .int v_q, .int v_e] [(h0, .inr (6, [.ref x0, .int 0, .ref x1, .ref x3, .ref x11, .ref x19, .ref x22, .int 0, .ref x29, .ref x33, .ref x36, .ref x42, .int 0, .long 0])), (x3, .inr (0, [.int 0, .ref x4, .ref x5, .int 0, .ref x6, .ref x7, .int 0, .ref x8, .ref x9, .ref x10, .int 9, .int 0]))] (fun (r : Int32) (_ : Unit) => r = -1) (fun u => []) := by
  refine bx_of (D := D) (cI := cI) (cB := cB) (cZ := cZ) (cN := cN) (y := yX6_trades) (wd := wsX6_trades) (rm := ({ frames := 1, cells := 0, slots := 0, locals := 21 } : Room)) (av := [.ref h0, .int v_c, .int v_w, .int v_q, .int v_e]) (wc := [(h0, .inr (6, [.ref x0, .int 0, .ref x1, .ref x3, .ref x11, .ref x19, .ref x22, .int 0, .ref x29, .ref x33, .ref x36, .ref x42, .int 0, .long 0])), (x3, .inr (0, [.int 0, .ref x4, .ref x5, .int 0, .ref x6, .ref x7, .int 0, .ref x8, .ref x9, .ref x10, .int 9, .int 0]))]) (cc := cX6_trades) (maxL := 5) (ret := (some .int)) (Qc := fun _ A => va_Qi (S := Unit) (fun (r : Int32) (_ : Unit) => r = -1) (Aft D (fun (u : Unit) => []) A) A) (by decide) rfl (Nat.le_of_ble_eq_true rfl) ?_
  intro p e s m below meth c A H locs ⟨hx, hb, hr, hml, hown, hts, hlk, hnm⟩ hK hP hD hS hA ls hl
  have hl : lv_has ls 5 [(0, .ref h0), (1, .int v_c), (2, .int v_w), (3, .int v_q), (4, .int v_e)] := hl
  have hown : s.vm.findClass RX6 = some m.cls := hown
  refine lv_aload_n hx hb dX6_trades_0 rfl (lv_at hl 0 rfl) ?_
  refine va_get (D := D) (ci := 6) (v := .ref x3) (C := RX6) (T := TX6) (N := 14) hx hb hts in_X6_trades_6 hown hK.1 hP 0 rfl rfl 3 (by decide) (hts (.fieldLink RX6 27 "ChildCoins" "ours" "LChildCoins$Land;") (List.mem_of_getElem? (i := 1) rfl)) (fun _ h9 => h9) rfl dX6_trades_1 ?_
  refine lv_iload_n hx hb dX6_trades_4 rfl (lv_at hl 1 rfl) ?_
  refine be_i (free := va_A [(x3, .inr (0, [.int 0, .ref x4, .ref x5, .int 0, .ref x6, .ref x7, .int 0, .ref x8, .ref x9, .ref x10, .int 9, .int 0]))] H.size) (wc := [(x3, .inr (0, [.int 0, .ref x4, .ref x5, .int 0, .ref x6, .ref x7, .int 0, .ref x8, .ref x9, .ref x10, .int 9, .int 0]))]) (wr := [(h0, .inr (6, [.ref x0, .int 0, .ref x1, .ref x3, .ref x11, .ref x19, .ref x22, .int 0, .ref x29, .ref x33, .ref x36, .ref x42, .int 0, .long 0]))]) (ru_N (C := RX0) (host := "ChildCoins") (As := [.int v_c]) (rest := []) ⟨hx, hb, hml, hown, hts⟩ (c_L_hasPerson l D cI cB cZ cN x3 x4 x5 x6 x7 x8 x9 x10 v_c H.size) ggX6_trades_X0_hasPerson rfl (nmX6_104 hK.2) (hts (.initialized RX0) (List.mem_of_getElem? (i := 4) rfl)) (hts (.instanceMethod yX0_hasPerson) (List.mem_of_getElem? (i := 3) rfl)) (hts (.selects RX0 yX0_hasPerson yX0_hasPerson) (List.mem_of_getElem? (i := 5) rfl)) ⟨by decide, by decide, (show Option.map (fun d => d.parameters.length) (parseMethodDescriptor yX0_hasPerson.desc) = some 1 by decide +kernel)⟩ ⟨Nat.le_of_ble_eq_true rfl, Nat.le_of_ble_eq_true rfl⟩ hK hP hD 0 1 rfl rfl [1] (by decide) rfl hl.1 rfl (Nat.le_of_ble_eq_true rfl) dX6_trades_5 ⟨Nat.le_of_ble_eq_true rfl, Nat.le_of_ble_eq_true rfl⟩) hP hD hS hA [1] [0] rfl rfl (by decide) (by decide) (fun r2 u1 H locs w3 hP hD hS => ?_)
  have hP : va_P D vwCl [(h0, .inr (6, [.ref x0, .int 0, .ref x1, .ref x3, .ref x11, .ref x19, .ref x22, .int 0, .ref x29, .ref x33, .ref x36, .ref x42, .int 0, .long 0])), (x3, .inr (0, [.int 0, .ref x4, .ref x5, .int 0, .ref x6, .ref x7, .int 0, .ref x8, .ref x9, .ref x10, .int 9, .int 0]))] H := hP
  have hD : va_D A [(h0, .inr (6, [.ref x0, .int 0, .ref x1, .ref x3, .ref x11, .ref x19, .ref x22, .int 0, .ref x29, .ref x33, .ref x36, .ref x42, .int 0, .long 0])), (x3, .inr (0, [.int 0, .ref x4, .ref x5, .int 0, .ref x6, .ref x7, .int 0, .ref x8, .ref x9, .ref x10, .int 9, .int 0]))] := hD
  obtain rfl : r2 = 0 := w3
  refine lv_if_eq (tgt := 45) hx hb dX6_trades_8 (by decide) (fun h4 => ?_) (fun h4 => absurd (by decide) h4)
  refine lv_iconst (v := -1) hx hb dX6_trades_45 (by decide) ?_
  exact en_i hx hb hr hlk hP hD hS () [] (by decide) rfl (Nat.le_of_ble_eq_true rfl) (Nat.le_of_ble_eq_true rfl) dX6_trades_46 rfl
theorem dX6_loses_0 : decode cX6_loses 0 = .ok (.aload_n 0, 1) := by decide +kernel
theorem dX6_loses_1 : decode cX6_loses 1 = .ok (.getfield 27, 3) := by decide +kernel
theorem in_X6_loses_6 : ∀ w ∈ wsX60, w ∈ wsX6_loses := fun w h => List.mem_cons_of_mem _ (List.mem_append_left _ (List.mem_append_left _ (List.mem_append_right _ h)))
theorem dX6_loses_4 : decode cX6_loses 4 = .ok (.iload_n 1, 1) := by decide +kernel
theorem dX6_loses_5 : decode cX6_loses 5 = .ok (.invokevirtual 104, 3) := by decide +kernel
set_option maxRecDepth 20000 in
theorem ggX6_loses_X0_hasPerson : GoodIn wsX6_loses wsX0_hasPerson := goodIn_r _ [6, 7, 43, 44, 45, 46, 47, 48, 49, 50, 51, 52, 53, 54] (by decide +kernel) (by decide +kernel)
theorem dX6_loses_8 : decode cX6_loses 8 = .ok (.ifCond .eq 14, 3) := by decide +kernel
theorem dX6_loses_22 : decode cX6_loses 22 = .ok (.iconst (-1), 1) := by decide +kernel
theorem dX6_loses_23 : decode cX6_loses 23 = .ok (.ireturn, 1) := by decide +kernel
set_option maxHeartbeats 4000000 in
set_option maxRecDepth 100000 in
theorem c_X_loses (l : Launch) (D : va_G) (cI cB cZ cN : ClassId) (h0 : Nat) (x0 : Nat) (x1 : Nat) (x3 : Nat) (x11 : Nat) (x19 : Nat) (x22 : Nat) (x29 : Nat) (x33 : Nat) (x36 : Nat) (x42 : Nat) (x4 : Nat) (x5 : Nat) (x6 : Nat) (x7 : Nat) (x8 : Nat) (x9 : Nat) (x10 : Nat) (v_c : Int32) (v_w : Int32)  : Ci (S := Unit) l D cI cB cZ cN yX6_loses wsX6_loses ({ frames := 1, cells := 0, slots := 0, locals := 21 } : Room) [.ref h0, .int v_c, .int v_w] [(h0, .inr (6, [.ref x0, .int 0, .ref x1, .ref x3, .ref x11, .ref x19, .ref x22, .int 0, .ref x29, .ref x33, .ref x36, .ref x42, .int 0, .long 0])), (x3, .inr (0, [.int 0, .ref x4, .ref x5, .int 0, .ref x6, .ref x7, .int 0, .ref x8, .ref x9, .ref x10, .int 9, .int 0]))] (fun (r : Int32) (_ : Unit) => r = -1) (fun u => []) := by
  refine bx_of (D := D) (cI := cI) (cB := cB) (cZ := cZ) (cN := cN) (y := yX6_loses) (wd := wsX6_loses) (rm := ({ frames := 1, cells := 0, slots := 0, locals := 21 } : Room)) (av := [.ref h0, .int v_c, .int v_w]) (wc := [(h0, .inr (6, [.ref x0, .int 0, .ref x1, .ref x3, .ref x11, .ref x19, .ref x22, .int 0, .ref x29, .ref x33, .ref x36, .ref x42, .int 0, .long 0])), (x3, .inr (0, [.int 0, .ref x4, .ref x5, .int 0, .ref x6, .ref x7, .int 0, .ref x8, .ref x9, .ref x10, .int 9, .int 0]))]) (cc := cX6_loses) (maxL := 3) (ret := (some .int)) (Qc := fun _ A => va_Qi (S := Unit) (fun (r : Int32) (_ : Unit) => r = -1) (Aft D (fun (u : Unit) => []) A) A) (by decide) rfl (Nat.le_of_ble_eq_true rfl) ?_
  intro p e s m below meth c A H locs ⟨hx, hb, hr, hml, hown, hts, hlk, hnm⟩ hK hP hD hS hA ls hl
  have hl : lv_has ls 3 [(0, .ref h0), (1, .int v_c), (2, .int v_w)] := hl
  have hown : s.vm.findClass RX6 = some m.cls := hown
  refine lv_aload_n hx hb dX6_loses_0 rfl (lv_at hl 0 rfl) ?_
  refine va_get (D := D) (ci := 6) (v := .ref x3) (C := RX6) (T := TX6) (N := 14) hx hb hts in_X6_loses_6 hown hK.1 hP 0 rfl rfl 3 (by decide) (hts (.fieldLink RX6 27 "ChildCoins" "ours" "LChildCoins$Land;") (List.mem_of_getElem? (i := 1) rfl)) (fun _ h9 => h9) rfl dX6_loses_1 ?_
  refine lv_iload_n hx hb dX6_loses_4 rfl (lv_at hl 1 rfl) ?_
  refine be_i (free := va_A [(x3, .inr (0, [.int 0, .ref x4, .ref x5, .int 0, .ref x6, .ref x7, .int 0, .ref x8, .ref x9, .ref x10, .int 9, .int 0]))] H.size) (wc := [(x3, .inr (0, [.int 0, .ref x4, .ref x5, .int 0, .ref x6, .ref x7, .int 0, .ref x8, .ref x9, .ref x10, .int 9, .int 0]))]) (wr := [(h0, .inr (6, [.ref x0, .int 0, .ref x1, .ref x3, .ref x11, .ref x19, .ref x22, .int 0, .ref x29, .ref x33, .ref x36, .ref x42, .int 0, .long 0]))]) (ru_N (C := RX0) (host := "ChildCoins") (As := [.int v_c]) (rest := []) ⟨hx, hb, hml, hown, hts⟩ (c_L_hasPerson l D cI cB cZ cN x3 x4 x5 x6 x7 x8 x9 x10 v_c H.size) ggX6_loses_X0_hasPerson rfl (nmX6_104 hK.2) (hts (.initialized RX0) (List.mem_of_getElem? (i := 4) rfl)) (hts (.instanceMethod yX0_hasPerson) (List.mem_of_getElem? (i := 3) rfl)) (hts (.selects RX0 yX0_hasPerson yX0_hasPerson) (List.mem_of_getElem? (i := 5) rfl)) ⟨by decide, by decide, (show Option.map (fun d => d.parameters.length) (parseMethodDescriptor yX0_hasPerson.desc) = some 1 by decide +kernel)⟩ ⟨Nat.le_of_ble_eq_true rfl, Nat.le_of_ble_eq_true rfl⟩ hK hP hD 0 1 rfl rfl [1] (by decide) rfl hl.1 rfl (Nat.le_of_ble_eq_true rfl) dX6_loses_5 ⟨Nat.le_of_ble_eq_true rfl, Nat.le_of_ble_eq_true rfl⟩) hP hD hS hA [1] [0] rfl rfl (by decide) (by decide) (fun r2 u1 H locs w3 hP hD hS => ?_)
  have hP : va_P D vwCl [(h0, .inr (6, [.ref x0, .int 0, .ref x1, .ref x3, .ref x11, .ref x19, .ref x22, .int 0, .ref x29, .ref x33, .ref x36, .ref x42, .int 0, .long 0])), (x3, .inr (0, [.int 0, .ref x4, .ref x5, .int 0, .ref x6, .ref x7, .int 0, .ref x8, .ref x9, .ref x10, .int 9, .int 0]))] H := hP
  have hD : va_D A [(h0, .inr (6, [.ref x0, .int 0, .ref x1, .ref x3, .ref x11, .ref x19, .ref x22, .int 0, .ref x29, .ref x33, .ref x36, .ref x42, .int 0, .long 0])), (x3, .inr (0, [.int 0, .ref x4, .ref x5, .int 0, .ref x6, .ref x7, .int 0, .ref x8, .ref x9, .ref x10, .int 9, .int 0]))] := hD
  obtain rfl : r2 = 0 := w3
  refine lv_if_eq (tgt := 22) hx hb dX6_loses_8 (by decide) (fun h4 => ?_) (fun h4 => absurd (by decide) h4)
  refine lv_iconst (v := -1) hx hb dX6_loses_22 (by decide) ?_
  exact en_i hx hb hr hlk hP hD hS () [] (by decide) rfl (Nat.le_of_ble_eq_true rfl) (Nat.le_of_ble_eq_true rfl) dX6_loses_23 rfl
theorem dX6_finds_0 : decode cX6_finds 0 = .ok (.aload_n 0, 1) := by decide +kernel
theorem dX6_finds_1 : decode cX6_finds 1 = .ok (.getfield 27, 3) := by decide +kernel
theorem in_X6_finds_6 : ∀ w ∈ wsX60, w ∈ wsX6_finds := fun w h => List.mem_cons_of_mem _ (List.mem_append_left _ (List.mem_append_left _ (List.mem_append_right _ h)))
theorem dX6_finds_4 : decode cX6_finds 4 = .ok (.iload_n 1, 1) := by decide +kernel
theorem dX6_finds_5 : decode cX6_finds 5 = .ok (.invokevirtual 104, 3) := by decide +kernel
set_option maxRecDepth 20000 in
theorem ggX6_finds_X0_hasPerson : GoodIn wsX6_finds wsX0_hasPerson := goodIn_r _ [6, 7, 43, 44, 45, 46, 47, 48, 49, 50, 51, 52, 53, 54] (by decide +kernel) (by decide +kernel)
theorem dX6_finds_8 : decode cX6_finds 8 = .ok (.ifCond .eq 14, 3) := by decide +kernel
theorem dX6_finds_22 : decode cX6_finds 22 = .ok (.iconst (-1), 1) := by decide +kernel
theorem dX6_finds_23 : decode cX6_finds 23 = .ok (.ireturn, 1) := by decide +kernel
set_option maxHeartbeats 4000000 in
set_option maxRecDepth 100000 in
theorem c_X_finds (l : Launch) (D : va_G) (cI cB cZ cN : ClassId) (h0 : Nat) (x0 : Nat) (x1 : Nat) (x3 : Nat) (x11 : Nat) (x19 : Nat) (x22 : Nat) (x29 : Nat) (x33 : Nat) (x36 : Nat) (x42 : Nat) (x4 : Nat) (x5 : Nat) (x6 : Nat) (x7 : Nat) (x8 : Nat) (x9 : Nat) (x10 : Nat) (v_c : Int32) (v_w : Int32)  : Ci (S := Unit) l D cI cB cZ cN yX6_finds wsX6_finds ({ frames := 1, cells := 0, slots := 0, locals := 21 } : Room) [.ref h0, .int v_c, .int v_w] [(h0, .inr (6, [.ref x0, .int 0, .ref x1, .ref x3, .ref x11, .ref x19, .ref x22, .int 0, .ref x29, .ref x33, .ref x36, .ref x42, .int 0, .long 0])), (x3, .inr (0, [.int 0, .ref x4, .ref x5, .int 0, .ref x6, .ref x7, .int 0, .ref x8, .ref x9, .ref x10, .int 9, .int 0]))] (fun (r : Int32) (_ : Unit) => r = -1) (fun u => []) := by
  refine bx_of (D := D) (cI := cI) (cB := cB) (cZ := cZ) (cN := cN) (y := yX6_finds) (wd := wsX6_finds) (rm := ({ frames := 1, cells := 0, slots := 0, locals := 21 } : Room)) (av := [.ref h0, .int v_c, .int v_w]) (wc := [(h0, .inr (6, [.ref x0, .int 0, .ref x1, .ref x3, .ref x11, .ref x19, .ref x22, .int 0, .ref x29, .ref x33, .ref x36, .ref x42, .int 0, .long 0])), (x3, .inr (0, [.int 0, .ref x4, .ref x5, .int 0, .ref x6, .ref x7, .int 0, .ref x8, .ref x9, .ref x10, .int 9, .int 0]))]) (cc := cX6_finds) (maxL := 3) (ret := (some .int)) (Qc := fun _ A => va_Qi (S := Unit) (fun (r : Int32) (_ : Unit) => r = -1) (Aft D (fun (u : Unit) => []) A) A) (by decide) rfl (Nat.le_of_ble_eq_true rfl) ?_
  intro p e s m below meth c A H locs ⟨hx, hb, hr, hml, hown, hts, hlk, hnm⟩ hK hP hD hS hA ls hl
  have hl : lv_has ls 3 [(0, .ref h0), (1, .int v_c), (2, .int v_w)] := hl
  have hown : s.vm.findClass RX6 = some m.cls := hown
  refine lv_aload_n hx hb dX6_finds_0 rfl (lv_at hl 0 rfl) ?_
  refine va_get (D := D) (ci := 6) (v := .ref x3) (C := RX6) (T := TX6) (N := 14) hx hb hts in_X6_finds_6 hown hK.1 hP 0 rfl rfl 3 (by decide) (hts (.fieldLink RX6 27 "ChildCoins" "ours" "LChildCoins$Land;") (List.mem_of_getElem? (i := 1) rfl)) (fun _ h9 => h9) rfl dX6_finds_1 ?_
  refine lv_iload_n hx hb dX6_finds_4 rfl (lv_at hl 1 rfl) ?_
  refine be_i (free := va_A [(x3, .inr (0, [.int 0, .ref x4, .ref x5, .int 0, .ref x6, .ref x7, .int 0, .ref x8, .ref x9, .ref x10, .int 9, .int 0]))] H.size) (wc := [(x3, .inr (0, [.int 0, .ref x4, .ref x5, .int 0, .ref x6, .ref x7, .int 0, .ref x8, .ref x9, .ref x10, .int 9, .int 0]))]) (wr := [(h0, .inr (6, [.ref x0, .int 0, .ref x1, .ref x3, .ref x11, .ref x19, .ref x22, .int 0, .ref x29, .ref x33, .ref x36, .ref x42, .int 0, .long 0]))]) (ru_N (C := RX0) (host := "ChildCoins") (As := [.int v_c]) (rest := []) ⟨hx, hb, hml, hown, hts⟩ (c_L_hasPerson l D cI cB cZ cN x3 x4 x5 x6 x7 x8 x9 x10 v_c H.size) ggX6_finds_X0_hasPerson rfl (nmX6_104 hK.2) (hts (.initialized RX0) (List.mem_of_getElem? (i := 4) rfl)) (hts (.instanceMethod yX0_hasPerson) (List.mem_of_getElem? (i := 3) rfl)) (hts (.selects RX0 yX0_hasPerson yX0_hasPerson) (List.mem_of_getElem? (i := 5) rfl)) ⟨by decide, by decide, (show Option.map (fun d => d.parameters.length) (parseMethodDescriptor yX0_hasPerson.desc) = some 1 by decide +kernel)⟩ ⟨Nat.le_of_ble_eq_true rfl, Nat.le_of_ble_eq_true rfl⟩ hK hP hD 0 1 rfl rfl [1] (by decide) rfl hl.1 rfl (Nat.le_of_ble_eq_true rfl) dX6_finds_5 ⟨Nat.le_of_ble_eq_true rfl, Nat.le_of_ble_eq_true rfl⟩) hP hD hS hA [1] [0] rfl rfl (by decide) (by decide) (fun r2 u1 H locs w3 hP hD hS => ?_)
  have hP : va_P D vwCl [(h0, .inr (6, [.ref x0, .int 0, .ref x1, .ref x3, .ref x11, .ref x19, .ref x22, .int 0, .ref x29, .ref x33, .ref x36, .ref x42, .int 0, .long 0])), (x3, .inr (0, [.int 0, .ref x4, .ref x5, .int 0, .ref x6, .ref x7, .int 0, .ref x8, .ref x9, .ref x10, .int 9, .int 0]))] H := hP
  have hD : va_D A [(h0, .inr (6, [.ref x0, .int 0, .ref x1, .ref x3, .ref x11, .ref x19, .ref x22, .int 0, .ref x29, .ref x33, .ref x36, .ref x42, .int 0, .long 0])), (x3, .inr (0, [.int 0, .ref x4, .ref x5, .int 0, .ref x6, .ref x7, .int 0, .ref x8, .ref x9, .ref x10, .int 9, .int 0]))] := hD
  obtain rfl : r2 = 0 := w3
  refine lv_if_eq (tgt := 22) hx hb dX6_finds_8 (by decide) (fun h4 => ?_) (fun h4 => absurd (by decide) h4)
  refine lv_iconst (v := -1) hx hb dX6_finds_22 (by decide) ?_
  exact en_i hx hb hr hlk hP hD hS () [] (by decide) rfl (Nat.le_of_ble_eq_true rfl) (Nat.le_of_ble_eq_true rfl) dX6_finds_23 rfl
theorem dX6_passes_0 : decode cX6_passes 0 = .ok (.aload_n 0, 1) := by decide +kernel
theorem dX6_passes_1 : decode cX6_passes 1 = .ok (.getfield 27, 3) := by decide +kernel
theorem in_X6_passes_6 : ∀ w ∈ wsX60, w ∈ wsX6_passes := fun w h => List.mem_cons_of_mem _ (List.mem_append_left _ (List.mem_append_left _ (List.mem_append_right _ h)))
theorem dX6_passes_4 : decode cX6_passes 4 = .ok (.iload_n 1, 1) := by decide +kernel
theorem dX6_passes_5 : decode cX6_passes 5 = .ok (.invokevirtual 123, 3) := by decide +kernel
set_option maxRecDepth 20000 in
theorem ggX6_passes_X0_hasDebt : GoodIn wsX6_passes wsX0_hasDebt := goodIn_r _ [6, 7, 46, 47, 48, 49, 50, 51, 52, 53, 54, 55, 56, 57] (by decide +kernel) (by decide +kernel)
theorem dX6_passes_8 : decode cX6_passes 8 = .ok (.ifCond .eq 14, 3) := by decide +kernel
theorem dX6_passes_22 : decode cX6_passes 22 = .ok (.iconst (-1), 1) := by decide +kernel
theorem dX6_passes_23 : decode cX6_passes 23 = .ok (.ireturn, 1) := by decide +kernel
set_option maxHeartbeats 4000000 in
set_option maxRecDepth 100000 in
theorem c_X_passes (l : Launch) (D : va_G) (cI cB cZ cN : ClassId) (h0 : Nat) (x0 : Nat) (x1 : Nat) (x3 : Nat) (x11 : Nat) (x19 : Nat) (x22 : Nat) (x29 : Nat) (x33 : Nat) (x36 : Nat) (x42 : Nat) (x4 : Nat) (x5 : Nat) (x6 : Nat) (x7 : Nat) (x8 : Nat) (x9 : Nat) (x10 : Nat) (v_c : Int32) (v_w : Int32)  : Ci (S := Unit) l D cI cB cZ cN yX6_passes wsX6_passes ({ frames := 1, cells := 0, slots := 0, locals := 21 } : Room) [.ref h0, .int v_c, .int v_w] [(h0, .inr (6, [.ref x0, .int 0, .ref x1, .ref x3, .ref x11, .ref x19, .ref x22, .int 0, .ref x29, .ref x33, .ref x36, .ref x42, .int 0, .long 0])), (x3, .inr (0, [.int 0, .ref x4, .ref x5, .int 0, .ref x6, .ref x7, .int 0, .ref x8, .ref x9, .ref x10, .int 9, .int 0]))] (fun (r : Int32) (_ : Unit) => r = -1) (fun u => []) := by
  refine bx_of (D := D) (cI := cI) (cB := cB) (cZ := cZ) (cN := cN) (y := yX6_passes) (wd := wsX6_passes) (rm := ({ frames := 1, cells := 0, slots := 0, locals := 21 } : Room)) (av := [.ref h0, .int v_c, .int v_w]) (wc := [(h0, .inr (6, [.ref x0, .int 0, .ref x1, .ref x3, .ref x11, .ref x19, .ref x22, .int 0, .ref x29, .ref x33, .ref x36, .ref x42, .int 0, .long 0])), (x3, .inr (0, [.int 0, .ref x4, .ref x5, .int 0, .ref x6, .ref x7, .int 0, .ref x8, .ref x9, .ref x10, .int 9, .int 0]))]) (cc := cX6_passes) (maxL := 4) (ret := (some .int)) (Qc := fun _ A => va_Qi (S := Unit) (fun (r : Int32) (_ : Unit) => r = -1) (Aft D (fun (u : Unit) => []) A) A) (by decide) rfl (Nat.le_of_ble_eq_true rfl) ?_
  intro p e s m below meth c A H locs ⟨hx, hb, hr, hml, hown, hts, hlk, hnm⟩ hK hP hD hS hA ls hl
  have hl : lv_has ls 4 [(0, .ref h0), (1, .int v_c), (2, .int v_w)] := hl
  have hown : s.vm.findClass RX6 = some m.cls := hown
  refine lv_aload_n hx hb dX6_passes_0 rfl (lv_at hl 0 rfl) ?_
  refine va_get (D := D) (ci := 6) (v := .ref x3) (C := RX6) (T := TX6) (N := 14) hx hb hts in_X6_passes_6 hown hK.1 hP 0 rfl rfl 3 (by decide) (hts (.fieldLink RX6 27 "ChildCoins" "ours" "LChildCoins$Land;") (List.mem_of_getElem? (i := 1) rfl)) (fun _ h9 => h9) rfl dX6_passes_1 ?_
  refine lv_iload_n hx hb dX6_passes_4 rfl (lv_at hl 1 rfl) ?_
  refine be_i (free := va_A [(x3, .inr (0, [.int 0, .ref x4, .ref x5, .int 0, .ref x6, .ref x7, .int 0, .ref x8, .ref x9, .ref x10, .int 9, .int 0]))] H.size) (wc := [(x3, .inr (0, [.int 0, .ref x4, .ref x5, .int 0, .ref x6, .ref x7, .int 0, .ref x8, .ref x9, .ref x10, .int 9, .int 0]))]) (wr := [(h0, .inr (6, [.ref x0, .int 0, .ref x1, .ref x3, .ref x11, .ref x19, .ref x22, .int 0, .ref x29, .ref x33, .ref x36, .ref x42, .int 0, .long 0]))]) (ru_N (C := RX0) (host := "ChildCoins") (As := [.int v_c]) (rest := []) ⟨hx, hb, hml, hown, hts⟩ (c_L_hasDebt l D cI cB cZ cN x3 x4 x5 x6 x7 x8 x9 x10 v_c H.size) ggX6_passes_X0_hasDebt rfl (nmX6_123 hK.2) (hts (.initialized RX0) (List.mem_of_getElem? (i := 4) rfl)) (hts (.instanceMethod yX0_hasDebt) (List.mem_of_getElem? (i := 3) rfl)) (hts (.selects RX0 yX0_hasDebt yX0_hasDebt) (List.mem_of_getElem? (i := 5) rfl)) ⟨by decide, by decide, (show Option.map (fun d => d.parameters.length) (parseMethodDescriptor yX0_hasDebt.desc) = some 1 by decide +kernel)⟩ ⟨Nat.le_of_ble_eq_true rfl, Nat.le_of_ble_eq_true rfl⟩ hK hP hD 0 1 rfl rfl [1] (by decide) rfl hl.1 rfl (Nat.le_of_ble_eq_true rfl) dX6_passes_5 ⟨Nat.le_of_ble_eq_true rfl, Nat.le_of_ble_eq_true rfl⟩) hP hD hS hA [1] [0] rfl rfl (by decide) (by decide) (fun r2 u1 H locs w3 hP hD hS => ?_)
  have hP : va_P D vwCl [(h0, .inr (6, [.ref x0, .int 0, .ref x1, .ref x3, .ref x11, .ref x19, .ref x22, .int 0, .ref x29, .ref x33, .ref x36, .ref x42, .int 0, .long 0])), (x3, .inr (0, [.int 0, .ref x4, .ref x5, .int 0, .ref x6, .ref x7, .int 0, .ref x8, .ref x9, .ref x10, .int 9, .int 0]))] H := hP
  have hD : va_D A [(h0, .inr (6, [.ref x0, .int 0, .ref x1, .ref x3, .ref x11, .ref x19, .ref x22, .int 0, .ref x29, .ref x33, .ref x36, .ref x42, .int 0, .long 0])), (x3, .inr (0, [.int 0, .ref x4, .ref x5, .int 0, .ref x6, .ref x7, .int 0, .ref x8, .ref x9, .ref x10, .int 9, .int 0]))] := hD
  obtain rfl : r2 = 0 := w3
  refine lv_if_eq (tgt := 22) hx hb dX6_passes_8 (by decide) (fun h4 => ?_) (fun h4 => absurd (by decide) h4)
  refine lv_iconst (v := -1) hx hb dX6_passes_22 (by decide) ?_
  exact en_i hx hb hr hlk hP hD hS () [] (by decide) rfl (Nat.le_of_ble_eq_true rfl) (Nat.le_of_ble_eq_true rfl) dX6_passes_23 rfl
theorem dX6_pieces_0 : decode cX6_pieces 0 = .ok (.aload_n 0, 1) := by decide +kernel
theorem dX6_pieces_1 : decode cX6_pieces 1 = .ok (.getfield 27, 3) := by decide +kernel
theorem in_X6_pieces_6 : ∀ w ∈ wsX60, w ∈ wsX6_pieces := fun w h => List.mem_cons_of_mem _ (List.mem_append_left _ (List.mem_append_left _ (List.mem_append_left _ (List.mem_append_right _ h))))
theorem dX6_pieces_4 : decode cX6_pieces 4 = .ok (.iload_n 1, 1) := by decide +kernel
theorem dX6_pieces_5 : decode cX6_pieces 5 = .ok (.invokevirtual 123, 3) := by decide +kernel
set_option maxRecDepth 20000 in
theorem ggX6_pieces_X0_hasDebt : GoodIn wsX6_pieces wsX0_hasDebt := goodIn_r _ [6, 7, 75, 76, 77, 78, 79, 80, 81, 82, 83, 84, 85, 86] (by decide +kernel) (by decide +kernel)
theorem dX6_pieces_8 : decode cX6_pieces 8 = .ok (.ifCond .eq 14, 3) := by decide +kernel
theorem dX6_pieces_22 : decode cX6_pieces 22 = .ok (.iconst (-1), 1) := by decide +kernel
theorem dX6_pieces_23 : decode cX6_pieces 23 = .ok (.ireturn, 1) := by decide +kernel
set_option maxHeartbeats 4000000 in
set_option maxRecDepth 100000 in
theorem c_X_pieces (l : Launch) (D : va_G) (cI cB cZ cN : ClassId) (h0 : Nat) (x0 : Nat) (x1 : Nat) (x3 : Nat) (x11 : Nat) (x19 : Nat) (x22 : Nat) (x29 : Nat) (x33 : Nat) (x36 : Nat) (x42 : Nat) (x4 : Nat) (x5 : Nat) (x6 : Nat) (x7 : Nat) (x8 : Nat) (x9 : Nat) (x10 : Nat) (v_c : Int32) (v_w : Int32)  : Ci (S := Unit) l D cI cB cZ cN yX6_pieces wsX6_pieces ({ frames := 1, cells := 0, slots := 0, locals := 21 } : Room) [.ref h0, .int v_c, .int v_w] [(h0, .inr (6, [.ref x0, .int 0, .ref x1, .ref x3, .ref x11, .ref x19, .ref x22, .int 0, .ref x29, .ref x33, .ref x36, .ref x42, .int 0, .long 0])), (x3, .inr (0, [.int 0, .ref x4, .ref x5, .int 0, .ref x6, .ref x7, .int 0, .ref x8, .ref x9, .ref x10, .int 9, .int 0]))] (fun (r : Int32) (_ : Unit) => r = -1) (fun u => []) := by
  refine bx_of (D := D) (cI := cI) (cB := cB) (cZ := cZ) (cN := cN) (y := yX6_pieces) (wd := wsX6_pieces) (rm := ({ frames := 1, cells := 0, slots := 0, locals := 21 } : Room)) (av := [.ref h0, .int v_c, .int v_w]) (wc := [(h0, .inr (6, [.ref x0, .int 0, .ref x1, .ref x3, .ref x11, .ref x19, .ref x22, .int 0, .ref x29, .ref x33, .ref x36, .ref x42, .int 0, .long 0])), (x3, .inr (0, [.int 0, .ref x4, .ref x5, .int 0, .ref x6, .ref x7, .int 0, .ref x8, .ref x9, .ref x10, .int 9, .int 0]))]) (cc := cX6_pieces) (maxL := 3) (ret := (some .int)) (Qc := fun _ A => va_Qi (S := Unit) (fun (r : Int32) (_ : Unit) => r = -1) (Aft D (fun (u : Unit) => []) A) A) (by decide) rfl (Nat.le_of_ble_eq_true rfl) ?_
  intro p e s m below meth c A H locs ⟨hx, hb, hr, hml, hown, hts, hlk, hnm⟩ hK hP hD hS hA ls hl
  have hl : lv_has ls 3 [(0, .ref h0), (1, .int v_c), (2, .int v_w)] := hl
  have hown : s.vm.findClass RX6 = some m.cls := hown
  refine lv_aload_n hx hb dX6_pieces_0 rfl (lv_at hl 0 rfl) ?_
  refine va_get (D := D) (ci := 6) (v := .ref x3) (C := RX6) (T := TX6) (N := 14) hx hb hts in_X6_pieces_6 hown hK.1 hP 0 rfl rfl 3 (by decide) (hts (.fieldLink RX6 27 "ChildCoins" "ours" "LChildCoins$Land;") (List.mem_of_getElem? (i := 1) rfl)) (fun _ h9 => h9) rfl dX6_pieces_1 ?_
  refine lv_iload_n hx hb dX6_pieces_4 rfl (lv_at hl 1 rfl) ?_
  refine be_i (free := va_A [(x3, .inr (0, [.int 0, .ref x4, .ref x5, .int 0, .ref x6, .ref x7, .int 0, .ref x8, .ref x9, .ref x10, .int 9, .int 0]))] H.size) (wc := [(x3, .inr (0, [.int 0, .ref x4, .ref x5, .int 0, .ref x6, .ref x7, .int 0, .ref x8, .ref x9, .ref x10, .int 9, .int 0]))]) (wr := [(h0, .inr (6, [.ref x0, .int 0, .ref x1, .ref x3, .ref x11, .ref x19, .ref x22, .int 0, .ref x29, .ref x33, .ref x36, .ref x42, .int 0, .long 0]))]) (ru_N (C := RX0) (host := "ChildCoins") (As := [.int v_c]) (rest := []) ⟨hx, hb, hml, hown, hts⟩ (c_L_hasDebt l D cI cB cZ cN x3 x4 x5 x6 x7 x8 x9 x10 v_c H.size) ggX6_pieces_X0_hasDebt rfl (nmX6_123 hK.2) (hts (.initialized RX0) (List.mem_of_getElem? (i := 4) rfl)) (hts (.instanceMethod yX0_hasDebt) (List.mem_of_getElem? (i := 3) rfl)) (hts (.selects RX0 yX0_hasDebt yX0_hasDebt) (List.mem_of_getElem? (i := 5) rfl)) ⟨by decide, by decide, (show Option.map (fun d => d.parameters.length) (parseMethodDescriptor yX0_hasDebt.desc) = some 1 by decide +kernel)⟩ ⟨Nat.le_of_ble_eq_true rfl, Nat.le_of_ble_eq_true rfl⟩ hK hP hD 0 1 rfl rfl [1] (by decide) rfl hl.1 rfl (Nat.le_of_ble_eq_true rfl) dX6_pieces_5 ⟨Nat.le_of_ble_eq_true rfl, Nat.le_of_ble_eq_true rfl⟩) hP hD hS hA [1] [0] rfl rfl (by decide) (by decide) (fun r2 u1 H locs w3 hP hD hS => ?_)
  have hP : va_P D vwCl [(h0, .inr (6, [.ref x0, .int 0, .ref x1, .ref x3, .ref x11, .ref x19, .ref x22, .int 0, .ref x29, .ref x33, .ref x36, .ref x42, .int 0, .long 0])), (x3, .inr (0, [.int 0, .ref x4, .ref x5, .int 0, .ref x6, .ref x7, .int 0, .ref x8, .ref x9, .ref x10, .int 9, .int 0]))] H := hP
  have hD : va_D A [(h0, .inr (6, [.ref x0, .int 0, .ref x1, .ref x3, .ref x11, .ref x19, .ref x22, .int 0, .ref x29, .ref x33, .ref x36, .ref x42, .int 0, .long 0])), (x3, .inr (0, [.int 0, .ref x4, .ref x5, .int 0, .ref x6, .ref x7, .int 0, .ref x8, .ref x9, .ref x10, .int 9, .int 0]))] := hD
  obtain rfl : r2 = 0 := w3
  refine lv_if_eq (tgt := 22) hx hb dX6_pieces_8 (by decide) (fun h4 => ?_) (fun h4 => absurd (by decide) h4)
  refine lv_iconst (v := -1) hx hb dX6_pieces_22 (by decide) ?_
  exact en_i hx hb hr hlk hP hD hS () [] (by decide) rfl (Nat.le_of_ble_eq_true rfl) (Nat.le_of_ble_eq_true rfl) dX6_pieces_23 rfl
theorem dX6_lender_0 : decode cX6_lender 0 = .ok (.aload_n 0, 1) := by decide +kernel
theorem dX6_lender_1 : decode cX6_lender 1 = .ok (.getfield 27, 3) := by decide +kernel
theorem in_X6_lender_6 : ∀ w ∈ wsX60, w ∈ wsX6_lender := fun w h => List.mem_cons_of_mem _ (List.mem_append_left _ (List.mem_append_left _ (List.mem_append_right _ h)))
theorem dX6_lender_4 : decode cX6_lender 4 = .ok (.iload_n 1, 1) := by decide +kernel
theorem dX6_lender_5 : decode cX6_lender 5 = .ok (.invokevirtual 104, 3) := by decide +kernel
set_option maxRecDepth 20000 in
theorem ggX6_lender_X0_hasPerson : GoodIn wsX6_lender wsX0_hasPerson := goodIn_r _ [6, 7, 49, 50, 51, 52, 53, 54, 55, 56, 57, 58, 59, 60] (by decide +kernel) (by decide +kernel)
theorem dX6_lender_8 : decode cX6_lender 8 = .ok (.ifCond .ne 5, 3) := by decide +kernel
theorem dX6_lender_11 : decode cX6_lender 11 = .ok (.iconst (-1), 1) := by decide +kernel
theorem dX6_lender_12 : decode cX6_lender 12 = .ok (.ireturn, 1) := by decide +kernel
set_option maxHeartbeats 4000000 in
set_option maxRecDepth 100000 in
theorem c_X_lender (l : Launch) (D : va_G) (cI cB cZ cN : ClassId) (h0 : Nat) (x0 : Nat) (x1 : Nat) (x3 : Nat) (x11 : Nat) (x19 : Nat) (x22 : Nat) (x29 : Nat) (x33 : Nat) (x36 : Nat) (x42 : Nat) (x4 : Nat) (x5 : Nat) (x6 : Nat) (x7 : Nat) (x8 : Nat) (x9 : Nat) (x10 : Nat) (v_c : Int32)  : Ci (S := Unit) l D cI cB cZ cN yX6_lender wsX6_lender ({ frames := 1, cells := 0, slots := 0, locals := 21 } : Room) [.ref h0, .int v_c] [(h0, .inr (6, [.ref x0, .int 0, .ref x1, .ref x3, .ref x11, .ref x19, .ref x22, .int 0, .ref x29, .ref x33, .ref x36, .ref x42, .int 0, .long 0])), (x3, .inr (0, [.int 0, .ref x4, .ref x5, .int 0, .ref x6, .ref x7, .int 0, .ref x8, .ref x9, .ref x10, .int 9, .int 0]))] (fun (r : Int32) (_ : Unit) => r = -1) (fun u => []) := by
  refine bx_of (D := D) (cI := cI) (cB := cB) (cZ := cZ) (cN := cN) (y := yX6_lender) (wd := wsX6_lender) (rm := ({ frames := 1, cells := 0, slots := 0, locals := 21 } : Room)) (av := [.ref h0, .int v_c]) (wc := [(h0, .inr (6, [.ref x0, .int 0, .ref x1, .ref x3, .ref x11, .ref x19, .ref x22, .int 0, .ref x29, .ref x33, .ref x36, .ref x42, .int 0, .long 0])), (x3, .inr (0, [.int 0, .ref x4, .ref x5, .int 0, .ref x6, .ref x7, .int 0, .ref x8, .ref x9, .ref x10, .int 9, .int 0]))]) (cc := cX6_lender) (maxL := 6) (ret := (some .int)) (Qc := fun _ A => va_Qi (S := Unit) (fun (r : Int32) (_ : Unit) => r = -1) (Aft D (fun (u : Unit) => []) A) A) (by decide) rfl (Nat.le_of_ble_eq_true rfl) ?_
  intro p e s m below meth c A H locs ⟨hx, hb, hr, hml, hown, hts, hlk, hnm⟩ hK hP hD hS hA ls hl
  have hl : lv_has ls 6 [(0, .ref h0), (1, .int v_c)] := hl
  have hown : s.vm.findClass RX6 = some m.cls := hown
  refine lv_aload_n hx hb dX6_lender_0 rfl (lv_at hl 0 rfl) ?_
  refine va_get (D := D) (ci := 6) (v := .ref x3) (C := RX6) (T := TX6) (N := 14) hx hb hts in_X6_lender_6 hown hK.1 hP 0 rfl rfl 3 (by decide) (hts (.fieldLink RX6 27 "ChildCoins" "ours" "LChildCoins$Land;") (List.mem_of_getElem? (i := 1) rfl)) (fun _ h9 => h9) rfl dX6_lender_1 ?_
  refine lv_iload_n hx hb dX6_lender_4 rfl (lv_at hl 1 rfl) ?_
  refine be_i (free := va_A [(x3, .inr (0, [.int 0, .ref x4, .ref x5, .int 0, .ref x6, .ref x7, .int 0, .ref x8, .ref x9, .ref x10, .int 9, .int 0]))] H.size) (wc := [(x3, .inr (0, [.int 0, .ref x4, .ref x5, .int 0, .ref x6, .ref x7, .int 0, .ref x8, .ref x9, .ref x10, .int 9, .int 0]))]) (wr := [(h0, .inr (6, [.ref x0, .int 0, .ref x1, .ref x3, .ref x11, .ref x19, .ref x22, .int 0, .ref x29, .ref x33, .ref x36, .ref x42, .int 0, .long 0]))]) (ru_N (C := RX0) (host := "ChildCoins") (As := [.int v_c]) (rest := []) ⟨hx, hb, hml, hown, hts⟩ (c_L_hasPerson l D cI cB cZ cN x3 x4 x5 x6 x7 x8 x9 x10 v_c H.size) ggX6_lender_X0_hasPerson rfl (nmX6_104 hK.2) (hts (.initialized RX0) (List.mem_of_getElem? (i := 4) rfl)) (hts (.instanceMethod yX0_hasPerson) (List.mem_of_getElem? (i := 3) rfl)) (hts (.selects RX0 yX0_hasPerson yX0_hasPerson) (List.mem_of_getElem? (i := 5) rfl)) ⟨by decide, by decide, (show Option.map (fun d => d.parameters.length) (parseMethodDescriptor yX0_hasPerson.desc) = some 1 by decide +kernel)⟩ ⟨Nat.le_of_ble_eq_true rfl, Nat.le_of_ble_eq_true rfl⟩ hK hP hD 0 1 rfl rfl [1] (by decide) rfl hl.1 rfl (Nat.le_of_ble_eq_true rfl) dX6_lender_5 ⟨Nat.le_of_ble_eq_true rfl, Nat.le_of_ble_eq_true rfl⟩) hP hD hS hA [1] [0] rfl rfl (by decide) (by decide) (fun r2 u1 H locs w3 hP hD hS => ?_)
  have hP : va_P D vwCl [(h0, .inr (6, [.ref x0, .int 0, .ref x1, .ref x3, .ref x11, .ref x19, .ref x22, .int 0, .ref x29, .ref x33, .ref x36, .ref x42, .int 0, .long 0])), (x3, .inr (0, [.int 0, .ref x4, .ref x5, .int 0, .ref x6, .ref x7, .int 0, .ref x8, .ref x9, .ref x10, .int 9, .int 0]))] H := hP
  have hD : va_D A [(h0, .inr (6, [.ref x0, .int 0, .ref x1, .ref x3, .ref x11, .ref x19, .ref x22, .int 0, .ref x29, .ref x33, .ref x36, .ref x42, .int 0, .long 0])), (x3, .inr (0, [.int 0, .ref x4, .ref x5, .int 0, .ref x6, .ref x7, .int 0, .ref x8, .ref x9, .ref x10, .int 9, .int 0]))] := hD
  obtain rfl : r2 = 0 := w3
  refine lv_if_ne (tgt := 13) hx hb dX6_lender_8 (by decide) (fun h4 => absurd (by decide) h4) (fun h4 => ?_)
  refine lv_iconst (v := -1) hx hb dX6_lender_11 (by decide) ?_
  exact en_i hx hb hr hlk hP hD hS () [] (by decide) rfl (Nat.le_of_ble_eq_true rfl) (Nat.le_of_ble_eq_true rfl) dX6_lender_12 rfl
theorem dX6_corner_0 : decode cX6_corner 0 = .ok (.aload_n 0, 1) := by decide +kernel
theorem dX6_corner_1 : decode cX6_corner 1 = .ok (.getfield 27, 3) := by decide +kernel
theorem in_X6_corner_6 : ∀ w ∈ wsX60, w ∈ wsX6_corner := fun w h => List.mem_cons_of_mem _ (List.mem_append_left _ (List.mem_append_left _ (List.mem_append_left _ (List.mem_append_right _ h))))
theorem dX6_corner_4 : decode cX6_corner 4 = .ok (.iload_n 1, 1) := by decide +kernel
theorem dX6_corner_5 : decode cX6_corner 5 = .ok (.invokevirtual 123, 3) := by decide +kernel
set_option maxRecDepth 20000 in
theorem ggX6_corner_X0_hasDebt : GoodIn wsX6_corner wsX0_hasDebt := goodIn_r _ [7, 8, 67, 68, 69, 70, 71, 72, 73, 74, 75, 76, 77, 78] (by decide +kernel) (by decide +kernel)
theorem dX6_corner_8 : decode cX6_corner 8 = .ok (.ifCond .ne 5, 3) := by decide +kernel
theorem dX6_corner_11 : decode cX6_corner 11 = .ok (.iconst (-1), 1) := by decide +kernel
theorem dX6_corner_12 : decode cX6_corner 12 = .ok (.ireturn, 1) := by decide +kernel
set_option maxHeartbeats 4000000 in
set_option maxRecDepth 100000 in
theorem c_X_corner (l : Launch) (D : va_G) (cI cB cZ cN : ClassId) (h0 : Nat) (x0 : Nat) (x1 : Nat) (x3 : Nat) (x11 : Nat) (x19 : Nat) (x22 : Nat) (x29 : Nat) (x33 : Nat) (x36 : Nat) (x42 : Nat) (x4 : Nat) (x5 : Nat) (x6 : Nat) (x7 : Nat) (x8 : Nat) (x9 : Nat) (x10 : Nat) (v_c : Int32)  : Ci (S := Unit) l D cI cB cZ cN yX6_corner wsX6_corner ({ frames := 1, cells := 0, slots := 0, locals := 21 } : Room) [.ref h0, .int v_c] [(h0, .inr (6, [.ref x0, .int 0, .ref x1, .ref x3, .ref x11, .ref x19, .ref x22, .int 0, .ref x29, .ref x33, .ref x36, .ref x42, .int 0, .long 0])), (x3, .inr (0, [.int 0, .ref x4, .ref x5, .int 0, .ref x6, .ref x7, .int 0, .ref x8, .ref x9, .ref x10, .int 9, .int 0]))] (fun (r : Int32) (_ : Unit) => r = -1) (fun u => []) := by
  refine bx_of (D := D) (cI := cI) (cB := cB) (cZ := cZ) (cN := cN) (y := yX6_corner) (wd := wsX6_corner) (rm := ({ frames := 1, cells := 0, slots := 0, locals := 21 } : Room)) (av := [.ref h0, .int v_c]) (wc := [(h0, .inr (6, [.ref x0, .int 0, .ref x1, .ref x3, .ref x11, .ref x19, .ref x22, .int 0, .ref x29, .ref x33, .ref x36, .ref x42, .int 0, .long 0])), (x3, .inr (0, [.int 0, .ref x4, .ref x5, .int 0, .ref x6, .ref x7, .int 0, .ref x8, .ref x9, .ref x10, .int 9, .int 0]))]) (cc := cX6_corner) (maxL := 2) (ret := (some .int)) (Qc := fun _ A => va_Qi (S := Unit) (fun (r : Int32) (_ : Unit) => r = -1) (Aft D (fun (u : Unit) => []) A) A) (by decide) rfl (Nat.le_of_ble_eq_true rfl) ?_
  intro p e s m below meth c A H locs ⟨hx, hb, hr, hml, hown, hts, hlk, hnm⟩ hK hP hD hS hA ls hl
  have hl : lv_has ls 2 [(0, .ref h0), (1, .int v_c)] := hl
  have hown : s.vm.findClass RX6 = some m.cls := hown
  refine lv_aload_n hx hb dX6_corner_0 rfl (lv_at hl 0 rfl) ?_
  refine va_get (D := D) (ci := 6) (v := .ref x3) (C := RX6) (T := TX6) (N := 14) hx hb hts in_X6_corner_6 hown hK.1 hP 0 rfl rfl 3 (by decide) (hts (.fieldLink RX6 27 "ChildCoins" "ours" "LChildCoins$Land;") (List.mem_of_getElem? (i := 1) rfl)) (fun _ h9 => h9) rfl dX6_corner_1 ?_
  refine lv_iload_n hx hb dX6_corner_4 rfl (lv_at hl 1 rfl) ?_
  refine be_i (free := va_A [(x3, .inr (0, [.int 0, .ref x4, .ref x5, .int 0, .ref x6, .ref x7, .int 0, .ref x8, .ref x9, .ref x10, .int 9, .int 0]))] H.size) (wc := [(x3, .inr (0, [.int 0, .ref x4, .ref x5, .int 0, .ref x6, .ref x7, .int 0, .ref x8, .ref x9, .ref x10, .int 9, .int 0]))]) (wr := [(h0, .inr (6, [.ref x0, .int 0, .ref x1, .ref x3, .ref x11, .ref x19, .ref x22, .int 0, .ref x29, .ref x33, .ref x36, .ref x42, .int 0, .long 0]))]) (ru_N (C := RX0) (host := "ChildCoins") (As := [.int v_c]) (rest := []) ⟨hx, hb, hml, hown, hts⟩ (c_L_hasDebt l D cI cB cZ cN x3 x4 x5 x6 x7 x8 x9 x10 v_c H.size) ggX6_corner_X0_hasDebt rfl (nmX6_123 hK.2) (hts (.initialized RX0) (List.mem_of_getElem? (i := 5) rfl)) (hts (.instanceMethod yX0_hasDebt) (List.mem_of_getElem? (i := 4) rfl)) (hts (.selects RX0 yX0_hasDebt yX0_hasDebt) (List.mem_of_getElem? (i := 6) rfl)) ⟨by decide, by decide, (show Option.map (fun d => d.parameters.length) (parseMethodDescriptor yX0_hasDebt.desc) = some 1 by decide +kernel)⟩ ⟨Nat.le_of_ble_eq_true rfl, Nat.le_of_ble_eq_true rfl⟩ hK hP hD 0 1 rfl rfl [1] (by decide) rfl hl.1 rfl (Nat.le_of_ble_eq_true rfl) dX6_corner_5 ⟨Nat.le_of_ble_eq_true rfl, Nat.le_of_ble_eq_true rfl⟩) hP hD hS hA [1] [0] rfl rfl (by decide) (by decide) (fun r2 u1 H locs w3 hP hD hS => ?_)
  have hP : va_P D vwCl [(h0, .inr (6, [.ref x0, .int 0, .ref x1, .ref x3, .ref x11, .ref x19, .ref x22, .int 0, .ref x29, .ref x33, .ref x36, .ref x42, .int 0, .long 0])), (x3, .inr (0, [.int 0, .ref x4, .ref x5, .int 0, .ref x6, .ref x7, .int 0, .ref x8, .ref x9, .ref x10, .int 9, .int 0]))] H := hP
  have hD : va_D A [(h0, .inr (6, [.ref x0, .int 0, .ref x1, .ref x3, .ref x11, .ref x19, .ref x22, .int 0, .ref x29, .ref x33, .ref x36, .ref x42, .int 0, .long 0])), (x3, .inr (0, [.int 0, .ref x4, .ref x5, .int 0, .ref x6, .ref x7, .int 0, .ref x8, .ref x9, .ref x10, .int 9, .int 0]))] := hD
  obtain rfl : r2 = 0 := w3
  refine lv_if_ne (tgt := 13) hx hb dX6_corner_8 (by decide) (fun h4 => absurd (by decide) h4) (fun h4 => ?_)
  refine lv_iconst (v := -1) hx hb dX6_corner_11 (by decide) ?_
  exact en_i hx hb hr hlk hP hD hS () [] (by decide) rfl (Nat.le_of_ble_eq_true rfl) (Nat.le_of_ble_eq_true rfl) dX6_corner_12 rfl
theorem dX6_odds_0 : decode cX6_odds 0 = .ok (.aload_n 0, 1) := by decide +kernel
theorem dX6_odds_1 : decode cX6_odds 1 = .ok (.getfield 27, 3) := by decide +kernel
theorem in_X6_odds_6 : ∀ w ∈ wsX60, w ∈ wsX6_odds := fun w h => List.mem_cons_of_mem _ (List.mem_append_left _ (List.mem_append_left _ (List.mem_append_left _ (List.mem_append_right _ h))))
theorem dX6_odds_4 : decode cX6_odds 4 = .ok (.iload_n 1, 1) := by decide +kernel
theorem dX6_odds_5 : decode cX6_odds 5 = .ok (.invokevirtual 123, 3) := by decide +kernel
set_option maxRecDepth 20000 in
theorem ggX6_odds_X0_hasDebt : GoodIn wsX6_odds wsX0_hasDebt := goodIn_r _ [7, 8, 71, 72, 73, 74, 75, 76, 77, 78, 79, 80, 81, 82] (by decide +kernel) (by decide +kernel)
theorem dX6_odds_8 : decode cX6_odds 8 = .ok (.ifCond .eq 22, 3) := by decide +kernel
theorem dX6_odds_30 : decode cX6_odds 30 = .ok (.iconst (-1), 1) := by decide +kernel
theorem dX6_odds_31 : decode cX6_odds 31 = .ok (.ireturn, 1) := by decide +kernel
set_option maxHeartbeats 4000000 in
set_option maxRecDepth 100000 in
theorem c_X_odds (l : Launch) (D : va_G) (cI cB cZ cN : ClassId) (h0 : Nat) (x0 : Nat) (x1 : Nat) (x3 : Nat) (x11 : Nat) (x19 : Nat) (x22 : Nat) (x29 : Nat) (x33 : Nat) (x36 : Nat) (x42 : Nat) (x4 : Nat) (x5 : Nat) (x6 : Nat) (x7 : Nat) (x8 : Nat) (x9 : Nat) (x10 : Nat) (v_c : Int32) (v_w : Int32) (v_q : Int32)  : Ci (S := Unit) l D cI cB cZ cN yX6_odds wsX6_odds ({ frames := 1, cells := 0, slots := 0, locals := 21 } : Room) [.ref h0, .int v_c, .int v_w, .int v_q] [(h0, .inr (6, [.ref x0, .int 0, .ref x1, .ref x3, .ref x11, .ref x19, .ref x22, .int 0, .ref x29, .ref x33, .ref x36, .ref x42, .int 0, .long 0])), (x3, .inr (0, [.int 0, .ref x4, .ref x5, .int 0, .ref x6, .ref x7, .int 0, .ref x8, .ref x9, .ref x10, .int 9, .int 0]))] (fun (r : Int32) (_ : Unit) => r = -1) (fun u => []) := by
  refine bx_of (D := D) (cI := cI) (cB := cB) (cZ := cZ) (cN := cN) (y := yX6_odds) (wd := wsX6_odds) (rm := ({ frames := 1, cells := 0, slots := 0, locals := 21 } : Room)) (av := [.ref h0, .int v_c, .int v_w, .int v_q]) (wc := [(h0, .inr (6, [.ref x0, .int 0, .ref x1, .ref x3, .ref x11, .ref x19, .ref x22, .int 0, .ref x29, .ref x33, .ref x36, .ref x42, .int 0, .long 0])), (x3, .inr (0, [.int 0, .ref x4, .ref x5, .int 0, .ref x6, .ref x7, .int 0, .ref x8, .ref x9, .ref x10, .int 9, .int 0]))]) (cc := cX6_odds) (maxL := 7) (ret := (some .int)) (Qc := fun _ A => va_Qi (S := Unit) (fun (r : Int32) (_ : Unit) => r = -1) (Aft D (fun (u : Unit) => []) A) A) (by decide) rfl (Nat.le_of_ble_eq_true rfl) ?_
  intro p e s m below meth c A H locs ⟨hx, hb, hr, hml, hown, hts, hlk, hnm⟩ hK hP hD hS hA ls hl
  have hl : lv_has ls 7 [(0, .ref h0), (1, .int v_c), (2, .int v_w), (3, .int v_q)] := hl
  have hown : s.vm.findClass RX6 = some m.cls := hown
  refine lv_aload_n hx hb dX6_odds_0 rfl (lv_at hl 0 rfl) ?_
  refine va_get (D := D) (ci := 6) (v := .ref x3) (C := RX6) (T := TX6) (N := 14) hx hb hts in_X6_odds_6 hown hK.1 hP 0 rfl rfl 3 (by decide) (hts (.fieldLink RX6 27 "ChildCoins" "ours" "LChildCoins$Land;") (List.mem_of_getElem? (i := 1) rfl)) (fun _ h9 => h9) rfl dX6_odds_1 ?_
  refine lv_iload_n hx hb dX6_odds_4 rfl (lv_at hl 1 rfl) ?_
  refine be_i (free := va_A [(x3, .inr (0, [.int 0, .ref x4, .ref x5, .int 0, .ref x6, .ref x7, .int 0, .ref x8, .ref x9, .ref x10, .int 9, .int 0]))] H.size) (wc := [(x3, .inr (0, [.int 0, .ref x4, .ref x5, .int 0, .ref x6, .ref x7, .int 0, .ref x8, .ref x9, .ref x10, .int 9, .int 0]))]) (wr := [(h0, .inr (6, [.ref x0, .int 0, .ref x1, .ref x3, .ref x11, .ref x19, .ref x22, .int 0, .ref x29, .ref x33, .ref x36, .ref x42, .int 0, .long 0]))]) (ru_N (C := RX0) (host := "ChildCoins") (As := [.int v_c]) (rest := []) ⟨hx, hb, hml, hown, hts⟩ (c_L_hasDebt l D cI cB cZ cN x3 x4 x5 x6 x7 x8 x9 x10 v_c H.size) ggX6_odds_X0_hasDebt rfl (nmX6_123 hK.2) (hts (.initialized RX0) (List.mem_of_getElem? (i := 5) rfl)) (hts (.instanceMethod yX0_hasDebt) (List.mem_of_getElem? (i := 4) rfl)) (hts (.selects RX0 yX0_hasDebt yX0_hasDebt) (List.mem_of_getElem? (i := 6) rfl)) ⟨by decide, by decide, (show Option.map (fun d => d.parameters.length) (parseMethodDescriptor yX0_hasDebt.desc) = some 1 by decide +kernel)⟩ ⟨Nat.le_of_ble_eq_true rfl, Nat.le_of_ble_eq_true rfl⟩ hK hP hD 0 1 rfl rfl [1] (by decide) rfl hl.1 rfl (Nat.le_of_ble_eq_true rfl) dX6_odds_5 ⟨Nat.le_of_ble_eq_true rfl, Nat.le_of_ble_eq_true rfl⟩) hP hD hS hA [1] [0] rfl rfl (by decide) (by decide) (fun r2 u1 H locs w3 hP hD hS => ?_)
  have hP : va_P D vwCl [(h0, .inr (6, [.ref x0, .int 0, .ref x1, .ref x3, .ref x11, .ref x19, .ref x22, .int 0, .ref x29, .ref x33, .ref x36, .ref x42, .int 0, .long 0])), (x3, .inr (0, [.int 0, .ref x4, .ref x5, .int 0, .ref x6, .ref x7, .int 0, .ref x8, .ref x9, .ref x10, .int 9, .int 0]))] H := hP
  have hD : va_D A [(h0, .inr (6, [.ref x0, .int 0, .ref x1, .ref x3, .ref x11, .ref x19, .ref x22, .int 0, .ref x29, .ref x33, .ref x36, .ref x42, .int 0, .long 0])), (x3, .inr (0, [.int 0, .ref x4, .ref x5, .int 0, .ref x6, .ref x7, .int 0, .ref x8, .ref x9, .ref x10, .int 9, .int 0]))] := hD
  obtain rfl : r2 = 0 := w3
  refine lv_if_eq (tgt := 30) hx hb dX6_odds_8 (by decide) (fun h4 => ?_) (fun h4 => absurd (by decide) h4)
  refine lv_iconst (v := -1) hx hb dX6_odds_30 (by decide) ?_
  exact en_i hx hb hr hlk hP hD hS () [] (by decide) rfl (Nat.le_of_ble_eq_true rfl) (Nat.le_of_ble_eq_true rfl) dX6_odds_31 rfl
theorem dX6_took_0 : decode cX6_took 0 = .ok (.aload_n 0, 1) := by decide +kernel
theorem dX6_took_1 : decode cX6_took 1 = .ok (.getfield 27, 3) := by decide +kernel
theorem in_X6_took_6 : ∀ w ∈ wsX60, w ∈ wsX6_took := fun w h => List.mem_cons_of_mem _ (List.mem_append_left _ (List.mem_append_right _ h))
theorem dX6_took_4 : decode cX6_took 4 = .ok (.iload_n 1, 1) := by decide +kernel
theorem dX6_took_5 : decode cX6_took 5 = .ok (.invokevirtual 87, 3) := by decide +kernel
set_option maxRecDepth 20000 in
theorem ggX6_took_X0_hasCoin : GoodIn wsX6_took wsX0_hasCoin := goodIn_r _ [7, 8, 23, 24, 25, 26, 27, 28, 29, 30, 31, 32, 33, 34] (by decide +kernel) (by decide +kernel)
theorem dX6_took_8 : decode cX6_took 8 = .ok (.ifCond .ne 5, 3) := by decide +kernel
theorem dX6_took_11 : decode cX6_took 11 = .ok (.iconst (-1), 1) := by decide +kernel
theorem dX6_took_12 : decode cX6_took 12 = .ok (.ireturn, 1) := by decide +kernel
set_option maxHeartbeats 4000000 in
set_option maxRecDepth 100000 in
theorem c_X_took (l : Launch) (D : va_G) (cI cB cZ cN : ClassId) (h0 : Nat) (x0 : Nat) (x1 : Nat) (x3 : Nat) (x11 : Nat) (x19 : Nat) (x22 : Nat) (x29 : Nat) (x33 : Nat) (x36 : Nat) (x42 : Nat) (x4 : Nat) (x5 : Nat) (x6 : Nat) (x7 : Nat) (x8 : Nat) (x9 : Nat) (x10 : Nat) (v_c : Int32)  : Ci (S := Unit) l D cI cB cZ cN yX6_took wsX6_took ({ frames := 1, cells := 0, slots := 0, locals := 21 } : Room) [.ref h0, .int v_c] [(h0, .inr (6, [.ref x0, .int 0, .ref x1, .ref x3, .ref x11, .ref x19, .ref x22, .int 0, .ref x29, .ref x33, .ref x36, .ref x42, .int 0, .long 0])), (x3, .inr (0, [.int 0, .ref x4, .ref x5, .int 0, .ref x6, .ref x7, .int 0, .ref x8, .ref x9, .ref x10, .int 9, .int 0]))] (fun (r : Int32) (_ : Unit) => r = -1) (fun u => []) := by
  refine bx_of (D := D) (cI := cI) (cB := cB) (cZ := cZ) (cN := cN) (y := yX6_took) (wd := wsX6_took) (rm := ({ frames := 1, cells := 0, slots := 0, locals := 21 } : Room)) (av := [.ref h0, .int v_c]) (wc := [(h0, .inr (6, [.ref x0, .int 0, .ref x1, .ref x3, .ref x11, .ref x19, .ref x22, .int 0, .ref x29, .ref x33, .ref x36, .ref x42, .int 0, .long 0])), (x3, .inr (0, [.int 0, .ref x4, .ref x5, .int 0, .ref x6, .ref x7, .int 0, .ref x8, .ref x9, .ref x10, .int 9, .int 0]))]) (cc := cX6_took) (maxL := 2) (ret := (some .int)) (Qc := fun _ A => va_Qi (S := Unit) (fun (r : Int32) (_ : Unit) => r = -1) (Aft D (fun (u : Unit) => []) A) A) (by decide) rfl (Nat.le_of_ble_eq_true rfl) ?_
  intro p e s m below meth c A H locs ⟨hx, hb, hr, hml, hown, hts, hlk, hnm⟩ hK hP hD hS hA ls hl
  have hl : lv_has ls 2 [(0, .ref h0), (1, .int v_c)] := hl
  have hown : s.vm.findClass RX6 = some m.cls := hown
  refine lv_aload_n hx hb dX6_took_0 rfl (lv_at hl 0 rfl) ?_
  refine va_get (D := D) (ci := 6) (v := .ref x3) (C := RX6) (T := TX6) (N := 14) hx hb hts in_X6_took_6 hown hK.1 hP 0 rfl rfl 3 (by decide) (hts (.fieldLink RX6 27 "ChildCoins" "ours" "LChildCoins$Land;") (List.mem_of_getElem? (i := 1) rfl)) (fun _ h9 => h9) rfl dX6_took_1 ?_
  refine lv_iload_n hx hb dX6_took_4 rfl (lv_at hl 1 rfl) ?_
  refine be_i (free := va_A [(x3, .inr (0, [.int 0, .ref x4, .ref x5, .int 0, .ref x6, .ref x7, .int 0, .ref x8, .ref x9, .ref x10, .int 9, .int 0]))] H.size) (wc := [(x3, .inr (0, [.int 0, .ref x4, .ref x5, .int 0, .ref x6, .ref x7, .int 0, .ref x8, .ref x9, .ref x10, .int 9, .int 0]))]) (wr := [(h0, .inr (6, [.ref x0, .int 0, .ref x1, .ref x3, .ref x11, .ref x19, .ref x22, .int 0, .ref x29, .ref x33, .ref x36, .ref x42, .int 0, .long 0]))]) (ru_N (C := RX0) (host := "ChildCoins") (As := [.int v_c]) (rest := []) ⟨hx, hb, hml, hown, hts⟩ (c_L_hasCoin l D cI cB cZ cN x3 x4 x5 x6 x7 x8 x9 x10 v_c H.size) ggX6_took_X0_hasCoin rfl (nmX6_87 hK.2) (hts (.initialized RX0) (List.mem_of_getElem? (i := 5) rfl)) (hts (.instanceMethod yX0_hasCoin) (List.mem_of_getElem? (i := 4) rfl)) (hts (.selects RX0 yX0_hasCoin yX0_hasCoin) (List.mem_of_getElem? (i := 6) rfl)) ⟨by decide, by decide, (show Option.map (fun d => d.parameters.length) (parseMethodDescriptor yX0_hasCoin.desc) = some 1 by decide +kernel)⟩ ⟨Nat.le_of_ble_eq_true rfl, Nat.le_of_ble_eq_true rfl⟩ hK hP hD 0 1 rfl rfl [1] (by decide) rfl hl.1 rfl (Nat.le_of_ble_eq_true rfl) dX6_took_5 ⟨Nat.le_of_ble_eq_true rfl, Nat.le_of_ble_eq_true rfl⟩) hP hD hS hA [1] [0] rfl rfl (by decide) (by decide) (fun r2 u1 H locs w3 hP hD hS => ?_)
  have hP : va_P D vwCl [(h0, .inr (6, [.ref x0, .int 0, .ref x1, .ref x3, .ref x11, .ref x19, .ref x22, .int 0, .ref x29, .ref x33, .ref x36, .ref x42, .int 0, .long 0])), (x3, .inr (0, [.int 0, .ref x4, .ref x5, .int 0, .ref x6, .ref x7, .int 0, .ref x8, .ref x9, .ref x10, .int 9, .int 0]))] H := hP
  have hD : va_D A [(h0, .inr (6, [.ref x0, .int 0, .ref x1, .ref x3, .ref x11, .ref x19, .ref x22, .int 0, .ref x29, .ref x33, .ref x36, .ref x42, .int 0, .long 0])), (x3, .inr (0, [.int 0, .ref x4, .ref x5, .int 0, .ref x6, .ref x7, .int 0, .ref x8, .ref x9, .ref x10, .int 9, .int 0]))] := hD
  obtain rfl : r2 = 0 := w3
  refine lv_if_ne (tgt := 13) hx hb dX6_took_8 (by decide) (fun h4 => absurd (by decide) h4) (fun h4 => ?_)
  refine lv_iconst (v := -1) hx hb dX6_took_11 (by decide) ?_
  exact en_i hx hb hr hlk hP hD hS () [] (by decide) rfl (Nat.le_of_ble_eq_true rfl) (Nat.le_of_ble_eq_true rfl) dX6_took_12 rfl
theorem dX6_undo_0 : decode cX6_undo 0 = .ok (.aload_n 0, 1) := by decide +kernel
theorem dX6_undo_1 : decode cX6_undo 1 = .ok (.getfield 37, 3) := by decide +kernel
theorem in_X6_undo_6 : ∀ w ∈ wsX60, w ∈ wsX6_undo := fun w h => List.mem_cons_of_mem _ (List.mem_append_left _ (List.mem_append_right _ h))
theorem dX6_undo_4 : decode cX6_undo 4 = .ok (.getfield 172, 3) := by decide +kernel
theorem in_X6_undo_1 : ∀ w ∈ wsX10, w ∈ wsX6_undo := fun w h => List.mem_cons_of_mem _ (List.mem_append_right _ h)
theorem dX6_undo_7 : decode cX6_undo 7 = .ok (.iconst 1, 1) := by decide +kernel
theorem dX6_undo_8 : decode cX6_undo 8 = .ok (.if_icmp .ge 6, 3) := by decide +kernel
theorem dX6_undo_11 : decode cX6_undo 11 = .ok (.bipush (-2), 2) := by decide +kernel
theorem dX6_undo_13 : decode cX6_undo 13 = .ok (.ireturn, 1) := by decide +kernel
set_option maxHeartbeats 4000000 in
set_option maxRecDepth 100000 in
theorem c_X_undo (l : Launch) (D : va_G) (cI cB cZ cN : ClassId) (h0 : Nat) (x0 : Nat) (x1 : Nat) (x3 : Nat) (x11 : Nat) (x19 : Nat) (x22 : Nat) (x29 : Nat) (x33 : Nat) (x36 : Nat) (x42 : Nat) (x20 : Nat) (x21 : Nat)  : Ci (S := Unit) l D cI cB cZ cN yX6_undo wsX6_undo ({ frames := 0, cells := 0, slots := 0, locals := 0 } : Room) [.ref h0] [(h0, .inr (6, [.ref x0, .int 0, .ref x1, .ref x3, .ref x11, .ref x19, .ref x22, .int 0, .ref x29, .ref x33, .ref x36, .ref x42, .int 0, .long 0])), (x19, .inr (1, [.ref x20, .ref x21, .int 0]))] (fun (r : Int32) (_ : Unit) => r = -2) (fun u => []) := by
  refine bx_of (D := D) (cI := cI) (cB := cB) (cZ := cZ) (cN := cN) (y := yX6_undo) (wd := wsX6_undo) (rm := ({ frames := 0, cells := 0, slots := 0, locals := 0 } : Room)) (av := [.ref h0]) (wc := [(h0, .inr (6, [.ref x0, .int 0, .ref x1, .ref x3, .ref x11, .ref x19, .ref x22, .int 0, .ref x29, .ref x33, .ref x36, .ref x42, .int 0, .long 0])), (x19, .inr (1, [.ref x20, .ref x21, .int 0]))]) (cc := cX6_undo) (maxL := 1) (ret := (some .int)) (Qc := fun _ A => va_Qi (S := Unit) (fun (r : Int32) (_ : Unit) => r = -2) (Aft D (fun (u : Unit) => []) A) A) (by decide) rfl (Nat.le_of_ble_eq_true rfl) ?_
  intro p e s m below meth c A H locs ⟨hx, hb, hr, hml, hown, hts, hlk, hnm⟩ hK hP hD hS hA ls hl
  have hl : lv_has ls 1 [(0, .ref h0)] := hl
  have hown : s.vm.findClass RX6 = some m.cls := hown
  refine lv_aload_n hx hb dX6_undo_0 rfl (lv_at hl 0 rfl) ?_
  refine va_get (D := D) (ci := 6) (v := .ref x19) (C := RX6) (T := TX6) (N := 14) hx hb hts in_X6_undo_6 hown hK.1 hP 0 rfl rfl 5 (by decide) (hts (.fieldLink RX6 37 "ChildCoins" "present" "LChildCoins$Now;") (List.mem_of_getElem? (i := 1) rfl)) (fun _ h9 => h9) rfl dX6_undo_1 ?_
  refine va_getN (D := D) (ci := 1) (v := .int 0) (C := RX1) (T := TX1) (N := 3) hx hb hts in_X6_undo_1 hown hK.1 hP 1 rfl rfl 2 (by decide) (nfX6_172 hK.2) (fun _ h9 => h9) rfl dX6_undo_4 ?_
  refine lv_iconst (v := 1) hx hb dX6_undo_7 (by decide) ?_
  refine lv_icmp_ge (tgt := 14) hx hb dX6_undo_8 (by decide) (fun h1 => absurd h1 (by decide)) (fun h1 => ?_)
  refine lv_bipush (v := -2) hx hb dX6_undo_11 (by decide) ?_
  exact en_i hx hb hr hlk hP hD hS () [] (by decide) rfl (Nat.le_of_ble_eq_true rfl) (Nat.le_of_ble_eq_true rfl) dX6_undo_13 rfl
theorem dX6_now_0 : decode cX6_now 0 = .ok (.iload_n 1, 1) := by decide +kernel
theorem dX6_now_1 : decode cX6_now 1 = .ok (.tableswitch 54 0 3 #[31, 39, 44, 49], 31) := by decide +kernel
theorem dX6_now_32 : decode cX6_now 32 = .ok (.aload_n 0, 1) := by decide +kernel
theorem dX6_now_33 : decode cX6_now 33 = .ok (.getfield 37, 3) := by decide +kernel
theorem in_X6_now_6 : ∀ w ∈ wsX60, w ∈ wsX6_now := fun w h => List.mem_cons_of_mem _ (List.mem_append_left _ (List.mem_append_left _ (List.mem_append_left _ (List.mem_append_right _ h))))
theorem dX6_now_36 : decode cX6_now 36 = .ok (.invokevirtual 178, 3) := by decide +kernel
set_option maxRecDepth 20000 in
theorem ggX6_now_X1_openBits : GoodIn wsX6_now wsX1_openBits := goodIn_r _ [5, 6, 79, 80, 81] (by decide +kernel) (by decide +kernel)
theorem dX6_now_39 : decode cX6_now 39 = .ok (.ireturn, 1) := by decide +kernel
theorem dX6_now_40 : decode cX6_now 40 = .ok (.aload_n 0, 1) := by decide +kernel
theorem dX6_now_41 : decode cX6_now 41 = .ok (.invokevirtual 182, 3) := by decide +kernel
set_option maxRecDepth 20000 in
theorem ggX6_now_X6_helpless : GoodIn wsX6_now wsX6_helpless := goodIn_r _ [11, 12, 1, 13, 3, 14, 15, 6, 16, 17, 18, 10, 19, 20, 21, 22, 23, 24, 25, 26, 27, 28, 29, 30, 31, 32, 33, 34, 35, 36, 37, 38, 39, 40, 41, 42, 43, 44, 45, 46, 47, 48, 49, 50, 51, 52, 65, 66, 67, 68, 69, 70, 71, 72, 73, 74, 75, 76, 77, 78, 82, 83, 84, 85, 86, 87, 88, 89, 90, 91, 92, 93, 79, 80, 81, 94, 95, 96, 97] (by decide +kernel) (by decide +kernel)
set_option maxRecDepth 20000 in
theorem gX6_now_X6_helpless : GoodIn wsX6_now (wsV RX6 182 RX6 yX6_helpless wsX6_helpless) := goodIn_app (goodIn_of _ (by decide +kernel)) ggX6_now_X6_helpless
theorem dX6_now_44 : decode cX6_now 44 = .ok (.ireturn, 1) := by decide +kernel
theorem dX6_now_45 : decode cX6_now 45 = .ok (.aload_n 0, 1) := by decide +kernel
theorem dX6_now_46 : decode cX6_now 46 = .ok (.invokevirtual 185, 3) := by decide +kernel
set_option maxRecDepth 20000 in
theorem ggX6_now_X6_allWealth : GoodIn wsX6_now wsX6_allWealth := goodIn_r _ [56, 12, 57, 58, 59, 10, 60, 1, 47, 3, 48, 49, 6, 65, 66, 67, 68, 69, 70, 71, 72, 73, 74, 75, 76, 77, 78, 82, 83, 84, 85, 86, 87, 88, 89, 90, 91, 92, 93, 79, 80, 81] (by decide +kernel) (by decide +kernel)
set_option maxRecDepth 20000 in
theorem gX6_now_X6_allWealth : GoodIn wsX6_now (wsV RX6 185 RX6 yX6_allWealth wsX6_allWealth) := goodIn_app (goodIn_of _ (by decide +kernel)) ggX6_now_X6_allWealth
theorem dX6_now_49 : decode cX6_now 49 = .ok (.ireturn, 1) := by decide +kernel
theorem dX6_now_50 : decode cX6_now 50 = .ok (.aload_n 0, 1) := by decide +kernel
theorem dX6_now_51 : decode cX6_now 51 = .ok (.invokevirtual 188, 3) := by decide +kernel
set_option maxRecDepth 20000 in
theorem ggX6_now_X6_openSums : GoodIn wsX6_now wsX6_openSums := goodIn_r _ [64, 12, 1, 13, 3, 14, 15, 6, 65, 66, 67, 68, 69, 70, 71, 72, 73, 74, 75, 76, 77, 78, 82, 83, 84, 85, 86, 87, 88, 89, 90, 91, 92, 93, 79, 80, 81] (by decide +kernel) (by decide +kernel)
set_option maxRecDepth 20000 in
theorem gX6_now_X6_openSums : GoodIn wsX6_now (wsV RX6 188 RX6 yX6_openSums wsX6_openSums) := goodIn_app (goodIn_of _ (by decide +kernel)) ggX6_now_X6_openSums
theorem dX6_now_54 : decode cX6_now 54 = .ok (.ireturn, 1) := by decide +kernel
theorem dX6_now_55 : decode cX6_now 55 = .ok (.iconst (-1), 1) := by decide +kernel
theorem dX6_now_56 : decode cX6_now 56 = .ok (.ireturn, 1) := by decide +kernel
set_option maxHeartbeats 4000000 in
set_option maxRecDepth 100000 in
theorem c_X_now (l : Launch) (D : va_G) (cI cB cZ cN : ClassId) (h0 : Nat) (x0 : Nat) (x1 : Nat) (x3 : Nat) (x11 : Nat) (x19 : Nat) (x22 : Nat) (x29 : Nat) (x33 : Nat) (x36 : Nat) (x42 : Nat) (x4 : Nat) (x5 : Nat) (x6 : Nat) (x7 : Nat) (x8 : Nat) (x9 : Nat) (x10 : Nat) (x20 : Nat) (x21 : Nat) (v_c : Int32)  : Ci (S := Unit) l D cI cB cZ cN yX6_now wsX6_now ({ frames := 1, cells := 0, slots := 0, locals := 22 } : Room) [.ref h0, .int v_c] [(h0, .inr (6, [.ref x0, .int 0, .ref x1, .ref x3, .ref x11, .ref x19, .ref x22, .int 0, .ref x29, .ref x33, .ref x36, .ref x42, .int 0, .long 0])), (x3, .inr (0, [.int 0, .ref x4, .ref x5, .int 0, .ref x6, .ref x7, .int 0, .ref x8, .ref x9, .ref x10, .int 9, .int 0])), (x19, .inr (1, [.ref x20, .ref x21, .int 0])), (x20, .inl (cI, 36, .inl zf))] (fun (r : Int32) (_ : Unit) => r = nwA v_c) (fun u => []) := by
  refine bx_of (D := D) (cI := cI) (cB := cB) (cZ := cZ) (cN := cN) (y := yX6_now) (wd := wsX6_now) (rm := ({ frames := 1, cells := 0, slots := 0, locals := 22 } : Room)) (av := [.ref h0, .int v_c]) (wc := [(h0, .inr (6, [.ref x0, .int 0, .ref x1, .ref x3, .ref x11, .ref x19, .ref x22, .int 0, .ref x29, .ref x33, .ref x36, .ref x42, .int 0, .long 0])), (x3, .inr (0, [.int 0, .ref x4, .ref x5, .int 0, .ref x6, .ref x7, .int 0, .ref x8, .ref x9, .ref x10, .int 9, .int 0])), (x19, .inr (1, [.ref x20, .ref x21, .int 0])), (x20, .inl (cI, 36, .inl zf))]) (cc := cX6_now) (maxL := 2) (ret := (some .int)) (Qc := fun _ A => va_Qi (S := Unit) (fun (r : Int32) (_ : Unit) => r = nwA v_c) (Aft D (fun (u : Unit) => []) A) A) (by decide) rfl (Nat.le_of_ble_eq_true rfl) ?_
  intro p e s m below meth c A H locs ⟨hx, hb, hr, hml, hown, hts, hlk, hnm⟩ hK hP hD hS hA ls hl
  have hl : lv_has ls 2 [(0, .ref h0), (1, .int v_c)] := hl
  have hown : s.vm.findClass RX6 = some m.cls := hown
  refine lv_iload_n hx hb dX6_now_0 rfl (lv_at hl 1 rfl) ?_
  rcases sw3 v_c with rfl | rfl | rfl | rfl | h1
  · refine lv_tableIn (tgt := 32) (off := 31) hx hb dX6_now_1 (by decide) (by decide) (by decide) (by decide) ?_
    refine lv_aload_n hx hb dX6_now_32 rfl (lv_at hl 0 rfl) ?_
    refine va_get (D := D) (ci := 6) (v := .ref x19) (C := RX6) (T := TX6) (N := 14) hx hb hts in_X6_now_6 hown hK.1 hP 0 rfl rfl 5 (by decide) (hts (.fieldLink RX6 37 "ChildCoins" "present" "LChildCoins$Now;") (List.mem_of_getElem? (i := 1) rfl)) (fun _ h9 => h9) rfl dX6_now_33 ?_
    refine be_i (free := va_A [(x19, .inr (1, [.ref x20, .ref x21, .int 0])), (x20, .inl (cI, 36, .inl zf))] H.size) (wc := [(x19, .inr (1, [.ref x20, .ref x21, .int 0])), (x20, .inl (cI, 36, .inl zf))]) (wr := [(h0, .inr (6, [.ref x0, .int 0, .ref x1, .ref x3, .ref x11, .ref x19, .ref x22, .int 0, .ref x29, .ref x33, .ref x36, .ref x42, .int 0, .long 0])), (x3, .inr (0, [.int 0, .ref x4, .ref x5, .int 0, .ref x6, .ref x7, .int 0, .ref x8, .ref x9, .ref x10, .int 9, .int 0]))]) (ru_N (C := RX1) (host := "ChildCoins") (As := []) (rest := []) ⟨hx, hb, hml, hown, hts⟩ (c_N_openBits l D cI cB cZ cN x19 x20 x21 H.size) ggX6_now_X1_openBits rfl (nmX6_178 hK.2) (hts (.initialized RX1) (List.mem_of_getElem? (i := 3) rfl)) (hts (.instanceMethod yX1_openBits) (List.mem_of_getElem? (i := 2) rfl)) (hts (.selects RX1 yX1_openBits yX1_openBits) (List.mem_of_getElem? (i := 4) rfl)) ⟨by decide, by decide, (show Option.map (fun d => d.parameters.length) (parseMethodDescriptor yX1_openBits.desc) = some 0 by decide +kernel)⟩ ⟨Nat.le_of_ble_eq_true rfl, Nat.le_of_ble_eq_true rfl⟩ hK hP hD 1 2 rfl rfl [2, 3] (by decide) rfl hl.1 rfl (Nat.le_of_ble_eq_true rfl) dX6_now_36 ⟨Nat.le_of_ble_eq_true rfl, Nat.le_of_ble_eq_true rfl⟩) hP hD hS hA [2, 3] [0, 1] rfl rfl (by decide) (by decide) (fun r3 u2 H locs w4 hP hD hS => ?_)
    have hP : va_P D vwCl [(h0, .inr (6, [.ref x0, .int 0, .ref x1, .ref x3, .ref x11, .ref x19, .ref x22, .int 0, .ref x29, .ref x33, .ref x36, .ref x42, .int 0, .long 0])), (x3, .inr (0, [.int 0, .ref x4, .ref x5, .int 0, .ref x6, .ref x7, .int 0, .ref x8, .ref x9, .ref x10, .int 9, .int 0])), (x19, .inr (1, [.ref x20, .ref x21, .int 0])), (x20, .inl (cI, 36, .inl zf))] H := hP
    have hD : va_D A [(h0, .inr (6, [.ref x0, .int 0, .ref x1, .ref x3, .ref x11, .ref x19, .ref x22, .int 0, .ref x29, .ref x33, .ref x36, .ref x42, .int 0, .long 0])), (x3, .inr (0, [.int 0, .ref x4, .ref x5, .int 0, .ref x6, .ref x7, .int 0, .ref x8, .ref x9, .ref x10, .int 9, .int 0])), (x19, .inr (1, [.ref x20, .ref x21, .int 0])), (x20, .inl (cI, 36, .inl zf))] := hD
    obtain rfl : r3 = 0 := w4
    exact en_i hx hb hr hlk hP hD hS () [] (by decide) rfl (Nat.le_of_ble_eq_true rfl) (Nat.le_of_ble_eq_true rfl) dX6_now_39 (by decide)
  · refine lv_tableIn (tgt := 40) (off := 39) hx hb dX6_now_1 (by decide) (by decide) (by decide) (by decide) ?_
    refine lv_aload_n hx hb dX6_now_40 rfl (lv_at hl 0 rfl) ?_
    refine be_i (free := va_A [(h0, .inr (6, [.ref x0, .int 0, .ref x1, .ref x3, .ref x11, .ref x19, .ref x22, .int 0, .ref x29, .ref x33, .ref x36, .ref x42, .int 0, .long 0])), (x3, .inr (0, [.int 0, .ref x4, .ref x5, .int 0, .ref x6, .ref x7, .int 0, .ref x8, .ref x9, .ref x10, .int 9, .int 0]))] H.size) (wc := [(h0, .inr (6, [.ref x0, .int 0, .ref x1, .ref x3, .ref x11, .ref x19, .ref x22, .int 0, .ref x29, .ref x33, .ref x36, .ref x42, .int 0, .long 0])), (x3, .inr (0, [.int 0, .ref x4, .ref x5, .int 0, .ref x6, .ref x7, .int 0, .ref x8, .ref x9, .ref x10, .int 9, .int 0]))]) (wr := [(x19, .inr (1, [.ref x20, .ref x21, .int 0])), (x20, .inl (cI, 36, .inl zf))]) (ru_V (As := []) (rest := []) ⟨hx, hb, hml, hown, hts⟩ (c_X_helpless l D cI cB cZ cN h0 x0 x1 x3 x11 x19 x22 x29 x33 x36 x42 x4 x5 x6 x7 x8 x9 x10 H.size) gX6_now_X6_helpless rfl ⟨rfl, by decide, by decide, (show Option.map (fun d => d.parameters.length) (parseMethodDescriptor yX6_helpless.desc) = some 0 by decide +kernel)⟩ ⟨Nat.le_of_ble_eq_true rfl, Nat.le_of_ble_eq_true rfl⟩ hK hP hD 6 0 rfl rfl [0, 1] (by decide) rfl hl.1 rfl (Nat.le_of_ble_eq_true rfl) dX6_now_41 ⟨Nat.le_of_ble_eq_true rfl, Nat.le_of_ble_eq_true rfl⟩) hP hD hS hA [0, 1] [2, 3] rfl rfl (by decide) (by decide) (fun r6 u5 H locs w7 hP hD hS => ?_)
    have hP : va_P D vwCl [(x19, .inr (1, [.ref x20, .ref x21, .int 0])), (x20, .inl (cI, 36, .inl zf))] H := hP
    have hD : va_D A [(x19, .inr (1, [.ref x20, .ref x21, .int 0])), (x20, .inl (cI, 36, .inl zf))] := hD
    obtain rfl : r6 = 0 := w7
    exact en_i hx hb hr hlk hP hD hS () [] (by decide) rfl (Nat.le_of_ble_eq_true rfl) (Nat.le_of_ble_eq_true rfl) dX6_now_44 (by decide)
  · refine lv_tableIn (tgt := 45) (off := 44) hx hb dX6_now_1 (by decide) (by decide) (by decide) (by decide) ?_
    refine lv_aload_n hx hb dX6_now_45 rfl (lv_at hl 0 rfl) ?_
    refine be_i (free := va_A [(h0, .inr (6, [.ref x0, .int 0, .ref x1, .ref x3, .ref x11, .ref x19, .ref x22, .int 0, .ref x29, .ref x33, .ref x36, .ref x42, .int 0, .long 0])), (x3, .inr (0, [.int 0, .ref x4, .ref x5, .int 0, .ref x6, .ref x7, .int 0, .ref x8, .ref x9, .ref x10, .int 9, .int 0]))] H.size) (wc := [(h0, .inr (6, [.ref x0, .int 0, .ref x1, .ref x3, .ref x11, .ref x19, .ref x22, .int 0, .ref x29, .ref x33, .ref x36, .ref x42, .int 0, .long 0])), (x3, .inr (0, [.int 0, .ref x4, .ref x5, .int 0, .ref x6, .ref x7, .int 0, .ref x8, .ref x9, .ref x10, .int 9, .int 0]))]) (wr := [(x19, .inr (1, [.ref x20, .ref x21, .int 0])), (x20, .inl (cI, 36, .inl zf))]) (ru_V (As := []) (rest := []) ⟨hx, hb, hml, hown, hts⟩ (c_X_allWealth l D cI cB cZ cN h0 x0 x1 x3 x11 x19 x22 x29 x33 x36 x42 x4 x5 x6 x7 x8 x9 x10 H.size) gX6_now_X6_allWealth rfl ⟨rfl, by decide, by decide, (show Option.map (fun d => d.parameters.length) (parseMethodDescriptor yX6_allWealth.desc) = some 0 by decide +kernel)⟩ ⟨Nat.le_of_ble_eq_true rfl, Nat.le_of_ble_eq_true rfl⟩ hK hP hD 6 0 rfl rfl [0, 1] (by decide) rfl hl.1 rfl (Nat.le_of_ble_eq_true rfl) dX6_now_46 ⟨Nat.le_of_ble_eq_true rfl, Nat.le_of_ble_eq_true rfl⟩) hP hD hS hA [0, 1] [2, 3] rfl rfl (by decide) (by decide) (fun r9 u8 H locs w10 hP hD hS => ?_)
    have hP : va_P D vwCl [(x19, .inr (1, [.ref x20, .ref x21, .int 0])), (x20, .inl (cI, 36, .inl zf))] H := hP
    have hD : va_D A [(x19, .inr (1, [.ref x20, .ref x21, .int 0])), (x20, .inl (cI, 36, .inl zf))] := hD
    obtain rfl : r9 = 0 := w10
    exact en_i hx hb hr hlk hP hD hS () [] (by decide) rfl (Nat.le_of_ble_eq_true rfl) (Nat.le_of_ble_eq_true rfl) dX6_now_49 (by decide)
  · refine lv_tableIn (tgt := 50) (off := 49) hx hb dX6_now_1 (by decide) (by decide) (by decide) (by decide) ?_
    refine lv_aload_n hx hb dX6_now_50 rfl (lv_at hl 0 rfl) ?_
    refine be_i (free := va_A [(h0, .inr (6, [.ref x0, .int 0, .ref x1, .ref x3, .ref x11, .ref x19, .ref x22, .int 0, .ref x29, .ref x33, .ref x36, .ref x42, .int 0, .long 0])), (x3, .inr (0, [.int 0, .ref x4, .ref x5, .int 0, .ref x6, .ref x7, .int 0, .ref x8, .ref x9, .ref x10, .int 9, .int 0]))] H.size) (wc := [(h0, .inr (6, [.ref x0, .int 0, .ref x1, .ref x3, .ref x11, .ref x19, .ref x22, .int 0, .ref x29, .ref x33, .ref x36, .ref x42, .int 0, .long 0])), (x3, .inr (0, [.int 0, .ref x4, .ref x5, .int 0, .ref x6, .ref x7, .int 0, .ref x8, .ref x9, .ref x10, .int 9, .int 0]))]) (wr := [(x19, .inr (1, [.ref x20, .ref x21, .int 0])), (x20, .inl (cI, 36, .inl zf))]) (ru_V (As := []) (rest := []) ⟨hx, hb, hml, hown, hts⟩ (c_X_openSums l D cI cB cZ cN h0 x0 x1 x3 x11 x19 x22 x29 x33 x36 x42 x4 x5 x6 x7 x8 x9 x10 H.size) gX6_now_X6_openSums rfl ⟨rfl, by decide, by decide, (show Option.map (fun d => d.parameters.length) (parseMethodDescriptor yX6_openSums.desc) = some 0 by decide +kernel)⟩ ⟨Nat.le_of_ble_eq_true rfl, Nat.le_of_ble_eq_true rfl⟩ hK hP hD 6 0 rfl rfl [0, 1] (by decide) rfl hl.1 rfl (Nat.le_of_ble_eq_true rfl) dX6_now_51 ⟨Nat.le_of_ble_eq_true rfl, Nat.le_of_ble_eq_true rfl⟩) hP hD hS hA [0, 1] [2, 3] rfl rfl (by decide) (by decide) (fun r12 u11 H locs w13 hP hD hS => ?_)
    have hP : va_P D vwCl [(x19, .inr (1, [.ref x20, .ref x21, .int 0])), (x20, .inl (cI, 36, .inl zf))] H := hP
    have hD : va_D A [(x19, .inr (1, [.ref x20, .ref x21, .int 0])), (x20, .inl (cI, 36, .inl zf))] := hD
    obtain rfl : r12 = 0 := w13
    exact en_i hx hb hr hlk hP hD hS () [] (by decide) rfl (Nat.le_of_ble_eq_true rfl) (Nat.le_of_ble_eq_true rfl) dX6_now_54 (by decide)
  · refine lv_tableOut (tgt := 55) hx hb dX6_now_1 h1 (by decide) ?_
    refine lv_iconst (v := -1) hx hb dX6_now_55 (by decide) ?_
    exact en_i hx hb hr hlk hP hD hS () [] (by decide) rfl (Nat.le_of_ble_eq_true rfl) (Nat.le_of_ble_eq_true rfl) dX6_now_56 (if_pos (out_lo (hi := 3) rfl h1)).symm
theorem dX6_order_0 : decode cX6_order 0 = .ok (.iload_n 1, 1) := by decide +kernel
theorem dX6_order_1 : decode cX6_order 1 = .ok (.iconst (-1), 1) := by decide +kernel
theorem dX6_order_2 : decode cX6_order 2 = .ok (.if_icmp .lt 8, 3) := by decide +kernel
theorem dX6_order_10 : decode cX6_order 10 = .ok (.iconst (-1), 1) := by decide +kernel
theorem dX6_order_11 : decode cX6_order 11 = .ok (.ireturn, 1) := by decide +kernel
theorem dX6_order_5 : decode cX6_order 5 = .ok (.iload_n 1, 1) := by decide +kernel
theorem dX6_order_6 : decode cX6_order 6 = .ok (.iconst 5, 1) := by decide +kernel
theorem dX6_order_7 : decode cX6_order 7 = .ok (.if_icmp .lt 5, 3) := by decide +kernel
theorem dX6_order_12 : decode cX6_order 12 = .ok (.aload_n 0, 1) := by decide +kernel
theorem dX6_order_13 : decode cX6_order 13 = .ok (.getfield 65, 3) := by decide +kernel
theorem in_X6_order_6 : ∀ w ∈ wsX60, w ∈ wsX6_order := fun w h => List.mem_cons_of_mem _ (List.mem_append_left _ (List.mem_append_left _ (List.mem_append_left _ (List.mem_append_left _ (List.mem_append_right _ h)))))
theorem dX6_order_16 : decode cX6_order 16 = .ok (.aload_n 0, 1) := by decide +kernel
theorem dX6_order_17 : decode cX6_order 17 = .ok (.getfield 27, 3) := by decide +kernel
theorem dX6_order_20 : decode cX6_order 20 = .ok (.aload_n 0, 1) := by decide +kernel
theorem dX6_order_21 : decode cX6_order 21 = .ok (.getfield 37, 3) := by decide +kernel
theorem dX6_order_24 : decode cX6_order 24 = .ok (.aload_n 0, 1) := by decide +kernel
theorem dX6_order_25 : decode cX6_order 25 = .ok (.getfield 51, 3) := by decide +kernel
theorem dX6_order_28 : decode cX6_order 28 = .ok (.invokevirtual 191, 3) := by decide +kernel
set_option maxRecDepth 20000 in
theorem ggX6_order_X4_search : GoodIn wsX6_order wsX4_search := goodIn_r _ [8, 9, 10, 11, 12, 13, 14, 15, 16, 17, 18, 19, 20, 21, 22, 6, 23, 24, 25, 26, 27, 28, 29, 30, 31, 32, 33, 34, 35, 36, 37, 38, 39, 40, 41, 42, 43, 44, 45, 46, 47, 48, 49, 50, 51, 52, 53, 54, 55, 56, 57, 58, 59, 60, 61, 62, 63, 64, 65, 66, 67, 68, 69, 70, 71, 72, 73, 74, 75, 76, 77, 78, 79, 80, 81, 82, 83, 84, 85, 86, 87, 88, 89, 90, 91, 92, 93, 94, 95, 96, 97, 98, 99, 100, 115, 116, 117, 118, 119, 120, 121, 122, 123, 124, 125, 126, 127, 128, 129, 130, 131, 132, 133, 134, 135, 136, 137] (by decide +kernel) (by decide +kernel)
theorem dX6_order_31 : decode cX6_order 31 = .ok (.iload_n 1, 1) := by decide +kernel
theorem dX6_order_32 : decode cX6_order 32 = .ok (.ifCond .ge 11, 3) := by decide +kernel
theorem dX6_order_43 : decode cX6_order 43 = .ok (.iload_n 1, 1) := by decide +kernel
theorem dX6_order_44 : decode cX6_order 44 = .ok (.aload_n 0, 1) := by decide +kernel
theorem dX6_order_45 : decode cX6_order 45 = .ok (.getfield 65, 3) := by decide +kernel
theorem dX6_order_48 : decode cX6_order 48 = .ok (.getfield 195, 3) := by decide +kernel
theorem in_X6_order_4 : ∀ w ∈ wsX40, w ∈ wsX6_order := fun w h => List.mem_cons_of_mem _ (List.mem_append_left _ (List.mem_append_left _ (List.mem_append_left _ (List.mem_append_right _ h))))
theorem dX6_order_51 : decode cX6_order 51 = .ok (.if_icmp .ge 15, 3) := by decide +kernel
theorem dX6_order_66 : decode cX6_order 66 = .ok (.bipush (-9), 2) := by decide +kernel
theorem dX6_order_68 : decode cX6_order 68 = .ok (.ireturn, 1) := by decide +kernel
theorem dX6_order_35 : decode cX6_order 35 = .ok (.aload_n 0, 1) := by decide +kernel
theorem dX6_order_36 : decode cX6_order 36 = .ok (.getfield 65, 3) := by decide +kernel
theorem dX6_order_39 : decode cX6_order 39 = .ok (.getfield 195, 3) := by decide +kernel
theorem dX6_order_42 : decode cX6_order 42 = .ok (.ireturn, 1) := by decide +kernel
set_option maxHeartbeats 4000000 in
set_option maxRecDepth 100000 in
theorem c_X_order (l : Launch) (D : va_G) (cI cB cZ cN : ClassId) (h0 : Nat) (x0 : Nat) (x1 : Nat) (x3 : Nat) (x11 : Nat) (x19 : Nat) (x22 : Nat) (x29 : Nat) (x33 : Nat) (x36 : Nat) (x42 : Nat) (x37 : Nat) (x38 : Nat) (x39 : Nat) (x40 : Nat) (x41 : Nat) (x20 : Nat) (x21 : Nat) (x4 : Nat) (x5 : Nat) (x6 : Nat) (x7 : Nat) (x8 : Nat) (x9 : Nat) (x10 : Nat) (v_c : Int32)  : Ci (S := Unit) l D cI cB cZ cN yX6_order wsX6_order ({ frames := 3, cells := 0, slots := 0, locals := 84 } : Room) [.ref h0, .int v_c] [(h0, .inr (6, [.ref x0, .int 0, .ref x1, .ref x3, .ref x11, .ref x19, .ref x22, .int 0, .ref x29, .ref x33, .ref x36, .ref x42, .int 0, .long 0])), (x36, .inr (4, [.ref x37, .ref x38, .ref x39, .int 0])), (x37, .inr (1, [.ref x40, .ref x41, .int 0])), (x40, .inl (cI, 36, .inl zf)), (x19, .inr (1, [.ref x20, .ref x21, .int 0])), (x20, .inl (cI, 36, .inl zf)), (x3, .inr (0, [.int 0, .ref x4, .ref x5, .int 0, .ref x6, .ref x7, .int 0, .ref x8, .ref x9, .ref x10, .int 9, .int 0]))] (fun (r : Int32) (_ : Unit) => r = orA v_c) (fun u => []) := by
  refine bx_of (D := D) (cI := cI) (cB := cB) (cZ := cZ) (cN := cN) (y := yX6_order) (wd := wsX6_order) (rm := ({ frames := 3, cells := 0, slots := 0, locals := 84 } : Room)) (av := [.ref h0, .int v_c]) (wc := [(h0, .inr (6, [.ref x0, .int 0, .ref x1, .ref x3, .ref x11, .ref x19, .ref x22, .int 0, .ref x29, .ref x33, .ref x36, .ref x42, .int 0, .long 0])), (x36, .inr (4, [.ref x37, .ref x38, .ref x39, .int 0])), (x37, .inr (1, [.ref x40, .ref x41, .int 0])), (x40, .inl (cI, 36, .inl zf)), (x19, .inr (1, [.ref x20, .ref x21, .int 0])), (x20, .inl (cI, 36, .inl zf)), (x3, .inr (0, [.int 0, .ref x4, .ref x5, .int 0, .ref x6, .ref x7, .int 0, .ref x8, .ref x9, .ref x10, .int 9, .int 0]))]) (cc := cX6_order) (maxL := 2) (ret := (some .int)) (Qc := fun _ A => va_Qi (S := Unit) (fun (r : Int32) (_ : Unit) => r = orA v_c) (Aft D (fun (u : Unit) => []) A) A) (by decide) rfl (Nat.le_of_ble_eq_true rfl) ?_
  intro p e s m below meth c A H locs ⟨hx, hb, hr, hml, hown, hts, hlk, hnm⟩ hK hP hD hS hA ls hl
  have hl : lv_has ls 2 [(0, .ref h0), (1, .int v_c)] := hl
  have hown : s.vm.findClass RX6 = some m.cls := hown
  refine lv_iload_n hx hb dX6_order_0 rfl (lv_at hl 1 rfl) ?_
  refine lv_iconst (v := -1) hx hb dX6_order_1 (by decide) ?_
  refine lv_icmp_lt (tgt := 10) hx hb dX6_order_2 (by decide) (fun h1 => ?_) (fun h1 => ?_)
  · skip
    refine lv_iconst (v := -1) hx hb dX6_order_10 (by decide) ?_
    exact en_i hx hb hr hlk hP hD hS () [] (by decide) rfl (Nat.le_of_ble_eq_true rfl) (Nat.le_of_ble_eq_true rfl) dX6_order_11 (if_pos (inz_lt h1)).symm
  · skip
    refine lv_iload_n hx hb dX6_order_5 rfl (lv_at hl 1 rfl) ?_
    refine lv_iconst (v := 5) hx hb dX6_order_6 (by decide) ?_
    refine lv_icmp_lt (tgt := 12) hx hb dX6_order_7 (by decide) (fun h2 => ?_) (fun h2 => ?_)
    · skip
      refine lv_aload_n hx hb dX6_order_12 rfl (lv_at hl 0 rfl) ?_
      refine va_get (D := D) (ci := 6) (v := .ref x36) (C := RX6) (T := TX6) (N := 14) hx hb hts in_X6_order_6 hown hK.1 hP 0 rfl rfl 10 (by decide) (hts (.fieldLink RX6 65 "ChildCoins" "rows" "LChildCoins$Rows;") (List.mem_of_getElem? (i := 1) rfl)) (fun _ h9 => h9) rfl dX6_order_13 ?_
      refine lv_aload_n hx hb dX6_order_16 rfl (lv_at hl 0 rfl) ?_
      refine va_get (D := D) (ci := 6) (v := .ref x3) (C := RX6) (T := TX6) (N := 14) hx hb hts in_X6_order_6 hown hK.1 hP 0 rfl rfl 3 (by decide) (hts (.fieldLink RX6 27 "ChildCoins" "ours" "LChildCoins$Land;") (List.mem_of_getElem? (i := 2) rfl)) (fun _ h9 => h9) rfl dX6_order_17 ?_
      refine lv_aload_n hx hb dX6_order_20 rfl (lv_at hl 0 rfl) ?_
      refine va_get (D := D) (ci := 6) (v := .ref x19) (C := RX6) (T := TX6) (N := 14) hx hb hts in_X6_order_6 hown hK.1 hP 0 rfl rfl 5 (by decide) (hts (.fieldLink RX6 37 "ChildCoins" "present" "LChildCoins$Now;") (List.mem_of_getElem? (i := 3) rfl)) (fun _ h9 => h9) rfl dX6_order_21 ?_
      refine lv_aload_n hx hb dX6_order_24 rfl (lv_at hl 0 rfl) ?_
      refine va_get (D := D) (ci := 6) (v := .ref x29) (C := RX6) (T := TX6) (N := 14) hx hb hts in_X6_order_6 hown hK.1 hP 0 rfl rfl 8 (by decide) (hts (.fieldLink RX6 51 "ChildCoins" "payment" "LChildCoins$Payment;") (List.mem_of_getElem? (i := 4) rfl)) (fun _ h9 => h9) rfl dX6_order_25 ?_
      refine be_v (free := va_A [(x36, .inr (4, [.ref x37, .ref x38, .ref x39, .int 0])), (x37, .inr (1, [.ref x40, .ref x41, .int 0])), (x40, .inl (cI, 36, .inl zf)), (x19, .inr (1, [.ref x20, .ref x21, .int 0])), (x20, .inl (cI, 36, .inl zf)), (x3, .inr (0, [.int 0, .ref x4, .ref x5, .int 0, .ref x6, .ref x7, .int 0, .ref x8, .ref x9, .ref x10, .int 9, .int 0]))] H.size) (wc := [(x36, .inr (4, [.ref x37, .ref x38, .ref x39, .int 0])), (x37, .inr (1, [.ref x40, .ref x41, .int 0])), (x40, .inl (cI, 36, .inl zf)), (x19, .inr (1, [.ref x20, .ref x21, .int 0])), (x20, .inl (cI, 36, .inl zf)), (x3, .inr (0, [.int 0, .ref x4, .ref x5, .int 0, .ref x6, .ref x7, .int 0, .ref x8, .ref x9, .ref x10, .int 9, .int 0]))]) (wr := [(h0, .inr (6, [.ref x0, .int 0, .ref x1, .ref x3, .ref x11, .ref x19, .ref x22, .int 0, .ref x29, .ref x33, .ref x36, .ref x42, .int 0, .long 0]))]) (ru_N (C := RX4) (host := "ChildCoins") (As := [.ref x3, .ref x19, .ref x29]) (rest := []) ⟨hx, hb, hml, hown, hts⟩ (c_W_search l D cI cB cZ cN x36 x37 x38 x39 x40 x41 x19 x20 x21 x3 x4 x5 x6 x7 x8 x9 x10 x29 H.size) ggX6_order_X4_search rfl (nmX6_191 hK.2) (hts (.initialized RX4) (List.mem_of_getElem? (i := 6) rfl)) (hts (.instanceMethod yX4_search) (List.mem_of_getElem? (i := 5) rfl)) (hts (.selects RX4 yX4_search yX4_search) (List.mem_of_getElem? (i := 7) rfl)) ⟨by decide, by decide, (show Option.map (fun d => d.parameters.length) (parseMethodDescriptor yX4_search.desc) = some 3 by decide +kernel)⟩ ⟨Nat.le_of_ble_eq_true rfl, Nat.le_of_ble_eq_true rfl⟩ hK hP hD 4 1 rfl rfl [1, 2, 3, 4, 5, 6] (by decide) rfl hl.1 rfl (Nat.le_of_ble_eq_true rfl) dX6_order_28 ⟨Nat.le_of_ble_eq_true rfl, Nat.le_of_ble_eq_true rfl⟩) hP hD hS hA [1, 2, 3, 4, 5, 6] [0] rfl rfl (by decide) (by decide) (fun u3 H locs w5 hP hD hS => ?_)
      have hP : va_P D vwCl [(h0, .inr (6, [.ref x0, .int 0, .ref x1, .ref x3, .ref x11, .ref x19, .ref x22, .int 0, .ref x29, .ref x33, .ref x36, .ref x42, .int 0, .long 0])), (x36, .inr (4, [.ref x37, .ref x38, .ref x39, .int 0]))] H := hP
      have hD : va_D A [(h0, .inr (6, [.ref x0, .int 0, .ref x1, .ref x3, .ref x11, .ref x19, .ref x22, .int 0, .ref x29, .ref x33, .ref x36, .ref x42, .int 0, .long 0])), (x36, .inr (4, [.ref x37, .ref x38, .ref x39, .int 0]))] := hD
      refine lv_iload_n hx hb dX6_order_31 rfl (lv_at hl 1 rfl) ?_
      refine lv_if_ge (tgt := 43) hx hb dX6_order_32 (by decide) (fun h6 => ?_) (fun h6 => ?_)
      · skip
        refine lv_iload_n hx hb dX6_order_43 rfl (lv_at hl 1 rfl) ?_
        refine lv_aload_n hx hb dX6_order_44 rfl (lv_at hl 0 rfl) ?_
        refine va_get (D := D) (ci := 6) (v := .ref x36) (C := RX6) (T := TX6) (N := 14) hx hb hts in_X6_order_6 hown hK.1 hP 0 rfl rfl 10 (by decide) (hts (.fieldLink RX6 65 "ChildCoins" "rows" "LChildCoins$Rows;") (List.mem_of_getElem? (i := 1) rfl)) (fun _ h9 => h9) rfl dX6_order_45 ?_
        refine va_getN (D := D) (ci := 4) (v := .int 0) (C := RX4) (T := TX4) (N := 4) hx hb hts in_X6_order_4 hown hK.1 hP 1 rfl rfl 3 (by decide) (nfX6_195 hK.2) (fun _ h9 => h9) rfl dX6_order_48 ?_
        refine lv_icmp_ge (tgt := 66) hx hb dX6_order_51 (by decide) (fun h7 => ?_) (fun h7 => absurd (h6) h7)
        refine lv_bipush (v := -9) hx hb dX6_order_66 (by decide) ?_
        exact en_i hx hb hr hlk hP hD hS () [] (by decide) rfl (Nat.le_of_ble_eq_true rfl) (Nat.le_of_ble_eq_true rfl) dX6_order_68 (by unfold orA; rw [if_neg (inz_10 (inz_in4 (hi' := 5) rfl h1 h2)), if_neg (ic_6 (Int32.not_lt.mpr h6))])
      · skip
        refine lv_aload_n hx hb dX6_order_35 rfl (lv_at hl 0 rfl) ?_
        refine va_get (D := D) (ci := 6) (v := .ref x36) (C := RX6) (T := TX6) (N := 14) hx hb hts in_X6_order_6 hown hK.1 hP 0 rfl rfl 10 (by decide) (hts (.fieldLink RX6 65 "ChildCoins" "rows" "LChildCoins$Rows;") (List.mem_of_getElem? (i := 1) rfl)) (fun _ h9 => h9) rfl dX6_order_36 ?_
        refine va_getN (D := D) (ci := 4) (v := .int 0) (C := RX4) (T := TX4) (N := 4) hx hb hts in_X6_order_4 hown hK.1 hP 1 rfl rfl 3 (by decide) (nfX6_195 hK.2) (fun _ h9 => h9) rfl dX6_order_39 ?_
        exact en_i hx hb hr hlk hP hD hS () [] (by decide) rfl (Nat.le_of_ble_eq_true rfl) (Nat.le_of_ble_eq_true rfl) dX6_order_42 (by unfold orA; rw [if_neg (inz_10 (inz_in4 (hi' := 5) rfl h1 h2)), if_pos (ic_5 h1 (Int32.not_le.mp h6))])
    · skip
      refine lv_iconst (v := -1) hx hb dX6_order_10 (by decide) ?_
      exact en_i hx hb hr hlk hP hD hS () [] (by decide) rfl (Nat.le_of_ble_eq_true rfl) (Nat.le_of_ble_eq_true rfl) dX6_order_11 (if_pos (inz_ge (hi' := 5) rfl (Int32.not_lt.mp h2))).symm
theorem dX6_forget_0 : decode cX6_forget 0 = .ok (.aload_n 0, 1) := by decide +kernel
theorem dX6_forget_1 : decode cX6_forget 1 = .ok (.getfield 72, 3) := by decide +kernel
theorem in_X6_forget_6 : ∀ w ∈ wsX60, w ∈ wsX6_forget := fun w h => List.mem_cons_of_mem _ (List.mem_append_right _ h)
theorem dX6_forget_4 : decode cX6_forget 4 = .ok (.istore_n 1, 1) := by decide +kernel
theorem dX6_forget_5 : decode cX6_forget 5 = .ok (.aload_n 0, 1) := by decide +kernel
theorem dX6_forget_6 : decode cX6_forget 6 = .ok (.iconst 0, 1) := by decide +kernel
theorem dX6_forget_7 : decode cX6_forget 7 = .ok (.putfield 72, 3) := by decide +kernel
theorem dX6_forget_10 : decode cX6_forget 10 = .ok (.iload_n 1, 1) := by decide +kernel
theorem dX6_forget_11 : decode cX6_forget 11 = .ok (.ireturn, 1) := by decide +kernel
set_option maxHeartbeats 4000000 in
set_option maxRecDepth 100000 in
theorem c_X_forget (l : Launch) (D : va_G) (cI cB cZ cN : ClassId) (h0 : Nat) (x0 : Nat) (x1 : Nat) (x3 : Nat) (x11 : Nat) (x19 : Nat) (x22 : Nat) (x29 : Nat) (x33 : Nat) (x36 : Nat) (x42 : Nat)  : Ci (S := Unit) l D cI cB cZ cN yX6_forget wsX6_forget ({ frames := 0, cells := 0, slots := 0, locals := 0 } : Room) [.ref h0] [(h0, .inr (6, [.ref x0, .int 0, .ref x1, .ref x3, .ref x11, .ref x19, .ref x22, .int 0, .ref x29, .ref x33, .ref x36, .ref x42, .int 0, .long 0]))] (fun (r : Int32) (_ : Unit) => r = 0) (fun u => []) := by
  refine bx_of (D := D) (cI := cI) (cB := cB) (cZ := cZ) (cN := cN) (y := yX6_forget) (wd := wsX6_forget) (rm := ({ frames := 0, cells := 0, slots := 0, locals := 0 } : Room)) (av := [.ref h0]) (wc := [(h0, .inr (6, [.ref x0, .int 0, .ref x1, .ref x3, .ref x11, .ref x19, .ref x22, .int 0, .ref x29, .ref x33, .ref x36, .ref x42, .int 0, .long 0]))]) (cc := cX6_forget) (maxL := 2) (ret := (some .int)) (Qc := fun _ A => va_Qi (S := Unit) (fun (r : Int32) (_ : Unit) => r = 0) (Aft D (fun (u : Unit) => []) A) A) (by decide) rfl (Nat.le_of_ble_eq_true rfl) ?_
  intro p e s m below meth c A H locs ⟨hx, hb, hr, hml, hown, hts, hlk, hnm⟩ hK hP hD hS hA ls hl
  have hl : lv_has ls 2 [(0, .ref h0)] := hl
  have hown : s.vm.findClass RX6 = some m.cls := hown
  refine lv_aload_n hx hb dX6_forget_0 rfl (lv_at hl 0 rfl) ?_
  refine va_get (D := D) (ci := 6) (v := .int 0) (C := RX6) (T := TX6) (N := 14) hx hb hts in_X6_forget_6 hown hK.1 hP 0 rfl rfl 12 (by decide) (hts (.fieldLink RX6 72 "ChildCoins" "takenCount" "I") (List.mem_of_getElem? (i := 1) rfl)) (fun _ h9 => h9) rfl dX6_forget_1 ?_
  refine lv_istore_n (lv' := [(1, .int 0), (0, .ref h0)]) hx hb dX6_forget_4 rfl hl (by decide) rfl (fun ls hl => ?_)
  refine lv_aload_n hx hb dX6_forget_5 rfl (lv_at hl 1 rfl) ?_
  refine lv_iconst (v := 0) hx hb dX6_forget_6 (by decide) ?_
  refine va_put (D := D) (ci := 6) (v := .int 0) (ty := tyX6 12) (C := RX6) (T := TX6) (N := 14) hx hb hts in_X6_forget_6 tyX6 tyX6_ok nmX6 hown hK.1 hP hD hS 0 rfl rfl 12 (by decide) (hts (.fieldLink RX6 72 "ChildCoins" "takenCount" "I") (List.mem_of_getElem? (i := 1) rfl)) (fun _ h9 => h9) rfl (tyX6_ok 12 (by decide)) rfl rfl (Nat.le_of_ble_eq_true rfl) dX6_forget_7 (fun H locs hP hD hS => ?_)
  have hP : va_P D vwCl [(h0, .inr (6, [.ref x0, .int 0, .ref x1, .ref x3, .ref x11, .ref x19, .ref x22, .int 0, .ref x29, .ref x33, .ref x36, .ref x42, .int 0, .long 0]))] H := hP
  have hD : va_D A [(h0, .inr (6, [.ref x0, .int 0, .ref x1, .ref x3, .ref x11, .ref x19, .ref x22, .int 0, .ref x29, .ref x33, .ref x36, .ref x42, .int 0, .long 0]))] := hD
  refine lv_iload_n hx hb dX6_forget_10 rfl (lv_at hl 0 rfl) ?_
  exact en_i hx hb hr hlk hP hD hS () [] (by decide) rfl (Nat.le_of_ble_eq_true rfl) (Nat.le_of_ble_eq_true rfl) dX6_forget_11 rfl
theorem dX6_years_0 : decode cX6_years 0 = .ok (.iload_n 1, 1) := by decide +kernel
theorem dX6_years_1 : decode cX6_years 1 = .ok (.ifCond .lt 8, 3) := by decide +kernel
theorem dX6_years_9 : decode cX6_years 9 = .ok (.iconst (-1), 1) := by decide +kernel
theorem dX6_years_10 : decode cX6_years 10 = .ok (.ireturn, 1) := by decide +kernel
theorem dX6_years_4 : decode cX6_years 4 = .ok (.iload_n 1, 1) := by decide +kernel
theorem dX6_years_5 : decode cX6_years 5 = .ok (.iconst 2, 1) := by decide +kernel
theorem dX6_years_6 : decode cX6_years 6 = .ok (.if_icmp .le 5, 3) := by decide +kernel
theorem dX6_years_11 : decode cX6_years 11 = .ok (.iconst 0, 1) := by decide +kernel
theorem dX6_years_12 : decode cX6_years 12 = .ok (.istore_n 2, 1) := by decide +kernel
theorem dX6_years_13 : decode cX6_years 13 = .ok (.bipush (-9), 2) := by decide +kernel
theorem dX6_years_15 : decode cX6_years 15 = .ok (.istore_n 3, 1) := by decide +kernel
theorem dX6_years_16 : decode cX6_years 16 = .ok (.bipush (-9), 2) := by decide +kernel
theorem dX6_years_18 : decode cX6_years 18 = .ok (.istore 4, 2) := by decide +kernel
theorem dX6_years_20 : decode cX6_years 20 = .ok (.iconst 0, 1) := by decide +kernel
theorem dX6_years_21 : decode cX6_years 21 = .ok (.istore 5, 2) := by decide +kernel
theorem dX6_years_23 : decode cX6_years 23 = .ok (.iload 5, 2) := by decide +kernel
theorem dX6_years_25 : decode cX6_years 25 = .ok (.bipush 60, 2) := by decide +kernel
theorem dX6_years_27 : decode cX6_years 27 = .ok (.if_icmp .gt 35, 3) := by decide +kernel
theorem dX6_years_30 : decode cX6_years 30 = .ok (.aload_n 0, 1) := by decide +kernel
theorem dX6_years_31 : decode cX6_years 31 = .ok (.iload 5, 2) := by decide +kernel
theorem dX6_years_33 : decode cX6_years 33 = .ok (.invokevirtual 223, 3) := by decide +kernel
set_option maxRecDepth 20000 in
theorem ggX6_years_X6_allTakenDoFor : GoodIn wsX6_years wsX6_allTakenDoFor := goodIn_r _ [5, 6, 7, 8, 9, 10, 11, 12, 13, 14, 15, 16, 17, 18, 19, 20, 21, 22, 23, 24, 25, 26, 27, 28, 29, 30, 31, 32, 33, 34, 35, 36, 37, 38, 39, 40] (by decide +kernel) (by decide +kernel)
set_option maxRecDepth 20000 in
theorem gX6_years_X6_allTakenDoFor : GoodIn wsX6_years (wsV RX6 223 RX6 yX6_allTakenDoFor wsX6_allTakenDoFor) := goodIn_app (goodIn_of _ (by decide +kernel)) ggX6_years_X6_allTakenDoFor
theorem dX6_years_36 : decode cX6_years 36 = .ok (.ifCond .ne 6, 3) := by decide +kernel
theorem dX6_years_42 : decode cX6_years 42 = .ok (.iload_n 2, 1) := by decide +kernel
theorem dX6_years_43 : decode cX6_years 43 = .ok (.ifCond .ne 6, 3) := by decide +kernel
theorem dX6_years_46 : decode cX6_years 46 = .ok (.iload 5, 2) := by decide +kernel
theorem dX6_years_48 : decode cX6_years 48 = .ok (.istore_n 3, 1) := by decide +kernel
theorem dX6_years_49 : decode cX6_years 49 = .ok (.iload 5, 2) := by decide +kernel
theorem dX6_years_51 : decode cX6_years 51 = .ok (.istore 4, 2) := by decide +kernel
theorem dX6_years_53 : decode cX6_years 53 = .ok (.iinc 2 1, 3) := by decide +kernel
theorem dX6_years_56 : decode cX6_years 56 = .ok (.iinc 5 1, 3) := by decide +kernel
theorem dX6_years_59 : decode cX6_years 59 = .ok (.goto (-36), 3) := by decide +kernel
theorem dX6_years_62 : decode cX6_years 62 = .ok (.iload_n 1, 1) := by decide +kernel
theorem dX6_years_63 : decode cX6_years 63 = .ok (.ifCond .ne 5, 3) := by decide +kernel
theorem dX6_years_68 : decode cX6_years 68 = .ok (.iload_n 1, 1) := by decide +kernel
theorem dX6_years_69 : decode cX6_years 69 = .ok (.iconst 1, 1) := by decide +kernel
theorem dX6_years_70 : decode cX6_years 70 = .ok (.if_icmp .ne 7, 3) := by decide +kernel
theorem dX6_years_77 : decode cX6_years 77 = .ok (.iload 4, 2) := by decide +kernel
theorem dX6_years_79 : decode cX6_years 79 = .ok (.ireturn, 1) := by decide +kernel
theorem dX6_years_73 : decode cX6_years 73 = .ok (.iload_n 3, 1) := by decide +kernel
theorem dX6_years_74 : decode cX6_years 74 = .ok (.goto 5, 3) := by decide +kernel
theorem dX6_years_66 : decode cX6_years 66 = .ok (.iload_n 2, 1) := by decide +kernel
theorem dX6_years_67 : decode cX6_years 67 = .ok (.ireturn, 1) := by decide +kernel
set_option maxHeartbeats 4000000 in
set_option maxRecDepth 100000 in
theorem c_X_years (l : Launch) (D : va_G) (cI cB cZ cN : ClassId) (h0 : Nat) (x0 : Nat) (x1 : Nat) (x3 : Nat) (x11 : Nat) (x19 : Nat) (x22 : Nat) (x29 : Nat) (x33 : Nat) (x36 : Nat) (x42 : Nat) (v_c : Int32)  : Ci (S := Unit) l D cI cB cZ cN yX6_years wsX6_years ({ frames := 1, cells := 0, slots := 0, locals := 22 } : Room) [.ref h0, .int v_c] [(h0, .inr (6, [.ref x0, .int 0, .ref x1, .ref x3, .ref x11, .ref x19, .ref x22, .int 0, .ref x29, .ref x33, .ref x36, .ref x42, .int 0, .long 0]))] (fun (r : Int32) (_ : Unit) => r = yrA v_c) (fun u => []) := by
  refine bx_of (D := D) (cI := cI) (cB := cB) (cZ := cZ) (cN := cN) (y := yX6_years) (wd := wsX6_years) (rm := ({ frames := 1, cells := 0, slots := 0, locals := 22 } : Room)) (av := [.ref h0, .int v_c]) (wc := [(h0, .inr (6, [.ref x0, .int 0, .ref x1, .ref x3, .ref x11, .ref x19, .ref x22, .int 0, .ref x29, .ref x33, .ref x36, .ref x42, .int 0, .long 0]))]) (cc := cX6_years) (maxL := 6) (ret := (some .int)) (Qc := fun _ A => va_Qi (S := Unit) (fun (r : Int32) (_ : Unit) => r = yrA v_c) (Aft D (fun (u : Unit) => []) A) A) (by decide) rfl (Nat.le_of_ble_eq_true rfl) ?_
  intro p e s m below meth c A H locs ⟨hx, hb, hr, hml, hown, hts, hlk, hnm⟩ hK hP hD hS hA ls hl
  have hl : lv_has ls 6 [(0, .ref h0), (1, .int v_c)] := hl
  have hown : s.vm.findClass RX6 = some m.cls := hown
  refine lv_iload_n hx hb dX6_years_0 rfl (lv_at hl 1 rfl) ?_
  refine lv_if_lt (tgt := 9) hx hb dX6_years_1 (by decide) (fun h1 => ?_) (fun h1 => ?_)
  · skip
    refine lv_iconst (v := -1) hx hb dX6_years_9 (by decide) ?_
    exact en_i hx hb hr hlk hP hD hS () [] (by decide) rfl (Nat.le_of_ble_eq_true rfl) (Nat.le_of_ble_eq_true rfl) dX6_years_10 (if_pos (inz_lt h1)).symm
  · skip
    refine lv_iload_n hx hb dX6_years_4 rfl (lv_at hl 1 rfl) ?_
    refine lv_iconst (v := 2) hx hb dX6_years_5 (by decide) ?_
    refine lv_icmp_le (tgt := 11) hx hb dX6_years_6 (by decide) (fun h2 => ?_) (fun h2 => ?_)
    · skip
      refine lv_iconst (v := 0) hx hb dX6_years_11 (by decide) ?_
      refine lv_istore_n (lv' := [(2, .int 0), (0, .ref h0), (1, .int v_c)]) hx hb dX6_years_12 rfl hl (by decide) rfl (fun ls hl => ?_)
      refine lv_bipush (v := -9) hx hb dX6_years_13 (by decide) ?_
      refine lv_istore_n (lv' := [(3, .int (-9)), (2, .int 0), (0, .ref h0), (1, .int v_c)]) hx hb dX6_years_15 rfl hl (by decide) rfl (fun ls hl => ?_)
      refine lv_bipush (v := -9) hx hb dX6_years_16 (by decide) ?_
      refine lv_istore (lv' := [(4, .int (-9)), (3, .int (-9)), (2, .int 0), (0, .ref h0), (1, .int v_c)]) hx hb dX6_years_18 hl (by decide) rfl (fun ls hl => ?_)
      refine lv_iconst (v := 0) hx hb dX6_years_20 (by decide) ?_
      refine lv_istore (lv' := [(5, .int 0), (4, .int (-9)), (3, .int (-9)), (2, .int 0), (0, .ref h0), (1, .int v_c)]) hx hb dX6_years_21 hl (by decide) rfl (fun ls hl => ?_)
      refine lv_iload hx hb dX6_years_23 (lv_at hl 0 rfl) ?_
      refine lv_bipush (v := 60) hx hb dX6_years_25 (by decide) ?_
      refine lv_icmp_gt (tgt := 62) hx hb dX6_years_27 (by decide) (fun h3 => absurd h3 (by decide)) (fun h3 => ?_)
      refine lv_aload_n hx hb dX6_years_30 rfl (lv_at hl 4 rfl) ?_
      refine lv_iload hx hb dX6_years_31 (lv_at hl 0 rfl) ?_
      refine be_i (free := va_A [(h0, .inr (6, [.ref x0, .int 0, .ref x1, .ref x3, .ref x11, .ref x19, .ref x22, .int 0, .ref x29, .ref x33, .ref x36, .ref x42, .int 0, .long 0]))] H.size) (wc := [(h0, .inr (6, [.ref x0, .int 0, .ref x1, .ref x3, .ref x11, .ref x19, .ref x22, .int 0, .ref x29, .ref x33, .ref x36, .ref x42, .int 0, .long 0]))]) (wr := []) (ru_V (As := [.int 0]) (rest := []) ⟨hx, hb, hml, hown, hts⟩ (c_X_allTaken l D cI cB cZ cN h0 x0 x1 x3 x11 x19 x22 x29 x33 x36 x42 0 H.size) gX6_years_X6_allTakenDoFor rfl ⟨rfl, by decide, by decide, (show Option.map (fun d => d.parameters.length) (parseMethodDescriptor yX6_allTakenDoFor.desc) = some 1 by decide +kernel)⟩ ⟨Nat.le_of_ble_eq_true rfl, Nat.le_of_ble_eq_true rfl⟩ hK hP hD 6 0 rfl rfl [0] (by decide) rfl hl.1 rfl (Nat.le_of_ble_eq_true rfl) dX6_years_33 ⟨Nat.le_of_ble_eq_true rfl, Nat.le_of_ble_eq_true rfl⟩) hP hD hS hA [0] [] rfl rfl (by decide) (by decide) (fun r5 u4 H locs w6 hP hD hS => ?_)
      have hP : va_P D vwCl [(h0, .inr (6, [.ref x0, .int 0, .ref x1, .ref x3, .ref x11, .ref x19, .ref x22, .int 0, .ref x29, .ref x33, .ref x36, .ref x42, .int 0, .long 0]))] H := hP
      have hD : va_D A [(h0, .inr (6, [.ref x0, .int 0, .ref x1, .ref x3, .ref x11, .ref x19, .ref x22, .int 0, .ref x29, .ref x33, .ref x36, .ref x42, .int 0, .long 0]))] := hD
      obtain rfl : r5 = 1 := w6
      refine lv_if_ne (tgt := 42) hx hb dX6_years_36 (by decide) (fun h7 => ?_) (fun h7 => absurd h7 (by decide))
      refine lv_iload_n hx hb dX6_years_42 rfl (lv_at hl 3 rfl) ?_
      refine lv_if_ne (tgt := 49) hx hb dX6_years_43 (by decide) (fun h8 => absurd (by decide) h8) (fun h8 => ?_)
      refine lv_iload hx hb dX6_years_46 (lv_at hl 0 rfl) ?_
      refine lv_istore_n (lv' := [(3, .int 0), (5, .int 0), (4, .int (-9)), (2, .int 0), (0, .ref h0), (1, .int v_c)]) hx hb dX6_years_48 rfl hl (by decide) rfl (fun ls hl => ?_)
      refine lv_iload hx hb dX6_years_49 (lv_at hl 1 rfl) ?_
      refine lv_istore (lv' := [(4, .int 0), (3, .int 0), (5, .int 0), (2, .int 0), (0, .ref h0), (1, .int v_c)]) hx hb dX6_years_51 hl (by decide) rfl (fun ls hl => ?_)
      refine lv_iinc (v := 1) (lv' := [(2, .int 1), (4, .int 0), (3, .int 0), (5, .int 0), (0, .ref h0), (1, .int v_c)]) hx hb dX6_years_53 hl (k := 3) rfl (by decide) (by decide) rfl (fun ls hl => ?_)
      refine lv_iinc (v := 1) (lv' := [(5, .int 1), (2, .int 1), (4, .int 0), (3, .int 0), (0, .ref h0), (1, .int v_c)]) hx hb dX6_years_56 hl (k := 3) rfl (by decide) (by decide) rfl (fun ls hl => ?_)
      refine lv_goto (tgt := 23) hx hb dX6_years_59 (by decide) ?_
      refine loopW (D := D) (A := A) (fun i => [(h0, .inr (6, [.ref x0, .int 0, .ref x1, .ref x3, .ref x11, .ref x19, .ref x22, .int 0, .ref x29, .ref x33, .ref x36, .ref x42, .int 0, .long 0]))]) (fun i => [(0, .ref h0), (1, .int v_c), (2, .int (nI i)), (3, .int 0), (4, .int (nI (i - 1))), (5, .int (nI i))]) 23 6 61 1 (Nat.le_of_ble_eq_true rfl) ?_ ?_ _ _ ls hP hD hS (lv_sub hl [4, 5, 1, 3, 2, 0] rfl)
      · intro H locs ls hP hD hS hl
        have hP : va_P D vwCl [(h0, .inr (6, [.ref x0, .int 0, .ref x1, .ref x3, .ref x11, .ref x19, .ref x22, .int 0, .ref x29, .ref x33, .ref x36, .ref x42, .int 0, .long 0]))] H := hP
        have hD : va_D A [(h0, .inr (6, [.ref x0, .int 0, .ref x1, .ref x3, .ref x11, .ref x19, .ref x22, .int 0, .ref x29, .ref x33, .ref x36, .ref x42, .int 0, .long 0]))] := hD
        have hl : lv_has ls 6 [(0, .ref h0), (1, .int v_c), (2, .int 61), (3, .int 0), (4, .int 60), (5, .int 61)] := hl
        refine lv_iload hx hb dX6_years_23 (lv_at hl 5 rfl) ?_
        refine lv_bipush (v := 60) hx hb dX6_years_25 (by decide) ?_
        refine lv_icmp_gt (tgt := 62) hx hb dX6_years_27 (by decide) (fun h9 => ?_) (fun h9 => absurd (by decide) h9)
        refine lv_iload_n hx hb dX6_years_62 rfl (lv_at hl 1 rfl) ?_
        refine lv_if_ne (tgt := 68) hx hb dX6_years_63 (by decide) (fun h10 => ?_) (fun h10 => ?_)
        · skip
          refine lv_iload_n hx hb dX6_years_68 rfl (lv_at hl 1 rfl) ?_
          refine lv_iconst (v := 1) hx hb dX6_years_69 (by decide) ?_
          refine lv_icmp_ne (tgt := 77) hx hb dX6_years_70 (by decide) (fun h11 => ?_) (fun h11 => ?_)
          · skip
            refine lv_iload hx hb dX6_years_77 (lv_at hl 4 rfl) ?_
            exact en_i hx hb hr hlk hP hD hS () [] (by decide) rfl (Nat.le_of_ble_eq_true rfl) (Nat.le_of_ble_eq_true rfl) dX6_years_79 (by unfold yrA; rw [if_neg (inz_10 (inz_in2 h1 h2)), if_neg h10, if_neg h11])
          · skip
            refine lv_iload_n hx hb dX6_years_73 rfl (lv_at hl 3 rfl) ?_
            refine lv_goto (tgt := 79) hx hb dX6_years_74 (by decide) ?_
            exact en_i hx hb hr hlk hP hD hS () [] (by decide) rfl (Nat.le_of_ble_eq_true rfl) (Nat.le_of_ble_eq_true rfl) dX6_years_79 (by unfold yrA; rw [if_neg (inz_10 (inz_in2 h1 h2)), if_neg h10, if_pos h11])
        · skip
          refine lv_iload_n hx hb dX6_years_66 rfl (lv_at hl 2 rfl) ?_
          exact en_i hx hb hr hlk hP hD hS () [] (by decide) rfl (Nat.le_of_ble_eq_true rfl) (Nat.le_of_ble_eq_true rfl) dX6_years_67 (by unfold yrA; rw [if_neg (inz_10 (inz_in2 h1 h2)), if_pos h10])
      · intro i hi0 hi ih H locs ls hP hD hS hl
        have hP : va_P D vwCl [(h0, .inr (6, [.ref x0, .int 0, .ref x1, .ref x3, .ref x11, .ref x19, .ref x22, .int 0, .ref x29, .ref x33, .ref x36, .ref x42, .int 0, .long 0]))] H := hP
        have hD : va_D A [(h0, .inr (6, [.ref x0, .int 0, .ref x1, .ref x3, .ref x11, .ref x19, .ref x22, .int 0, .ref x29, .ref x33, .ref x36, .ref x42, .int 0, .long 0]))] := hD
        have hl : lv_has ls 6 [(0, .ref h0), (1, .int v_c), (2, .int (nI i)), (3, .int 0), (4, .int (nI (i - 1))), (5, .int (nI i))] := hl
        refine lv_iload hx hb dX6_years_23 (lv_at hl 5 rfl) ?_
        refine lv_bipush (v := 60) hx hb dX6_years_25 (by decide) ?_
        refine lv_icmp_gt (tgt := 62) hx hb dX6_years_27 (by decide) (fun h12 => absurd h12 (fun q => absurd ((nI_ltI (a := 60) (b := i) (by omega) (by omega)).mp q) (by omega))) (fun h12 => ?_)
        refine lv_aload_n hx hb dX6_years_30 rfl (lv_at hl 0 rfl) ?_
        refine lv_iload hx hb dX6_years_31 (lv_at hl 5 rfl) ?_
        refine be_i (free := va_A [(h0, .inr (6, [.ref x0, .int 0, .ref x1, .ref x3, .ref x11, .ref x19, .ref x22, .int 0, .ref x29, .ref x33, .ref x36, .ref x42, .int 0, .long 0]))] H.size) (wc := [(h0, .inr (6, [.ref x0, .int 0, .ref x1, .ref x3, .ref x11, .ref x19, .ref x22, .int 0, .ref x29, .ref x33, .ref x36, .ref x42, .int 0, .long 0]))]) (wr := []) (ru_V (As := [.int (nI i)]) (rest := []) ⟨hx, hb, hml, hown, hts⟩ (c_X_allTaken l D cI cB cZ cN h0 x0 x1 x3 x11 x19 x22 x29 x33 x36 x42 (nI i) H.size) gX6_years_X6_allTakenDoFor rfl ⟨rfl, by decide, by decide, (show Option.map (fun d => d.parameters.length) (parseMethodDescriptor yX6_allTakenDoFor.desc) = some 1 by decide +kernel)⟩ ⟨Nat.le_of_ble_eq_true rfl, Nat.le_of_ble_eq_true rfl⟩ hK hP hD 6 0 rfl rfl [0] (by decide) rfl hl.1 rfl (Nat.le_of_ble_eq_true rfl) dX6_years_33 ⟨Nat.le_of_ble_eq_true rfl, Nat.le_of_ble_eq_true rfl⟩) hP hD hS hA [0] [] rfl rfl (by decide) (by decide) (fun r14 u13 H locs w15 hP hD hS => ?_)
        have hP : va_P D vwCl [(h0, .inr (6, [.ref x0, .int 0, .ref x1, .ref x3, .ref x11, .ref x19, .ref x22, .int 0, .ref x29, .ref x33, .ref x36, .ref x42, .int 0, .long 0]))] H := hP
        have hD : va_D A [(h0, .inr (6, [.ref x0, .int 0, .ref x1, .ref x3, .ref x11, .ref x19, .ref x22, .int 0, .ref x29, .ref x33, .ref x36, .ref x42, .int 0, .long 0]))] := hD
        obtain rfl : r14 = 1 := w15
        refine lv_if_ne (tgt := 42) hx hb dX6_years_36 (by decide) (fun h16 => ?_) (fun h16 => absurd h16 (by decide))
        refine lv_iload_n hx hb dX6_years_42 rfl (lv_at hl 2 rfl) ?_
        refine lv_if_ne (tgt := 49) hx hb dX6_years_43 (by decide) (fun h17 => ?_) (fun h17 => absurd h17 (fun q => absurd ((nI_eq (a := i) (b := 0) (by omega) (by omega)).mp q) (by omega)))
        refine lv_iload hx hb dX6_years_49 (lv_at hl 5 rfl) ?_
        refine lv_istore (lv' := [(4, .int (nI i)), (0, .ref h0), (1, .int v_c), (2, .int (nI i)), (3, .int 0), (5, .int (nI i))]) hx hb dX6_years_51 hl (by decide) rfl (fun ls hl => ?_)
        refine lv_iinc (v := nI (i + 1)) (lv' := [(2, .int (nI (i + 1))), (4, .int (nI i)), (0, .ref h0), (1, .int v_c), (3, .int 0), (5, .int (nI i))]) hx hb dX6_years_53 hl (k := 3) rfl (nI_1 i) (by decide) rfl (fun ls hl => ?_)
        refine lv_iinc (v := nI (i + 1)) (lv' := [(5, .int (nI (i + 1))), (2, .int (nI (i + 1))), (4, .int (nI i)), (0, .ref h0), (1, .int v_c), (3, .int 0)]) hx hb dX6_years_56 hl (k := 5) rfl (nI_1 i) (by decide) rfl (fun ls hl => ?_)
        refine lv_goto (tgt := 23) hx hb dX6_years_59 (by decide) ?_
        exact ih _ _ _ hP hD hS (lv_sub hl [3, 4, 1, 5, 2, 0] rfl)
    · skip
      refine lv_iconst (v := -1) hx hb dX6_years_9 (by decide) ?_
      exact en_i hx hb hr hlk hP hD hS () [] (by decide) rfl (Nat.le_of_ble_eq_true rfl) (Nat.le_of_ble_eq_true rfl) dX6_years_10 (if_pos (inz_nle h2)).symm
theorem dX6_mark_0 : decode cX6_mark 0 = .ok (.iload_n 1, 1) := by decide +kernel
theorem dX6_mark_1 : decode cX6_mark 1 = .ok (.ifCond .lt 20, 3) := by decide +kernel
theorem dX6_mark_21 : decode cX6_mark 21 = .ok (.ldc 226, 2) := by decide +kernel
theorem dX6_mark_23 : decode cX6_mark 23 = .ok (.ireturn, 1) := by decide +kernel
theorem dX6_mark_4 : decode cX6_mark 4 = .ok (.iload_n 1, 1) := by decide +kernel
theorem dX6_mark_5 : decode cX6_mark 5 = .ok (.bipush 6, 2) := by decide +kernel
theorem dX6_mark_7 : decode cX6_mark 7 = .ok (.if_icmp .ge 14, 3) := by decide +kernel
theorem dX6_mark_10 : decode cX6_mark 10 = .ok (.aload_n 0, 1) := by decide +kernel
theorem dX6_mark_11 : decode cX6_mark 11 = .ok (.getfield 27, 3) := by decide +kernel
theorem in_X6_mark_6 : ∀ w ∈ wsX60, w ∈ wsX6_mark := fun w h => List.mem_cons_of_mem _ (List.mem_append_left _ (List.mem_append_left _ (List.mem_append_right _ h)))
theorem dX6_mark_14 : decode cX6_mark 14 = .ok (.iload_n 2, 1) := by decide +kernel
theorem dX6_mark_15 : decode cX6_mark 15 = .ok (.invokevirtual 87, 3) := by decide +kernel
set_option maxRecDepth 20000 in
theorem ggX6_mark_X0_hasCoin : GoodIn wsX6_mark wsX0_hasCoin := goodIn_r _ [6, 7, 88, 89, 90, 91, 92, 93, 94, 95, 96, 97, 98, 99] (by decide +kernel) (by decide +kernel)
theorem dX6_mark_18 : decode cX6_mark 18 = .ok (.ifCond .ne 6, 3) := by decide +kernel
set_option maxHeartbeats 4000000 in
set_option maxRecDepth 100000 in
theorem c_X_mark (l : Launch) (D : va_G) (cI cB cZ cN : ClassId) (h0 : Nat) (x0 : Nat) (x1 : Nat) (x3 : Nat) (x11 : Nat) (x19 : Nat) (x22 : Nat) (x29 : Nat) (x33 : Nat) (x36 : Nat) (x42 : Nat) (x4 : Nat) (x5 : Nat) (x6 : Nat) (x7 : Nat) (x8 : Nat) (x9 : Nat) (x10 : Nat) (v_c : Int32) (v_w : Int32)  : Ci (S := Unit) l D cI cB cZ cN yX6_mark wsX6_mark ({ frames := 1, cells := 0, slots := 0, locals := 21 } : Room) [.ref h0, .int v_c, .int v_w] [(h0, .inr (6, [.ref x0, .int 0, .ref x1, .ref x3, .ref x11, .ref x19, .ref x22, .int 0, .ref x29, .ref x33, .ref x36, .ref x42, .int 0, .long 0])), (x3, .inr (0, [.int 0, .ref x4, .ref x5, .int 0, .ref x6, .ref x7, .int 0, .ref x8, .ref x9, .ref x10, .int 9, .int 0]))] (fun (r : Int32) (_ : Unit) => r = -1000000) (fun u => []) := by
  refine bx_of (D := D) (cI := cI) (cB := cB) (cZ := cZ) (cN := cN) (y := yX6_mark) (wd := wsX6_mark) (rm := ({ frames := 1, cells := 0, slots := 0, locals := 21 } : Room)) (av := [.ref h0, .int v_c, .int v_w]) (wc := [(h0, .inr (6, [.ref x0, .int 0, .ref x1, .ref x3, .ref x11, .ref x19, .ref x22, .int 0, .ref x29, .ref x33, .ref x36, .ref x42, .int 0, .long 0])), (x3, .inr (0, [.int 0, .ref x4, .ref x5, .int 0, .ref x6, .ref x7, .int 0, .ref x8, .ref x9, .ref x10, .int 9, .int 0]))]) (cc := cX6_mark) (maxL := 3) (ret := (some .int)) (Qc := fun _ A => va_Qi (S := Unit) (fun (r : Int32) (_ : Unit) => r = -1000000) (Aft D (fun (u : Unit) => []) A) A) (by decide) rfl (Nat.le_of_ble_eq_true rfl) ?_
  intro p e s m below meth c A H locs ⟨hx, hb, hr, hml, hown, hts, hlk, hnm⟩ hK hP hD hS hA ls hl
  have hl : lv_has ls 3 [(0, .ref h0), (1, .int v_c), (2, .int v_w)] := hl
  have hown : s.vm.findClass RX6 = some m.cls := hown
  refine lv_iload_n hx hb dX6_mark_0 rfl (lv_at hl 1 rfl) ?_
  refine lv_if_lt (tgt := 21) hx hb dX6_mark_1 (by decide) (fun h1 => ?_) (fun h1 => ?_)
  · skip
    refine lv_ldc (v := -1000000) hx hb hown (hts (.constant RX6 226 (-1000000)) (List.mem_of_getElem? (i := 2) rfl)) dX6_mark_21 ?_
    exact en_i hx hb hr hlk hP hD hS () [] (by decide) rfl (Nat.le_of_ble_eq_true rfl) (Nat.le_of_ble_eq_true rfl) dX6_mark_23 rfl
  · skip
    refine lv_iload_n hx hb dX6_mark_4 rfl (lv_at hl 1 rfl) ?_
    refine lv_bipush (v := 6) hx hb dX6_mark_5 (by decide) ?_
    refine lv_icmp_ge (tgt := 21) hx hb dX6_mark_7 (by decide) (fun h2 => ?_) (fun h2 => ?_)
    · skip
      refine lv_ldc (v := -1000000) hx hb hown (hts (.constant RX6 226 (-1000000)) (List.mem_of_getElem? (i := 2) rfl)) dX6_mark_21 ?_
      exact en_i hx hb hr hlk hP hD hS () [] (by decide) rfl (Nat.le_of_ble_eq_true rfl) (Nat.le_of_ble_eq_true rfl) dX6_mark_23 rfl
    · skip
      refine lv_aload_n hx hb dX6_mark_10 rfl (lv_at hl 0 rfl) ?_
      refine va_get (D := D) (ci := 6) (v := .ref x3) (C := RX6) (T := TX6) (N := 14) hx hb hts in_X6_mark_6 hown hK.1 hP 0 rfl rfl 3 (by decide) (hts (.fieldLink RX6 27 "ChildCoins" "ours" "LChildCoins$Land;") (List.mem_of_getElem? (i := 1) rfl)) (fun _ h9 => h9) rfl dX6_mark_11 ?_
      refine lv_iload_n hx hb dX6_mark_14 rfl (lv_at hl 2 rfl) ?_
      refine be_i (free := va_A [(x3, .inr (0, [.int 0, .ref x4, .ref x5, .int 0, .ref x6, .ref x7, .int 0, .ref x8, .ref x9, .ref x10, .int 9, .int 0]))] H.size) (wc := [(x3, .inr (0, [.int 0, .ref x4, .ref x5, .int 0, .ref x6, .ref x7, .int 0, .ref x8, .ref x9, .ref x10, .int 9, .int 0]))]) (wr := [(h0, .inr (6, [.ref x0, .int 0, .ref x1, .ref x3, .ref x11, .ref x19, .ref x22, .int 0, .ref x29, .ref x33, .ref x36, .ref x42, .int 0, .long 0]))]) (ru_N (C := RX0) (host := "ChildCoins") (As := [.int v_w]) (rest := []) ⟨hx, hb, hml, hown, hts⟩ (c_L_hasCoin l D cI cB cZ cN x3 x4 x5 x6 x7 x8 x9 x10 v_w H.size) ggX6_mark_X0_hasCoin rfl (nmX6_87 hK.2) (hts (.initialized RX0) (List.mem_of_getElem? (i := 4) rfl)) (hts (.instanceMethod yX0_hasCoin) (List.mem_of_getElem? (i := 3) rfl)) (hts (.selects RX0 yX0_hasCoin yX0_hasCoin) (List.mem_of_getElem? (i := 5) rfl)) ⟨by decide, by decide, (show Option.map (fun d => d.parameters.length) (parseMethodDescriptor yX0_hasCoin.desc) = some 1 by decide +kernel)⟩ ⟨Nat.le_of_ble_eq_true rfl, Nat.le_of_ble_eq_true rfl⟩ hK hP hD 0 1 rfl rfl [1] (by decide) rfl hl.1 rfl (Nat.le_of_ble_eq_true rfl) dX6_mark_15 ⟨Nat.le_of_ble_eq_true rfl, Nat.le_of_ble_eq_true rfl⟩) hP hD hS hA [1] [0] rfl rfl (by decide) (by decide) (fun r4 u3 H locs w5 hP hD hS => ?_)
      have hP : va_P D vwCl [(h0, .inr (6, [.ref x0, .int 0, .ref x1, .ref x3, .ref x11, .ref x19, .ref x22, .int 0, .ref x29, .ref x33, .ref x36, .ref x42, .int 0, .long 0])), (x3, .inr (0, [.int 0, .ref x4, .ref x5, .int 0, .ref x6, .ref x7, .int 0, .ref x8, .ref x9, .ref x10, .int 9, .int 0]))] H := hP
      have hD : va_D A [(h0, .inr (6, [.ref x0, .int 0, .ref x1, .ref x3, .ref x11, .ref x19, .ref x22, .int 0, .ref x29, .ref x33, .ref x36, .ref x42, .int 0, .long 0])), (x3, .inr (0, [.int 0, .ref x4, .ref x5, .int 0, .ref x6, .ref x7, .int 0, .ref x8, .ref x9, .ref x10, .int 9, .int 0]))] := hD
      obtain rfl : r4 = 0 := w5
      refine lv_if_ne (tgt := 24) hx hb dX6_mark_18 (by decide) (fun h6 => absurd (by decide) h6) (fun h6 => ?_)
      refine lv_ldc (v := -1000000) hx hb hown (hts (.constant RX6 226 (-1000000)) (List.mem_of_getElem? (i := 2) rfl)) dX6_mark_21 ?_
      exact en_i hx hb hr hlk hP hD hS () [] (by decide) rfl (Nat.le_of_ble_eq_true rfl) (Nat.le_of_ble_eq_true rfl) dX6_mark_23 rfl
theorem dX6_keep_0 : decode cX6_keep 0 = .ok (.iload_n 1, 1) := by decide +kernel
theorem dX6_keep_1 : decode cX6_keep 1 = .ok (.ifCond .lt 8, 3) := by decide +kernel
theorem dX6_keep_9 : decode cX6_keep 9 = .ok (.iconst (-1), 1) := by decide +kernel
theorem dX6_keep_10 : decode cX6_keep 10 = .ok (.ireturn, 1) := by decide +kernel
theorem dX6_keep_4 : decode cX6_keep 4 = .ok (.iload_n 1, 1) := by decide +kernel
theorem dX6_keep_5 : decode cX6_keep 5 = .ok (.iconst 2, 1) := by decide +kernel
theorem dX6_keep_6 : decode cX6_keep 6 = .ok (.if_icmp .lt 5, 3) := by decide +kernel
theorem dX6_keep_11 : decode cX6_keep 11 = .ok (.aload_n 0, 1) := by decide +kernel
theorem dX6_keep_12 : decode cX6_keep 12 = .ok (.getfield 41, 3) := by decide +kernel
theorem in_X6_keep_6 : ∀ w ∈ wsX60, w ∈ wsX6_keep := fun w h => List.mem_cons_of_mem _ (List.mem_append_left _ (List.mem_append_right _ h))
theorem dX6_keep_15 : decode cX6_keep 15 = .ok (.iload_n 1, 1) := by decide +kernel
theorem dX6_keep_16 : decode cX6_keep 16 = .ok (.aaload, 1) := by decide +kernel
theorem dX6_keep_17 : decode cX6_keep 17 = .ok (.aload_n 0, 1) := by decide +kernel
theorem dX6_keep_18 : decode cX6_keep 18 = .ok (.getfield 37, 3) := by decide +kernel
theorem dX6_keep_21 : decode cX6_keep 21 = .ok (.invokevirtual 245, 3) := by decide +kernel
set_option maxRecDepth 20000 in
theorem ggX6_keep_X1_become : GoodIn wsX6_keep wsX1_become := goodIn_r _ [7, 8, 9, 10, 11, 12, 13, 14, 39, 40, 41] (by decide +kernel) (by decide +kernel)
theorem dX6_keep_24 : decode cX6_keep 24 = .ok (.aload_n 0, 1) := by decide +kernel
theorem dX6_keep_25 : decode cX6_keep 25 = .ok (.dup, 1) := by decide +kernel
theorem dX6_keep_26 : decode cX6_keep 26 = .ok (.getfield 45, 3) := by decide +kernel
theorem dX6_keep_29 : decode cX6_keep 29 = .ok (.iconst 1, 1) := by decide +kernel
theorem dX6_keep_30 : decode cX6_keep 30 = .ok (.iload_n 1, 1) := by decide +kernel
theorem dX6_keep_31 : decode cX6_keep 31 = .ok (.ishl, 1) := by decide +kernel
theorem dX6_keep_32 : decode cX6_keep 32 = .ok (.ior, 1) := by decide +kernel
theorem dX6_keep_33 : decode cX6_keep 33 = .ok (.putfield 45, 3) := by decide +kernel
theorem dX6_keep_36 : decode cX6_keep 36 = .ok (.aload_n 0, 1) := by decide +kernel
theorem dX6_keep_37 : decode cX6_keep 37 = .ok (.getfield 37, 3) := by decide +kernel
theorem dX6_keep_40 : decode cX6_keep 40 = .ok (.invokevirtual 178, 3) := by decide +kernel
set_option maxRecDepth 20000 in
theorem ggX6_keep_X1_openBits : GoodIn wsX6_keep wsX1_openBits := goodIn_r _ [17, 8, 39, 40, 41] (by decide +kernel) (by decide +kernel)
theorem dX6_keep_43 : decode cX6_keep 43 = .ok (.invokestatic 249, 3) := by decide +kernel
set_option maxRecDepth 20000 in
theorem ggX6_keep_J6_bitCount_0f7a4 : GoodIn wsX6_keep wsJ6_bitCount_0f7a4 := goodIn_r _ [21, 22, 23, 24] (by decide +kernel) (by decide +kernel)
theorem dX6_keep_46 : decode cX6_keep 46 = .ok (.ireturn, 1) := by decide +kernel
set_option maxHeartbeats 4000000 in
set_option maxRecDepth 100000 in
theorem c_X_keep (l : Launch) (D : va_G) (cI cB cZ cN : ClassId) (h0 : Nat) (x0 : Nat) (x1 : Nat) (x3 : Nat) (x11 : Nat) (x19 : Nat) (x22 : Nat) (x29 : Nat) (x33 : Nat) (x36 : Nat) (x42 : Nat) (x23 : Nat) (x26 : Nat) (x24 : Nat) (x25 : Nat) (x27 : Nat) (x28 : Nat) (x20 : Nat) (x21 : Nat) (v_c : Int32)  : Ci (S := Unit) l D cI cB cZ cN yX6_keep wsX6_keep ({ frames := 2, cells := 0, slots := 0, locals := 61 } : Room) [.ref h0, .int v_c] [(h0, .inr (6, [.ref x0, .int 0, .ref x1, .ref x3, .ref x11, .ref x19, .ref x22, .int 0, .ref x29, .ref x33, .ref x36, .ref x42, .int 0, .long 0])), (x22, .inl (cN, 2, .inr (.inr (.inr (.inr (va_up (va_up (fun _ => none) 0 (some x23)) 1 (some x26))))))), (x23, .inr (1, [.ref x24, .ref x25, .int 0])), (x24, .inl (cI, 36, .inl zf)), (x25, .inl (cI, 360, .inl zf)), (x26, .inr (1, [.ref x27, .ref x28, .int 0])), (x27, .inl (cI, 36, .inl zf)), (x28, .inl (cI, 360, .inl zf)), (x19, .inr (1, [.ref x20, .ref x21, .int 0])), (x20, .inl (cI, 36, .inl zf)), (x21, .inl (cI, 360, .inl zf))] (fun (r : Int32) (_ : Unit) => r = kpA v_c) (fun u => []) := by
  refine bx_of (D := D) (cI := cI) (cB := cB) (cZ := cZ) (cN := cN) (y := yX6_keep) (wd := wsX6_keep) (rm := ({ frames := 2, cells := 0, slots := 0, locals := 61 } : Room)) (av := [.ref h0, .int v_c]) (wc := [(h0, .inr (6, [.ref x0, .int 0, .ref x1, .ref x3, .ref x11, .ref x19, .ref x22, .int 0, .ref x29, .ref x33, .ref x36, .ref x42, .int 0, .long 0])), (x22, .inl (cN, 2, .inr (.inr (.inr (.inr (va_up (va_up (fun _ => none) 0 (some x23)) 1 (some x26))))))), (x23, .inr (1, [.ref x24, .ref x25, .int 0])), (x24, .inl (cI, 36, .inl zf)), (x25, .inl (cI, 360, .inl zf)), (x26, .inr (1, [.ref x27, .ref x28, .int 0])), (x27, .inl (cI, 36, .inl zf)), (x28, .inl (cI, 360, .inl zf)), (x19, .inr (1, [.ref x20, .ref x21, .int 0])), (x20, .inl (cI, 36, .inl zf)), (x21, .inl (cI, 360, .inl zf))]) (cc := cX6_keep) (maxL := 2) (ret := (some .int)) (Qc := fun _ A => va_Qi (S := Unit) (fun (r : Int32) (_ : Unit) => r = kpA v_c) (Aft D (fun (u : Unit) => []) A) A) (by decide) rfl (Nat.le_of_ble_eq_true rfl) ?_
  intro p e s m below meth c A H locs ⟨hx, hb, hr, hml, hown, hts, hlk, hnm⟩ hK hP hD hS hA ls hl
  have hl : lv_has ls 2 [(0, .ref h0), (1, .int v_c)] := hl
  have hown : s.vm.findClass RX6 = some m.cls := hown
  refine lv_iload_n hx hb dX6_keep_0 rfl (lv_at hl 1 rfl) ?_
  refine lv_if_lt (tgt := 9) hx hb dX6_keep_1 (by decide) (fun h1 => ?_) (fun h1 => ?_)
  · skip
    refine lv_iconst (v := -1) hx hb dX6_keep_9 (by decide) ?_
    exact en_i hx hb hr hlk hP hD hS () [] (by decide) rfl (Nat.le_of_ble_eq_true rfl) (Nat.le_of_ble_eq_true rfl) dX6_keep_10 (if_pos (inz_lt h1)).symm
  · skip
    refine lv_iload_n hx hb dX6_keep_4 rfl (lv_at hl 1 rfl) ?_
    refine lv_iconst (v := 2) hx hb dX6_keep_5 (by decide) ?_
    refine lv_icmp_lt (tgt := 11) hx hb dX6_keep_6 (by decide) (fun h2 => ?_) (fun h2 => ?_)
    · skip
      rcases ic_4 (inz_10 (inz_in4 (hi' := 2) (hi := 1) rfl h1 h2)) with rfl | rfl
      · skip
        refine lv_aload_n hx hb dX6_keep_11 rfl (lv_at hl 0 rfl) ?_
        refine va_get (D := D) (ci := 6) (v := .ref x22) (C := RX6) (T := TX6) (N := 14) hx hb hts in_X6_keep_6 hown hK.1 hP 0 rfl rfl 6 (by decide) (hts (.fieldLink RX6 41 "ChildCoins" "images" "[LChildCoins$Now;") (List.mem_of_getElem? (i := 1) rfl)) (fun _ h9 => h9) rfl dX6_keep_12 ?_
        refine lv_iload_n hx hb dX6_keep_15 rfl (lv_at hl 1 rfl) ?_
        refine va_aldq hx hb hK.1 hP 1 3 rfl rfl (vp_in_nI (n := 0) (N := 2) (by decide) (by decide)) dX6_keep_16 ?_
        refine set_v (y := .ref x23) rfl ?_
        refine lv_aload_n hx hb dX6_keep_17 rfl (lv_at hl 0 rfl) ?_
        refine va_get (D := D) (ci := 6) (v := .ref x19) (C := RX6) (T := TX6) (N := 14) hx hb hts in_X6_keep_6 hown hK.1 hP 0 rfl rfl 5 (by decide) (hts (.fieldLink RX6 37 "ChildCoins" "present" "LChildCoins$Now;") (List.mem_of_getElem? (i := 2) rfl)) (fun _ h9 => h9) rfl dX6_keep_18 ?_
        refine be_v (free := va_A [(x23, .inr (1, [.ref x24, .ref x25, .int 0])), (x24, .inl (cI, 36, .inl zf)), (x25, .inl (cI, 360, .inl zf)), (x19, .inr (1, [.ref x20, .ref x21, .int 0])), (x20, .inl (cI, 36, .inl zf)), (x21, .inl (cI, 360, .inl zf))] H.size) (wc := [(x23, .inr (1, [.ref x24, .ref x25, .int 0])), (x24, .inl (cI, 36, .inl zf)), (x25, .inl (cI, 360, .inl zf)), (x19, .inr (1, [.ref x20, .ref x21, .int 0])), (x20, .inl (cI, 36, .inl zf)), (x21, .inl (cI, 360, .inl zf))]) (wr := [(h0, .inr (6, [.ref x0, .int 0, .ref x1, .ref x3, .ref x11, .ref x19, .ref x22, .int 0, .ref x29, .ref x33, .ref x36, .ref x42, .int 0, .long 0])), (x22, .inl (cN, 2, .inr (.inr (.inr (.inr (va_up (va_up (fun _ => none) 0 (some x23)) 1 (some x26))))))), (x26, .inr (1, [.ref x27, .ref x28, .int 0])), (x27, .inl (cI, 36, .inl zf)), (x28, .inl (cI, 360, .inl zf))]) (ru_N (C := RX1) (host := "ChildCoins") (As := [.ref x19]) (rest := []) ⟨hx, hb, hml, hown, hts⟩ (c_N_become l D cI cB cZ cN x23 x24 x25 x19 x20 x21 H.size) ggX6_keep_X1_become rfl (nmX6_245 hK.2) (hts (.initialized RX1) (List.mem_of_getElem? (i := 5) rfl)) (hts (.instanceMethod yX1_become) (List.mem_of_getElem? (i := 4) rfl)) (hts (.selects RX1 yX1_become yX1_become) (List.mem_of_getElem? (i := 6) rfl)) ⟨by decide, by decide, (show Option.map (fun d => d.parameters.length) (parseMethodDescriptor yX1_become.desc) = some 1 by decide +kernel)⟩ ⟨Nat.le_of_ble_eq_true rfl, Nat.le_of_ble_eq_true rfl⟩ hK hP hD 1 2 rfl rfl [2, 3, 4, 8, 9, 10] (by decide) rfl hl.1 rfl (Nat.le_of_ble_eq_true rfl) dX6_keep_21 ⟨Nat.le_of_ble_eq_true rfl, Nat.le_of_ble_eq_true rfl⟩) hP hD hS hA [2, 3, 4, 8, 9, 10] [0, 1, 5, 6, 7] rfl rfl (by decide) (by decide) (fun u3 H locs w5 hP hD hS => ?_)
        have hP : va_P D vwCl [(h0, .inr (6, [.ref x0, .int 0, .ref x1, .ref x3, .ref x11, .ref x19, .ref x22, .int 0, .ref x29, .ref x33, .ref x36, .ref x42, .int 0, .long 0])), (x22, .inl (cN, 2, .inr (.inr (.inr (.inr (va_up (va_up (fun _ => none) 0 (some x23)) 1 (some x26))))))), (x26, .inr (1, [.ref x27, .ref x28, .int 0])), (x27, .inl (cI, 36, .inl zf)), (x28, .inl (cI, 360, .inl zf)), (x23, .inr (1, [.ref x24, .ref x25, .int 0])), (x24, .inl (cI, 36, .inl zf)), (x25, .inl (cI, 360, .inl zf)), (x19, .inr (1, [.ref x20, .ref x21, .int 0])), (x20, .inl (cI, 36, .inl zf)), (x21, .inl (cI, 360, .inl zf))] H := hP
        have hD : va_D A [(h0, .inr (6, [.ref x0, .int 0, .ref x1, .ref x3, .ref x11, .ref x19, .ref x22, .int 0, .ref x29, .ref x33, .ref x36, .ref x42, .int 0, .long 0])), (x22, .inl (cN, 2, .inr (.inr (.inr (.inr (va_up (va_up (fun _ => none) 0 (some x23)) 1 (some x26))))))), (x26, .inr (1, [.ref x27, .ref x28, .int 0])), (x27, .inl (cI, 36, .inl zf)), (x28, .inl (cI, 360, .inl zf)), (x23, .inr (1, [.ref x24, .ref x25, .int 0])), (x24, .inl (cI, 36, .inl zf)), (x25, .inl (cI, 360, .inl zf)), (x19, .inr (1, [.ref x20, .ref x21, .int 0])), (x20, .inl (cI, 36, .inl zf)), (x21, .inl (cI, 360, .inl zf))] := hD
        refine lv_aload_n hx hb dX6_keep_24 rfl (lv_at hl 0 rfl) ?_
        refine lv_dup hx hb dX6_keep_25 rfl ?_
        refine va_get (D := D) (ci := 6) (v := .int 0) (C := RX6) (T := TX6) (N := 14) hx hb hts in_X6_keep_6 hown hK.1 hP 0 rfl rfl 7 (by decide) (hts (.fieldLink RX6 45 "ChildCoins" "keptImages" "I") (List.mem_of_getElem? (i := 3) rfl)) (fun _ h9 => h9) rfl dX6_keep_26 ?_
        refine lv_iconst (v := 1) hx hb dX6_keep_29 (by decide) ?_
        refine lv_iload_n hx hb dX6_keep_30 rfl (lv_at hl 1 rfl) ?_
        refine lv_ishl hx hb dX6_keep_31 ?_
        refine set_i (y := 1) (by decide) ?_
        refine lv_ior hx hb dX6_keep_32 ?_
        refine set_i (y := 1) (by decide) ?_
        refine va_put (D := D) (ci := 6) (v := .int 1) (ty := tyX6 7) (C := RX6) (T := TX6) (N := 14) hx hb hts in_X6_keep_6 tyX6 tyX6_ok nmX6 hown hK.1 hP hD hS 0 rfl rfl 7 (by decide) (hts (.fieldLink RX6 45 "ChildCoins" "keptImages" "I") (List.mem_of_getElem? (i := 3) rfl)) (fun _ h9 => h9) rfl (tyX6_ok 7 (by decide)) rfl rfl (Nat.le_of_ble_eq_true rfl) dX6_keep_33 (fun H locs hP hD hS => ?_)
        have hP : va_P D vwCl [(h0, .inr (6, [.ref x0, .int 0, .ref x1, .ref x3, .ref x11, .ref x19, .ref x22, .int 1, .ref x29, .ref x33, .ref x36, .ref x42, .int 0, .long 0])), (x22, .inl (cN, 2, .inr (.inr (.inr (.inr (va_up (va_up (fun _ => none) 0 (some x23)) 1 (some x26))))))), (x26, .inr (1, [.ref x27, .ref x28, .int 0])), (x27, .inl (cI, 36, .inl zf)), (x28, .inl (cI, 360, .inl zf)), (x23, .inr (1, [.ref x24, .ref x25, .int 0])), (x24, .inl (cI, 36, .inl zf)), (x25, .inl (cI, 360, .inl zf)), (x19, .inr (1, [.ref x20, .ref x21, .int 0])), (x20, .inl (cI, 36, .inl zf)), (x21, .inl (cI, 360, .inl zf))] H := hP
        have hD : va_D A [(h0, .inr (6, [.ref x0, .int 0, .ref x1, .ref x3, .ref x11, .ref x19, .ref x22, .int 1, .ref x29, .ref x33, .ref x36, .ref x42, .int 0, .long 0])), (x22, .inl (cN, 2, .inr (.inr (.inr (.inr (va_up (va_up (fun _ => none) 0 (some x23)) 1 (some x26))))))), (x26, .inr (1, [.ref x27, .ref x28, .int 0])), (x27, .inl (cI, 36, .inl zf)), (x28, .inl (cI, 360, .inl zf)), (x23, .inr (1, [.ref x24, .ref x25, .int 0])), (x24, .inl (cI, 36, .inl zf)), (x25, .inl (cI, 360, .inl zf)), (x19, .inr (1, [.ref x20, .ref x21, .int 0])), (x20, .inl (cI, 36, .inl zf)), (x21, .inl (cI, 360, .inl zf))] := hD
        refine lv_aload_n hx hb dX6_keep_36 rfl (lv_at hl 0 rfl) ?_
        refine va_get (D := D) (ci := 6) (v := .ref x19) (C := RX6) (T := TX6) (N := 14) hx hb hts in_X6_keep_6 hown hK.1 hP 0 rfl rfl 5 (by decide) (hts (.fieldLink RX6 37 "ChildCoins" "present" "LChildCoins$Now;") (List.mem_of_getElem? (i := 2) rfl)) (fun _ h9 => h9) rfl dX6_keep_37 ?_
        refine be_i (free := va_A [(x19, .inr (1, [.ref x20, .ref x21, .int 0])), (x20, .inl (cI, 36, .inl zf))] H.size) (wc := [(x19, .inr (1, [.ref x20, .ref x21, .int 0])), (x20, .inl (cI, 36, .inl zf))]) (wr := [(h0, .inr (6, [.ref x0, .int 0, .ref x1, .ref x3, .ref x11, .ref x19, .ref x22, .int 1, .ref x29, .ref x33, .ref x36, .ref x42, .int 0, .long 0])), (x22, .inl (cN, 2, .inr (.inr (.inr (.inr (va_up (va_up (fun _ => none) 0 (some x23)) 1 (some x26))))))), (x26, .inr (1, [.ref x27, .ref x28, .int 0])), (x27, .inl (cI, 36, .inl zf)), (x28, .inl (cI, 360, .inl zf)), (x23, .inr (1, [.ref x24, .ref x25, .int 0])), (x24, .inl (cI, 36, .inl zf)), (x25, .inl (cI, 360, .inl zf)), (x21, .inl (cI, 360, .inl zf))]) (ru_N (C := RX1) (host := "ChildCoins") (As := []) (rest := []) ⟨hx, hb, hml, hown, hts⟩ (c_N_openBits l D cI cB cZ cN x19 x20 x21 H.size) ggX6_keep_X1_openBits rfl (nmX6_178 hK.2) (hts (.initialized RX1) (List.mem_of_getElem? (i := 5) rfl)) (hts (.instanceMethod yX1_openBits) (List.mem_of_getElem? (i := 15) rfl)) (hts (.selects RX1 yX1_openBits yX1_openBits) (List.mem_of_getElem? (i := 16) rfl)) ⟨by decide, by decide, (show Option.map (fun d => d.parameters.length) (parseMethodDescriptor yX1_openBits.desc) = some 0 by decide +kernel)⟩ ⟨Nat.le_of_ble_eq_true rfl, Nat.le_of_ble_eq_true rfl⟩ hK hP hD 1 8 rfl rfl [8, 9] (by decide) rfl hl.1 rfl (Nat.le_of_ble_eq_true rfl) dX6_keep_40 ⟨Nat.le_of_ble_eq_true rfl, Nat.le_of_ble_eq_true rfl⟩) hP hD hS hA [8, 9] [0, 1, 2, 3, 4, 5, 6, 7, 10] rfl rfl (by decide) (by decide) (fun r7 u6 H locs w8 hP hD hS => ?_)
        have hP : va_P D vwCl [(h0, .inr (6, [.ref x0, .int 0, .ref x1, .ref x3, .ref x11, .ref x19, .ref x22, .int 1, .ref x29, .ref x33, .ref x36, .ref x42, .int 0, .long 0])), (x22, .inl (cN, 2, .inr (.inr (.inr (.inr (va_up (va_up (fun _ => none) 0 (some x23)) 1 (some x26))))))), (x26, .inr (1, [.ref x27, .ref x28, .int 0])), (x27, .inl (cI, 36, .inl zf)), (x28, .inl (cI, 360, .inl zf)), (x23, .inr (1, [.ref x24, .ref x25, .int 0])), (x24, .inl (cI, 36, .inl zf)), (x25, .inl (cI, 360, .inl zf)), (x21, .inl (cI, 360, .inl zf)), (x19, .inr (1, [.ref x20, .ref x21, .int 0])), (x20, .inl (cI, 36, .inl zf))] H := hP
        have hD : va_D A [(h0, .inr (6, [.ref x0, .int 0, .ref x1, .ref x3, .ref x11, .ref x19, .ref x22, .int 1, .ref x29, .ref x33, .ref x36, .ref x42, .int 0, .long 0])), (x22, .inl (cN, 2, .inr (.inr (.inr (.inr (va_up (va_up (fun _ => none) 0 (some x23)) 1 (some x26))))))), (x26, .inr (1, [.ref x27, .ref x28, .int 0])), (x27, .inl (cI, 36, .inl zf)), (x28, .inl (cI, 360, .inl zf)), (x23, .inr (1, [.ref x24, .ref x25, .int 0])), (x24, .inl (cI, 36, .inl zf)), (x25, .inl (cI, 360, .inl zf)), (x21, .inl (cI, 360, .inl zf)), (x19, .inr (1, [.ref x20, .ref x21, .int 0])), (x20, .inl (cI, 36, .inl zf))] := hD
        obtain rfl : r7 = 0 := w8
        refine be_i (free := va_A [] H.size) (wc := []) (wr := [(h0, .inr (6, [.ref x0, .int 0, .ref x1, .ref x3, .ref x11, .ref x19, .ref x22, .int 1, .ref x29, .ref x33, .ref x36, .ref x42, .int 0, .long 0])), (x22, .inl (cN, 2, .inr (.inr (.inr (.inr (va_up (va_up (fun _ => none) 0 (some x23)) 1 (some x26))))))), (x26, .inr (1, [.ref x27, .ref x28, .int 0])), (x27, .inl (cI, 36, .inl zf)), (x28, .inl (cI, 360, .inl zf)), (x23, .inr (1, [.ref x24, .ref x25, .int 0])), (x24, .inl (cI, 36, .inl zf)), (x25, .inl (cI, 360, .inl zf)), (x21, .inl (cI, 360, .inl zf)), (x19, .inr (1, [.ref x20, .ref x21, .int 0])), (x20, .inl (cI, 36, .inl zf))]) (ru_S (As := [.int 0]) (rest := []) ⟨hx, hb, hml, hown, hts⟩ (c_J_bit0 l D cI cB cZ cN H.size) ggX6_keep_J6_bitCount_0f7a4 rfl (hts (.initialized RJ6) (List.mem_of_getElem? (i := 20) rfl)) (hts (.methodLink RX6 249 yJ6_bitCount_0f7a4) (List.mem_of_getElem? (i := 18) rfl)) (hts (.static yJ6_bitCount_0f7a4) (List.mem_of_getElem? (i := 19) rfl)) ⟨by decide, by decide, (show Option.map (fun d => d.parameters.length) (parseMethodDescriptor yJ6_bitCount_0f7a4.desc) = some 1 by decide +kernel)⟩ ⟨Nat.le_of_ble_eq_true rfl, Nat.le_of_ble_eq_true rfl⟩ hK hP hD [] (by decide) rfl hl.1 rfl (Nat.le_of_ble_eq_true rfl) dX6_keep_43 ⟨Nat.le_of_ble_eq_true rfl, Nat.le_of_ble_eq_true rfl⟩) hP hD hS hA [] [0, 1, 2, 3, 4, 5, 6, 7, 8, 9, 10] rfl rfl (by decide) (by decide) (fun r10 u9 H locs w11 hP hD hS => ?_)
        have hP : va_P D vwCl [(h0, .inr (6, [.ref x0, .int 0, .ref x1, .ref x3, .ref x11, .ref x19, .ref x22, .int 1, .ref x29, .ref x33, .ref x36, .ref x42, .int 0, .long 0])), (x22, .inl (cN, 2, .inr (.inr (.inr (.inr (va_up (va_up (fun _ => none) 0 (some x23)) 1 (some x26))))))), (x26, .inr (1, [.ref x27, .ref x28, .int 0])), (x27, .inl (cI, 36, .inl zf)), (x28, .inl (cI, 360, .inl zf)), (x23, .inr (1, [.ref x24, .ref x25, .int 0])), (x24, .inl (cI, 36, .inl zf)), (x25, .inl (cI, 360, .inl zf)), (x21, .inl (cI, 360, .inl zf)), (x19, .inr (1, [.ref x20, .ref x21, .int 0])), (x20, .inl (cI, 36, .inl zf))] H := hP
        have hD : va_D A [(h0, .inr (6, [.ref x0, .int 0, .ref x1, .ref x3, .ref x11, .ref x19, .ref x22, .int 1, .ref x29, .ref x33, .ref x36, .ref x42, .int 0, .long 0])), (x22, .inl (cN, 2, .inr (.inr (.inr (.inr (va_up (va_up (fun _ => none) 0 (some x23)) 1 (some x26))))))), (x26, .inr (1, [.ref x27, .ref x28, .int 0])), (x27, .inl (cI, 36, .inl zf)), (x28, .inl (cI, 360, .inl zf)), (x23, .inr (1, [.ref x24, .ref x25, .int 0])), (x24, .inl (cI, 36, .inl zf)), (x25, .inl (cI, 360, .inl zf)), (x21, .inl (cI, 360, .inl zf)), (x19, .inr (1, [.ref x20, .ref x21, .int 0])), (x20, .inl (cI, 36, .inl zf))] := hD
        obtain rfl : r10 = 0 := w11
        exact en_i hx hb hr hlk hP hD hS () [] (by decide) rfl (Nat.le_of_ble_eq_true rfl) (Nat.le_of_ble_eq_true rfl) dX6_keep_46 (by decide)
      · skip
        refine lv_aload_n hx hb dX6_keep_11 rfl (lv_at hl 0 rfl) ?_
        refine va_get (D := D) (ci := 6) (v := .ref x22) (C := RX6) (T := TX6) (N := 14) hx hb hts in_X6_keep_6 hown hK.1 hP 0 rfl rfl 6 (by decide) (hts (.fieldLink RX6 41 "ChildCoins" "images" "[LChildCoins$Now;") (List.mem_of_getElem? (i := 1) rfl)) (fun _ h9 => h9) rfl dX6_keep_12 ?_
        refine lv_iload_n hx hb dX6_keep_15 rfl (lv_at hl 1 rfl) ?_
        refine va_aldq hx hb hK.1 hP 1 3 rfl rfl (vp_in_nI (n := 1) (N := 2) (by decide) (by decide)) dX6_keep_16 ?_
        refine set_v (y := .ref x26) rfl ?_
        refine lv_aload_n hx hb dX6_keep_17 rfl (lv_at hl 0 rfl) ?_
        refine va_get (D := D) (ci := 6) (v := .ref x19) (C := RX6) (T := TX6) (N := 14) hx hb hts in_X6_keep_6 hown hK.1 hP 0 rfl rfl 5 (by decide) (hts (.fieldLink RX6 37 "ChildCoins" "present" "LChildCoins$Now;") (List.mem_of_getElem? (i := 2) rfl)) (fun _ h9 => h9) rfl dX6_keep_18 ?_
        refine be_v (free := va_A [(x26, .inr (1, [.ref x27, .ref x28, .int 0])), (x27, .inl (cI, 36, .inl zf)), (x28, .inl (cI, 360, .inl zf)), (x19, .inr (1, [.ref x20, .ref x21, .int 0])), (x20, .inl (cI, 36, .inl zf)), (x21, .inl (cI, 360, .inl zf))] H.size) (wc := [(x26, .inr (1, [.ref x27, .ref x28, .int 0])), (x27, .inl (cI, 36, .inl zf)), (x28, .inl (cI, 360, .inl zf)), (x19, .inr (1, [.ref x20, .ref x21, .int 0])), (x20, .inl (cI, 36, .inl zf)), (x21, .inl (cI, 360, .inl zf))]) (wr := [(h0, .inr (6, [.ref x0, .int 0, .ref x1, .ref x3, .ref x11, .ref x19, .ref x22, .int 0, .ref x29, .ref x33, .ref x36, .ref x42, .int 0, .long 0])), (x22, .inl (cN, 2, .inr (.inr (.inr (.inr (va_up (va_up (fun _ => none) 0 (some x23)) 1 (some x26))))))), (x23, .inr (1, [.ref x24, .ref x25, .int 0])), (x24, .inl (cI, 36, .inl zf)), (x25, .inl (cI, 360, .inl zf))]) (ru_N (C := RX1) (host := "ChildCoins") (As := [.ref x19]) (rest := []) ⟨hx, hb, hml, hown, hts⟩ (c_N_become l D cI cB cZ cN x26 x27 x28 x19 x20 x21 H.size) ggX6_keep_X1_become rfl (nmX6_245 hK.2) (hts (.initialized RX1) (List.mem_of_getElem? (i := 5) rfl)) (hts (.instanceMethod yX1_become) (List.mem_of_getElem? (i := 4) rfl)) (hts (.selects RX1 yX1_become yX1_become) (List.mem_of_getElem? (i := 6) rfl)) ⟨by decide, by decide, (show Option.map (fun d => d.parameters.length) (parseMethodDescriptor yX1_become.desc) = some 1 by decide +kernel)⟩ ⟨Nat.le_of_ble_eq_true rfl, Nat.le_of_ble_eq_true rfl⟩ hK hP hD 1 5 rfl rfl [5, 6, 7, 8, 9, 10] (by decide) rfl hl.1 rfl (Nat.le_of_ble_eq_true rfl) dX6_keep_21 ⟨Nat.le_of_ble_eq_true rfl, Nat.le_of_ble_eq_true rfl⟩) hP hD hS hA [5, 6, 7, 8, 9, 10] [0, 1, 2, 3, 4] rfl rfl (by decide) (by decide) (fun u12 H locs w14 hP hD hS => ?_)
        have hP : va_P D vwCl [(h0, .inr (6, [.ref x0, .int 0, .ref x1, .ref x3, .ref x11, .ref x19, .ref x22, .int 0, .ref x29, .ref x33, .ref x36, .ref x42, .int 0, .long 0])), (x22, .inl (cN, 2, .inr (.inr (.inr (.inr (va_up (va_up (fun _ => none) 0 (some x23)) 1 (some x26))))))), (x23, .inr (1, [.ref x24, .ref x25, .int 0])), (x24, .inl (cI, 36, .inl zf)), (x25, .inl (cI, 360, .inl zf)), (x26, .inr (1, [.ref x27, .ref x28, .int 0])), (x27, .inl (cI, 36, .inl zf)), (x28, .inl (cI, 360, .inl zf)), (x19, .inr (1, [.ref x20, .ref x21, .int 0])), (x20, .inl (cI, 36, .inl zf)), (x21, .inl (cI, 360, .inl zf))] H := hP
        have hD : va_D A [(h0, .inr (6, [.ref x0, .int 0, .ref x1, .ref x3, .ref x11, .ref x19, .ref x22, .int 0, .ref x29, .ref x33, .ref x36, .ref x42, .int 0, .long 0])), (x22, .inl (cN, 2, .inr (.inr (.inr (.inr (va_up (va_up (fun _ => none) 0 (some x23)) 1 (some x26))))))), (x23, .inr (1, [.ref x24, .ref x25, .int 0])), (x24, .inl (cI, 36, .inl zf)), (x25, .inl (cI, 360, .inl zf)), (x26, .inr (1, [.ref x27, .ref x28, .int 0])), (x27, .inl (cI, 36, .inl zf)), (x28, .inl (cI, 360, .inl zf)), (x19, .inr (1, [.ref x20, .ref x21, .int 0])), (x20, .inl (cI, 36, .inl zf)), (x21, .inl (cI, 360, .inl zf))] := hD
        refine lv_aload_n hx hb dX6_keep_24 rfl (lv_at hl 0 rfl) ?_
        refine lv_dup hx hb dX6_keep_25 rfl ?_
        refine va_get (D := D) (ci := 6) (v := .int 0) (C := RX6) (T := TX6) (N := 14) hx hb hts in_X6_keep_6 hown hK.1 hP 0 rfl rfl 7 (by decide) (hts (.fieldLink RX6 45 "ChildCoins" "keptImages" "I") (List.mem_of_getElem? (i := 3) rfl)) (fun _ h9 => h9) rfl dX6_keep_26 ?_
        refine lv_iconst (v := 1) hx hb dX6_keep_29 (by decide) ?_
        refine lv_iload_n hx hb dX6_keep_30 rfl (lv_at hl 1 rfl) ?_
        refine lv_ishl hx hb dX6_keep_31 ?_
        refine set_i (y := 2) (by decide) ?_
        refine lv_ior hx hb dX6_keep_32 ?_
        refine set_i (y := 2) (by decide) ?_
        refine va_put (D := D) (ci := 6) (v := .int 2) (ty := tyX6 7) (C := RX6) (T := TX6) (N := 14) hx hb hts in_X6_keep_6 tyX6 tyX6_ok nmX6 hown hK.1 hP hD hS 0 rfl rfl 7 (by decide) (hts (.fieldLink RX6 45 "ChildCoins" "keptImages" "I") (List.mem_of_getElem? (i := 3) rfl)) (fun _ h9 => h9) rfl (tyX6_ok 7 (by decide)) rfl rfl (Nat.le_of_ble_eq_true rfl) dX6_keep_33 (fun H locs hP hD hS => ?_)
        have hP : va_P D vwCl [(h0, .inr (6, [.ref x0, .int 0, .ref x1, .ref x3, .ref x11, .ref x19, .ref x22, .int 2, .ref x29, .ref x33, .ref x36, .ref x42, .int 0, .long 0])), (x22, .inl (cN, 2, .inr (.inr (.inr (.inr (va_up (va_up (fun _ => none) 0 (some x23)) 1 (some x26))))))), (x23, .inr (1, [.ref x24, .ref x25, .int 0])), (x24, .inl (cI, 36, .inl zf)), (x25, .inl (cI, 360, .inl zf)), (x26, .inr (1, [.ref x27, .ref x28, .int 0])), (x27, .inl (cI, 36, .inl zf)), (x28, .inl (cI, 360, .inl zf)), (x19, .inr (1, [.ref x20, .ref x21, .int 0])), (x20, .inl (cI, 36, .inl zf)), (x21, .inl (cI, 360, .inl zf))] H := hP
        have hD : va_D A [(h0, .inr (6, [.ref x0, .int 0, .ref x1, .ref x3, .ref x11, .ref x19, .ref x22, .int 2, .ref x29, .ref x33, .ref x36, .ref x42, .int 0, .long 0])), (x22, .inl (cN, 2, .inr (.inr (.inr (.inr (va_up (va_up (fun _ => none) 0 (some x23)) 1 (some x26))))))), (x23, .inr (1, [.ref x24, .ref x25, .int 0])), (x24, .inl (cI, 36, .inl zf)), (x25, .inl (cI, 360, .inl zf)), (x26, .inr (1, [.ref x27, .ref x28, .int 0])), (x27, .inl (cI, 36, .inl zf)), (x28, .inl (cI, 360, .inl zf)), (x19, .inr (1, [.ref x20, .ref x21, .int 0])), (x20, .inl (cI, 36, .inl zf)), (x21, .inl (cI, 360, .inl zf))] := hD
        refine lv_aload_n hx hb dX6_keep_36 rfl (lv_at hl 0 rfl) ?_
        refine va_get (D := D) (ci := 6) (v := .ref x19) (C := RX6) (T := TX6) (N := 14) hx hb hts in_X6_keep_6 hown hK.1 hP 0 rfl rfl 5 (by decide) (hts (.fieldLink RX6 37 "ChildCoins" "present" "LChildCoins$Now;") (List.mem_of_getElem? (i := 2) rfl)) (fun _ h9 => h9) rfl dX6_keep_37 ?_
        refine be_i (free := va_A [(x19, .inr (1, [.ref x20, .ref x21, .int 0])), (x20, .inl (cI, 36, .inl zf))] H.size) (wc := [(x19, .inr (1, [.ref x20, .ref x21, .int 0])), (x20, .inl (cI, 36, .inl zf))]) (wr := [(h0, .inr (6, [.ref x0, .int 0, .ref x1, .ref x3, .ref x11, .ref x19, .ref x22, .int 2, .ref x29, .ref x33, .ref x36, .ref x42, .int 0, .long 0])), (x22, .inl (cN, 2, .inr (.inr (.inr (.inr (va_up (va_up (fun _ => none) 0 (some x23)) 1 (some x26))))))), (x23, .inr (1, [.ref x24, .ref x25, .int 0])), (x24, .inl (cI, 36, .inl zf)), (x25, .inl (cI, 360, .inl zf)), (x26, .inr (1, [.ref x27, .ref x28, .int 0])), (x27, .inl (cI, 36, .inl zf)), (x28, .inl (cI, 360, .inl zf)), (x21, .inl (cI, 360, .inl zf))]) (ru_N (C := RX1) (host := "ChildCoins") (As := []) (rest := []) ⟨hx, hb, hml, hown, hts⟩ (c_N_openBits l D cI cB cZ cN x19 x20 x21 H.size) ggX6_keep_X1_openBits rfl (nmX6_178 hK.2) (hts (.initialized RX1) (List.mem_of_getElem? (i := 5) rfl)) (hts (.instanceMethod yX1_openBits) (List.mem_of_getElem? (i := 15) rfl)) (hts (.selects RX1 yX1_openBits yX1_openBits) (List.mem_of_getElem? (i := 16) rfl)) ⟨by decide, by decide, (show Option.map (fun d => d.parameters.length) (parseMethodDescriptor yX1_openBits.desc) = some 0 by decide +kernel)⟩ ⟨Nat.le_of_ble_eq_true rfl, Nat.le_of_ble_eq_true rfl⟩ hK hP hD 1 8 rfl rfl [8, 9] (by decide) rfl hl.1 rfl (Nat.le_of_ble_eq_true rfl) dX6_keep_40 ⟨Nat.le_of_ble_eq_true rfl, Nat.le_of_ble_eq_true rfl⟩) hP hD hS hA [8, 9] [0, 1, 2, 3, 4, 5, 6, 7, 10] rfl rfl (by decide) (by decide) (fun r16 u15 H locs w17 hP hD hS => ?_)
        have hP : va_P D vwCl [(h0, .inr (6, [.ref x0, .int 0, .ref x1, .ref x3, .ref x11, .ref x19, .ref x22, .int 2, .ref x29, .ref x33, .ref x36, .ref x42, .int 0, .long 0])), (x22, .inl (cN, 2, .inr (.inr (.inr (.inr (va_up (va_up (fun _ => none) 0 (some x23)) 1 (some x26))))))), (x23, .inr (1, [.ref x24, .ref x25, .int 0])), (x24, .inl (cI, 36, .inl zf)), (x25, .inl (cI, 360, .inl zf)), (x26, .inr (1, [.ref x27, .ref x28, .int 0])), (x27, .inl (cI, 36, .inl zf)), (x28, .inl (cI, 360, .inl zf)), (x21, .inl (cI, 360, .inl zf)), (x19, .inr (1, [.ref x20, .ref x21, .int 0])), (x20, .inl (cI, 36, .inl zf))] H := hP
        have hD : va_D A [(h0, .inr (6, [.ref x0, .int 0, .ref x1, .ref x3, .ref x11, .ref x19, .ref x22, .int 2, .ref x29, .ref x33, .ref x36, .ref x42, .int 0, .long 0])), (x22, .inl (cN, 2, .inr (.inr (.inr (.inr (va_up (va_up (fun _ => none) 0 (some x23)) 1 (some x26))))))), (x23, .inr (1, [.ref x24, .ref x25, .int 0])), (x24, .inl (cI, 36, .inl zf)), (x25, .inl (cI, 360, .inl zf)), (x26, .inr (1, [.ref x27, .ref x28, .int 0])), (x27, .inl (cI, 36, .inl zf)), (x28, .inl (cI, 360, .inl zf)), (x21, .inl (cI, 360, .inl zf)), (x19, .inr (1, [.ref x20, .ref x21, .int 0])), (x20, .inl (cI, 36, .inl zf))] := hD
        obtain rfl : r16 = 0 := w17
        refine be_i (free := va_A [] H.size) (wc := []) (wr := [(h0, .inr (6, [.ref x0, .int 0, .ref x1, .ref x3, .ref x11, .ref x19, .ref x22, .int 2, .ref x29, .ref x33, .ref x36, .ref x42, .int 0, .long 0])), (x22, .inl (cN, 2, .inr (.inr (.inr (.inr (va_up (va_up (fun _ => none) 0 (some x23)) 1 (some x26))))))), (x23, .inr (1, [.ref x24, .ref x25, .int 0])), (x24, .inl (cI, 36, .inl zf)), (x25, .inl (cI, 360, .inl zf)), (x26, .inr (1, [.ref x27, .ref x28, .int 0])), (x27, .inl (cI, 36, .inl zf)), (x28, .inl (cI, 360, .inl zf)), (x21, .inl (cI, 360, .inl zf)), (x19, .inr (1, [.ref x20, .ref x21, .int 0])), (x20, .inl (cI, 36, .inl zf))]) (ru_S (As := [.int 0]) (rest := []) ⟨hx, hb, hml, hown, hts⟩ (c_J_bit0 l D cI cB cZ cN H.size) ggX6_keep_J6_bitCount_0f7a4 rfl (hts (.initialized RJ6) (List.mem_of_getElem? (i := 20) rfl)) (hts (.methodLink RX6 249 yJ6_bitCount_0f7a4) (List.mem_of_getElem? (i := 18) rfl)) (hts (.static yJ6_bitCount_0f7a4) (List.mem_of_getElem? (i := 19) rfl)) ⟨by decide, by decide, (show Option.map (fun d => d.parameters.length) (parseMethodDescriptor yJ6_bitCount_0f7a4.desc) = some 1 by decide +kernel)⟩ ⟨Nat.le_of_ble_eq_true rfl, Nat.le_of_ble_eq_true rfl⟩ hK hP hD [] (by decide) rfl hl.1 rfl (Nat.le_of_ble_eq_true rfl) dX6_keep_43 ⟨Nat.le_of_ble_eq_true rfl, Nat.le_of_ble_eq_true rfl⟩) hP hD hS hA [] [0, 1, 2, 3, 4, 5, 6, 7, 8, 9, 10] rfl rfl (by decide) (by decide) (fun r19 u18 H locs w20 hP hD hS => ?_)
        have hP : va_P D vwCl [(h0, .inr (6, [.ref x0, .int 0, .ref x1, .ref x3, .ref x11, .ref x19, .ref x22, .int 2, .ref x29, .ref x33, .ref x36, .ref x42, .int 0, .long 0])), (x22, .inl (cN, 2, .inr (.inr (.inr (.inr (va_up (va_up (fun _ => none) 0 (some x23)) 1 (some x26))))))), (x23, .inr (1, [.ref x24, .ref x25, .int 0])), (x24, .inl (cI, 36, .inl zf)), (x25, .inl (cI, 360, .inl zf)), (x26, .inr (1, [.ref x27, .ref x28, .int 0])), (x27, .inl (cI, 36, .inl zf)), (x28, .inl (cI, 360, .inl zf)), (x21, .inl (cI, 360, .inl zf)), (x19, .inr (1, [.ref x20, .ref x21, .int 0])), (x20, .inl (cI, 36, .inl zf))] H := hP
        have hD : va_D A [(h0, .inr (6, [.ref x0, .int 0, .ref x1, .ref x3, .ref x11, .ref x19, .ref x22, .int 2, .ref x29, .ref x33, .ref x36, .ref x42, .int 0, .long 0])), (x22, .inl (cN, 2, .inr (.inr (.inr (.inr (va_up (va_up (fun _ => none) 0 (some x23)) 1 (some x26))))))), (x23, .inr (1, [.ref x24, .ref x25, .int 0])), (x24, .inl (cI, 36, .inl zf)), (x25, .inl (cI, 360, .inl zf)), (x26, .inr (1, [.ref x27, .ref x28, .int 0])), (x27, .inl (cI, 36, .inl zf)), (x28, .inl (cI, 360, .inl zf)), (x21, .inl (cI, 360, .inl zf)), (x19, .inr (1, [.ref x20, .ref x21, .int 0])), (x20, .inl (cI, 36, .inl zf))] := hD
        obtain rfl : r19 = 0 := w20
        exact en_i hx hb hr hlk hP hD hS () [] (by decide) rfl (Nat.le_of_ble_eq_true rfl) (Nat.le_of_ble_eq_true rfl) dX6_keep_46 (by decide)
    · skip
      refine lv_iconst (v := -1) hx hb dX6_keep_9 (by decide) ?_
      exact en_i hx hb hr hlk hP hD hS () [] (by decide) rfl (Nat.le_of_ble_eq_true rfl) (Nat.le_of_ble_eq_true rfl) dX6_keep_10 (if_pos (inz_ge (hi' := 2) rfl (Int32.not_lt.mp h2))).symm
theorem dX6_back_0 : decode cX6_back 0 = .ok (.iload_n 1, 1) := by decide +kernel
theorem dX6_back_1 : decode cX6_back 1 = .ok (.ifCond .lt 8, 3) := by decide +kernel
theorem dX6_back_9 : decode cX6_back 9 = .ok (.iconst (-1), 1) := by decide +kernel
theorem dX6_back_10 : decode cX6_back 10 = .ok (.ireturn, 1) := by decide +kernel
theorem dX6_back_4 : decode cX6_back 4 = .ok (.iload_n 1, 1) := by decide +kernel
theorem dX6_back_5 : decode cX6_back 5 = .ok (.iconst 2, 1) := by decide +kernel
theorem dX6_back_6 : decode cX6_back 6 = .ok (.if_icmp .lt 5, 3) := by decide +kernel
theorem dX6_back_11 : decode cX6_back 11 = .ok (.aload_n 0, 1) := by decide +kernel
theorem dX6_back_12 : decode cX6_back 12 = .ok (.getfield 45, 3) := by decide +kernel
theorem in_X6_back_6 : ∀ w ∈ wsX60, w ∈ wsX6_back := fun w h => List.mem_cons_of_mem _ (List.mem_append_left _ (List.mem_append_right _ h))
theorem dX6_back_15 : decode cX6_back 15 = .ok (.iload_n 1, 1) := by decide +kernel
theorem dX6_back_16 : decode cX6_back 16 = .ok (.ishr, 1) := by decide +kernel
theorem dX6_back_17 : decode cX6_back 17 = .ok (.iconst 1, 1) := by decide +kernel
theorem dX6_back_18 : decode cX6_back 18 = .ok (.iand, 1) := by decide +kernel
theorem dX6_back_19 : decode cX6_back 19 = .ok (.ifCond .ne 6, 3) := by decide +kernel
theorem dX6_back_22 : decode cX6_back 22 = .ok (.bipush (-2), 2) := by decide +kernel
theorem dX6_back_24 : decode cX6_back 24 = .ok (.ireturn, 1) := by decide +kernel
set_option maxHeartbeats 4000000 in
set_option maxRecDepth 100000 in
theorem c_X_back (l : Launch) (D : va_G) (cI cB cZ cN : ClassId) (h0 : Nat) (x0 : Nat) (x1 : Nat) (x3 : Nat) (x11 : Nat) (x19 : Nat) (x22 : Nat) (x29 : Nat) (x33 : Nat) (x36 : Nat) (x42 : Nat) (v_c : Int32)  : Ci (S := Unit) l D cI cB cZ cN yX6_back wsX6_back ({ frames := 0, cells := 0, slots := 0, locals := 0 } : Room) [.ref h0, .int v_c] [(h0, .inr (6, [.ref x0, .int 0, .ref x1, .ref x3, .ref x11, .ref x19, .ref x22, .int 0, .ref x29, .ref x33, .ref x36, .ref x42, .int 0, .long 0]))] (fun (r : Int32) (_ : Unit) => r = bkA v_c) (fun u => []) := by
  refine bx_of (D := D) (cI := cI) (cB := cB) (cZ := cZ) (cN := cN) (y := yX6_back) (wd := wsX6_back) (rm := ({ frames := 0, cells := 0, slots := 0, locals := 0 } : Room)) (av := [.ref h0, .int v_c]) (wc := [(h0, .inr (6, [.ref x0, .int 0, .ref x1, .ref x3, .ref x11, .ref x19, .ref x22, .int 0, .ref x29, .ref x33, .ref x36, .ref x42, .int 0, .long 0]))]) (cc := cX6_back) (maxL := 2) (ret := (some .int)) (Qc := fun _ A => va_Qi (S := Unit) (fun (r : Int32) (_ : Unit) => r = bkA v_c) (Aft D (fun (u : Unit) => []) A) A) (by decide) rfl (Nat.le_of_ble_eq_true rfl) ?_
  intro p e s m below meth c A H locs ⟨hx, hb, hr, hml, hown, hts, hlk, hnm⟩ hK hP hD hS hA ls hl
  have hl : lv_has ls 2 [(0, .ref h0), (1, .int v_c)] := hl
  have hown : s.vm.findClass RX6 = some m.cls := hown
  refine lv_iload_n hx hb dX6_back_0 rfl (lv_at hl 1 rfl) ?_
  refine lv_if_lt (tgt := 9) hx hb dX6_back_1 (by decide) (fun h1 => ?_) (fun h1 => ?_)
  · skip
    refine lv_iconst (v := -1) hx hb dX6_back_9 (by decide) ?_
    exact en_i hx hb hr hlk hP hD hS () [] (by decide) rfl (Nat.le_of_ble_eq_true rfl) (Nat.le_of_ble_eq_true rfl) dX6_back_10 (if_pos (inz_lt h1)).symm
  · skip
    refine lv_iload_n hx hb dX6_back_4 rfl (lv_at hl 1 rfl) ?_
    refine lv_iconst (v := 2) hx hb dX6_back_5 (by decide) ?_
    refine lv_icmp_lt (tgt := 11) hx hb dX6_back_6 (by decide) (fun h2 => ?_) (fun h2 => ?_)
    · skip
      rcases ic_4 (inz_10 (inz_in4 (hi' := 2) (hi := 1) rfl h1 h2)) with rfl | rfl
      · skip
        refine lv_aload_n hx hb dX6_back_11 rfl (lv_at hl 0 rfl) ?_
        refine va_get (D := D) (ci := 6) (v := .int 0) (C := RX6) (T := TX6) (N := 14) hx hb hts in_X6_back_6 hown hK.1 hP 0 rfl rfl 7 (by decide) (hts (.fieldLink RX6 45 "ChildCoins" "keptImages" "I") (List.mem_of_getElem? (i := 1) rfl)) (fun _ h9 => h9) rfl dX6_back_12 ?_
        refine lv_iload_n hx hb dX6_back_15 rfl (lv_at hl 1 rfl) ?_
        refine lv_ishr hx hb dX6_back_16 ?_
        refine set_i (y := 0) (by decide) ?_
        refine lv_iconst (v := 1) hx hb dX6_back_17 (by decide) ?_
        refine lv_iand hx hb dX6_back_18 ?_
        refine set_i (y := 0) (by decide) ?_
        refine lv_if_ne (tgt := 25) hx hb dX6_back_19 (by decide) (fun h3 => absurd (by decide) h3) (fun h3 => ?_)
        refine lv_bipush (v := -2) hx hb dX6_back_22 (by decide) ?_
        exact en_i hx hb hr hlk hP hD hS () [] (by decide) rfl (Nat.le_of_ble_eq_true rfl) (Nat.le_of_ble_eq_true rfl) dX6_back_24 (by decide)
      · skip
        refine lv_aload_n hx hb dX6_back_11 rfl (lv_at hl 0 rfl) ?_
        refine va_get (D := D) (ci := 6) (v := .int 0) (C := RX6) (T := TX6) (N := 14) hx hb hts in_X6_back_6 hown hK.1 hP 0 rfl rfl 7 (by decide) (hts (.fieldLink RX6 45 "ChildCoins" "keptImages" "I") (List.mem_of_getElem? (i := 1) rfl)) (fun _ h9 => h9) rfl dX6_back_12 ?_
        refine lv_iload_n hx hb dX6_back_15 rfl (lv_at hl 1 rfl) ?_
        refine lv_ishr hx hb dX6_back_16 ?_
        refine set_i (y := 0) (by decide) ?_
        refine lv_iconst (v := 1) hx hb dX6_back_17 (by decide) ?_
        refine lv_iand hx hb dX6_back_18 ?_
        refine set_i (y := 0) (by decide) ?_
        refine lv_if_ne (tgt := 25) hx hb dX6_back_19 (by decide) (fun h4 => absurd (by decide) h4) (fun h4 => ?_)
        refine lv_bipush (v := -2) hx hb dX6_back_22 (by decide) ?_
        exact en_i hx hb hr hlk hP hD hS () [] (by decide) rfl (Nat.le_of_ble_eq_true rfl) (Nat.le_of_ble_eq_true rfl) dX6_back_24 (by decide)
    · skip
      refine lv_iconst (v := -1) hx hb dX6_back_9 (by decide) ?_
      exact en_i hx hb hr hlk hP hD hS () [] (by decide) rfl (Nat.le_of_ble_eq_true rfl) (Nat.le_of_ble_eq_true rfl) dX6_back_10 (if_pos (inz_ge (hi' := 2) rfl (Int32.not_lt.mp h2))).symm
theorem dX6_count_0 : decode cX6_count 0 = .ok (.iload_n 1, 1) := by decide +kernel
theorem dX6_count_1 : decode cX6_count 1 = .ok (.tableswitch 93 0 6 #[43, 51, 59, 67, 75, 80, 88], 43) := by decide +kernel
theorem dX6_count_44 : decode cX6_count 44 = .ok (.aload_n 0, 1) := by decide +kernel
theorem dX6_count_45 : decode cX6_count 45 = .ok (.getfield 27, 3) := by decide +kernel
theorem in_X6_count_6 : ∀ w ∈ wsX60, w ∈ wsX6_count := fun w h => List.mem_cons_of_mem _ (List.mem_append_left _ (List.mem_append_left _ (List.mem_append_right _ h)))
theorem dX6_count_48 : decode cX6_count 48 = .ok (.getfield 254, 3) := by decide +kernel
theorem in_X6_count_0 : ∀ w ∈ wsX00, w ∈ wsX6_count := fun w h => List.mem_cons_of_mem _ (List.mem_append_left _ (List.mem_append_right _ h))
theorem dX6_count_51 : decode cX6_count 51 = .ok (.ireturn, 1) := by decide +kernel
theorem dX6_count_52 : decode cX6_count 52 = .ok (.aload_n 0, 1) := by decide +kernel
theorem dX6_count_53 : decode cX6_count 53 = .ok (.getfield 27, 3) := by decide +kernel
theorem dX6_count_56 : decode cX6_count 56 = .ok (.getfield 201, 3) := by decide +kernel
theorem dX6_count_59 : decode cX6_count 59 = .ok (.ireturn, 1) := by decide +kernel
theorem dX6_count_60 : decode cX6_count 60 = .ok (.aload_n 0, 1) := by decide +kernel
theorem dX6_count_61 : decode cX6_count 61 = .ok (.getfield 27, 3) := by decide +kernel
theorem dX6_count_64 : decode cX6_count 64 = .ok (.getfield 257, 3) := by decide +kernel
theorem dX6_count_67 : decode cX6_count 67 = .ok (.ireturn, 1) := by decide +kernel
theorem dX6_count_68 : decode cX6_count 68 = .ok (.aload_n 0, 1) := by decide +kernel
theorem dX6_count_69 : decode cX6_count 69 = .ok (.getfield 27, 3) := by decide +kernel
theorem dX6_count_72 : decode cX6_count 72 = .ok (.getfield 260, 3) := by decide +kernel
theorem dX6_count_75 : decode cX6_count 75 = .ok (.ireturn, 1) := by decide +kernel
theorem dX6_count_76 : decode cX6_count 76 = .ok (.aload_n 0, 1) := by decide +kernel
theorem dX6_count_77 : decode cX6_count 77 = .ok (.getfield 72, 3) := by decide +kernel
theorem dX6_count_80 : decode cX6_count 80 = .ok (.ireturn, 1) := by decide +kernel
theorem dX6_count_81 : decode cX6_count 81 = .ok (.aload_n 0, 1) := by decide +kernel
theorem dX6_count_82 : decode cX6_count 82 = .ok (.getfield 37, 3) := by decide +kernel
theorem dX6_count_85 : decode cX6_count 85 = .ok (.getfield 172, 3) := by decide +kernel
theorem in_X6_count_1 : ∀ w ∈ wsX10, w ∈ wsX6_count := fun w h => List.mem_cons_of_mem _ (List.mem_append_right _ h)
theorem dX6_count_88 : decode cX6_count 88 = .ok (.ireturn, 1) := by decide +kernel
theorem dX6_count_89 : decode cX6_count 89 = .ok (.aload_n 0, 1) := by decide +kernel
theorem dX6_count_90 : decode cX6_count 90 = .ok (.getfield 13, 3) := by decide +kernel
theorem dX6_count_93 : decode cX6_count 93 = .ok (.ireturn, 1) := by decide +kernel
theorem dX6_count_94 : decode cX6_count 94 = .ok (.iconst (-1), 1) := by decide +kernel
theorem dX6_count_95 : decode cX6_count 95 = .ok (.ireturn, 1) := by decide +kernel
set_option maxHeartbeats 4000000 in
set_option maxRecDepth 100000 in
theorem c_X_count (l : Launch) (D : va_G) (cI cB cZ cN : ClassId) (h0 : Nat) (x0 : Nat) (x1 : Nat) (x3 : Nat) (x11 : Nat) (x19 : Nat) (x22 : Nat) (x29 : Nat) (x33 : Nat) (x36 : Nat) (x42 : Nat) (x4 : Nat) (x5 : Nat) (x6 : Nat) (x7 : Nat) (x8 : Nat) (x9 : Nat) (x10 : Nat) (x20 : Nat) (x21 : Nat) (v_c : Int32)  : Ci (S := Unit) l D cI cB cZ cN yX6_count wsX6_count ({ frames := 0, cells := 0, slots := 0, locals := 0 } : Room) [.ref h0, .int v_c] [(h0, .inr (6, [.ref x0, .int 0, .ref x1, .ref x3, .ref x11, .ref x19, .ref x22, .int 0, .ref x29, .ref x33, .ref x36, .ref x42, .int 0, .long 0])), (x3, .inr (0, [.int 0, .ref x4, .ref x5, .int 0, .ref x6, .ref x7, .int 0, .ref x8, .ref x9, .ref x10, .int 9, .int 0])), (x19, .inr (1, [.ref x20, .ref x21, .int 0]))] (fun (r : Int32) (_ : Unit) => r = ctA v_c) (fun u => []) := by
  refine bx_of (D := D) (cI := cI) (cB := cB) (cZ := cZ) (cN := cN) (y := yX6_count) (wd := wsX6_count) (rm := ({ frames := 0, cells := 0, slots := 0, locals := 0 } : Room)) (av := [.ref h0, .int v_c]) (wc := [(h0, .inr (6, [.ref x0, .int 0, .ref x1, .ref x3, .ref x11, .ref x19, .ref x22, .int 0, .ref x29, .ref x33, .ref x36, .ref x42, .int 0, .long 0])), (x3, .inr (0, [.int 0, .ref x4, .ref x5, .int 0, .ref x6, .ref x7, .int 0, .ref x8, .ref x9, .ref x10, .int 9, .int 0])), (x19, .inr (1, [.ref x20, .ref x21, .int 0]))]) (cc := cX6_count) (maxL := 2) (ret := (some .int)) (Qc := fun _ A => va_Qi (S := Unit) (fun (r : Int32) (_ : Unit) => r = ctA v_c) (Aft D (fun (u : Unit) => []) A) A) (by decide) rfl (Nat.le_of_ble_eq_true rfl) ?_
  intro p e s m below meth c A H locs ⟨hx, hb, hr, hml, hown, hts, hlk, hnm⟩ hK hP hD hS hA ls hl
  have hl : lv_has ls 2 [(0, .ref h0), (1, .int v_c)] := hl
  have hown : s.vm.findClass RX6 = some m.cls := hown
  refine lv_iload_n hx hb dX6_count_0 rfl (lv_at hl 1 rfl) ?_
  rcases sw6 v_c with rfl | rfl | rfl | rfl | rfl | rfl | rfl | h1
  · refine lv_tableIn (tgt := 44) (off := 43) hx hb dX6_count_1 (by decide) (by decide) (by decide) (by decide) ?_
    refine lv_aload_n hx hb dX6_count_44 rfl (lv_at hl 0 rfl) ?_
    refine va_get (D := D) (ci := 6) (v := .ref x3) (C := RX6) (T := TX6) (N := 14) hx hb hts in_X6_count_6 hown hK.1 hP 0 rfl rfl 3 (by decide) (hts (.fieldLink RX6 27 "ChildCoins" "ours" "LChildCoins$Land;") (List.mem_of_getElem? (i := 1) rfl)) (fun _ h9 => h9) rfl dX6_count_45 ?_
    refine va_getN (D := D) (ci := 0) (v := .int 0) (C := RX0) (T := TX0) (N := 12) hx hb hts in_X6_count_0 hown hK.1 hP 1 rfl rfl 0 (by decide) (nfX6_254 hK.2) (fun _ h9 => h9) rfl dX6_count_48 ?_
    exact en_i hx hb hr hlk hP hD hS () [] (by decide) rfl (Nat.le_of_ble_eq_true rfl) (Nat.le_of_ble_eq_true rfl) dX6_count_51 (by decide)
  · refine lv_tableIn (tgt := 52) (off := 51) hx hb dX6_count_1 (by decide) (by decide) (by decide) (by decide) ?_
    refine lv_aload_n hx hb dX6_count_52 rfl (lv_at hl 0 rfl) ?_
    refine va_get (D := D) (ci := 6) (v := .ref x3) (C := RX6) (T := TX6) (N := 14) hx hb hts in_X6_count_6 hown hK.1 hP 0 rfl rfl 3 (by decide) (hts (.fieldLink RX6 27 "ChildCoins" "ours" "LChildCoins$Land;") (List.mem_of_getElem? (i := 1) rfl)) (fun _ h9 => h9) rfl dX6_count_53 ?_
    refine va_getN (D := D) (ci := 0) (v := .int 0) (C := RX0) (T := TX0) (N := 12) hx hb hts in_X6_count_0 hown hK.1 hP 1 rfl rfl 3 (by decide) (nfX6_201 hK.2) (fun _ h9 => h9) rfl dX6_count_56 ?_
    exact en_i hx hb hr hlk hP hD hS () [] (by decide) rfl (Nat.le_of_ble_eq_true rfl) (Nat.le_of_ble_eq_true rfl) dX6_count_59 (by decide)
  · refine lv_tableIn (tgt := 60) (off := 59) hx hb dX6_count_1 (by decide) (by decide) (by decide) (by decide) ?_
    refine lv_aload_n hx hb dX6_count_60 rfl (lv_at hl 0 rfl) ?_
    refine va_get (D := D) (ci := 6) (v := .ref x3) (C := RX6) (T := TX6) (N := 14) hx hb hts in_X6_count_6 hown hK.1 hP 0 rfl rfl 3 (by decide) (hts (.fieldLink RX6 27 "ChildCoins" "ours" "LChildCoins$Land;") (List.mem_of_getElem? (i := 1) rfl)) (fun _ h9 => h9) rfl dX6_count_61 ?_
    refine va_getN (D := D) (ci := 0) (v := .int 0) (C := RX0) (T := TX0) (N := 12) hx hb hts in_X6_count_0 hown hK.1 hP 1 rfl rfl 6 (by decide) (nfX6_257 hK.2) (fun _ h9 => h9) rfl dX6_count_64 ?_
    exact en_i hx hb hr hlk hP hD hS () [] (by decide) rfl (Nat.le_of_ble_eq_true rfl) (Nat.le_of_ble_eq_true rfl) dX6_count_67 (by decide)
  · refine lv_tableIn (tgt := 68) (off := 67) hx hb dX6_count_1 (by decide) (by decide) (by decide) (by decide) ?_
    refine lv_aload_n hx hb dX6_count_68 rfl (lv_at hl 0 rfl) ?_
    refine va_get (D := D) (ci := 6) (v := .ref x3) (C := RX6) (T := TX6) (N := 14) hx hb hts in_X6_count_6 hown hK.1 hP 0 rfl rfl 3 (by decide) (hts (.fieldLink RX6 27 "ChildCoins" "ours" "LChildCoins$Land;") (List.mem_of_getElem? (i := 1) rfl)) (fun _ h9 => h9) rfl dX6_count_69 ?_
    refine va_getN (D := D) (ci := 0) (v := .int 9) (C := RX0) (T := TX0) (N := 12) hx hb hts in_X6_count_0 hown hK.1 hP 1 rfl rfl 10 (by decide) (nfX6_260 hK.2) (fun _ h9 => h9) rfl dX6_count_72 ?_
    exact en_i hx hb hr hlk hP hD hS () [] (by decide) rfl (Nat.le_of_ble_eq_true rfl) (Nat.le_of_ble_eq_true rfl) dX6_count_75 (by decide)
  · refine lv_tableIn (tgt := 76) (off := 75) hx hb dX6_count_1 (by decide) (by decide) (by decide) (by decide) ?_
    refine lv_aload_n hx hb dX6_count_76 rfl (lv_at hl 0 rfl) ?_
    refine va_get (D := D) (ci := 6) (v := .int 0) (C := RX6) (T := TX6) (N := 14) hx hb hts in_X6_count_6 hown hK.1 hP 0 rfl rfl 12 (by decide) (hts (.fieldLink RX6 72 "ChildCoins" "takenCount" "I") (List.mem_of_getElem? (i := 2) rfl)) (fun _ h9 => h9) rfl dX6_count_77 ?_
    exact en_i hx hb hr hlk hP hD hS () [] (by decide) rfl (Nat.le_of_ble_eq_true rfl) (Nat.le_of_ble_eq_true rfl) dX6_count_80 (by decide)
  · refine lv_tableIn (tgt := 81) (off := 80) hx hb dX6_count_1 (by decide) (by decide) (by decide) (by decide) ?_
    refine lv_aload_n hx hb dX6_count_81 rfl (lv_at hl 0 rfl) ?_
    refine va_get (D := D) (ci := 6) (v := .ref x19) (C := RX6) (T := TX6) (N := 14) hx hb hts in_X6_count_6 hown hK.1 hP 0 rfl rfl 5 (by decide) (hts (.fieldLink RX6 37 "ChildCoins" "present" "LChildCoins$Now;") (List.mem_of_getElem? (i := 3) rfl)) (fun _ h9 => h9) rfl dX6_count_82 ?_
    refine va_getN (D := D) (ci := 1) (v := .int 0) (C := RX1) (T := TX1) (N := 3) hx hb hts in_X6_count_1 hown hK.1 hP 2 rfl rfl 2 (by decide) (nfX6_172 hK.2) (fun _ h9 => h9) rfl dX6_count_85 ?_
    exact en_i hx hb hr hlk hP hD hS () [] (by decide) rfl (Nat.le_of_ble_eq_true rfl) (Nat.le_of_ble_eq_true rfl) dX6_count_88 (by decide)
  · refine lv_tableIn (tgt := 89) (off := 88) hx hb dX6_count_1 (by decide) (by decide) (by decide) (by decide) ?_
    refine lv_aload_n hx hb dX6_count_89 rfl (lv_at hl 0 rfl) ?_
    refine va_get (D := D) (ci := 6) (v := .int 0) (C := RX6) (T := TX6) (N := 14) hx hb hts in_X6_count_6 hown hK.1 hP 0 rfl rfl 1 (by decide) (hts (.fieldLink RX6 13 "ChildCoins" "typed" "I") (List.mem_of_getElem? (i := 4) rfl)) (fun _ h9 => h9) rfl dX6_count_90 ?_
    exact en_i hx hb hr hlk hP hD hS () [] (by decide) rfl (Nat.le_of_ble_eq_true rfl) (Nat.le_of_ble_eq_true rfl) dX6_count_93 (by decide)
  · refine lv_tableOut (tgt := 94) hx hb dX6_count_1 h1 (by decide) ?_
    refine lv_iconst (v := -1) hx hb dX6_count_94 (by decide) ?_
    exact en_i hx hb hr hlk hP hD hS () [] (by decide) rfl (Nat.le_of_ble_eq_true rfl) (Nat.le_of_ble_eq_true rfl) dX6_count_95 (if_pos (out_lo (hi := 6) rfl h1)).symm
theorem dX6_trace_0 : decode cX6_trace 0 = .ok (.aload_n 0, 1) := by decide +kernel
theorem dX6_trace_1 : decode cX6_trace 1 = .ok (.getfield 75, 3) := by decide +kernel
theorem in_X6_trace_6 : ∀ w ∈ wsX60, w ∈ wsX6_trace := fun w h => List.mem_cons_of_mem _ (List.mem_append_right _ h)
theorem dX6_trace_4 : decode cX6_trace 4 = .ok (.lreturn, 1) := by decide +kernel
set_option maxHeartbeats 4000000 in
set_option maxRecDepth 100000 in
theorem c_X_trace (l : Launch) (D : va_G) (cI cB cZ cN : ClassId) (h0 : Nat) (x0 : Nat) (x1 : Nat) (x3 : Nat) (x11 : Nat) (x19 : Nat) (x22 : Nat) (x29 : Nat) (x33 : Nat) (x36 : Nat) (x42 : Nat)  : Cj (S := Unit) l D cI cB cZ cN yX6_trace wsX6_trace ({ frames := 0, cells := 0, slots := 0, locals := 0 } : Room) [.ref h0] [(h0, .inr (6, [.ref x0, .int 0, .ref x1, .ref x3, .ref x11, .ref x19, .ref x22, .int 0, .ref x29, .ref x33, .ref x36, .ref x42, .int 0, .long 0]))] (fun (r : Int64) (_ : Unit) => r = 0) (fun u => []) := by
  refine bx_of (D := D) (cI := cI) (cB := cB) (cZ := cZ) (cN := cN) (y := yX6_trace) (wd := wsX6_trace) (rm := ({ frames := 0, cells := 0, slots := 0, locals := 0 } : Room)) (av := [.ref h0]) (wc := [(h0, .inr (6, [.ref x0, .int 0, .ref x1, .ref x3, .ref x11, .ref x19, .ref x22, .int 0, .ref x29, .ref x33, .ref x36, .ref x42, .int 0, .long 0]))]) (cc := cX6_trace) (maxL := 1) (ret := (some .long)) (Qc := fun _ A => va_Ql (S := Unit) (fun (r : Int64) (_ : Unit) => r = 0) (Aft D (fun (u : Unit) => []) A) A) (by decide) rfl (Nat.le_of_ble_eq_true rfl) ?_
  intro p e s m below meth c A H locs ⟨hx, hb, hr, hml, hown, hts, hlk, hnm⟩ hK hP hD hS hA ls hl
  have hl : lv_has ls 1 [(0, .ref h0)] := hl
  have hown : s.vm.findClass RX6 = some m.cls := hown
  refine lv_aload_n hx hb dX6_trace_0 rfl (lv_at hl 0 rfl) ?_
  refine va_get (D := D) (ci := 6) (v := .long 0) (C := RX6) (T := TX6) (N := 14) hx hb hts in_X6_trace_6 hown hK.1 hP 0 rfl rfl 13 (by decide) (hts (.fieldLink RX6 75 "ChildCoins" "traced" "J") (List.mem_of_getElem? (i := 1) rfl)) (fun _ h9 => h9) rfl dX6_trace_1 ?_
  exact en_j hx hb hr hlk hP hD hS () [] (by decide) rfl (Nat.le_of_ble_eq_true rfl) (Nat.le_of_ble_eq_true rfl) dX6_trace_4 rfl
