theorem dX0_hasCoin_0 : decode cX0_hasCoin 0 = .ok (.iload_n 1, 1) := by decide +kernel
theorem dX0_hasCoin_1 : decode cX0_hasCoin 1 = .ok (.ifCond .lt 15, 3) := by decide +kernel
theorem dX0_hasCoin_16 : decode cX0_hasCoin 16 = .ok (.iconst 0, 1) := by decide +kernel
theorem dX0_hasCoin_17 : decode cX0_hasCoin 17 = .ok (.ireturn, 1) := by decide +kernel
theorem dX0_hasCoin_4 : decode cX0_hasCoin 4 = .ok (.iload_n 1, 1) := by decide +kernel
theorem dX0_hasCoin_5 : decode cX0_hasCoin 5 = .ok (.aload_n 0, 1) := by decide +kernel
theorem dX0_hasCoin_6 : decode cX0_hasCoin 6 = .ok (.getfield 9, 3) := by decide +kernel
theorem in_X0_hasCoin_0 : ∀ w ∈ wsX00, w ∈ wsX0_hasCoin := fun w h => List.mem_cons_of_mem _ (List.mem_append_right _ h)
theorem dX0_hasCoin_9 : decode cX0_hasCoin 9 = .ok (.if_icmp .ge 7, 3) := by decide +kernel
theorem dX0_hasCoin_12 : decode cX0_hasCoin 12 = .ok (.iconst 1, 1) := by decide +kernel
theorem dX0_hasCoin_13 : decode cX0_hasCoin 13 = .ok (.goto 4, 3) := by decide +kernel
set_option maxHeartbeats 4000000 in
set_option maxRecDepth 100000 in
theorem c_L_hasCoin (l : Launch) (D : va_G) (cI cB cZ cN : ClassId) (x3 : Nat) (x4 : Nat) (x5 : Nat) (x6 : Nat) (x7 : Nat) (x8 : Nat) (x9 : Nat) (x10 : Nat) (v_c : Int32)  : Ci (S := Unit) l D cI cB cZ cN yX0_hasCoin wsX0_hasCoin ({ frames := 0, cells := 0, slots := 0, locals := 0 } : Room) [.ref x3, .int v_c] [(x3, .inr (0, [.int 0, .ref x4, .ref x5, .int 0, .ref x6, .ref x7, .int 0, .ref x8, .ref x9, .ref x10, .int 9, .int 0]))] (fun (r : Int32) (_ : Unit) => r = 0) (fun u => [(x3, .inr (0, [.int 0, .ref x4, .ref x5, .int 0, .ref x6, .ref x7, .int 0, .ref x8, .ref x9, .ref x10, .int 9, .int 0]))]) := by
  refine bx_of (D := D) (cI := cI) (cB := cB) (cZ := cZ) (cN := cN) (y := yX0_hasCoin) (wd := wsX0_hasCoin) (rm := ({ frames := 0, cells := 0, slots := 0, locals := 0 } : Room)) (av := [.ref x3, .int v_c]) (wc := [(x3, .inr (0, [.int 0, .ref x4, .ref x5, .int 0, .ref x6, .ref x7, .int 0, .ref x8, .ref x9, .ref x10, .int 9, .int 0]))]) (cc := cX0_hasCoin) (maxL := 2) (ret := (some .boolean)) (Qc := fun _ A => va_Qi (S := Unit) (fun (r : Int32) (_ : Unit) => r = 0) (Aft D (fun (u : Unit) => [(x3, .inr (0, [.int 0, .ref x4, .ref x5, .int 0, .ref x6, .ref x7, .int 0, .ref x8, .ref x9, .ref x10, .int 9, .int 0]))]) A) A) (by decide) rfl (Nat.le_of_ble_eq_true rfl) ?_
  intro p e s m below meth c A H locs ⟨hx, hb, hr, hml, hown, hts, hlk, hnm⟩ hK hP hD hS hA ls hl
  have hl : lv_has ls 2 [(0, .ref x3), (1, .int v_c)] := hl
  have hown : s.vm.findClass RX0 = some m.cls := hown
  refine lv_iload_n hx hb dX0_hasCoin_0 rfl (lv_at hl 1 rfl) ?_
  refine lv_if_lt (tgt := 16) hx hb dX0_hasCoin_1 (by decide) (fun h1 => ?_) (fun h1 => ?_)
  · skip
    refine lv_iconst (v := 0) hx hb dX0_hasCoin_16 (by decide) ?_
    exact en_z hx hb hr hlk hP hD hS () [0] (by decide) rfl (Nat.le_of_ble_eq_true rfl) (Nat.le_of_ble_eq_true rfl) dX0_hasCoin_17 rfl rfl
  · skip
    refine lv_iload_n hx hb dX0_hasCoin_4 rfl (lv_at hl 1 rfl) ?_
    refine lv_aload_n hx hb dX0_hasCoin_5 rfl (lv_at hl 0 rfl) ?_
    refine va_get (D := D) (ci := 0) (v := .int 0) (C := RX0) (T := TX0) (N := 12) hx hb hts in_X0_hasCoin_0 hown hK.1 hP 0 rfl rfl 0 (by decide) (hts (.fieldLink RX0 9 "ChildCoins$Land" "coins" "I") (List.mem_of_getElem? (i := 1) rfl)) (fun _ h9 => h9) rfl dX0_hasCoin_6 ?_
    refine lv_icmp_ge (tgt := 16) hx hb dX0_hasCoin_9 (by decide) (fun h2 => ?_) (fun h2 => ?_)
    · skip
      refine lv_iconst (v := 0) hx hb dX0_hasCoin_16 (by decide) ?_
      exact en_z hx hb hr hlk hP hD hS () [0] (by decide) rfl (Nat.le_of_ble_eq_true rfl) (Nat.le_of_ble_eq_true rfl) dX0_hasCoin_17 rfl rfl
    · skip
      refine lv_iconst (v := 1) hx hb dX0_hasCoin_12 (by decide) ?_
      refine lv_goto (tgt := 17) hx hb dX0_hasCoin_13 (by decide) ?_
      exact en_z hx hb hr hlk hP hD hS () [0] (by decide) rfl (Nat.le_of_ble_eq_true rfl) (Nat.le_of_ble_eq_true rfl) dX0_hasCoin_17 rfl (ic_1 h1 h2).elim
theorem dX0_hasPerson_0 : decode cX0_hasPerson 0 = .ok (.iload_n 1, 1) := by decide +kernel
theorem dX0_hasPerson_1 : decode cX0_hasPerson 1 = .ok (.ifCond .lt 15, 3) := by decide +kernel
theorem dX0_hasPerson_16 : decode cX0_hasPerson 16 = .ok (.iconst 0, 1) := by decide +kernel
theorem dX0_hasPerson_17 : decode cX0_hasPerson 17 = .ok (.ireturn, 1) := by decide +kernel
theorem dX0_hasPerson_4 : decode cX0_hasPerson 4 = .ok (.iload_n 1, 1) := by decide +kernel
theorem dX0_hasPerson_5 : decode cX0_hasPerson 5 = .ok (.aload_n 0, 1) := by decide +kernel
theorem dX0_hasPerson_6 : decode cX0_hasPerson 6 = .ok (.getfield 22, 3) := by decide +kernel
theorem in_X0_hasPerson_0 : ∀ w ∈ wsX00, w ∈ wsX0_hasPerson := fun w h => List.mem_cons_of_mem _ (List.mem_append_right _ h)
theorem dX0_hasPerson_9 : decode cX0_hasPerson 9 = .ok (.if_icmp .ge 7, 3) := by decide +kernel
theorem dX0_hasPerson_12 : decode cX0_hasPerson 12 = .ok (.iconst 1, 1) := by decide +kernel
theorem dX0_hasPerson_13 : decode cX0_hasPerson 13 = .ok (.goto 4, 3) := by decide +kernel
set_option maxHeartbeats 4000000 in
set_option maxRecDepth 100000 in
theorem c_L_hasPerson (l : Launch) (D : va_G) (cI cB cZ cN : ClassId) (x3 : Nat) (x4 : Nat) (x5 : Nat) (x6 : Nat) (x7 : Nat) (x8 : Nat) (x9 : Nat) (x10 : Nat) (v_c : Int32)  : Ci (S := Unit) l D cI cB cZ cN yX0_hasPerson wsX0_hasPerson ({ frames := 0, cells := 0, slots := 0, locals := 0 } : Room) [.ref x3, .int v_c] [(x3, .inr (0, [.int 0, .ref x4, .ref x5, .int 0, .ref x6, .ref x7, .int 0, .ref x8, .ref x9, .ref x10, .int 9, .int 0]))] (fun (r : Int32) (_ : Unit) => r = 0) (fun u => [(x3, .inr (0, [.int 0, .ref x4, .ref x5, .int 0, .ref x6, .ref x7, .int 0, .ref x8, .ref x9, .ref x10, .int 9, .int 0]))]) := by
  refine bx_of (D := D) (cI := cI) (cB := cB) (cZ := cZ) (cN := cN) (y := yX0_hasPerson) (wd := wsX0_hasPerson) (rm := ({ frames := 0, cells := 0, slots := 0, locals := 0 } : Room)) (av := [.ref x3, .int v_c]) (wc := [(x3, .inr (0, [.int 0, .ref x4, .ref x5, .int 0, .ref x6, .ref x7, .int 0, .ref x8, .ref x9, .ref x10, .int 9, .int 0]))]) (cc := cX0_hasPerson) (maxL := 2) (ret := (some .boolean)) (Qc := fun _ A => va_Qi (S := Unit) (fun (r : Int32) (_ : Unit) => r = 0) (Aft D (fun (u : Unit) => [(x3, .inr (0, [.int 0, .ref x4, .ref x5, .int 0, .ref x6, .ref x7, .int 0, .ref x8, .ref x9, .ref x10, .int 9, .int 0]))]) A) A) (by decide) rfl (Nat.le_of_ble_eq_true rfl) ?_
  intro p e s m below meth c A H locs ⟨hx, hb, hr, hml, hown, hts, hlk, hnm⟩ hK hP hD hS hA ls hl
  have hl : lv_has ls 2 [(0, .ref x3), (1, .int v_c)] := hl
  have hown : s.vm.findClass RX0 = some m.cls := hown
  refine lv_iload_n hx hb dX0_hasPerson_0 rfl (lv_at hl 1 rfl) ?_
  refine lv_if_lt (tgt := 16) hx hb dX0_hasPerson_1 (by decide) (fun h1 => ?_) (fun h1 => ?_)
  · skip
    refine lv_iconst (v := 0) hx hb dX0_hasPerson_16 (by decide) ?_
    exact en_z hx hb hr hlk hP hD hS () [0] (by decide) rfl (Nat.le_of_ble_eq_true rfl) (Nat.le_of_ble_eq_true rfl) dX0_hasPerson_17 rfl rfl
  · skip
    refine lv_iload_n hx hb dX0_hasPerson_4 rfl (lv_at hl 1 rfl) ?_
    refine lv_aload_n hx hb dX0_hasPerson_5 rfl (lv_at hl 0 rfl) ?_
    refine va_get (D := D) (ci := 0) (v := .int 0) (C := RX0) (T := TX0) (N := 12) hx hb hts in_X0_hasPerson_0 hown hK.1 hP 0 rfl rfl 3 (by decide) (hts (.fieldLink RX0 22 "ChildCoins$Land" "people" "I") (List.mem_of_getElem? (i := 1) rfl)) (fun _ h9 => h9) rfl dX0_hasPerson_6 ?_
    refine lv_icmp_ge (tgt := 16) hx hb dX0_hasPerson_9 (by decide) (fun h2 => ?_) (fun h2 => ?_)
    · skip
      refine lv_iconst (v := 0) hx hb dX0_hasPerson_16 (by decide) ?_
      exact en_z hx hb hr hlk hP hD hS () [0] (by decide) rfl (Nat.le_of_ble_eq_true rfl) (Nat.le_of_ble_eq_true rfl) dX0_hasPerson_17 rfl rfl
    · skip
      refine lv_iconst (v := 1) hx hb dX0_hasPerson_12 (by decide) ?_
      refine lv_goto (tgt := 17) hx hb dX0_hasPerson_13 (by decide) ?_
      exact en_z hx hb hr hlk hP hD hS () [0] (by decide) rfl (Nat.le_of_ble_eq_true rfl) (Nat.le_of_ble_eq_true rfl) dX0_hasPerson_17 rfl (ic_1 h1 h2).elim
theorem dX0_hasDebt_0 : decode cX0_hasDebt 0 = .ok (.iload_n 1, 1) := by decide +kernel
theorem dX0_hasDebt_1 : decode cX0_hasDebt 1 = .ok (.ifCond .lt 15, 3) := by decide +kernel
theorem dX0_hasDebt_16 : decode cX0_hasDebt 16 = .ok (.iconst 0, 1) := by decide +kernel
theorem dX0_hasDebt_17 : decode cX0_hasDebt 17 = .ok (.ireturn, 1) := by decide +kernel
theorem dX0_hasDebt_4 : decode cX0_hasDebt 4 = .ok (.iload_n 1, 1) := by decide +kernel
theorem dX0_hasDebt_5 : decode cX0_hasDebt 5 = .ok (.aload_n 0, 1) := by decide +kernel
theorem dX0_hasDebt_6 : decode cX0_hasDebt 6 = .ok (.getfield 31, 3) := by decide +kernel
theorem in_X0_hasDebt_0 : ∀ w ∈ wsX00, w ∈ wsX0_hasDebt := fun w h => List.mem_cons_of_mem _ (List.mem_append_right _ h)
theorem dX0_hasDebt_9 : decode cX0_hasDebt 9 = .ok (.if_icmp .ge 7, 3) := by decide +kernel
theorem dX0_hasDebt_12 : decode cX0_hasDebt 12 = .ok (.iconst 1, 1) := by decide +kernel
theorem dX0_hasDebt_13 : decode cX0_hasDebt 13 = .ok (.goto 4, 3) := by decide +kernel
set_option maxHeartbeats 4000000 in
set_option maxRecDepth 100000 in
theorem c_L_hasDebt (l : Launch) (D : va_G) (cI cB cZ cN : ClassId) (x3 : Nat) (x4 : Nat) (x5 : Nat) (x6 : Nat) (x7 : Nat) (x8 : Nat) (x9 : Nat) (x10 : Nat) (v_c : Int32)  : Ci (S := Unit) l D cI cB cZ cN yX0_hasDebt wsX0_hasDebt ({ frames := 0, cells := 0, slots := 0, locals := 0 } : Room) [.ref x3, .int v_c] [(x3, .inr (0, [.int 0, .ref x4, .ref x5, .int 0, .ref x6, .ref x7, .int 0, .ref x8, .ref x9, .ref x10, .int 9, .int 0]))] (fun (r : Int32) (_ : Unit) => r = 0) (fun u => [(x3, .inr (0, [.int 0, .ref x4, .ref x5, .int 0, .ref x6, .ref x7, .int 0, .ref x8, .ref x9, .ref x10, .int 9, .int 0]))]) := by
  refine bx_of (D := D) (cI := cI) (cB := cB) (cZ := cZ) (cN := cN) (y := yX0_hasDebt) (wd := wsX0_hasDebt) (rm := ({ frames := 0, cells := 0, slots := 0, locals := 0 } : Room)) (av := [.ref x3, .int v_c]) (wc := [(x3, .inr (0, [.int 0, .ref x4, .ref x5, .int 0, .ref x6, .ref x7, .int 0, .ref x8, .ref x9, .ref x10, .int 9, .int 0]))]) (cc := cX0_hasDebt) (maxL := 2) (ret := (some .boolean)) (Qc := fun _ A => va_Qi (S := Unit) (fun (r : Int32) (_ : Unit) => r = 0) (Aft D (fun (u : Unit) => [(x3, .inr (0, [.int 0, .ref x4, .ref x5, .int 0, .ref x6, .ref x7, .int 0, .ref x8, .ref x9, .ref x10, .int 9, .int 0]))]) A) A) (by decide) rfl (Nat.le_of_ble_eq_true rfl) ?_
  intro p e s m below meth c A H locs ⟨hx, hb, hr, hml, hown, hts, hlk, hnm⟩ hK hP hD hS hA ls hl
  have hl : lv_has ls 2 [(0, .ref x3), (1, .int v_c)] := hl
  have hown : s.vm.findClass RX0 = some m.cls := hown
  refine lv_iload_n hx hb dX0_hasDebt_0 rfl (lv_at hl 1 rfl) ?_
  refine lv_if_lt (tgt := 16) hx hb dX0_hasDebt_1 (by decide) (fun h1 => ?_) (fun h1 => ?_)
  · skip
    refine lv_iconst (v := 0) hx hb dX0_hasDebt_16 (by decide) ?_
    exact en_z hx hb hr hlk hP hD hS () [0] (by decide) rfl (Nat.le_of_ble_eq_true rfl) (Nat.le_of_ble_eq_true rfl) dX0_hasDebt_17 rfl rfl
  · skip
    refine lv_iload_n hx hb dX0_hasDebt_4 rfl (lv_at hl 1 rfl) ?_
    refine lv_aload_n hx hb dX0_hasDebt_5 rfl (lv_at hl 0 rfl) ?_
    refine va_get (D := D) (ci := 0) (v := .int 0) (C := RX0) (T := TX0) (N := 12) hx hb hts in_X0_hasDebt_0 hown hK.1 hP 0 rfl rfl 6 (by decide) (hts (.fieldLink RX0 31 "ChildCoins$Land" "debts" "I") (List.mem_of_getElem? (i := 1) rfl)) (fun _ h9 => h9) rfl dX0_hasDebt_6 ?_
    refine lv_icmp_ge (tgt := 16) hx hb dX0_hasDebt_9 (by decide) (fun h2 => ?_) (fun h2 => ?_)
    · skip
      refine lv_iconst (v := 0) hx hb dX0_hasDebt_16 (by decide) ?_
      exact en_z hx hb hr hlk hP hD hS () [0] (by decide) rfl (Nat.le_of_ble_eq_true rfl) (Nat.le_of_ble_eq_true rfl) dX0_hasDebt_17 rfl rfl
    · skip
      refine lv_iconst (v := 1) hx hb dX0_hasDebt_12 (by decide) ?_
      refine lv_goto (tgt := 17) hx hb dX0_hasDebt_13 (by decide) ?_
      exact en_z hx hb hr hlk hP hD hS () [0] (by decide) rfl (Nat.le_of_ble_eq_true rfl) (Nat.le_of_ble_eq_true rfl) dX0_hasDebt_17 rfl (ic_1 h1 h2).elim
theorem dX0_empty_0 : decode cX0_empty 0 = .ok (.aload_n 0, 1) := by decide +kernel
theorem dX0_empty_1 : decode cX0_empty 1 = .ok (.iconst 0, 1) := by decide +kernel
theorem dX0_empty_2 : decode cX0_empty 2 = .ok (.putfield 9, 3) := by decide +kernel
theorem in_X0_empty_0 : ∀ w ∈ wsX00, w ∈ wsX0_empty := fun w h => List.mem_cons_of_mem _ (List.mem_append_right _ h)
theorem dX0_empty_5 : decode cX0_empty 5 = .ok (.aload_n 0, 1) := by decide +kernel
theorem dX0_empty_6 : decode cX0_empty 6 = .ok (.iconst 0, 1) := by decide +kernel
theorem dX0_empty_7 : decode cX0_empty 7 = .ok (.putfield 22, 3) := by decide +kernel
theorem dX0_empty_10 : decode cX0_empty 10 = .ok (.aload_n 0, 1) := by decide +kernel
theorem dX0_empty_11 : decode cX0_empty 11 = .ok (.iconst 0, 1) := by decide +kernel
theorem dX0_empty_12 : decode cX0_empty 12 = .ok (.putfield 31, 3) := by decide +kernel
theorem dX0_empty_15 : decode cX0_empty 15 = .ok (.aload_n 0, 1) := by decide +kernel
theorem dX0_empty_16 : decode cX0_empty 16 = .ok (.bipush 9, 2) := by decide +kernel
theorem dX0_empty_18 : decode cX0_empty 18 = .ok (.putfield 43, 3) := by decide +kernel
theorem dX0_empty_21 : decode cX0_empty 21 = .ok (.aload_n 0, 1) := by decide +kernel
theorem dX0_empty_22 : decode cX0_empty 22 = .ok (.iconst 0, 1) := by decide +kernel
theorem dX0_empty_23 : decode cX0_empty 23 = .ok (.putfield 46, 3) := by decide +kernel
theorem dX0_empty_26 : decode cX0_empty 26 = .ok (.iconst 0, 1) := by decide +kernel
theorem dX0_empty_27 : decode cX0_empty 27 = .ok (.istore_n 1, 1) := by decide +kernel
theorem dX0_empty_28 : decode cX0_empty 28 = .ok (.iload_n 1, 1) := by decide +kernel
theorem dX0_empty_29 : decode cX0_empty 29 = .ok (.aload_n 0, 1) := by decide +kernel
theorem dX0_empty_30 : decode cX0_empty 30 = .ok (.getfield 28, 3) := by decide +kernel
theorem dX0_empty_33 : decode cX0_empty 33 = .ok (.arraylength, 1) := by decide +kernel
theorem dX0_empty_34 : decode cX0_empty 34 = .ok (.if_icmp .ge 16, 3) := by decide +kernel
theorem dX0_empty_50 : decode cX0_empty 50 = .ok (.return_, 1) := by decide +kernel
theorem dX0_empty_37 : decode cX0_empty 37 = .ok (.aload_n 0, 1) := by decide +kernel
theorem dX0_empty_38 : decode cX0_empty 38 = .ok (.getfield 28, 3) := by decide +kernel
theorem dX0_empty_41 : decode cX0_empty 41 = .ok (.iload_n 1, 1) := by decide +kernel
theorem dX0_empty_42 : decode cX0_empty 42 = .ok (.iconst 0, 1) := by decide +kernel
theorem dX0_empty_43 : decode cX0_empty 43 = .ok (.iastore, 1) := by decide +kernel
theorem dX0_empty_44 : decode cX0_empty 44 = .ok (.iinc 1 1, 3) := by decide +kernel
theorem dX0_empty_47 : decode cX0_empty 47 = .ok (.goto (-19), 3) := by decide +kernel
set_option maxHeartbeats 4000000 in
set_option maxRecDepth 100000 in
theorem c_L_empty (l : Launch) (D : va_G) (cI cB cZ cN : ClassId) (x11 : Nat) (x12 : Nat) (x13 : Nat) (x14 : Nat) (x15 : Nat) (x16 : Nat) (x17 : Nat) (x18 : Nat)  : Cv (S := Unit) l D cI cB cZ cN yX0_empty wsX0_empty ({ frames := 0, cells := 0, slots := 0, locals := 0 } : Room) [.ref x11] [(x11, .inr (0, [.int 0, .ref x12, .ref x13, .int 0, .ref x14, .ref x15, .int 0, .ref x16, .ref x17, .ref x18, .int 9, .int 0])), (x15, .inl (cI, 30, .inl zf))] (fun _ => True) (fun u => [(x11, .inr (0, [.int 0, .ref x12, .ref x13, .int 0, .ref x14, .ref x15, .int 0, .ref x16, .ref x17, .ref x18, .int 9, .int 0])), (x15, .inl (cI, 30, .inl zf))]) := by
  refine bx_of (D := D) (cI := cI) (cB := cB) (cZ := cZ) (cN := cN) (y := yX0_empty) (wd := wsX0_empty) (rm := ({ frames := 0, cells := 0, slots := 0, locals := 0 } : Room)) (av := [.ref x11]) (wc := [(x11, .inr (0, [.int 0, .ref x12, .ref x13, .int 0, .ref x14, .ref x15, .int 0, .ref x16, .ref x17, .ref x18, .int 9, .int 0])), (x15, .inl (cI, 30, .inl zf))]) (cc := cX0_empty) (maxL := 2) (ret := none) (Qc := fun _ A => va_Qv (S := Unit) (fun _ => True) (Aft D (fun (u : Unit) => [(x11, .inr (0, [.int 0, .ref x12, .ref x13, .int 0, .ref x14, .ref x15, .int 0, .ref x16, .ref x17, .ref x18, .int 9, .int 0])), (x15, .inl (cI, 30, .inl zf))]) A) A) (by decide) rfl (Nat.le_of_ble_eq_true rfl) ?_
  intro p e s m below meth c A H locs ⟨hx, hb, hr, hml, hown, hts, hlk, hnm⟩ hK hP hD hS hA ls hl
  have hl : lv_has ls 2 [(0, .ref x11)] := hl
  have hown : s.vm.findClass RX0 = some m.cls := hown
  refine lv_aload_n hx hb dX0_empty_0 rfl (lv_at hl 0 rfl) ?_
  refine lv_iconst (v := 0) hx hb dX0_empty_1 (by decide) ?_
  refine va_put (D := D) (ci := 0) (v := .int 0) (ty := tyX0 0) (C := RX0) (T := TX0) (N := 12) hx hb hts in_X0_empty_0 tyX0 tyX0_ok nmX0 hown hK.1 hP hD hS 0 rfl rfl 0 (by decide) (hts (.fieldLink RX0 9 "ChildCoins$Land" "coins" "I") (List.mem_of_getElem? (i := 1) rfl)) (fun _ h9 => h9) rfl (tyX0_ok 0 (by decide)) rfl rfl (Nat.le_of_ble_eq_true rfl) dX0_empty_2 (fun H locs hP hD hS => ?_)
  have hP : va_P D vwCl [(x11, .inr (0, [.int 0, .ref x12, .ref x13, .int 0, .ref x14, .ref x15, .int 0, .ref x16, .ref x17, .ref x18, .int 9, .int 0])), (x15, .inl (cI, 30, .inl zf))] H := hP
  have hD : va_D A [(x11, .inr (0, [.int 0, .ref x12, .ref x13, .int 0, .ref x14, .ref x15, .int 0, .ref x16, .ref x17, .ref x18, .int 9, .int 0])), (x15, .inl (cI, 30, .inl zf))] := hD
  refine lv_aload_n hx hb dX0_empty_5 rfl (lv_at hl 0 rfl) ?_
  refine lv_iconst (v := 0) hx hb dX0_empty_6 (by decide) ?_
  refine va_put (D := D) (ci := 0) (v := .int 0) (ty := tyX0 3) (C := RX0) (T := TX0) (N := 12) hx hb hts in_X0_empty_0 tyX0 tyX0_ok nmX0 hown hK.1 hP hD hS 0 rfl rfl 3 (by decide) (hts (.fieldLink RX0 22 "ChildCoins$Land" "people" "I") (List.mem_of_getElem? (i := 2) rfl)) (fun _ h9 => h9) rfl (tyX0_ok 3 (by decide)) rfl rfl (Nat.le_of_ble_eq_true rfl) dX0_empty_7 (fun H locs hP hD hS => ?_)
  have hP : va_P D vwCl [(x11, .inr (0, [.int 0, .ref x12, .ref x13, .int 0, .ref x14, .ref x15, .int 0, .ref x16, .ref x17, .ref x18, .int 9, .int 0])), (x15, .inl (cI, 30, .inl zf))] H := hP
  have hD : va_D A [(x11, .inr (0, [.int 0, .ref x12, .ref x13, .int 0, .ref x14, .ref x15, .int 0, .ref x16, .ref x17, .ref x18, .int 9, .int 0])), (x15, .inl (cI, 30, .inl zf))] := hD
  refine lv_aload_n hx hb dX0_empty_10 rfl (lv_at hl 0 rfl) ?_
  refine lv_iconst (v := 0) hx hb dX0_empty_11 (by decide) ?_
  refine va_put (D := D) (ci := 0) (v := .int 0) (ty := tyX0 6) (C := RX0) (T := TX0) (N := 12) hx hb hts in_X0_empty_0 tyX0 tyX0_ok nmX0 hown hK.1 hP hD hS 0 rfl rfl 6 (by decide) (hts (.fieldLink RX0 31 "ChildCoins$Land" "debts" "I") (List.mem_of_getElem? (i := 3) rfl)) (fun _ h9 => h9) rfl (tyX0_ok 6 (by decide)) rfl rfl (Nat.le_of_ble_eq_true rfl) dX0_empty_12 (fun H locs hP hD hS => ?_)
  have hP : va_P D vwCl [(x11, .inr (0, [.int 0, .ref x12, .ref x13, .int 0, .ref x14, .ref x15, .int 0, .ref x16, .ref x17, .ref x18, .int 9, .int 0])), (x15, .inl (cI, 30, .inl zf))] H := hP
  have hD : va_D A [(x11, .inr (0, [.int 0, .ref x12, .ref x13, .int 0, .ref x14, .ref x15, .int 0, .ref x16, .ref x17, .ref x18, .int 9, .int 0])), (x15, .inl (cI, 30, .inl zf))] := hD
  refine lv_aload_n hx hb dX0_empty_15 rfl (lv_at hl 0 rfl) ?_
  refine lv_bipush (v := 9) hx hb dX0_empty_16 (by decide) ?_
  refine va_put (D := D) (ci := 0) (v := .int 9) (ty := tyX0 10) (C := RX0) (T := TX0) (N := 12) hx hb hts in_X0_empty_0 tyX0 tyX0_ok nmX0 hown hK.1 hP hD hS 0 rfl rfl 10 (by decide) (hts (.fieldLink RX0 43 "ChildCoins$Land" "span" "I") (List.mem_of_getElem? (i := 4) rfl)) (fun _ h9 => h9) rfl (tyX0_ok 10 (by decide)) rfl rfl (Nat.le_of_ble_eq_true rfl) dX0_empty_18 (fun H locs hP hD hS => ?_)
  have hP : va_P D vwCl [(x11, .inr (0, [.int 0, .ref x12, .ref x13, .int 0, .ref x14, .ref x15, .int 0, .ref x16, .ref x17, .ref x18, .int 9, .int 0])), (x15, .inl (cI, 30, .inl zf))] H := hP
  have hD : va_D A [(x11, .inr (0, [.int 0, .ref x12, .ref x13, .int 0, .ref x14, .ref x15, .int 0, .ref x16, .ref x17, .ref x18, .int 9, .int 0])), (x15, .inl (cI, 30, .inl zf))] := hD
  refine lv_aload_n hx hb dX0_empty_21 rfl (lv_at hl 0 rfl) ?_
  refine lv_iconst (v := 0) hx hb dX0_empty_22 (by decide) ?_
  refine va_put (D := D) (ci := 0) (v := .int 0) (ty := tyX0 11) (C := RX0) (T := TX0) (N := 12) hx hb hts in_X0_empty_0 tyX0 tyX0_ok nmX0 hown hK.1 hP hD hS 0 rfl rfl 11 (by decide) (hts (.fieldLink RX0 46 "ChildCoins$Land" "spanTold" "Z") (List.mem_of_getElem? (i := 5) rfl)) (fun _ h9 => h9) rfl (tyX0_ok 11 (by decide)) rfl rfl (Nat.le_of_ble_eq_true rfl) dX0_empty_23 (fun H locs hP hD hS => ?_)
  have hP : va_P D vwCl [(x11, .inr (0, [.int 0, .ref x12, .ref x13, .int 0, .ref x14, .ref x15, .int 0, .ref x16, .ref x17, .ref x18, .int 9, .int 0])), (x15, .inl (cI, 30, .inl zf))] H := hP
  have hD : va_D A [(x11, .inr (0, [.int 0, .ref x12, .ref x13, .int 0, .ref x14, .ref x15, .int 0, .ref x16, .ref x17, .ref x18, .int 9, .int 0])), (x15, .inl (cI, 30, .inl zf))] := hD
  refine lv_iconst (v := 0) hx hb dX0_empty_26 (by decide) ?_
  refine lv_istore_n (lv' := [(1, .int 0), (0, .ref x11)]) hx hb dX0_empty_27 rfl hl (by decide) rfl (fun ls hl => ?_)
  refine loopW (D := D) (A := A) (fun i => [(x11, .inr (0, [.int 0, .ref x12, .ref x13, .int 0, .ref x14, .ref x15, .int 0, .ref x16, .ref x17, .ref x18, .int 9, .int 0])), (x15, .inl (cI, 30, .inl zf))]) (fun i => [(0, .ref x11), (1, .int (nI i))]) 28 2 30 0 (Nat.le_of_ble_eq_true rfl) ?_ ?_ _ _ ls hP hD hS (lv_sub hl [1, 0] rfl)
  · intro H locs ls hP hD hS hl
    have hP : va_P D vwCl [(x11, .inr (0, [.int 0, .ref x12, .ref x13, .int 0, .ref x14, .ref x15, .int 0, .ref x16, .ref x17, .ref x18, .int 9, .int 0])), (x15, .inl (cI, 30, .inl zf))] H := hP
    have hD : va_D A [(x11, .inr (0, [.int 0, .ref x12, .ref x13, .int 0, .ref x14, .ref x15, .int 0, .ref x16, .ref x17, .ref x18, .int 9, .int 0])), (x15, .inl (cI, 30, .inl zf))] := hD
    have hl : lv_has ls 2 [(0, .ref x11), (1, .int 30)] := hl
    refine lv_iload_n hx hb dX0_empty_28 rfl (lv_at hl 1 rfl) ?_
    refine lv_aload_n hx hb dX0_empty_29 rfl (lv_at hl 0 rfl) ?_
    refine va_get (D := D) (ci := 0) (v := .ref x15) (C := RX0) (T := TX0) (N := 12) hx hb hts in_X0_empty_0 hown hK.1 hP 0 rfl rfl 5 (by decide) (hts (.fieldLink RX0 28 "ChildCoins$Land" "toldHolds" "[I") (List.mem_of_getElem? (i := 6) rfl)) (fun _ h9 => h9) rfl dX0_empty_30 ?_
    refine va_alen hx hb hK.1 hP 1 0 rfl rfl (v := 30) rfl dX0_empty_33 ?_
    refine lv_icmp_ge (tgt := 50) hx hb dX0_empty_34 (by decide) (fun h1 => ?_) (fun h1 => absurd (by decide) h1)
    exact en_v hx hb hr hlk hP hD hS () [0, 1] (by decide) rfl (Nat.le_of_ble_eq_true rfl) (Nat.le_of_ble_eq_true rfl) dX0_empty_50 trivial
  · intro i hi0 hi ih H locs ls hP hD hS hl
    have hP : va_P D vwCl [(x11, .inr (0, [.int 0, .ref x12, .ref x13, .int 0, .ref x14, .ref x15, .int 0, .ref x16, .ref x17, .ref x18, .int 9, .int 0])), (x15, .inl (cI, 30, .inl zf))] H := hP
    have hD : va_D A [(x11, .inr (0, [.int 0, .ref x12, .ref x13, .int 0, .ref x14, .ref x15, .int 0, .ref x16, .ref x17, .ref x18, .int 9, .int 0])), (x15, .inl (cI, 30, .inl zf))] := hD
    have hl : lv_has ls 2 [(0, .ref x11), (1, .int (nI i))] := hl
    refine lv_iload_n hx hb dX0_empty_28 rfl (lv_at hl 1 rfl) ?_
    refine lv_aload_n hx hb dX0_empty_29 rfl (lv_at hl 0 rfl) ?_
    refine va_get (D := D) (ci := 0) (v := .ref x15) (C := RX0) (T := TX0) (N := 12) hx hb hts in_X0_empty_0 hown hK.1 hP 0 rfl rfl 5 (by decide) (hts (.fieldLink RX0 28 "ChildCoins$Land" "toldHolds" "[I") (List.mem_of_getElem? (i := 6) rfl)) (fun _ h9 => h9) rfl dX0_empty_30 ?_
    refine va_alen hx hb hK.1 hP 1 0 rfl rfl (v := 30) rfl dX0_empty_33 ?_
    refine lv_icmp_ge (tgt := 50) hx hb dX0_empty_34 (by decide) (fun h2 => absurd h2 (fun q => absurd ((nI_leI (a := 30) (b := i) (by omega) (by omega)).mp q) (by omega))) (fun h2 => ?_)
    refine lv_aload_n hx hb dX0_empty_37 rfl (lv_at hl 0 rfl) ?_
    refine va_get (D := D) (ci := 0) (v := .ref x15) (C := RX0) (T := TX0) (N := 12) hx hb hts in_X0_empty_0 hown hK.1 hP 0 rfl rfl 5 (by decide) (hts (.fieldLink RX0 28 "ChildCoins$Land" "toldHolds" "[I") (List.mem_of_getElem? (i := 6) rfl)) (fun _ h9 => h9) rfl dX0_empty_38 ?_
    refine lv_iload_n hx hb dX0_empty_41 rfl (lv_at hl 1 rfl) ?_
    refine lv_iconst (v := 0) hx hb dX0_empty_42 (by decide) ?_
    refine va_iast hx hb hK.1 hP hD hS 1 0 rfl rfl (vp_in_nI (n := i) (N := 30) (by omega) (by decide)) dX0_empty_43 (fun H locs hP hD hS => ?_)
    have hP : va_P D vwCl [(x11, .inr (0, [.int 0, .ref x12, .ref x13, .int 0, .ref x14, .ref x15, .int 0, .ref x16, .ref x17, .ref x18, .int 9, .int 0])), (x15, .inl (cI, 30, .inl (upd zf (nI i).toNatClampNeg 0)))] H := hP
    have hD : va_D A [(x11, .inr (0, [.int 0, .ref x12, .ref x13, .int 0, .ref x14, .ref x15, .int 0, .ref x16, .ref x17, .ref x18, .int 9, .int 0])), (x15, .inl (cI, 30, .inl (upd zf (nI i).toNatClampNeg 0)))] := hD
    rw [upz] at hP hD
    refine lv_iinc (v := nI (i + 1)) (lv' := [(1, .int (nI (i + 1))), (0, .ref x11)]) hx hb dX0_empty_44 hl (k := 1) rfl (nI_1 i) (by decide) rfl (fun ls hl => ?_)
    refine lv_goto (tgt := 28) hx hb dX0_empty_47 (by decide) ?_
    exact ih _ _ _ hP hD hS (lv_sub hl [1, 0] rfl)
theorem dX3_step_0 : decode cX3_step 0 = .ok (.aload_n 0, 1) := by decide +kernel
theorem dX3_step_1 : decode cX3_step 1 = .ok (.getfield 19, 3) := by decide +kernel
theorem in_X3_step_3 : ∀ w ∈ wsX30, w ∈ wsX3_step := fun w h => List.mem_cons_of_mem _ (List.mem_append_right _ h)
theorem dX3_step_4 : decode cX3_step 4 = .ok (.aload_n 0, 1) := by decide +kernel
theorem dX3_step_5 : decode cX3_step 5 = .ok (.getfield 15, 3) := by decide +kernel
theorem dX3_step_8 : decode cX3_step 8 = .ok (.if_icmp .ge 30, 3) := by decide +kernel
theorem dX3_step_38 : decode cX3_step 38 = .ok (.aload_n 0, 1) := by decide +kernel
theorem dX3_step_39 : decode cX3_step 39 = .ok (.aload_n 0, 1) := by decide +kernel
theorem dX3_step_40 : decode cX3_step 40 = .ok (.getfield 19, 3) := by decide +kernel
theorem dX3_step_43 : decode cX3_step 43 = .ok (.putfield 22, 3) := by decide +kernel
theorem dX3_step_46 : decode cX3_step 46 = .ok (.aload_n 0, 1) := by decide +kernel
theorem dX3_step_47 : decode cX3_step 47 = .ok (.iconst 0, 1) := by decide +kernel
theorem dX3_step_48 : decode cX3_step 48 = .ok (.putfield 28, 3) := by decide +kernel
theorem dX3_step_51 : decode cX3_step 51 = .ok (.aload_n 0, 1) := by decide +kernel
theorem dX3_step_52 : decode cX3_step 52 = .ok (.getfield 19, 3) := by decide +kernel
theorem dX3_step_55 : decode cX3_step 55 = .ok (.aload_n 0, 1) := by decide +kernel
theorem dX3_step_56 : decode cX3_step 56 = .ok (.getfield 15, 3) := by decide +kernel
theorem dX3_step_59 : decode cX3_step 59 = .ok (.if_icmp .lt 9, 3) := by decide +kernel
theorem dX3_step_62 : decode cX3_step 62 = .ok (.aload_n 0, 1) := by decide +kernel
theorem dX3_step_63 : decode cX3_step 63 = .ok (.iconst 0, 1) := by decide +kernel
theorem dX3_step_64 : decode cX3_step 64 = .ok (.putfield 25, 3) := by decide +kernel
theorem dX3_step_67 : decode cX3_step 67 = .ok (.return_, 1) := by decide +kernel
set_option maxHeartbeats 4000000 in
set_option maxRecDepth 100000 in
theorem c_R_step (l : Launch) (D : va_G) (cI cB cZ cN : ClassId) (x1 : Nat) (x2 : Nat)  : Cv (S := Unit) l D cI cB cZ cN yX3_step wsX3_step ({ frames := 0, cells := 0, slots := 0, locals := 0 } : Room) [.ref x1] [(x1, .inr (3, [.ref x2, .int 0, .int 0, .int 0, .int 0, .int 0]))] (fun _ => True) (fun u => [(x1, .inr (3, [.ref x2, .int 0, .int 0, .int 0, .int 0, .int 0]))]) := by
  refine bx_of (D := D) (cI := cI) (cB := cB) (cZ := cZ) (cN := cN) (y := yX3_step) (wd := wsX3_step) (rm := ({ frames := 0, cells := 0, slots := 0, locals := 0 } : Room)) (av := [.ref x1]) (wc := [(x1, .inr (3, [.ref x2, .int 0, .int 0, .int 0, .int 0, .int 0]))]) (cc := cX3_step) (maxL := 1) (ret := none) (Qc := fun _ A => va_Qv (S := Unit) (fun _ => True) (Aft D (fun (u : Unit) => [(x1, .inr (3, [.ref x2, .int 0, .int 0, .int 0, .int 0, .int 0]))]) A) A) (by decide) rfl (Nat.le_of_ble_eq_true rfl) ?_
  intro p e s m below meth c A H locs ⟨hx, hb, hr, hml, hown, hts, hlk, hnm⟩ hK hP hD hS hA ls hl
  have hl : lv_has ls 1 [(0, .ref x1)] := hl
  have hown : s.vm.findClass RX3 = some m.cls := hown
  refine lv_aload_n hx hb dX3_step_0 rfl (lv_at hl 0 rfl) ?_
  refine va_get (D := D) (ci := 3) (v := .int 0) (C := RX3) (T := TX3) (N := 6) hx hb hts in_X3_step_3 hown hK.1 hP 0 rfl rfl 2 (by decide) (hts (.fieldLink RX3 19 "ChildCoins$Reader" "at" "I") (List.mem_of_getElem? (i := 1) rfl)) (fun _ h9 => h9) rfl dX3_step_1 ?_
  refine lv_aload_n hx hb dX3_step_4 rfl (lv_at hl 0 rfl) ?_
  refine va_get (D := D) (ci := 3) (v := .int 0) (C := RX3) (T := TX3) (N := 6) hx hb hts in_X3_step_3 hown hK.1 hP 0 rfl rfl 1 (by decide) (hts (.fieldLink RX3 15 "ChildCoins$Reader" "length" "I") (List.mem_of_getElem? (i := 2) rfl)) (fun _ h9 => h9) rfl dX3_step_5 ?_
  refine lv_icmp_ge (tgt := 38) hx hb dX3_step_8 (by decide) (fun h1 => ?_) (fun h1 => absurd (by decide) h1)
  refine lv_aload_n hx hb dX3_step_38 rfl (lv_at hl 0 rfl) ?_
  refine lv_aload_n hx hb dX3_step_39 rfl (lv_at hl 0 rfl) ?_
  refine va_get (D := D) (ci := 3) (v := .int 0) (C := RX3) (T := TX3) (N := 6) hx hb hts in_X3_step_3 hown hK.1 hP 0 rfl rfl 2 (by decide) (hts (.fieldLink RX3 19 "ChildCoins$Reader" "at" "I") (List.mem_of_getElem? (i := 1) rfl)) (fun _ h9 => h9) rfl dX3_step_40 ?_
  refine va_put (D := D) (ci := 3) (v := .int 0) (ty := tyX3 3) (C := RX3) (T := TX3) (N := 6) hx hb hts in_X3_step_3 tyX3 tyX3_ok nmX3 hown hK.1 hP hD hS 0 rfl rfl 3 (by decide) (hts (.fieldLink RX3 22 "ChildCoins$Reader" "start" "I") (List.mem_of_getElem? (i := 4) rfl)) (fun _ h9 => h9) rfl (tyX3_ok 3 (by decide)) rfl rfl (Nat.le_of_ble_eq_true rfl) dX3_step_43 (fun H locs hP hD hS => ?_)
  have hP : va_P D vwCl [(x1, .inr (3, [.ref x2, .int 0, .int 0, .int 0, .int 0, .int 0]))] H := hP
  have hD : va_D A [(x1, .inr (3, [.ref x2, .int 0, .int 0, .int 0, .int 0, .int 0]))] := hD
  refine lv_aload_n hx hb dX3_step_46 rfl (lv_at hl 0 rfl) ?_
  refine lv_iconst (v := 0) hx hb dX3_step_47 (by decide) ?_
  refine va_put (D := D) (ci := 3) (v := .int 0) (ty := tyX3 5) (C := RX3) (T := TX3) (N := 6) hx hb hts in_X3_step_3 tyX3 tyX3_ok nmX3 hown hK.1 hP hD hS 0 rfl rfl 5 (by decide) (hts (.fieldLink RX3 28 "ChildCoins$Reader" "value" "I") (List.mem_of_getElem? (i := 5) rfl)) (fun _ h9 => h9) rfl (tyX3_ok 5 (by decide)) rfl rfl (Nat.le_of_ble_eq_true rfl) dX3_step_48 (fun H locs hP hD hS => ?_)
  have hP : va_P D vwCl [(x1, .inr (3, [.ref x2, .int 0, .int 0, .int 0, .int 0, .int 0]))] H := hP
  have hD : va_D A [(x1, .inr (3, [.ref x2, .int 0, .int 0, .int 0, .int 0, .int 0]))] := hD
  refine lv_aload_n hx hb dX3_step_51 rfl (lv_at hl 0 rfl) ?_
  refine va_get (D := D) (ci := 3) (v := .int 0) (C := RX3) (T := TX3) (N := 6) hx hb hts in_X3_step_3 hown hK.1 hP 0 rfl rfl 2 (by decide) (hts (.fieldLink RX3 19 "ChildCoins$Reader" "at" "I") (List.mem_of_getElem? (i := 1) rfl)) (fun _ h9 => h9) rfl dX3_step_52 ?_
  refine lv_aload_n hx hb dX3_step_55 rfl (lv_at hl 0 rfl) ?_
  refine va_get (D := D) (ci := 3) (v := .int 0) (C := RX3) (T := TX3) (N := 6) hx hb hts in_X3_step_3 hown hK.1 hP 0 rfl rfl 1 (by decide) (hts (.fieldLink RX3 15 "ChildCoins$Reader" "length" "I") (List.mem_of_getElem? (i := 2) rfl)) (fun _ h9 => h9) rfl dX3_step_56 ?_
  refine lv_icmp_lt (tgt := 68) hx hb dX3_step_59 (by decide) (fun h2 => absurd h2 (by decide)) (fun h2 => ?_)
  refine lv_aload_n hx hb dX3_step_62 rfl (lv_at hl 0 rfl) ?_
  refine lv_iconst (v := 0) hx hb dX3_step_63 (by decide) ?_
  refine va_put (D := D) (ci := 3) (v := .int 0) (ty := tyX3 4) (C := RX3) (T := TX3) (N := 6) hx hb hts in_X3_step_3 tyX3 tyX3_ok nmX3 hown hK.1 hP hD hS 0 rfl rfl 4 (by decide) (hts (.fieldLink RX3 25 "ChildCoins$Reader" "token" "I") (List.mem_of_getElem? (i := 6) rfl)) (fun _ h9 => h9) rfl (tyX3_ok 4 (by decide)) rfl rfl (Nat.le_of_ble_eq_true rfl) dX3_step_64 (fun H locs hP hD hS => ?_)
  have hP : va_P D vwCl [(x1, .inr (3, [.ref x2, .int 0, .int 0, .int 0, .int 0, .int 0]))] H := hP
  have hD : va_D A [(x1, .inr (3, [.ref x2, .int 0, .int 0, .int 0, .int 0, .int 0]))] := hD
  exact en_v hx hb hr hlk hP hD hS () [0] (by decide) rfl (Nat.le_of_ble_eq_true rfl) (Nat.le_of_ble_eq_true rfl) dX3_step_67 trivial
theorem dX3_read_0 : decode cX3_read 0 = .ok (.aload_n 0, 1) := by decide +kernel
theorem dX3_read_1 : decode cX3_read 1 = .ok (.aload_n 1, 1) := by decide +kernel
theorem dX3_read_2 : decode cX3_read 2 = .ok (.putfield 9, 3) := by decide +kernel
theorem in_X3_read_3 : ∀ w ∈ wsX30, w ∈ wsX3_read := fun w h => List.mem_cons_of_mem _ (List.mem_append_left _ (List.mem_append_right _ h))
theorem dX3_read_5 : decode cX3_read 5 = .ok (.aload_n 0, 1) := by decide +kernel
theorem dX3_read_6 : decode cX3_read 6 = .ok (.iload_n 2, 1) := by decide +kernel
theorem dX3_read_7 : decode cX3_read 7 = .ok (.aload_n 1, 1) := by decide +kernel
theorem dX3_read_8 : decode cX3_read 8 = .ok (.arraylength, 1) := by decide +kernel
theorem dX3_read_9 : decode cX3_read 9 = .ok (.invokestatic 31, 3) := by decide +kernel
theorem dX3_read_12 : decode cX3_read 12 = .ok (.putfield 15, 3) := by decide +kernel
theorem dX3_read_15 : decode cX3_read 15 = .ok (.aload_n 0, 1) := by decide +kernel
theorem dX3_read_16 : decode cX3_read 16 = .ok (.iconst 0, 1) := by decide +kernel
theorem dX3_read_17 : decode cX3_read 17 = .ok (.putfield 19, 3) := by decide +kernel
theorem dX3_read_20 : decode cX3_read 20 = .ok (.aload_n 3, 1) := by decide +kernel
theorem dX3_read_21 : decode cX3_read 21 = .ok (.invokevirtual 37, 3) := by decide +kernel
set_option maxRecDepth 20000 in
theorem ggX3_read_X0_empty : GoodIn wsX3_read wsX0_empty := goodIn_r _ [13, 14, 15, 16, 17, 18, 19, 75, 76, 77, 78, 79, 80, 81, 82, 83, 84, 85, 86] (by decide +kernel) (by decide +kernel)
theorem dX3_read_24 : decode cX3_read 24 = .ok (.iconst 0, 1) := by decide +kernel
theorem dX3_read_25 : decode cX3_read 25 = .ok (.istore 4, 2) := by decide +kernel
theorem dX3_read_27 : decode cX3_read 27 = .ok (.iconst 0, 1) := by decide +kernel
theorem dX3_read_28 : decode cX3_read 28 = .ok (.istore 5, 2) := by decide +kernel
theorem dX3_read_30 : decode cX3_read 30 = .ok (.iload 5, 2) := by decide +kernel
theorem dX3_read_32 : decode cX3_read 32 = .ok (.sipush 180, 3) := by decide +kernel
theorem dX3_read_35 : decode cX3_read 35 = .ok (.if_icmp .gt 42, 3) := by decide +kernel
theorem dX3_read_38 : decode cX3_read 38 = .ok (.aload_n 0, 1) := by decide +kernel
theorem dX3_read_39 : decode cX3_read 39 = .ok (.invokevirtual 42, 3) := by decide +kernel
set_option maxRecDepth 20000 in
theorem ggX3_read_X3_step : GoodIn wsX3_read wsX3_step := goodIn_r _ [24, 7, 6, 1, 9, 25, 8, 26, 27, 23, 28, 29, 30, 31, 32, 33, 34, 35, 36, 69, 70, 71, 72, 73, 74] (by decide +kernel) (by decide +kernel)
set_option maxRecDepth 20000 in
theorem gX3_read_X3_step : GoodIn wsX3_read (wsV RX3 42 RX3 yX3_step wsX3_step) := goodIn_app (goodIn_of _ (by decide +kernel)) ggX3_read_X3_step
theorem dX3_read_42 : decode cX3_read 42 = .ok (.aload_n 0, 1) := by decide +kernel
theorem dX3_read_43 : decode cX3_read 43 = .ok (.getfield 25, 3) := by decide +kernel
theorem dX3_read_46 : decode cX3_read 46 = .ok (.ifCond .ne 6, 3) := by decide +kernel
theorem dX3_read_49 : decode cX3_read 49 = .ok (.goto 28, 3) := by decide +kernel
theorem dX3_read_77 : decode cX3_read 77 = .ok (.iload 4, 2) := by decide +kernel
theorem dX3_read_79 : decode cX3_read 79 = .ok (.ireturn, 1) := by decide +kernel
set_option maxHeartbeats 4000000 in
set_option maxRecDepth 100000 in
theorem c_R_read (l : Launch) (D : va_G) (cI cB cZ cN : ClassId) (x0 : Nat) (x1 : Nat) (x2 : Nat) (x11 : Nat) (x12 : Nat) (x13 : Nat) (x14 : Nat) (x15 : Nat) (x16 : Nat) (x17 : Nat) (x18 : Nat)  : Ci (S := Unit) l D cI cB cZ cN yX3_read wsX3_read ({ frames := 1, cells := 0, slots := 0, locals := 30 } : Room) [.ref x1, .ref x0, .int 0, .ref x11] [(x1, .inr (3, [.ref x2, .int 0, .int 0, .int 0, .int 0, .int 0])), (x0, .inl (cI, 180, .inl zf)), (x11, .inr (0, [.int 0, .ref x12, .ref x13, .int 0, .ref x14, .ref x15, .int 0, .ref x16, .ref x17, .ref x18, .int 9, .int 0])), (x15, .inl (cI, 30, .inl zf))] (fun (r : Int32) (_ : Unit) => r = 0) (fun u => [(x1, .inr (3, [.ref x0, .int 0, .int 0, .int 0, .int 0, .int 0])), (x0, .inl (cI, 180, .inl zf)), (x11, .inr (0, [.int 0, .ref x12, .ref x13, .int 0, .ref x14, .ref x15, .int 0, .ref x16, .ref x17, .ref x18, .int 9, .int 0])), (x15, .inl (cI, 30, .inl zf))]) := by
  refine bx_of (D := D) (cI := cI) (cB := cB) (cZ := cZ) (cN := cN) (y := yX3_read) (wd := wsX3_read) (rm := ({ frames := 1, cells := 0, slots := 0, locals := 30 } : Room)) (av := [.ref x1, .ref x0, .int 0, .ref x11]) (wc := [(x1, .inr (3, [.ref x2, .int 0, .int 0, .int 0, .int 0, .int 0])), (x0, .inl (cI, 180, .inl zf)), (x11, .inr (0, [.int 0, .ref x12, .ref x13, .int 0, .ref x14, .ref x15, .int 0, .ref x16, .ref x17, .ref x18, .int 9, .int 0])), (x15, .inl (cI, 30, .inl zf))]) (cc := cX3_read) (maxL := 6) (ret := (some .int)) (Qc := fun _ A => va_Qi (S := Unit) (fun (r : Int32) (_ : Unit) => r = 0) (Aft D (fun (u : Unit) => [(x1, .inr (3, [.ref x0, .int 0, .int 0, .int 0, .int 0, .int 0])), (x0, .inl (cI, 180, .inl zf)), (x11, .inr (0, [.int 0, .ref x12, .ref x13, .int 0, .ref x14, .ref x15, .int 0, .ref x16, .ref x17, .ref x18, .int 9, .int 0])), (x15, .inl (cI, 30, .inl zf))]) A) A) (by decide) rfl (Nat.le_of_ble_eq_true rfl) ?_
  intro p e s m below meth c A H locs ⟨hx, hb, hr, hml, hown, hts, hlk, hnm⟩ hK hP hD hS hA ls hl
  have hl : lv_has ls 6 [(0, .ref x1), (1, .ref x0), (2, .int 0), (3, .ref x11)] := hl
  have hown : s.vm.findClass RX3 = some m.cls := hown
  refine lv_aload_n hx hb dX3_read_0 rfl (lv_at hl 0 rfl) ?_
  refine lv_aload_n hx hb dX3_read_1 rfl (lv_at hl 1 rfl) ?_
  refine va_put (D := D) (ci := 3) (v := .ref x0) (ty := tyX3 0) (C := RX3) (T := TX3) (N := 6) hx hb hts in_X3_read_3 tyX3 tyX3_ok nmX3 hown hK.1 hP hD hS 0 rfl rfl 0 (by decide) (hts (.fieldLink RX3 9 "ChildCoins$Reader" "bytes" "[I") (List.mem_of_getElem? (i := 1) rfl)) (fun _ h9 => h9) rfl (tyX3_ok 0 (by decide)) rfl rfl (Nat.le_of_ble_eq_true rfl) dX3_read_2 (fun H locs hP hD hS => ?_)
  have hP : va_P D vwCl [(x1, .inr (3, [.ref x0, .int 0, .int 0, .int 0, .int 0, .int 0])), (x0, .inl (cI, 180, .inl zf)), (x11, .inr (0, [.int 0, .ref x12, .ref x13, .int 0, .ref x14, .ref x15, .int 0, .ref x16, .ref x17, .ref x18, .int 9, .int 0])), (x15, .inl (cI, 30, .inl zf))] H := hP
  have hD : va_D A [(x1, .inr (3, [.ref x0, .int 0, .int 0, .int 0, .int 0, .int 0])), (x0, .inl (cI, 180, .inl zf)), (x11, .inr (0, [.int 0, .ref x12, .ref x13, .int 0, .ref x14, .ref x15, .int 0, .ref x16, .ref x17, .ref x18, .int 9, .int 0])), (x15, .inl (cI, 30, .inl zf))] := hD
  refine lv_aload_n hx hb dX3_read_5 rfl (lv_at hl 0 rfl) ?_
  refine lv_iload_n hx hb dX3_read_6 rfl (lv_at hl 2 rfl) ?_
  refine lv_aload_n hx hb dX3_read_7 rfl (lv_at hl 1 rfl) ?_
  refine va_alen hx hb hK.1 hP 1 0 rfl rfl (v := 180) rfl dX3_read_8 ?_
  refine va_mmin hx hb (hml.trans hl.1.symm) hown (hts (.methodLink RX3 31 Lib.Math.min.name) (List.mem_of_getElem? (i := 2) rfl)) (hts (.static Lib.Math.min.name) (List.mem_of_getElem? (i := 3) rfl)) (hts (.initialized "java/lang/Math") (List.mem_of_getElem? (i := 4) rfl)) (hts (.code Lib.Math.min.name Lib.Math.min.code 2 (some .int)) (List.mem_of_getElem? (i := 5) rfl)) (Nat.le_of_ble_eq_true rfl) (Nat.le_of_ble_eq_true rfl) (Nat.le_of_ble_eq_true rfl) (Nat.le_of_ble_eq_true rfl) dX3_read_9 ?_
  refine set_i (y := 0) (by decide) ?_
  refine va_put (D := D) (ci := 3) (v := .int 0) (ty := tyX3 1) (C := RX3) (T := TX3) (N := 6) hx hb hts in_X3_read_3 tyX3 tyX3_ok nmX3 hown hK.1 hP hD hS 0 rfl rfl 1 (by decide) (hts (.fieldLink RX3 15 "ChildCoins$Reader" "length" "I") (List.mem_of_getElem? (i := 6) rfl)) (fun _ h9 => h9) rfl (tyX3_ok 1 (by decide)) rfl rfl (Nat.le_of_ble_eq_true rfl) dX3_read_12 (fun H locs hP hD hS => ?_)
  have hP : va_P D vwCl [(x1, .inr (3, [.ref x0, .int 0, .int 0, .int 0, .int 0, .int 0])), (x0, .inl (cI, 180, .inl zf)), (x11, .inr (0, [.int 0, .ref x12, .ref x13, .int 0, .ref x14, .ref x15, .int 0, .ref x16, .ref x17, .ref x18, .int 9, .int 0])), (x15, .inl (cI, 30, .inl zf))] H := hP
  have hD : va_D A [(x1, .inr (3, [.ref x0, .int 0, .int 0, .int 0, .int 0, .int 0])), (x0, .inl (cI, 180, .inl zf)), (x11, .inr (0, [.int 0, .ref x12, .ref x13, .int 0, .ref x14, .ref x15, .int 0, .ref x16, .ref x17, .ref x18, .int 9, .int 0])), (x15, .inl (cI, 30, .inl zf))] := hD
  refine lv_aload_n hx hb dX3_read_15 rfl (lv_at hl 0 rfl) ?_
  refine lv_iconst (v := 0) hx hb dX3_read_16 (by decide) ?_
  refine va_put (D := D) (ci := 3) (v := .int 0) (ty := tyX3 2) (C := RX3) (T := TX3) (N := 6) hx hb hts in_X3_read_3 tyX3 tyX3_ok nmX3 hown hK.1 hP hD hS 0 rfl rfl 2 (by decide) (hts (.fieldLink RX3 19 "ChildCoins$Reader" "at" "I") (List.mem_of_getElem? (i := 7) rfl)) (fun _ h9 => h9) rfl (tyX3_ok 2 (by decide)) rfl rfl (Nat.le_of_ble_eq_true rfl) dX3_read_17 (fun H locs hP hD hS => ?_)
  have hP : va_P D vwCl [(x1, .inr (3, [.ref x0, .int 0, .int 0, .int 0, .int 0, .int 0])), (x0, .inl (cI, 180, .inl zf)), (x11, .inr (0, [.int 0, .ref x12, .ref x13, .int 0, .ref x14, .ref x15, .int 0, .ref x16, .ref x17, .ref x18, .int 9, .int 0])), (x15, .inl (cI, 30, .inl zf))] H := hP
  have hD : va_D A [(x1, .inr (3, [.ref x0, .int 0, .int 0, .int 0, .int 0, .int 0])), (x0, .inl (cI, 180, .inl zf)), (x11, .inr (0, [.int 0, .ref x12, .ref x13, .int 0, .ref x14, .ref x15, .int 0, .ref x16, .ref x17, .ref x18, .int 9, .int 0])), (x15, .inl (cI, 30, .inl zf))] := hD
  refine lv_aload_n hx hb dX3_read_20 rfl (lv_at hl 3 rfl) ?_
  refine be_v (free := va_A [(x11, .inr (0, [.int 0, .ref x12, .ref x13, .int 0, .ref x14, .ref x15, .int 0, .ref x16, .ref x17, .ref x18, .int 9, .int 0])), (x15, .inl (cI, 30, .inl zf))] H.size) (wc := [(x11, .inr (0, [.int 0, .ref x12, .ref x13, .int 0, .ref x14, .ref x15, .int 0, .ref x16, .ref x17, .ref x18, .int 9, .int 0])), (x15, .inl (cI, 30, .inl zf))]) (wr := [(x1, .inr (3, [.ref x0, .int 0, .int 0, .int 0, .int 0, .int 0])), (x0, .inl (cI, 180, .inl zf))]) (ru_N (C := RX0) (host := "ChildCoins") (As := []) (rest := []) ⟨hx, hb, hml, hown, hts⟩ (c_L_empty l D cI cB cZ cN x11 x12 x13 x14 x15 x16 x17 x18 H.size) ggX3_read_X0_empty rfl (nmX3_37 hK.2) (hts (.initialized RX0) (List.mem_of_getElem? (i := 11) rfl)) (hts (.instanceMethod yX0_empty) (List.mem_of_getElem? (i := 10) rfl)) (hts (.selects RX0 yX0_empty yX0_empty) (List.mem_of_getElem? (i := 12) rfl)) ⟨by decide, by decide, (show Option.map (fun d => d.parameters.length) (parseMethodDescriptor yX0_empty.desc) = some 0 by decide +kernel)⟩ ⟨Nat.le_of_ble_eq_true rfl, Nat.le_of_ble_eq_true rfl⟩ hK hP hD 0 2 rfl rfl [2, 3] (by decide) rfl hl.1 rfl (Nat.le_of_ble_eq_true rfl) dX3_read_21 ⟨Nat.le_of_ble_eq_true rfl, Nat.le_of_ble_eq_true rfl⟩) hP hD hS hA [2, 3] [0, 1] rfl rfl (by decide) (by decide) (fun u1 H locs w3 hP hD hS => ?_)
  have hP : va_P D vwCl [(x1, .inr (3, [.ref x0, .int 0, .int 0, .int 0, .int 0, .int 0])), (x0, .inl (cI, 180, .inl zf)), (x11, .inr (0, [.int 0, .ref x12, .ref x13, .int 0, .ref x14, .ref x15, .int 0, .ref x16, .ref x17, .ref x18, .int 9, .int 0])), (x15, .inl (cI, 30, .inl zf))] H := hP
  have hD : va_D A [(x1, .inr (3, [.ref x0, .int 0, .int 0, .int 0, .int 0, .int 0])), (x0, .inl (cI, 180, .inl zf)), (x11, .inr (0, [.int 0, .ref x12, .ref x13, .int 0, .ref x14, .ref x15, .int 0, .ref x16, .ref x17, .ref x18, .int 9, .int 0])), (x15, .inl (cI, 30, .inl zf))] := hD
  refine lv_iconst (v := 0) hx hb dX3_read_24 (by decide) ?_
  refine lv_istore (lv' := [(4, .int 0), (0, .ref x1), (1, .ref x0), (2, .int 0), (3, .ref x11)]) hx hb dX3_read_25 hl (by decide) rfl (fun ls hl => ?_)
  refine lv_iconst (v := 0) hx hb dX3_read_27 (by decide) ?_
  refine lv_istore (lv' := [(5, .int 0), (4, .int 0), (0, .ref x1), (1, .ref x0), (2, .int 0), (3, .ref x11)]) hx hb dX3_read_28 hl (by decide) rfl (fun ls hl => ?_)
  refine lv_iload hx hb dX3_read_30 (lv_at hl 0 rfl) ?_
  refine lv_sipush (v := 180) hx hb dX3_read_32 (by decide) ?_
  refine lv_icmp_gt (tgt := 77) hx hb dX3_read_35 (by decide) (fun h4 => absurd h4 (by decide)) (fun h4 => ?_)
  refine lv_aload_n hx hb dX3_read_38 rfl (lv_at hl 2 rfl) ?_
  refine be_v (free := va_A [(x1, .inr (3, [.ref x0, .int 0, .int 0, .int 0, .int 0, .int 0]))] H.size) (wc := [(x1, .inr (3, [.ref x0, .int 0, .int 0, .int 0, .int 0, .int 0]))]) (wr := [(x0, .inl (cI, 180, .inl zf)), (x11, .inr (0, [.int 0, .ref x12, .ref x13, .int 0, .ref x14, .ref x15, .int 0, .ref x16, .ref x17, .ref x18, .int 9, .int 0])), (x15, .inl (cI, 30, .inl zf))]) (ru_V (As := []) (rest := []) ⟨hx, hb, hml, hown, hts⟩ (c_R_step l D cI cB cZ cN x1 x0 H.size) gX3_read_X3_step rfl ⟨rfl, by decide, by decide, (show Option.map (fun d => d.parameters.length) (parseMethodDescriptor yX3_step.desc) = some 0 by decide +kernel)⟩ ⟨Nat.le_of_ble_eq_true rfl, Nat.le_of_ble_eq_true rfl⟩ hK hP hD 3 0 rfl rfl [0] (by decide) rfl hl.1 rfl (Nat.le_of_ble_eq_true rfl) dX3_read_39 ⟨Nat.le_of_ble_eq_true rfl, Nat.le_of_ble_eq_true rfl⟩) hP hD hS hA [0] [1, 2, 3] rfl rfl (by decide) (by decide) (fun u5 H locs w7 hP hD hS => ?_)
  have hP : va_P D vwCl [(x0, .inl (cI, 180, .inl zf)), (x11, .inr (0, [.int 0, .ref x12, .ref x13, .int 0, .ref x14, .ref x15, .int 0, .ref x16, .ref x17, .ref x18, .int 9, .int 0])), (x15, .inl (cI, 30, .inl zf)), (x1, .inr (3, [.ref x0, .int 0, .int 0, .int 0, .int 0, .int 0]))] H := hP
  have hD : va_D A [(x0, .inl (cI, 180, .inl zf)), (x11, .inr (0, [.int 0, .ref x12, .ref x13, .int 0, .ref x14, .ref x15, .int 0, .ref x16, .ref x17, .ref x18, .int 9, .int 0])), (x15, .inl (cI, 30, .inl zf)), (x1, .inr (3, [.ref x0, .int 0, .int 0, .int 0, .int 0, .int 0]))] := hD
  refine lv_aload_n hx hb dX3_read_42 rfl (lv_at hl 2 rfl) ?_
  refine va_get (D := D) (ci := 3) (v := .int 0) (C := RX3) (T := TX3) (N := 6) hx hb hts in_X3_read_3 hown hK.1 hP 3 rfl rfl 4 (by decide) (hts (.fieldLink RX3 25 "ChildCoins$Reader" "token" "I") (List.mem_of_getElem? (i := 8) rfl)) (fun _ h9 => h9) rfl dX3_read_43 ?_
  refine lv_if_ne (tgt := 52) hx hb dX3_read_46 (by decide) (fun h8 => absurd (by decide) h8) (fun h8 => ?_)
  refine lv_goto (tgt := 77) hx hb dX3_read_49 (by decide) ?_
  refine lv_iload hx hb dX3_read_77 (lv_at hl 1 rfl) ?_
  exact en_i hx hb hr hlk hP hD hS () [3, 0, 1, 2] (by decide) rfl (Nat.le_of_ble_eq_true rfl) (Nat.le_of_ble_eq_true rfl) dX3_read_79 rfl
theorem dX1_begin_0 : decode cX1_begin 0 = .ok (.aload_n 1, 1) := by decide +kernel
theorem dX1_begin_1 : decode cX1_begin 1 = .ok (.getfield 22, 3) := by decide +kernel
theorem in_X1_begin_0 : ∀ w ∈ wsX00, w ∈ wsX1_begin := fun w h => List.mem_cons_of_mem _ (List.mem_append_left _ (List.mem_append_right _ h))
theorem dX1_begin_4 : decode cX1_begin 4 = .ok (.iconst 0, 1) := by decide +kernel
theorem dX1_begin_5 : decode cX1_begin 5 = .ok (.aload_n 0, 1) := by decide +kernel
theorem dX1_begin_6 : decode cX1_begin 6 = .ok (.getfield 11, 3) := by decide +kernel
theorem in_X1_begin_1 : ∀ w ∈ wsX10, w ∈ wsX1_begin := fun w h => List.mem_cons_of_mem _ (List.mem_append_right _ h)
theorem dX1_begin_9 : decode cX1_begin 9 = .ok (.iconst 0, 1) := by decide +kernel
theorem dX1_begin_10 : decode cX1_begin 10 = .ok (.bipush 30, 2) := by decide +kernel
theorem dX1_begin_12 : decode cX1_begin 12 = .ok (.invokestatic 27, 3) := by decide +kernel
theorem dX1_begin_15 : decode cX1_begin 15 = .ok (.aload_n 1, 1) := by decide +kernel
theorem dX1_begin_16 : decode cX1_begin 16 = .ok (.getfield 33, 3) := by decide +kernel
theorem dX1_begin_19 : decode cX1_begin 19 = .ok (.iconst 0, 1) := by decide +kernel
theorem dX1_begin_20 : decode cX1_begin 20 = .ok (.aload_n 0, 1) := by decide +kernel
theorem dX1_begin_21 : decode cX1_begin 21 = .ok (.getfield 11, 3) := by decide +kernel
theorem dX1_begin_24 : decode cX1_begin 24 = .ok (.bipush 30, 2) := by decide +kernel
theorem dX1_begin_26 : decode cX1_begin 26 = .ok (.iconst 5, 1) := by decide +kernel
theorem dX1_begin_27 : decode cX1_begin 27 = .ok (.invokestatic 27, 3) := by decide +kernel
theorem dX1_begin_30 : decode cX1_begin 30 = .ok (.aload_n 0, 1) := by decide +kernel
theorem dX1_begin_31 : decode cX1_begin 31 = .ok (.getfield 11, 3) := by decide +kernel
theorem dX1_begin_34 : decode cX1_begin 34 = .ok (.bipush 35, 2) := by decide +kernel
theorem dX1_begin_36 : decode cX1_begin 36 = .ok (.iconst 1, 1) := by decide +kernel
theorem dX1_begin_37 : decode cX1_begin 37 = .ok (.aload_n 1, 1) := by decide +kernel
theorem dX1_begin_38 : decode cX1_begin 38 = .ok (.getfield 36, 3) := by decide +kernel
theorem dX1_begin_41 : decode cX1_begin 41 = .ok (.ishl, 1) := by decide +kernel
theorem dX1_begin_42 : decode cX1_begin 42 = .ok (.iconst 1, 1) := by decide +kernel
theorem dX1_begin_43 : decode cX1_begin 43 = .ok (.isub, 1) := by decide +kernel
theorem dX1_begin_44 : decode cX1_begin 44 = .ok (.iastore, 1) := by decide +kernel
theorem dX1_begin_45 : decode cX1_begin 45 = .ok (.aload_n 0, 1) := by decide +kernel
theorem dX1_begin_46 : decode cX1_begin 46 = .ok (.iconst 0, 1) := by decide +kernel
theorem dX1_begin_47 : decode cX1_begin 47 = .ok (.putfield 18, 3) := by decide +kernel
theorem dX1_begin_50 : decode cX1_begin 50 = .ok (.return_, 1) := by decide +kernel
set_option maxHeartbeats 4000000 in
set_option maxRecDepth 100000 in
theorem c_N_begin (l : Launch) (D : va_G) (cI cB cZ cN : ClassId) (x19 : Nat) (x20 : Nat) (x21 : Nat) (x11 : Nat) (x12 : Nat) (x13 : Nat) (x14 : Nat) (x15 : Nat) (x16 : Nat) (x17 : Nat) (x18 : Nat)  : Cv (S := Unit) l D cI cB cZ cN yX1_begin wsX1_begin ({ frames := 1, cells := 0, slots := 0, locals := 40 } : Room) [.ref x19, .ref x11] [(x19, .inr (1, [.ref x20, .ref x21, .int 0])), (x20, .inl (cI, 36, .inl zf)), (x11, .inr (0, [.int 0, .ref x12, .ref x13, .int 0, .ref x14, .ref x15, .int 0, .ref x16, .ref x17, .ref x18, .int 9, .int 0])), (x15, .inl (cI, 30, .inl zf)), (x17, .inl (cI, 5, .inl zf))] (fun _ => True) (fun u => []) := by
  refine bx_of (D := D) (cI := cI) (cB := cB) (cZ := cZ) (cN := cN) (y := yX1_begin) (wd := wsX1_begin) (rm := ({ frames := 1, cells := 0, slots := 0, locals := 40 } : Room)) (av := [.ref x19, .ref x11]) (wc := [(x19, .inr (1, [.ref x20, .ref x21, .int 0])), (x20, .inl (cI, 36, .inl zf)), (x11, .inr (0, [.int 0, .ref x12, .ref x13, .int 0, .ref x14, .ref x15, .int 0, .ref x16, .ref x17, .ref x18, .int 9, .int 0])), (x15, .inl (cI, 30, .inl zf)), (x17, .inl (cI, 5, .inl zf))]) (cc := cX1_begin) (maxL := 2) (ret := none) (Qc := fun _ A => va_Qv (S := Unit) (fun _ => True) (Aft D (fun (u : Unit) => []) A) A) (by decide) rfl (Nat.le_of_ble_eq_true rfl) ?_
  intro p e s m below meth c A H locs ⟨hx, hb, hr, hml, hown, hts, hlk, hnm⟩ hK hP hD hS hA ls hl
  have hl : lv_has ls 2 [(0, .ref x19), (1, .ref x11)] := hl
  have hown : s.vm.findClass RX1 = some m.cls := hown
  refine lv_aload_n hx hb dX1_begin_0 rfl (lv_at hl 1 rfl) ?_
  refine va_getN (D := D) (ci := 0) (v := .ref x15) (C := RX0) (T := TX0) (N := 12) hx hb hts in_X1_begin_0 hown hK.1 hP 2 rfl rfl 5 (by decide) (nfX1_22 hK.2) (fun _ h9 => h9) rfl dX1_begin_1 ?_
  refine lv_iconst (v := 0) hx hb dX1_begin_4 (by decide) ?_
  refine lv_aload_n hx hb dX1_begin_5 rfl (lv_at hl 0 rfl) ?_
  refine va_get (D := D) (ci := 1) (v := .ref x20) (C := RX1) (T := TX1) (N := 3) hx hb hts in_X1_begin_1 hown hK.1 hP 0 rfl rfl 0 (by decide) (hts (.fieldLink RX1 11 "ChildCoins$Now" "cells" "[I") (List.mem_of_getElem? (i := 1) rfl)) (fun _ h9 => h9) rfl dX1_begin_6 ?_
  refine lv_iconst (v := 0) hx hb dX1_begin_9 (by decide) ?_
  refine lv_bipush (v := 30) hx hb dX1_begin_10 (by decide) ?_
  refine va_copyi hx hb (hml.trans hl.1.symm) hown (hts (.methodLink RX1 27 arraycopyName) (List.mem_of_getElem? (i := 2) rfl)) (hts (.native arraycopyName) (List.mem_of_getElem? (i := 3) rfl)) (hts (.static arraycopyName) (List.mem_of_getElem? (i := 4) rfl)) (hts (.initialized "java/lang/System") (List.mem_of_getElem? (i := 5) rfl)) hK.1 hP hD hS 3 1 0 0 rfl rfl rfl rfl rfl (by decide) (by decide) (by decide) (by decide) (by decide) (fun i _ => rfl) (Nat.le_of_ble_eq_true rfl) (Nat.le_of_ble_eq_true rfl) dX1_begin_12 (fun H locs hP hD hS => ?_)
  have hP : va_P D vwCl [(x19, .inr (1, [.ref x20, .ref x21, .int 0])), (x20, .inl (cI, 36, .inl (va_cpy zf zf 0 0 30))), (x11, .inr (0, [.int 0, .ref x12, .ref x13, .int 0, .ref x14, .ref x15, .int 0, .ref x16, .ref x17, .ref x18, .int 9, .int 0])), (x15, .inl (cI, 30, .inl zf)), (x17, .inl (cI, 5, .inl zf))] H := hP
  have hD : va_D A [(x19, .inr (1, [.ref x20, .ref x21, .int 0])), (x20, .inl (cI, 36, .inl (va_cpy zf zf 0 0 30))), (x11, .inr (0, [.int 0, .ref x12, .ref x13, .int 0, .ref x14, .ref x15, .int 0, .ref x16, .ref x17, .ref x18, .int 9, .int 0])), (x15, .inl (cI, 30, .inl zf)), (x17, .inl (cI, 5, .inl zf))] := hD
  rw [cpz] at hP hD
  refine lv_aload_n hx hb dX1_begin_15 rfl (lv_at hl 1 rfl) ?_
  refine va_getN (D := D) (ci := 0) (v := .ref x17) (C := RX0) (T := TX0) (N := 12) hx hb hts in_X1_begin_0 hown hK.1 hP 2 rfl rfl 8 (by decide) (nfX1_33 hK.2) (fun _ h9 => h9) rfl dX1_begin_16 ?_
  refine lv_iconst (v := 0) hx hb dX1_begin_19 (by decide) ?_
  refine lv_aload_n hx hb dX1_begin_20 rfl (lv_at hl 0 rfl) ?_
  refine va_get (D := D) (ci := 1) (v := .ref x20) (C := RX1) (T := TX1) (N := 3) hx hb hts in_X1_begin_1 hown hK.1 hP 0 rfl rfl 0 (by decide) (hts (.fieldLink RX1 11 "ChildCoins$Now" "cells" "[I") (List.mem_of_getElem? (i := 1) rfl)) (fun _ h9 => h9) rfl dX1_begin_21 ?_
  refine lv_bipush (v := 30) hx hb dX1_begin_24 (by decide) ?_
  refine lv_iconst (v := 5) hx hb dX1_begin_26 (by decide) ?_
  refine va_copyi hx hb (hml.trans hl.1.symm) hown (hts (.methodLink RX1 27 arraycopyName) (List.mem_of_getElem? (i := 2) rfl)) (hts (.native arraycopyName) (List.mem_of_getElem? (i := 3) rfl)) (hts (.static arraycopyName) (List.mem_of_getElem? (i := 4) rfl)) (hts (.initialized "java/lang/System") (List.mem_of_getElem? (i := 5) rfl)) hK.1 hP hD hS 4 1 0 0 rfl rfl rfl rfl rfl (by decide) (by decide) (by decide) (by decide) (by decide) (fun i _ => rfl) (Nat.le_of_ble_eq_true rfl) (Nat.le_of_ble_eq_true rfl) dX1_begin_27 (fun H locs hP hD hS => ?_)
  have hP : va_P D vwCl [(x19, .inr (1, [.ref x20, .ref x21, .int 0])), (x20, .inl (cI, 36, .inl (va_cpy zf zf 0 30 5))), (x11, .inr (0, [.int 0, .ref x12, .ref x13, .int 0, .ref x14, .ref x15, .int 0, .ref x16, .ref x17, .ref x18, .int 9, .int 0])), (x15, .inl (cI, 30, .inl zf)), (x17, .inl (cI, 5, .inl zf))] H := hP
  have hD : va_D A [(x19, .inr (1, [.ref x20, .ref x21, .int 0])), (x20, .inl (cI, 36, .inl (va_cpy zf zf 0 30 5))), (x11, .inr (0, [.int 0, .ref x12, .ref x13, .int 0, .ref x14, .ref x15, .int 0, .ref x16, .ref x17, .ref x18, .int 9, .int 0])), (x15, .inl (cI, 30, .inl zf)), (x17, .inl (cI, 5, .inl zf))] := hD
  rw [cpz] at hP hD
  refine lv_aload_n hx hb dX1_begin_30 rfl (lv_at hl 0 rfl) ?_
  refine va_get (D := D) (ci := 1) (v := .ref x20) (C := RX1) (T := TX1) (N := 3) hx hb hts in_X1_begin_1 hown hK.1 hP 0 rfl rfl 0 (by decide) (hts (.fieldLink RX1 11 "ChildCoins$Now" "cells" "[I") (List.mem_of_getElem? (i := 1) rfl)) (fun _ h9 => h9) rfl dX1_begin_31 ?_
  refine lv_bipush (v := 35) hx hb dX1_begin_34 (by decide) ?_
  refine lv_iconst (v := 1) hx hb dX1_begin_36 (by decide) ?_
  refine lv_aload_n hx hb dX1_begin_37 rfl (lv_at hl 1 rfl) ?_
  refine va_getN (D := D) (ci := 0) (v := .int 0) (C := RX0) (T := TX0) (N := 12) hx hb hts in_X1_begin_0 hown hK.1 hP 2 rfl rfl 6 (by decide) (nfX1_36 hK.2) (fun _ h9 => h9) rfl dX1_begin_38 ?_
  refine lv_ishl hx hb dX1_begin_41 ?_
  refine set_i (y := 1) (by decide) ?_
  refine lv_iconst (v := 1) hx hb dX1_begin_42 (by decide) ?_
  refine lv_isub hx hb dX1_begin_43 ?_
  refine set_i (y := 0) (by decide) ?_
  refine va_iast hx hb hK.1 hP hD hS 1 0 rfl rfl (vp_in_nI (n := 35) (N := 36) (by decide) (by decide)) dX1_begin_44 (fun H locs hP hD hS => ?_)
  have hP : va_P D vwCl [(x19, .inr (1, [.ref x20, .ref x21, .int 0])), (x20, .inl (cI, 36, .inl (upd zf 35 0))), (x11, .inr (0, [.int 0, .ref x12, .ref x13, .int 0, .ref x14, .ref x15, .int 0, .ref x16, .ref x17, .ref x18, .int 9, .int 0])), (x15, .inl (cI, 30, .inl zf)), (x17, .inl (cI, 5, .inl zf))] H := hP
  have hD : va_D A [(x19, .inr (1, [.ref x20, .ref x21, .int 0])), (x20, .inl (cI, 36, .inl (upd zf 35 0))), (x11, .inr (0, [.int 0, .ref x12, .ref x13, .int 0, .ref x14, .ref x15, .int 0, .ref x16, .ref x17, .ref x18, .int 9, .int 0])), (x15, .inl (cI, 30, .inl zf)), (x17, .inl (cI, 5, .inl zf))] := hD
  rw [upz] at hP hD
  refine lv_aload_n hx hb dX1_begin_45 rfl (lv_at hl 0 rfl) ?_
  refine lv_iconst (v := 0) hx hb dX1_begin_46 (by decide) ?_
  refine va_put (D := D) (ci := 1) (v := .int 0) (ty := tyX1 2) (C := RX1) (T := TX1) (N := 3) hx hb hts in_X1_begin_1 tyX1 tyX1_ok nmX1 hown hK.1 hP hD hS 0 rfl rfl 2 (by decide) (hts (.fieldLink RX1 18 "ChildCoins$Now" "known" "I") (List.mem_of_getElem? (i := 6) rfl)) (fun _ h9 => h9) rfl (tyX1_ok 2 (by decide)) rfl rfl (Nat.le_of_ble_eq_true rfl) dX1_begin_47 (fun H locs hP hD hS => ?_)
  have hP : va_P D vwCl [(x19, .inr (1, [.ref x20, .ref x21, .int 0])), (x20, .inl (cI, 36, .inl zf)), (x11, .inr (0, [.int 0, .ref x12, .ref x13, .int 0, .ref x14, .ref x15, .int 0, .ref x16, .ref x17, .ref x18, .int 9, .int 0])), (x15, .inl (cI, 30, .inl zf)), (x17, .inl (cI, 5, .inl zf))] H := hP
  have hD : va_D A [(x19, .inr (1, [.ref x20, .ref x21, .int 0])), (x20, .inl (cI, 36, .inl zf)), (x11, .inr (0, [.int 0, .ref x12, .ref x13, .int 0, .ref x14, .ref x15, .int 0, .ref x16, .ref x17, .ref x18, .int 9, .int 0])), (x15, .inl (cI, 30, .inl zf)), (x17, .inl (cI, 5, .inl zf))] := hD
  exact en_v hx hb hr hlk hP hD hS () [] (by decide) rfl (Nat.le_of_ble_eq_true rfl) (Nat.le_of_ble_eq_true rfl) dX1_begin_50 trivial
theorem dX1_become_0 : decode cX1_become 0 = .ok (.aload_n 1, 1) := by decide +kernel
theorem dX1_become_1 : decode cX1_become 1 = .ok (.getfield 11, 3) := by decide +kernel
theorem in_X1_become_1 : ∀ w ∈ wsX10, w ∈ wsX1_become := fun w h => List.mem_cons_of_mem _ (List.mem_append_right _ h)
theorem dX1_become_4 : decode cX1_become 4 = .ok (.iconst 0, 1) := by decide +kernel
theorem dX1_become_5 : decode cX1_become 5 = .ok (.aload_n 0, 1) := by decide +kernel
theorem dX1_become_6 : decode cX1_become 6 = .ok (.getfield 11, 3) := by decide +kernel
theorem dX1_become_9 : decode cX1_become 9 = .ok (.iconst 0, 1) := by decide +kernel
theorem dX1_become_10 : decode cX1_become 10 = .ok (.bipush 36, 2) := by decide +kernel
theorem dX1_become_12 : decode cX1_become 12 = .ok (.invokestatic 27, 3) := by decide +kernel
theorem dX1_become_15 : decode cX1_become 15 = .ok (.aload_n 1, 1) := by decide +kernel
theorem dX1_become_16 : decode cX1_become 16 = .ok (.getfield 15, 3) := by decide +kernel
theorem dX1_become_19 : decode cX1_become 19 = .ok (.iconst 0, 1) := by decide +kernel
theorem dX1_become_20 : decode cX1_become 20 = .ok (.aload_n 0, 1) := by decide +kernel
theorem dX1_become_21 : decode cX1_become 21 = .ok (.getfield 15, 3) := by decide +kernel
theorem dX1_become_24 : decode cX1_become 24 = .ok (.iconst 0, 1) := by decide +kernel
theorem dX1_become_25 : decode cX1_become 25 = .ok (.aload_n 0, 1) := by decide +kernel
theorem dX1_become_26 : decode cX1_become 26 = .ok (.getfield 15, 3) := by decide +kernel
theorem dX1_become_29 : decode cX1_become 29 = .ok (.arraylength, 1) := by decide +kernel
theorem dX1_become_30 : decode cX1_become 30 = .ok (.invokestatic 27, 3) := by decide +kernel
theorem dX1_become_33 : decode cX1_become 33 = .ok (.aload_n 0, 1) := by decide +kernel
theorem dX1_become_34 : decode cX1_become 34 = .ok (.aload_n 1, 1) := by decide +kernel
theorem dX1_become_35 : decode cX1_become 35 = .ok (.getfield 18, 3) := by decide +kernel
theorem dX1_become_38 : decode cX1_become 38 = .ok (.putfield 18, 3) := by decide +kernel
theorem dX1_become_41 : decode cX1_become 41 = .ok (.return_, 1) := by decide +kernel
set_option maxHeartbeats 4000000 in
set_option maxRecDepth 100000 in
theorem c_N_become (l : Launch) (D : va_G) (cI cB cZ cN : ClassId) (x23 : Nat) (x24 : Nat) (x25 : Nat) (x19 : Nat) (x20 : Nat) (x21 : Nat)  : Cv (S := Unit) l D cI cB cZ cN yX1_become wsX1_become ({ frames := 1, cells := 0, slots := 0, locals := 40 } : Room) [.ref x23, .ref x19] [(x23, .inr (1, [.ref x24, .ref x25, .int 0])), (x24, .inl (cI, 36, .inl zf)), (x25, .inl (cI, 360, .inl zf)), (x19, .inr (1, [.ref x20, .ref x21, .int 0])), (x20, .inl (cI, 36, .inl zf)), (x21, .inl (cI, 360, .inl zf))] (fun _ => True) (fun u => [(x23, .inr (1, [.ref x24, .ref x25, .int 0])), (x24, .inl (cI, 36, .inl zf)), (x25, .inl (cI, 360, .inl zf)), (x19, .inr (1, [.ref x20, .ref x21, .int 0])), (x20, .inl (cI, 36, .inl zf)), (x21, .inl (cI, 360, .inl zf))]) := by
  refine bx_of (D := D) (cI := cI) (cB := cB) (cZ := cZ) (cN := cN) (y := yX1_become) (wd := wsX1_become) (rm := ({ frames := 1, cells := 0, slots := 0, locals := 40 } : Room)) (av := [.ref x23, .ref x19]) (wc := [(x23, .inr (1, [.ref x24, .ref x25, .int 0])), (x24, .inl (cI, 36, .inl zf)), (x25, .inl (cI, 360, .inl zf)), (x19, .inr (1, [.ref x20, .ref x21, .int 0])), (x20, .inl (cI, 36, .inl zf)), (x21, .inl (cI, 360, .inl zf))]) (cc := cX1_become) (maxL := 2) (ret := none) (Qc := fun _ A => va_Qv (S := Unit) (fun _ => True) (Aft D (fun (u : Unit) => [(x23, .inr (1, [.ref x24, .ref x25, .int 0])), (x24, .inl (cI, 36, .inl zf)), (x25, .inl (cI, 360, .inl zf)), (x19, .inr (1, [.ref x20, .ref x21, .int 0])), (x20, .inl (cI, 36, .inl zf)), (x21, .inl (cI, 360, .inl zf))]) A) A) (by decide) rfl (Nat.le_of_ble_eq_true rfl) ?_
  intro p e s m below meth c A H locs ⟨hx, hb, hr, hml, hown, hts, hlk, hnm⟩ hK hP hD hS hA ls hl
  have hl : lv_has ls 2 [(0, .ref x23), (1, .ref x19)] := hl
  have hown : s.vm.findClass RX1 = some m.cls := hown
  refine lv_aload_n hx hb dX1_become_0 rfl (lv_at hl 1 rfl) ?_
  refine va_get (D := D) (ci := 1) (v := .ref x20) (C := RX1) (T := TX1) (N := 3) hx hb hts in_X1_become_1 hown hK.1 hP 3 rfl rfl 0 (by decide) (hts (.fieldLink RX1 11 "ChildCoins$Now" "cells" "[I") (List.mem_of_getElem? (i := 1) rfl)) (fun _ h9 => h9) rfl dX1_become_1 ?_
  refine lv_iconst (v := 0) hx hb dX1_become_4 (by decide) ?_
  refine lv_aload_n hx hb dX1_become_5 rfl (lv_at hl 0 rfl) ?_
  refine va_get (D := D) (ci := 1) (v := .ref x24) (C := RX1) (T := TX1) (N := 3) hx hb hts in_X1_become_1 hown hK.1 hP 0 rfl rfl 0 (by decide) (hts (.fieldLink RX1 11 "ChildCoins$Now" "cells" "[I") (List.mem_of_getElem? (i := 1) rfl)) (fun _ h9 => h9) rfl dX1_become_6 ?_
  refine lv_iconst (v := 0) hx hb dX1_become_9 (by decide) ?_
  refine lv_bipush (v := 36) hx hb dX1_become_10 (by decide) ?_
  refine va_copyi hx hb (hml.trans hl.1.symm) hown (hts (.methodLink RX1 27 arraycopyName) (List.mem_of_getElem? (i := 2) rfl)) (hts (.native arraycopyName) (List.mem_of_getElem? (i := 3) rfl)) (hts (.static arraycopyName) (List.mem_of_getElem? (i := 4) rfl)) (hts (.initialized "java/lang/System") (List.mem_of_getElem? (i := 5) rfl)) hK.1 hP hD hS 4 1 0 0 rfl rfl rfl rfl rfl (by decide) (by decide) (by decide) (by decide) (by decide) (fun i _ => rfl) (Nat.le_of_ble_eq_true rfl) (Nat.le_of_ble_eq_true rfl) dX1_become_12 (fun H locs hP hD hS => ?_)
  have hP : va_P D vwCl [(x23, .inr (1, [.ref x24, .ref x25, .int 0])), (x24, .inl (cI, 36, .inl (va_cpy zf zf 0 0 36))), (x25, .inl (cI, 360, .inl zf)), (x19, .inr (1, [.ref x20, .ref x21, .int 0])), (x20, .inl (cI, 36, .inl zf)), (x21, .inl (cI, 360, .inl zf))] H := hP
  have hD : va_D A [(x23, .inr (1, [.ref x24, .ref x25, .int 0])), (x24, .inl (cI, 36, .inl (va_cpy zf zf 0 0 36))), (x25, .inl (cI, 360, .inl zf)), (x19, .inr (1, [.ref x20, .ref x21, .int 0])), (x20, .inl (cI, 36, .inl zf)), (x21, .inl (cI, 360, .inl zf))] := hD
  rw [cpz] at hP hD
  refine lv_aload_n hx hb dX1_become_15 rfl (lv_at hl 1 rfl) ?_
  refine va_get (D := D) (ci := 1) (v := .ref x21) (C := RX1) (T := TX1) (N := 3) hx hb hts in_X1_become_1 hown hK.1 hP 3 rfl rfl 1 (by decide) (hts (.fieldLink RX1 15 "ChildCoins$Now" "past" "[I") (List.mem_of_getElem? (i := 6) rfl)) (fun _ h9 => h9) rfl dX1_become_16 ?_
  refine lv_iconst (v := 0) hx hb dX1_become_19 (by decide) ?_
  refine lv_aload_n hx hb dX1_become_20 rfl (lv_at hl 0 rfl) ?_
  refine va_get (D := D) (ci := 1) (v := .ref x25) (C := RX1) (T := TX1) (N := 3) hx hb hts in_X1_become_1 hown hK.1 hP 0 rfl rfl 1 (by decide) (hts (.fieldLink RX1 15 "ChildCoins$Now" "past" "[I") (List.mem_of_getElem? (i := 6) rfl)) (fun _ h9 => h9) rfl dX1_become_21 ?_
  refine lv_iconst (v := 0) hx hb dX1_become_24 (by decide) ?_
  refine lv_aload_n hx hb dX1_become_25 rfl (lv_at hl 0 rfl) ?_
  refine va_get (D := D) (ci := 1) (v := .ref x25) (C := RX1) (T := TX1) (N := 3) hx hb hts in_X1_become_1 hown hK.1 hP 0 rfl rfl 1 (by decide) (hts (.fieldLink RX1 15 "ChildCoins$Now" "past" "[I") (List.mem_of_getElem? (i := 6) rfl)) (fun _ h9 => h9) rfl dX1_become_26 ?_
  refine va_alen hx hb hK.1 hP 2 0 rfl rfl (v := 360) rfl dX1_become_29 ?_
  refine va_copyi hx hb (hml.trans hl.1.symm) hown (hts (.methodLink RX1 27 arraycopyName) (List.mem_of_getElem? (i := 2) rfl)) (hts (.native arraycopyName) (List.mem_of_getElem? (i := 3) rfl)) (hts (.static arraycopyName) (List.mem_of_getElem? (i := 4) rfl)) (hts (.initialized "java/lang/System") (List.mem_of_getElem? (i := 5) rfl)) hK.1 hP hD hS 5 2 0 0 rfl rfl rfl rfl rfl (by decide) (by decide) (by decide) (by decide) (by decide) (fun i _ => rfl) (Nat.le_of_ble_eq_true rfl) (Nat.le_of_ble_eq_true rfl) dX1_become_30 (fun H locs hP hD hS => ?_)
  have hP : va_P D vwCl [(x23, .inr (1, [.ref x24, .ref x25, .int 0])), (x24, .inl (cI, 36, .inl zf)), (x25, .inl (cI, 360, .inl (va_cpy zf zf 0 0 360))), (x19, .inr (1, [.ref x20, .ref x21, .int 0])), (x20, .inl (cI, 36, .inl zf)), (x21, .inl (cI, 360, .inl zf))] H := hP
  have hD : va_D A [(x23, .inr (1, [.ref x24, .ref x25, .int 0])), (x24, .inl (cI, 36, .inl zf)), (x25, .inl (cI, 360, .inl (va_cpy zf zf 0 0 360))), (x19, .inr (1, [.ref x20, .ref x21, .int 0])), (x20, .inl (cI, 36, .inl zf)), (x21, .inl (cI, 360, .inl zf))] := hD
  rw [cpz] at hP hD
  refine lv_aload_n hx hb dX1_become_33 rfl (lv_at hl 0 rfl) ?_
  refine lv_aload_n hx hb dX1_become_34 rfl (lv_at hl 1 rfl) ?_
  refine va_get (D := D) (ci := 1) (v := .int 0) (C := RX1) (T := TX1) (N := 3) hx hb hts in_X1_become_1 hown hK.1 hP 3 rfl rfl 2 (by decide) (hts (.fieldLink RX1 18 "ChildCoins$Now" "known" "I") (List.mem_of_getElem? (i := 7) rfl)) (fun _ h9 => h9) rfl dX1_become_35 ?_
  refine va_put (D := D) (ci := 1) (v := .int 0) (ty := tyX1 2) (C := RX1) (T := TX1) (N := 3) hx hb hts in_X1_become_1 tyX1 tyX1_ok nmX1 hown hK.1 hP hD hS 0 rfl rfl 2 (by decide) (hts (.fieldLink RX1 18 "ChildCoins$Now" "known" "I") (List.mem_of_getElem? (i := 7) rfl)) (fun _ h9 => h9) rfl (tyX1_ok 2 (by decide)) rfl rfl (Nat.le_of_ble_eq_true rfl) dX1_become_38 (fun H locs hP hD hS => ?_)
  have hP : va_P D vwCl [(x23, .inr (1, [.ref x24, .ref x25, .int 0])), (x24, .inl (cI, 36, .inl zf)), (x25, .inl (cI, 360, .inl zf)), (x19, .inr (1, [.ref x20, .ref x21, .int 0])), (x20, .inl (cI, 36, .inl zf)), (x21, .inl (cI, 360, .inl zf))] H := hP
  have hD : va_D A [(x23, .inr (1, [.ref x24, .ref x25, .int 0])), (x24, .inl (cI, 36, .inl zf)), (x25, .inl (cI, 360, .inl zf)), (x19, .inr (1, [.ref x20, .ref x21, .int 0])), (x20, .inl (cI, 36, .inl zf)), (x21, .inl (cI, 360, .inl zf))] := hD
  exact en_v hx hb hr hlk hP hD hS () [0, 1, 2, 3, 4, 5] (by decide) rfl (Nat.le_of_ble_eq_true rfl) (Nat.le_of_ble_eq_true rfl) dX1_become_41 trivial
theorem dX1_becomeAnew_0 : decode cX1_becomeAnew 0 = .ok (.aload_n 1, 1) := by decide +kernel
theorem dX1_becomeAnew_1 : decode cX1_becomeAnew 1 = .ok (.getfield 11, 3) := by decide +kernel
theorem in_X1_becomeAnew_1 : ∀ w ∈ wsX10, w ∈ wsX1_becomeAnew := fun w h => List.mem_cons_of_mem _ (List.mem_append_right _ h)
theorem dX1_becomeAnew_4 : decode cX1_becomeAnew 4 = .ok (.iconst 0, 1) := by decide +kernel
theorem dX1_becomeAnew_5 : decode cX1_becomeAnew 5 = .ok (.aload_n 0, 1) := by decide +kernel
theorem dX1_becomeAnew_6 : decode cX1_becomeAnew 6 = .ok (.getfield 11, 3) := by decide +kernel
theorem dX1_becomeAnew_9 : decode cX1_becomeAnew 9 = .ok (.iconst 0, 1) := by decide +kernel
theorem dX1_becomeAnew_10 : decode cX1_becomeAnew 10 = .ok (.bipush 36, 2) := by decide +kernel
theorem dX1_becomeAnew_12 : decode cX1_becomeAnew 12 = .ok (.invokestatic 27, 3) := by decide +kernel
theorem dX1_becomeAnew_15 : decode cX1_becomeAnew 15 = .ok (.aload_n 0, 1) := by decide +kernel
theorem dX1_becomeAnew_16 : decode cX1_becomeAnew 16 = .ok (.iconst 0, 1) := by decide +kernel
theorem dX1_becomeAnew_17 : decode cX1_becomeAnew 17 = .ok (.putfield 18, 3) := by decide +kernel
theorem dX1_becomeAnew_20 : decode cX1_becomeAnew 20 = .ok (.return_, 1) := by decide +kernel
set_option maxHeartbeats 4000000 in
set_option maxRecDepth 100000 in
theorem c_N_becomeAnew (l : Launch) (D : va_G) (cI cB cZ cN : ClassId) (x37 : Nat) (x40 : Nat) (x41 : Nat) (x19 : Nat) (x20 : Nat) (x21 : Nat)  : Cv (S := Unit) l D cI cB cZ cN yX1_becomeAnew wsX1_becomeAnew ({ frames := 1, cells := 0, slots := 0, locals := 40 } : Room) [.ref x37, .ref x19] [(x37, .inr (1, [.ref x40, .ref x41, .int 0])), (x40, .inl (cI, 36, .inl zf)), (x19, .inr (1, [.ref x20, .ref x21, .int 0])), (x20, .inl (cI, 36, .inl zf))] (fun _ => True) (fun u => [(x37, .inr (1, [.ref x40, .ref x41, .int 0])), (x40, .inl (cI, 36, .inl zf)), (x19, .inr (1, [.ref x20, .ref x21, .int 0])), (x20, .inl (cI, 36, .inl zf))]) := by
  refine bx_of (D := D) (cI := cI) (cB := cB) (cZ := cZ) (cN := cN) (y := yX1_becomeAnew) (wd := wsX1_becomeAnew) (rm := ({ frames := 1, cells := 0, slots := 0, locals := 40 } : Room)) (av := [.ref x37, .ref x19]) (wc := [(x37, .inr (1, [.ref x40, .ref x41, .int 0])), (x40, .inl (cI, 36, .inl zf)), (x19, .inr (1, [.ref x20, .ref x21, .int 0])), (x20, .inl (cI, 36, .inl zf))]) (cc := cX1_becomeAnew) (maxL := 2) (ret := none) (Qc := fun _ A => va_Qv (S := Unit) (fun _ => True) (Aft D (fun (u : Unit) => [(x37, .inr (1, [.ref x40, .ref x41, .int 0])), (x40, .inl (cI, 36, .inl zf)), (x19, .inr (1, [.ref x20, .ref x21, .int 0])), (x20, .inl (cI, 36, .inl zf))]) A) A) (by decide) rfl (Nat.le_of_ble_eq_true rfl) ?_
  intro p e s m below meth c A H locs ⟨hx, hb, hr, hml, hown, hts, hlk, hnm⟩ hK hP hD hS hA ls hl
  have hl : lv_has ls 2 [(0, .ref x37), (1, .ref x19)] := hl
  have hown : s.vm.findClass RX1 = some m.cls := hown
  refine lv_aload_n hx hb dX1_becomeAnew_0 rfl (lv_at hl 1 rfl) ?_
  refine va_get (D := D) (ci := 1) (v := .ref x20) (C := RX1) (T := TX1) (N := 3) hx hb hts in_X1_becomeAnew_1 hown hK.1 hP 2 rfl rfl 0 (by decide) (hts (.fieldLink RX1 11 "ChildCoins$Now" "cells" "[I") (List.mem_of_getElem? (i := 1) rfl)) (fun _ h9 => h9) rfl dX1_becomeAnew_1 ?_
  refine lv_iconst (v := 0) hx hb dX1_becomeAnew_4 (by decide) ?_
  refine lv_aload_n hx hb dX1_becomeAnew_5 rfl (lv_at hl 0 rfl) ?_
  refine va_get (D := D) (ci := 1) (v := .ref x40) (C := RX1) (T := TX1) (N := 3) hx hb hts in_X1_becomeAnew_1 hown hK.1 hP 0 rfl rfl 0 (by decide) (hts (.fieldLink RX1 11 "ChildCoins$Now" "cells" "[I") (List.mem_of_getElem? (i := 1) rfl)) (fun _ h9 => h9) rfl dX1_becomeAnew_6 ?_
  refine lv_iconst (v := 0) hx hb dX1_becomeAnew_9 (by decide) ?_
  refine lv_bipush (v := 36) hx hb dX1_becomeAnew_10 (by decide) ?_
  refine va_copyi hx hb (hml.trans hl.1.symm) hown (hts (.methodLink RX1 27 arraycopyName) (List.mem_of_getElem? (i := 2) rfl)) (hts (.native arraycopyName) (List.mem_of_getElem? (i := 3) rfl)) (hts (.static arraycopyName) (List.mem_of_getElem? (i := 4) rfl)) (hts (.initialized "java/lang/System") (List.mem_of_getElem? (i := 5) rfl)) hK.1 hP hD hS 3 1 0 0 rfl rfl rfl rfl rfl (by decide) (by decide) (by decide) (by decide) (by decide) (fun i _ => rfl) (Nat.le_of_ble_eq_true rfl) (Nat.le_of_ble_eq_true rfl) dX1_becomeAnew_12 (fun H locs hP hD hS => ?_)
  have hP : va_P D vwCl [(x37, .inr (1, [.ref x40, .ref x41, .int 0])), (x40, .inl (cI, 36, .inl (va_cpy zf zf 0 0 36))), (x19, .inr (1, [.ref x20, .ref x21, .int 0])), (x20, .inl (cI, 36, .inl zf))] H := hP
  have hD : va_D A [(x37, .inr (1, [.ref x40, .ref x41, .int 0])), (x40, .inl (cI, 36, .inl (va_cpy zf zf 0 0 36))), (x19, .inr (1, [.ref x20, .ref x21, .int 0])), (x20, .inl (cI, 36, .inl zf))] := hD
  rw [cpz] at hP hD
  refine lv_aload_n hx hb dX1_becomeAnew_15 rfl (lv_at hl 0 rfl) ?_
  refine lv_iconst (v := 0) hx hb dX1_becomeAnew_16 (by decide) ?_
  refine va_put (D := D) (ci := 1) (v := .int 0) (ty := tyX1 2) (C := RX1) (T := TX1) (N := 3) hx hb hts in_X1_becomeAnew_1 tyX1 tyX1_ok nmX1 hown hK.1 hP hD hS 0 rfl rfl 2 (by decide) (hts (.fieldLink RX1 18 "ChildCoins$Now" "known" "I") (List.mem_of_getElem? (i := 6) rfl)) (fun _ h9 => h9) rfl (tyX1_ok 2 (by decide)) rfl rfl (Nat.le_of_ble_eq_true rfl) dX1_becomeAnew_17 (fun H locs hP hD hS => ?_)
  have hP : va_P D vwCl [(x37, .inr (1, [.ref x40, .ref x41, .int 0])), (x40, .inl (cI, 36, .inl zf)), (x19, .inr (1, [.ref x20, .ref x21, .int 0])), (x20, .inl (cI, 36, .inl zf))] H := hP
  have hD : va_D A [(x37, .inr (1, [.ref x40, .ref x41, .int 0])), (x40, .inl (cI, 36, .inl zf)), (x19, .inr (1, [.ref x20, .ref x21, .int 0])), (x20, .inl (cI, 36, .inl zf))] := hD
  exact en_v hx hb hr hlk hP hD hS () [0, 1, 2, 3] (by decide) rfl (Nat.le_of_ble_eq_true rfl) (Nat.le_of_ble_eq_true rfl) dX1_becomeAnew_20 trivial
theorem dX1_openBits_0 : decode cX1_openBits 0 = .ok (.aload_n 0, 1) := by decide +kernel
theorem dX1_openBits_1 : decode cX1_openBits 1 = .ok (.getfield 11, 3) := by decide +kernel
theorem in_X1_openBits_1 : ∀ w ∈ wsX10, w ∈ wsX1_openBits := fun w h => List.mem_cons_of_mem _ (List.mem_append_right _ h)
theorem dX1_openBits_4 : decode cX1_openBits 4 = .ok (.bipush 35, 2) := by decide +kernel
theorem dX1_openBits_6 : decode cX1_openBits 6 = .ok (.iaload, 1) := by decide +kernel
theorem dX1_openBits_7 : decode cX1_openBits 7 = .ok (.ireturn, 1) := by decide +kernel
set_option maxHeartbeats 4000000 in
set_option maxRecDepth 100000 in
theorem c_N_openBits (l : Launch) (D : va_G) (cI cB cZ cN : ClassId) (x19 : Nat) (x20 : Nat) (x21 : Nat)  : Ci (S := Unit) l D cI cB cZ cN yX1_openBits wsX1_openBits ({ frames := 0, cells := 0, slots := 0, locals := 0 } : Room) [.ref x19] [(x19, .inr (1, [.ref x20, .ref x21, .int 0])), (x20, .inl (cI, 36, .inl zf))] (fun (r : Int32) (_ : Unit) => r = 0) (fun u => [(x19, .inr (1, [.ref x20, .ref x21, .int 0])), (x20, .inl (cI, 36, .inl zf))]) := by
  refine bx_of (D := D) (cI := cI) (cB := cB) (cZ := cZ) (cN := cN) (y := yX1_openBits) (wd := wsX1_openBits) (rm := ({ frames := 0, cells := 0, slots := 0, locals := 0 } : Room)) (av := [.ref x19]) (wc := [(x19, .inr (1, [.ref x20, .ref x21, .int 0])), (x20, .inl (cI, 36, .inl zf))]) (cc := cX1_openBits) (maxL := 1) (ret := (some .int)) (Qc := fun _ A => va_Qi (S := Unit) (fun (r : Int32) (_ : Unit) => r = 0) (Aft D (fun (u : Unit) => [(x19, .inr (1, [.ref x20, .ref x21, .int 0])), (x20, .inl (cI, 36, .inl zf))]) A) A) (by decide) rfl (Nat.le_of_ble_eq_true rfl) ?_
  intro p e s m below meth c A H locs ⟨hx, hb, hr, hml, hown, hts, hlk, hnm⟩ hK hP hD hS hA ls hl
  have hl : lv_has ls 1 [(0, .ref x19)] := hl
  have hown : s.vm.findClass RX1 = some m.cls := hown
  refine lv_aload_n hx hb dX1_openBits_0 rfl (lv_at hl 0 rfl) ?_
  refine va_get (D := D) (ci := 1) (v := .ref x20) (C := RX1) (T := TX1) (N := 3) hx hb hts in_X1_openBits_1 hown hK.1 hP 0 rfl rfl 0 (by decide) (hts (.fieldLink RX1 11 "ChildCoins$Now" "cells" "[I") (List.mem_of_getElem? (i := 1) rfl)) (fun _ h9 => h9) rfl dX1_openBits_1 ?_
  refine lv_bipush (v := 35) hx hb dX1_openBits_4 (by decide) ?_
  refine va_iald hx hb hK.1 hP 1 0 rfl rfl (vp_in_nI (n := 35) (N := 36) (by decide) (by decide)) dX1_openBits_6 ?_
  refine set_i (y := 0) rfl ?_
  exact en_i hx hb hr hlk hP hD hS () [0, 1] (by decide) rfl (Nat.le_of_ble_eq_true rfl) (Nat.le_of_ble_eq_true rfl) dX1_openBits_7 rfl
theorem dJ6_bitCount_0f7a4_0 : decode cJ6_bitCount_0f7a4 0 = .ok (.iload_n 0, 1) := by decide +kernel
theorem dJ6_bitCount_0f7a4_1 : decode cJ6_bitCount_0f7a4 1 = .ok (.iload_n 0, 1) := by decide +kernel
theorem dJ6_bitCount_0f7a4_2 : decode cJ6_bitCount_0f7a4 2 = .ok (.iconst 1, 1) := by decide +kernel
theorem dJ6_bitCount_0f7a4_3 : decode cJ6_bitCount_0f7a4 3 = .ok (.iushr, 1) := by decide +kernel
theorem dJ6_bitCount_0f7a4_4 : decode cJ6_bitCount_0f7a4 4 = .ok (.ldc_w 265, 3) := by decide +kernel
theorem dJ6_bitCount_0f7a4_7 : decode cJ6_bitCount_0f7a4 7 = .ok (.iand, 1) := by decide +kernel
theorem dJ6_bitCount_0f7a4_8 : decode cJ6_bitCount_0f7a4 8 = .ok (.isub, 1) := by decide +kernel
theorem dJ6_bitCount_0f7a4_9 : decode cJ6_bitCount_0f7a4 9 = .ok (.istore_n 0, 1) := by decide +kernel
theorem dJ6_bitCount_0f7a4_10 : decode cJ6_bitCount_0f7a4 10 = .ok (.iload_n 0, 1) := by decide +kernel
theorem dJ6_bitCount_0f7a4_11 : decode cJ6_bitCount_0f7a4 11 = .ok (.ldc_w 266, 3) := by decide +kernel
theorem dJ6_bitCount_0f7a4_14 : decode cJ6_bitCount_0f7a4 14 = .ok (.iand, 1) := by decide +kernel
theorem dJ6_bitCount_0f7a4_15 : decode cJ6_bitCount_0f7a4 15 = .ok (.iload_n 0, 1) := by decide +kernel
theorem dJ6_bitCount_0f7a4_16 : decode cJ6_bitCount_0f7a4 16 = .ok (.iconst 2, 1) := by decide +kernel
theorem dJ6_bitCount_0f7a4_17 : decode cJ6_bitCount_0f7a4 17 = .ok (.iushr, 1) := by decide +kernel
theorem dJ6_bitCount_0f7a4_18 : decode cJ6_bitCount_0f7a4 18 = .ok (.ldc_w 266, 3) := by decide +kernel
theorem dJ6_bitCount_0f7a4_21 : decode cJ6_bitCount_0f7a4 21 = .ok (.iand, 1) := by decide +kernel
theorem dJ6_bitCount_0f7a4_22 : decode cJ6_bitCount_0f7a4 22 = .ok (.iadd, 1) := by decide +kernel
theorem dJ6_bitCount_0f7a4_23 : decode cJ6_bitCount_0f7a4 23 = .ok (.istore_n 0, 1) := by decide +kernel
theorem dJ6_bitCount_0f7a4_24 : decode cJ6_bitCount_0f7a4 24 = .ok (.iload_n 0, 1) := by decide +kernel
theorem dJ6_bitCount_0f7a4_25 : decode cJ6_bitCount_0f7a4 25 = .ok (.iload_n 0, 1) := by decide +kernel
theorem dJ6_bitCount_0f7a4_26 : decode cJ6_bitCount_0f7a4 26 = .ok (.iconst 4, 1) := by decide +kernel
theorem dJ6_bitCount_0f7a4_27 : decode cJ6_bitCount_0f7a4 27 = .ok (.iushr, 1) := by decide +kernel
theorem dJ6_bitCount_0f7a4_28 : decode cJ6_bitCount_0f7a4 28 = .ok (.iadd, 1) := by decide +kernel
theorem dJ6_bitCount_0f7a4_29 : decode cJ6_bitCount_0f7a4 29 = .ok (.ldc_w 267, 3) := by decide +kernel
theorem dJ6_bitCount_0f7a4_32 : decode cJ6_bitCount_0f7a4 32 = .ok (.iand, 1) := by decide +kernel
theorem dJ6_bitCount_0f7a4_33 : decode cJ6_bitCount_0f7a4 33 = .ok (.istore_n 0, 1) := by decide +kernel
theorem dJ6_bitCount_0f7a4_34 : decode cJ6_bitCount_0f7a4 34 = .ok (.iload_n 0, 1) := by decide +kernel
theorem dJ6_bitCount_0f7a4_35 : decode cJ6_bitCount_0f7a4 35 = .ok (.iload_n 0, 1) := by decide +kernel
theorem dJ6_bitCount_0f7a4_36 : decode cJ6_bitCount_0f7a4 36 = .ok (.bipush 8, 2) := by decide +kernel
theorem dJ6_bitCount_0f7a4_38 : decode cJ6_bitCount_0f7a4 38 = .ok (.iushr, 1) := by decide +kernel
theorem dJ6_bitCount_0f7a4_39 : decode cJ6_bitCount_0f7a4 39 = .ok (.iadd, 1) := by decide +kernel
theorem dJ6_bitCount_0f7a4_40 : decode cJ6_bitCount_0f7a4 40 = .ok (.istore_n 0, 1) := by decide +kernel
theorem dJ6_bitCount_0f7a4_41 : decode cJ6_bitCount_0f7a4 41 = .ok (.iload_n 0, 1) := by decide +kernel
theorem dJ6_bitCount_0f7a4_42 : decode cJ6_bitCount_0f7a4 42 = .ok (.iload_n 0, 1) := by decide +kernel
theorem dJ6_bitCount_0f7a4_43 : decode cJ6_bitCount_0f7a4 43 = .ok (.bipush 16, 2) := by decide +kernel
theorem dJ6_bitCount_0f7a4_45 : decode cJ6_bitCount_0f7a4 45 = .ok (.iushr, 1) := by decide +kernel
theorem dJ6_bitCount_0f7a4_46 : decode cJ6_bitCount_0f7a4 46 = .ok (.iadd, 1) := by decide +kernel
theorem dJ6_bitCount_0f7a4_47 : decode cJ6_bitCount_0f7a4 47 = .ok (.istore_n 0, 1) := by decide +kernel
theorem dJ6_bitCount_0f7a4_48 : decode cJ6_bitCount_0f7a4 48 = .ok (.iload_n 0, 1) := by decide +kernel
theorem dJ6_bitCount_0f7a4_49 : decode cJ6_bitCount_0f7a4 49 = .ok (.bipush 63, 2) := by decide +kernel
theorem dJ6_bitCount_0f7a4_51 : decode cJ6_bitCount_0f7a4 51 = .ok (.iand, 1) := by decide +kernel
theorem dJ6_bitCount_0f7a4_52 : decode cJ6_bitCount_0f7a4 52 = .ok (.ireturn, 1) := by decide +kernel
set_option maxHeartbeats 4000000 in
set_option maxRecDepth 100000 in
theorem c_J_bit0 (l : Launch) (D : va_G) (cI cB cZ cN : ClassId)   : Ci (S := Unit) l D cI cB cZ cN yJ6_bitCount_0f7a4 wsJ6_bitCount_0f7a4 ({ frames := 0, cells := 0, slots := 0, locals := 0 } : Room) [.int 0] [] (fun (r : Int32) (_ : Unit) => r = 0) (fun u => []) := by
  refine bx_of (D := D) (cI := cI) (cB := cB) (cZ := cZ) (cN := cN) (y := yJ6_bitCount_0f7a4) (wd := wsJ6_bitCount_0f7a4) (rm := ({ frames := 0, cells := 0, slots := 0, locals := 0 } : Room)) (av := [.int 0]) (wc := []) (cc := cJ6_bitCount_0f7a4) (maxL := 1) (ret := (some .int)) (Qc := fun _ A => va_Qi (S := Unit) (fun (r : Int32) (_ : Unit) => r = 0) (Aft D (fun (u : Unit) => []) A) A) (by decide) rfl (Nat.le_of_ble_eq_true rfl) ?_
  intro p e s m below meth c A H locs ⟨hx, hb, hr, hml, hown, hts, hlk, hnm⟩ hK hP hD hS hA ls hl
  have hl : lv_has ls 1 [(0, .int 0)] := hl
  have hown : s.vm.findClass RJ6 = some m.cls := hown
  refine lv_iload_n hx hb dJ6_bitCount_0f7a4_0 rfl (lv_at hl 0 rfl) ?_
  refine lv_iload_n hx hb dJ6_bitCount_0f7a4_1 rfl (lv_at hl 0 rfl) ?_
  refine lv_iconst (v := 1) hx hb dJ6_bitCount_0f7a4_2 (by decide) ?_
  refine lv_iushr (v := 0) hx hb dJ6_bitCount_0f7a4_3 (by decide) ?_
  refine lv_ldcw (v := 1431655765) hx hb hown (hts (.constant RJ6 265 (1431655765)) (List.mem_of_getElem? (i := 1) rfl)) dJ6_bitCount_0f7a4_4 ?_
  refine lv_iand hx hb dJ6_bitCount_0f7a4_7 ?_
  refine set_i (y := 0) (by decide) ?_
  refine lv_isub hx hb dJ6_bitCount_0f7a4_8 ?_
  refine set_i (y := 0) (by decide) ?_
  refine lv_istore_n (lv' := [(0, .int 0)]) hx hb dJ6_bitCount_0f7a4_9 rfl hl (by decide) rfl (fun ls hl => ?_)
  refine lv_iload_n hx hb dJ6_bitCount_0f7a4_10 rfl (lv_at hl 0 rfl) ?_
  refine lv_ldcw (v := 858993459) hx hb hown (hts (.constant RJ6 266 (858993459)) (List.mem_of_getElem? (i := 2) rfl)) dJ6_bitCount_0f7a4_11 ?_
  refine lv_iand hx hb dJ6_bitCount_0f7a4_14 ?_
  refine set_i (y := 0) (by decide) ?_
  refine lv_iload_n hx hb dJ6_bitCount_0f7a4_15 rfl (lv_at hl 0 rfl) ?_
  refine lv_iconst (v := 2) hx hb dJ6_bitCount_0f7a4_16 (by decide) ?_
  refine lv_iushr (v := 0) hx hb dJ6_bitCount_0f7a4_17 (by decide) ?_
  refine lv_ldcw (v := 858993459) hx hb hown (hts (.constant RJ6 266 (858993459)) (List.mem_of_getElem? (i := 2) rfl)) dJ6_bitCount_0f7a4_18 ?_
  refine lv_iand hx hb dJ6_bitCount_0f7a4_21 ?_
  refine set_i (y := 0) (by decide) ?_
  refine lv_iadd hx hb dJ6_bitCount_0f7a4_22 ?_
  refine set_i (y := 0) (by decide) ?_
  refine lv_istore_n (lv' := [(0, .int 0)]) hx hb dJ6_bitCount_0f7a4_23 rfl hl (by decide) rfl (fun ls hl => ?_)
  refine lv_iload_n hx hb dJ6_bitCount_0f7a4_24 rfl (lv_at hl 0 rfl) ?_
  refine lv_iload_n hx hb dJ6_bitCount_0f7a4_25 rfl (lv_at hl 0 rfl) ?_
  refine lv_iconst (v := 4) hx hb dJ6_bitCount_0f7a4_26 (by decide) ?_
  refine lv_iushr (v := 0) hx hb dJ6_bitCount_0f7a4_27 (by decide) ?_
  refine lv_iadd hx hb dJ6_bitCount_0f7a4_28 ?_
  refine set_i (y := 0) (by decide) ?_
  refine lv_ldcw (v := 252645135) hx hb hown (hts (.constant RJ6 267 (252645135)) (List.mem_of_getElem? (i := 3) rfl)) dJ6_bitCount_0f7a4_29 ?_
  refine lv_iand hx hb dJ6_bitCount_0f7a4_32 ?_
  refine set_i (y := 0) (by decide) ?_
  refine lv_istore_n (lv' := [(0, .int 0)]) hx hb dJ6_bitCount_0f7a4_33 rfl hl (by decide) rfl (fun ls hl => ?_)
  refine lv_iload_n hx hb dJ6_bitCount_0f7a4_34 rfl (lv_at hl 0 rfl) ?_
  refine lv_iload_n hx hb dJ6_bitCount_0f7a4_35 rfl (lv_at hl 0 rfl) ?_
  refine lv_bipush (v := 8) hx hb dJ6_bitCount_0f7a4_36 (by decide) ?_
  refine lv_iushr (v := 0) hx hb dJ6_bitCount_0f7a4_38 (by decide) ?_
  refine lv_iadd hx hb dJ6_bitCount_0f7a4_39 ?_
  refine set_i (y := 0) (by decide) ?_
  refine lv_istore_n (lv' := [(0, .int 0)]) hx hb dJ6_bitCount_0f7a4_40 rfl hl (by decide) rfl (fun ls hl => ?_)
  refine lv_iload_n hx hb dJ6_bitCount_0f7a4_41 rfl (lv_at hl 0 rfl) ?_
  refine lv_iload_n hx hb dJ6_bitCount_0f7a4_42 rfl (lv_at hl 0 rfl) ?_
  refine lv_bipush (v := 16) hx hb dJ6_bitCount_0f7a4_43 (by decide) ?_
  refine lv_iushr (v := 0) hx hb dJ6_bitCount_0f7a4_45 (by decide) ?_
  refine lv_iadd hx hb dJ6_bitCount_0f7a4_46 ?_
  refine set_i (y := 0) (by decide) ?_
  refine lv_istore_n (lv' := [(0, .int 0)]) hx hb dJ6_bitCount_0f7a4_47 rfl hl (by decide) rfl (fun ls hl => ?_)
  refine lv_iload_n hx hb dJ6_bitCount_0f7a4_48 rfl (lv_at hl 0 rfl) ?_
  refine lv_bipush (v := 63) hx hb dJ6_bitCount_0f7a4_49 (by decide) ?_
  refine lv_iand hx hb dJ6_bitCount_0f7a4_51 ?_
  refine set_i (y := 0) (by decide) ?_
  exact en_i hx hb hr hlk hP hD hS () [] (by decide) rfl (Nat.le_of_ble_eq_true rfl) (Nat.le_of_ble_eq_true rfl) dJ6_bitCount_0f7a4_52 rfl
theorem dX4_noteRow_0 : decode cX4_noteRow 0 = .ok (.iload_n 1, 1) := by decide +kernel
theorem dX4_noteRow_1 : decode cX4_noteRow 1 = .ok (.aload_n 0, 1) := by decide +kernel
theorem dX4_noteRow_2 : decode cX4_noteRow 2 = .ok (.getfield 25, 3) := by decide +kernel
theorem in_X4_noteRow_4 : ∀ w ∈ wsX40, w ∈ wsX4_noteRow := fun w h => List.mem_cons_of_mem _ (List.mem_append_right _ h)
theorem dX4_noteRow_5 : decode cX4_noteRow 5 = .ok (.if_icmp .gt 4, 3) := by decide +kernel
theorem dX4_noteRow_8 : decode cX4_noteRow 8 = .ok (.return_, 1) := by decide +kernel
set_option maxHeartbeats 4000000 in
set_option maxRecDepth 100000 in
theorem c_W_noteRow (l : Launch) (D : va_G) (cI cB cZ cN : ClassId) (x36 : Nat) (x37 : Nat) (x38 : Nat) (x39 : Nat)  : Cv (S := Unit) l D cI cB cZ cN yX4_noteRow wsX4_noteRow ({ frames := 0, cells := 0, slots := 0, locals := 0 } : Room) [.ref x36, .int 0] [(x36, .inr (4, [.ref x37, .ref x38, .ref x39, .int 0]))] (fun _ => True) (fun u => [(x36, .inr (4, [.ref x37, .ref x38, .ref x39, .int 0]))]) := by
  refine bx_of (D := D) (cI := cI) (cB := cB) (cZ := cZ) (cN := cN) (y := yX4_noteRow) (wd := wsX4_noteRow) (rm := ({ frames := 0, cells := 0, slots := 0, locals := 0 } : Room)) (av := [.ref x36, .int 0]) (wc := [(x36, .inr (4, [.ref x37, .ref x38, .ref x39, .int 0]))]) (cc := cX4_noteRow) (maxL := 2) (ret := none) (Qc := fun _ A => va_Qv (S := Unit) (fun _ => True) (Aft D (fun (u : Unit) => [(x36, .inr (4, [.ref x37, .ref x38, .ref x39, .int 0]))]) A) A) (by decide) rfl (Nat.le_of_ble_eq_true rfl) ?_
  intro p e s m below meth c A H locs ⟨hx, hb, hr, hml, hown, hts, hlk, hnm⟩ hK hP hD hS hA ls hl
  have hl : lv_has ls 2 [(0, .ref x36), (1, .int 0)] := hl
  have hown : s.vm.findClass RX4 = some m.cls := hown
  refine lv_iload_n hx hb dX4_noteRow_0 rfl (lv_at hl 1 rfl) ?_
  refine lv_aload_n hx hb dX4_noteRow_1 rfl (lv_at hl 0 rfl) ?_
  refine va_get (D := D) (ci := 4) (v := .int 0) (C := RX4) (T := TX4) (N := 4) hx hb hts in_X4_noteRow_4 hown hK.1 hP 0 rfl rfl 3 (by decide) (hts (.fieldLink RX4 25 "ChildCoins$Rows" "bestLength" "I") (List.mem_of_getElem? (i := 1) rfl)) (fun _ h9 => h9) rfl dX4_noteRow_2 ?_
  refine lv_icmp_gt (tgt := 9) hx hb dX4_noteRow_5 (by decide) (fun h1 => absurd h1 (by decide)) (fun h1 => ?_)
  exact en_v hx hb hr hlk hP hD hS () [0] (by decide) rfl (Nat.le_of_ble_eq_true rfl) (Nat.le_of_ble_eq_true rfl) dX4_noteRow_8 trivial
theorem dX4_extend_0 : decode cX4_extend 0 = .ok (.aload_n 0, 1) := by decide +kernel
theorem dX4_extend_1 : decode cX4_extend 1 = .ok (.iload_n 3, 1) := by decide +kernel
theorem dX4_extend_2 : decode cX4_extend 2 = .ok (.invokevirtual 37, 3) := by decide +kernel
set_option maxRecDepth 20000 in
theorem ggX4_extend_X4_noteRow : GoodIn wsX4_extend wsX4_noteRow := goodIn_r _ [8, 2, 3, 9, 10, 11, 12, 13, 90, 91, 92, 93] (by decide +kernel) (by decide +kernel)
set_option maxRecDepth 20000 in
theorem gX4_extend_X4_noteRow : GoodIn wsX4_extend (wsV RX4 37 RX4 yX4_noteRow wsX4_noteRow) := goodIn_app (goodIn_of _ (by decide +kernel)) ggX4_extend_X4_noteRow
theorem dX4_extend_5 : decode cX4_extend 5 = .ok (.iload_n 3, 1) := by decide +kernel
theorem dX4_extend_6 : decode cX4_extend 6 = .ok (.iconst 5, 1) := by decide +kernel
theorem dX4_extend_7 : decode cX4_extend 7 = .ok (.if_icmp .lt 4, 3) := by decide +kernel
theorem dX4_extend_11 : decode cX4_extend 11 = .ok (.aload_n 0, 1) := by decide +kernel
theorem dX4_extend_12 : decode cX4_extend 12 = .ok (.getfield 12, 3) := by decide +kernel
theorem in_X4_extend_4 : ∀ w ∈ wsX40, w ∈ wsX4_extend := fun w h => List.mem_cons_of_mem _ (List.mem_append_left _ (List.mem_append_left _ (List.mem_append_left _ (List.mem_append_right _ h))))
theorem dX4_extend_15 : decode cX4_extend 15 = .ok (.astore 4, 2) := by decide +kernel
theorem dX4_extend_17 : decode cX4_extend 17 = .ok (.iconst 0, 1) := by decide +kernel
theorem dX4_extend_18 : decode cX4_extend 18 = .ok (.istore 5, 2) := by decide +kernel
theorem dX4_extend_20 : decode cX4_extend 20 = .ok (.iload 5, 2) := by decide +kernel
theorem dX4_extend_22 : decode cX4_extend 22 = .ok (.aload_n 1, 1) := by decide +kernel
theorem dX4_extend_23 : decode cX4_extend 23 = .ok (.getfield 41, 3) := by decide +kernel
theorem in_X4_extend_0 : ∀ w ∈ wsX00, w ∈ wsX4_extend := fun w h => List.mem_cons_of_mem _ (List.mem_append_left _ (List.mem_append_left _ (List.mem_append_right _ h)))
theorem dX4_extend_26 : decode cX4_extend 26 = .ok (.if_icmp .ge 104, 3) := by decide +kernel
theorem dX4_extend_130 : decode cX4_extend 130 = .ok (.return_, 1) := by decide +kernel
set_option maxHeartbeats 4000000 in
set_option maxRecDepth 100000 in
theorem c_W_extend (l : Launch) (D : va_G) (cI cB cZ cN : ClassId) (x36 : Nat) (x37 : Nat) (x38 : Nat) (x39 : Nat) (x3 : Nat) (x4 : Nat) (x5 : Nat) (x6 : Nat) (x7 : Nat) (x8 : Nat) (x9 : Nat) (x10 : Nat) (x29 : Nat)  : Cv (S := Unit) l D cI cB cZ cN yX4_extend wsX4_extend ({ frames := 1, cells := 0, slots := 0, locals := 21 } : Room) [.ref x36, .ref x3, .ref x29, .int 0] [(x36, .inr (4, [.ref x37, .ref x38, .ref x39, .int 0])), (x3, .inr (0, [.int 0, .ref x4, .ref x5, .int 0, .ref x6, .ref x7, .int 0, .ref x8, .ref x9, .ref x10, .int 9, .int 0]))] (fun _ => True) (fun u => [(x36, .inr (4, [.ref x37, .ref x38, .ref x39, .int 0])), (x3, .inr (0, [.int 0, .ref x4, .ref x5, .int 0, .ref x6, .ref x7, .int 0, .ref x8, .ref x9, .ref x10, .int 9, .int 0]))]) := by
  refine bx_of (D := D) (cI := cI) (cB := cB) (cZ := cZ) (cN := cN) (y := yX4_extend) (wd := wsX4_extend) (rm := ({ frames := 1, cells := 0, slots := 0, locals := 21 } : Room)) (av := [.ref x36, .ref x3, .ref x29, .int 0]) (wc := [(x36, .inr (4, [.ref x37, .ref x38, .ref x39, .int 0])), (x3, .inr (0, [.int 0, .ref x4, .ref x5, .int 0, .ref x6, .ref x7, .int 0, .ref x8, .ref x9, .ref x10, .int 9, .int 0]))]) (cc := cX4_extend) (maxL := 6) (ret := none) (Qc := fun _ A => va_Qv (S := Unit) (fun _ => True) (Aft D (fun (u : Unit) => [(x36, .inr (4, [.ref x37, .ref x38, .ref x39, .int 0])), (x3, .inr (0, [.int 0, .ref x4, .ref x5, .int 0, .ref x6, .ref x7, .int 0, .ref x8, .ref x9, .ref x10, .int 9, .int 0]))]) A) A) (by decide) rfl (Nat.le_of_ble_eq_true rfl) ?_
  intro p e s m below meth c A H locs ⟨hx, hb, hr, hml, hown, hts, hlk, hnm⟩ hK hP hD hS hA ls hl
  have hl : lv_has ls 6 [(0, .ref x36), (1, .ref x3), (2, .ref x29), (3, .int 0)] := hl
  have hown : s.vm.findClass RX4 = some m.cls := hown
  refine lv_aload_n hx hb dX4_extend_0 rfl (lv_at hl 0 rfl) ?_
  refine lv_iload_n hx hb dX4_extend_1 rfl (lv_at hl 3 rfl) ?_
  refine be_v (free := va_A [(x36, .inr (4, [.ref x37, .ref x38, .ref x39, .int 0]))] H.size) (wc := [(x36, .inr (4, [.ref x37, .ref x38, .ref x39, .int 0]))]) (wr := [(x3, .inr (0, [.int 0, .ref x4, .ref x5, .int 0, .ref x6, .ref x7, .int 0, .ref x8, .ref x9, .ref x10, .int 9, .int 0]))]) (ru_V (As := [.int 0]) (rest := []) ⟨hx, hb, hml, hown, hts⟩ (c_W_noteRow l D cI cB cZ cN x36 x37 x38 x39 H.size) gX4_extend_X4_noteRow rfl ⟨rfl, by decide, by decide, (show Option.map (fun d => d.parameters.length) (parseMethodDescriptor yX4_noteRow.desc) = some 1 by decide +kernel)⟩ ⟨Nat.le_of_ble_eq_true rfl, Nat.le_of_ble_eq_true rfl⟩ hK hP hD 4 0 rfl rfl [0] (by decide) rfl hl.1 rfl (Nat.le_of_ble_eq_true rfl) dX4_extend_2 ⟨Nat.le_of_ble_eq_true rfl, Nat.le_of_ble_eq_true rfl⟩) hP hD hS hA [0] [1] rfl rfl (by decide) (by decide) (fun u1 H locs w3 hP hD hS => ?_)
  have hP : va_P D vwCl [(x3, .inr (0, [.int 0, .ref x4, .ref x5, .int 0, .ref x6, .ref x7, .int 0, .ref x8, .ref x9, .ref x10, .int 9, .int 0])), (x36, .inr (4, [.ref x37, .ref x38, .ref x39, .int 0]))] H := hP
  have hD : va_D A [(x3, .inr (0, [.int 0, .ref x4, .ref x5, .int 0, .ref x6, .ref x7, .int 0, .ref x8, .ref x9, .ref x10, .int 9, .int 0])), (x36, .inr (4, [.ref x37, .ref x38, .ref x39, .int 0]))] := hD
  refine lv_iload_n hx hb dX4_extend_5 rfl (lv_at hl 3 rfl) ?_
  refine lv_iconst (v := 5) hx hb dX4_extend_6 (by decide) ?_
  refine lv_icmp_lt (tgt := 11) hx hb dX4_extend_7 (by decide) (fun h4 => ?_) (fun h4 => absurd (by decide) h4)
  refine lv_aload_n hx hb dX4_extend_11 rfl (lv_at hl 0 rfl) ?_
  refine va_get (D := D) (ci := 4) (v := .ref x37) (C := RX4) (T := TX4) (N := 4) hx hb hts in_X4_extend_4 hown hK.1 hP 1 rfl rfl 0 (by decide) (hts (.fieldLink RX4 12 "ChildCoins$Rows" "trial" "LChildCoins$Now;") (List.mem_of_getElem? (i := 1) rfl)) (fun _ h9 => h9) rfl dX4_extend_12 ?_
  refine lv_astore (lv' := [(4, .ref x37), (0, .ref x36), (1, .ref x3), (2, .ref x29), (3, .int 0)]) hx hb dX4_extend_15 hl (by decide) rfl (fun ls hl => ?_)
  refine lv_iconst (v := 0) hx hb dX4_extend_17 (by decide) ?_
  refine lv_istore (lv' := [(5, .int 0), (4, .ref x37), (0, .ref x36), (1, .ref x3), (2, .ref x29), (3, .int 0)]) hx hb dX4_extend_18 hl (by decide) rfl (fun ls hl => ?_)
  refine lv_iload hx hb dX4_extend_20 (lv_at hl 0 rfl) ?_
  refine lv_aload_n hx hb dX4_extend_22 rfl (lv_at hl 3 rfl) ?_
  refine va_getN (D := D) (ci := 0) (v := .int 0) (C := RX0) (T := TX0) (N := 12) hx hb hts in_X4_extend_0 hown hK.1 hP 0 rfl rfl 6 (by decide) (nfX4_41 hK.2) (fun _ h9 => h9) rfl dX4_extend_23 ?_
  refine lv_icmp_ge (tgt := 130) hx hb dX4_extend_26 (by decide) (fun h5 => ?_) (fun h5 => absurd (by decide) h5)
  exact en_v hx hb hr hlk hP hD hS () [1, 0] (by decide) rfl (Nat.le_of_ble_eq_true rfl) (Nat.le_of_ble_eq_true rfl) dX4_extend_130 trivial
theorem dX4_search_0 : decode cX4_search 0 = .ok (.aload_n 0, 1) := by decide +kernel
theorem dX4_search_1 : decode cX4_search 1 = .ok (.getfield 12, 3) := by decide +kernel
theorem in_X4_search_4 : ∀ w ∈ wsX40, w ∈ wsX4_search := fun w h => List.mem_cons_of_mem _ (List.mem_append_left _ (List.mem_append_left _ (List.mem_append_left _ (List.mem_append_right _ h))))
theorem dX4_search_4 : decode cX4_search 4 = .ok (.aload_n 2, 1) := by decide +kernel
theorem dX4_search_5 : decode cX4_search 5 = .ok (.invokevirtual 29, 3) := by decide +kernel
set_option maxRecDepth 20000 in
theorem ggX4_search_X1_becomeAnew : GoodIn wsX4_search wsX1_becomeAnew := goodIn_r _ [6, 7, 8, 9, 10, 11, 12, 98, 99, 100] (by decide +kernel) (by decide +kernel)
theorem dX4_search_8 : decode cX4_search 8 = .ok (.aload_n 0, 1) := by decide +kernel
theorem dX4_search_9 : decode cX4_search 9 = .ok (.iconst 0, 1) := by decide +kernel
theorem dX4_search_10 : decode cX4_search 10 = .ok (.putfield 25, 3) := by decide +kernel
theorem dX4_search_13 : decode cX4_search 13 = .ok (.aload_n 0, 1) := by decide +kernel
theorem dX4_search_14 : decode cX4_search 14 = .ok (.aload_n 1, 1) := by decide +kernel
theorem dX4_search_15 : decode cX4_search 15 = .ok (.aload_n 3, 1) := by decide +kernel
theorem dX4_search_16 : decode cX4_search 16 = .ok (.iconst 0, 1) := by decide +kernel
theorem dX4_search_17 : decode cX4_search 17 = .ok (.invokestatic 33, 3) := by decide +kernel
set_option maxRecDepth 20000 in
theorem ggX4_search_X4_extend : GoodIn wsX4_search wsX4_extend := goodIn_r _ [16, 1, 2, 17, 18, 19, 20, 15, 21, 22, 23, 9, 10, 11, 24, 4, 25, 26, 7, 27, 28, 29, 30, 31, 32, 33, 34, 35, 36, 37, 38, 39, 40, 41, 42, 43, 44, 45, 46, 47, 48, 49, 50, 51, 52, 53, 54, 55, 56, 57, 58, 59, 60, 61, 62, 63, 64, 65, 66, 67, 68, 69, 70, 71, 72, 73, 74, 75, 76, 77, 78, 79, 80, 81, 12, 82, 8, 83, 84, 85, 86, 87, 88, 89, 90, 13, 14, 91, 92, 93, 94, 95, 96, 97, 101, 102, 103, 104, 105, 106, 107, 108, 109, 110, 111, 112, 113, 114, 115, 116, 98, 99, 100] (by decide +kernel) (by decide +kernel)
theorem dX4_search_20 : decode cX4_search 20 = .ok (.return_, 1) := by decide +kernel
set_option maxHeartbeats 4000000 in
set_option maxRecDepth 100000 in
theorem c_W_search (l : Launch) (D : va_G) (cI cB cZ cN : ClassId) (x36 : Nat) (x37 : Nat) (x38 : Nat) (x39 : Nat) (x40 : Nat) (x41 : Nat) (x19 : Nat) (x20 : Nat) (x21 : Nat) (x3 : Nat) (x4 : Nat) (x5 : Nat) (x6 : Nat) (x7 : Nat) (x8 : Nat) (x9 : Nat) (x10 : Nat) (x29 : Nat)  : Cv (S := Unit) l D cI cB cZ cN yX4_search wsX4_search ({ frames := 2, cells := 0, slots := 0, locals := 61 } : Room) [.ref x36, .ref x3, .ref x19, .ref x29] [(x36, .inr (4, [.ref x37, .ref x38, .ref x39, .int 0])), (x37, .inr (1, [.ref x40, .ref x41, .int 0])), (x40, .inl (cI, 36, .inl zf)), (x19, .inr (1, [.ref x20, .ref x21, .int 0])), (x20, .inl (cI, 36, .inl zf)), (x3, .inr (0, [.int 0, .ref x4, .ref x5, .int 0, .ref x6, .ref x7, .int 0, .ref x8, .ref x9, .ref x10, .int 9, .int 0]))] (fun _ => True) (fun u => [(x36, .inr (4, [.ref x37, .ref x38, .ref x39, .int 0]))]) := by
  refine bx_of (D := D) (cI := cI) (cB := cB) (cZ := cZ) (cN := cN) (y := yX4_search) (wd := wsX4_search) (rm := ({ frames := 2, cells := 0, slots := 0, locals := 61 } : Room)) (av := [.ref x36, .ref x3, .ref x19, .ref x29]) (wc := [(x36, .inr (4, [.ref x37, .ref x38, .ref x39, .int 0])), (x37, .inr (1, [.ref x40, .ref x41, .int 0])), (x40, .inl (cI, 36, .inl zf)), (x19, .inr (1, [.ref x20, .ref x21, .int 0])), (x20, .inl (cI, 36, .inl zf)), (x3, .inr (0, [.int 0, .ref x4, .ref x5, .int 0, .ref x6, .ref x7, .int 0, .ref x8, .ref x9, .ref x10, .int 9, .int 0]))]) (cc := cX4_search) (maxL := 4) (ret := none) (Qc := fun _ A => va_Qv (S := Unit) (fun _ => True) (Aft D (fun (u : Unit) => [(x36, .inr (4, [.ref x37, .ref x38, .ref x39, .int 0]))]) A) A) (by decide) rfl (Nat.le_of_ble_eq_true rfl) ?_
  intro p e s m below meth c A H locs ⟨hx, hb, hr, hml, hown, hts, hlk, hnm⟩ hK hP hD hS hA ls hl
  have hl : lv_has ls 4 [(0, .ref x36), (1, .ref x3), (2, .ref x19), (3, .ref x29)] := hl
  have hown : s.vm.findClass RX4 = some m.cls := hown
  refine lv_aload_n hx hb dX4_search_0 rfl (lv_at hl 0 rfl) ?_
  refine va_get (D := D) (ci := 4) (v := .ref x37) (C := RX4) (T := TX4) (N := 4) hx hb hts in_X4_search_4 hown hK.1 hP 0 rfl rfl 0 (by decide) (hts (.fieldLink RX4 12 "ChildCoins$Rows" "trial" "LChildCoins$Now;") (List.mem_of_getElem? (i := 1) rfl)) (fun _ h9 => h9) rfl dX4_search_1 ?_
  refine lv_aload_n hx hb dX4_search_4 rfl (lv_at hl 2 rfl) ?_
  refine be_v (free := va_A [(x37, .inr (1, [.ref x40, .ref x41, .int 0])), (x40, .inl (cI, 36, .inl zf)), (x19, .inr (1, [.ref x20, .ref x21, .int 0])), (x20, .inl (cI, 36, .inl zf))] H.size) (wc := [(x37, .inr (1, [.ref x40, .ref x41, .int 0])), (x40, .inl (cI, 36, .inl zf)), (x19, .inr (1, [.ref x20, .ref x21, .int 0])), (x20, .inl (cI, 36, .inl zf))]) (wr := [(x36, .inr (4, [.ref x37, .ref x38, .ref x39, .int 0])), (x3, .inr (0, [.int 0, .ref x4, .ref x5, .int 0, .ref x6, .ref x7, .int 0, .ref x8, .ref x9, .ref x10, .int 9, .int 0]))]) (ru_N (C := RX1) (host := "ChildCoins") (As := [.ref x19]) (rest := []) ⟨hx, hb, hml, hown, hts⟩ (c_N_becomeAnew l D cI cB cZ cN x37 x40 x41 x19 x20 x21 H.size) ggX4_search_X1_becomeAnew rfl (nmX4_29 hK.2) (hts (.initialized RX1) (List.mem_of_getElem? (i := 4) rfl)) (hts (.instanceMethod yX1_becomeAnew) (List.mem_of_getElem? (i := 3) rfl)) (hts (.selects RX1 yX1_becomeAnew yX1_becomeAnew) (List.mem_of_getElem? (i := 5) rfl)) ⟨by decide, by decide, (show Option.map (fun d => d.parameters.length) (parseMethodDescriptor yX1_becomeAnew.desc) = some 1 by decide +kernel)⟩ ⟨Nat.le_of_ble_eq_true rfl, Nat.le_of_ble_eq_true rfl⟩ hK hP hD 1 1 rfl rfl [1, 2, 3, 4] (by decide) rfl hl.1 rfl (Nat.le_of_ble_eq_true rfl) dX4_search_5 ⟨Nat.le_of_ble_eq_true rfl, Nat.le_of_ble_eq_true rfl⟩) hP hD hS hA [1, 2, 3, 4] [0, 5] rfl rfl (by decide) (by decide) (fun u1 H locs w3 hP hD hS => ?_)
  have hP : va_P D vwCl [(x36, .inr (4, [.ref x37, .ref x38, .ref x39, .int 0])), (x3, .inr (0, [.int 0, .ref x4, .ref x5, .int 0, .ref x6, .ref x7, .int 0, .ref x8, .ref x9, .ref x10, .int 9, .int 0])), (x37, .inr (1, [.ref x40, .ref x41, .int 0])), (x40, .inl (cI, 36, .inl zf)), (x19, .inr (1, [.ref x20, .ref x21, .int 0])), (x20, .inl (cI, 36, .inl zf))] H := hP
  have hD : va_D A [(x36, .inr (4, [.ref x37, .ref x38, .ref x39, .int 0])), (x3, .inr (0, [.int 0, .ref x4, .ref x5, .int 0, .ref x6, .ref x7, .int 0, .ref x8, .ref x9, .ref x10, .int 9, .int 0])), (x37, .inr (1, [.ref x40, .ref x41, .int 0])), (x40, .inl (cI, 36, .inl zf)), (x19, .inr (1, [.ref x20, .ref x21, .int 0])), (x20, .inl (cI, 36, .inl zf))] := hD
  refine lv_aload_n hx hb dX4_search_8 rfl (lv_at hl 0 rfl) ?_
  refine lv_iconst (v := 0) hx hb dX4_search_9 (by decide) ?_
  refine va_put (D := D) (ci := 4) (v := .int 0) (ty := tyX4 3) (C := RX4) (T := TX4) (N := 4) hx hb hts in_X4_search_4 tyX4 tyX4_ok nmX4 hown hK.1 hP hD hS 0 rfl rfl 3 (by decide) (hts (.fieldLink RX4 25 "ChildCoins$Rows" "bestLength" "I") (List.mem_of_getElem? (i := 2) rfl)) (fun _ h9 => h9) rfl (tyX4_ok 3 (by decide)) rfl rfl (Nat.le_of_ble_eq_true rfl) dX4_search_10 (fun H locs hP hD hS => ?_)
  have hP : va_P D vwCl [(x36, .inr (4, [.ref x37, .ref x38, .ref x39, .int 0])), (x3, .inr (0, [.int 0, .ref x4, .ref x5, .int 0, .ref x6, .ref x7, .int 0, .ref x8, .ref x9, .ref x10, .int 9, .int 0])), (x37, .inr (1, [.ref x40, .ref x41, .int 0])), (x40, .inl (cI, 36, .inl zf)), (x19, .inr (1, [.ref x20, .ref x21, .int 0])), (x20, .inl (cI, 36, .inl zf))] H := hP
  have hD : va_D A [(x36, .inr (4, [.ref x37, .ref x38, .ref x39, .int 0])), (x3, .inr (0, [.int 0, .ref x4, .ref x5, .int 0, .ref x6, .ref x7, .int 0, .ref x8, .ref x9, .ref x10, .int 9, .int 0])), (x37, .inr (1, [.ref x40, .ref x41, .int 0])), (x40, .inl (cI, 36, .inl zf)), (x19, .inr (1, [.ref x20, .ref x21, .int 0])), (x20, .inl (cI, 36, .inl zf))] := hD
  refine lv_aload_n hx hb dX4_search_13 rfl (lv_at hl 0 rfl) ?_
  refine lv_aload_n hx hb dX4_search_14 rfl (lv_at hl 1 rfl) ?_
  refine lv_aload_n hx hb dX4_search_15 rfl (lv_at hl 3 rfl) ?_
  refine lv_iconst (v := 0) hx hb dX4_search_16 (by decide) ?_
  refine be_v (free := va_A [(x36, .inr (4, [.ref x37, .ref x38, .ref x39, .int 0])), (x3, .inr (0, [.int 0, .ref x4, .ref x5, .int 0, .ref x6, .ref x7, .int 0, .ref x8, .ref x9, .ref x10, .int 9, .int 0]))] H.size) (wc := [(x36, .inr (4, [.ref x37, .ref x38, .ref x39, .int 0])), (x3, .inr (0, [.int 0, .ref x4, .ref x5, .int 0, .ref x6, .ref x7, .int 0, .ref x8, .ref x9, .ref x10, .int 9, .int 0]))]) (wr := [(x37, .inr (1, [.ref x40, .ref x41, .int 0])), (x40, .inl (cI, 36, .inl zf)), (x19, .inr (1, [.ref x20, .ref x21, .int 0])), (x20, .inl (cI, 36, .inl zf))]) (ru_S (As := [.ref x36, .ref x3, .ref x29, .int 0]) (rest := []) ⟨hx, hb, hml, hown, hts⟩ (c_W_extend l D cI cB cZ cN x36 x37 x38 x39 x3 x4 x5 x6 x7 x8 x9 x10 x29 H.size) ggX4_search_X4_extend rfl (hts (.initialized RX4) (List.mem_of_getElem? (i := 15) rfl)) (hts (.methodLink RX4 33 yX4_extend) (List.mem_of_getElem? (i := 13) rfl)) (hts (.static yX4_extend) (List.mem_of_getElem? (i := 14) rfl)) ⟨by decide, by decide, (show Option.map (fun d => d.parameters.length) (parseMethodDescriptor yX4_extend.desc) = some 4 by decide +kernel)⟩ ⟨Nat.le_of_ble_eq_true rfl, Nat.le_of_ble_eq_true rfl⟩ hK hP hD [0, 1] (by decide) rfl hl.1 rfl (Nat.le_of_ble_eq_true rfl) dX4_search_17 ⟨Nat.le_of_ble_eq_true rfl, Nat.le_of_ble_eq_true rfl⟩) hP hD hS hA [0, 1] [2, 3, 4, 5] rfl rfl (by decide) (by decide) (fun u4 H locs w6 hP hD hS => ?_)
  have hP : va_P D vwCl [(x37, .inr (1, [.ref x40, .ref x41, .int 0])), (x40, .inl (cI, 36, .inl zf)), (x19, .inr (1, [.ref x20, .ref x21, .int 0])), (x20, .inl (cI, 36, .inl zf)), (x36, .inr (4, [.ref x37, .ref x38, .ref x39, .int 0])), (x3, .inr (0, [.int 0, .ref x4, .ref x5, .int 0, .ref x6, .ref x7, .int 0, .ref x8, .ref x9, .ref x10, .int 9, .int 0]))] H := hP
  have hD : va_D A [(x37, .inr (1, [.ref x40, .ref x41, .int 0])), (x40, .inl (cI, 36, .inl zf)), (x19, .inr (1, [.ref x20, .ref x21, .int 0])), (x20, .inl (cI, 36, .inl zf)), (x36, .inr (4, [.ref x37, .ref x38, .ref x39, .int 0])), (x3, .inr (0, [.int 0, .ref x4, .ref x5, .int 0, .ref x6, .ref x7, .int 0, .ref x8, .ref x9, .ref x10, .int 9, .int 0]))] := hD
  exact en_v hx hb hr hlk hP hD hS () [4] (by decide) rfl (Nat.le_of_ble_eq_true rfl) (Nat.le_of_ble_eq_true rfl) dX4_search_20 trivial
theorem dX6_helpless_0 : decode cX6_helpless 0 = .ok (.iconst 0, 1) := by decide +kernel
theorem dX6_helpless_1 : decode cX6_helpless 1 = .ok (.istore_n 1, 1) := by decide +kernel
theorem dX6_helpless_2 : decode cX6_helpless 2 = .ok (.iconst 0, 1) := by decide +kernel
theorem dX6_helpless_3 : decode cX6_helpless 3 = .ok (.istore_n 2, 1) := by decide +kernel
theorem dX6_helpless_4 : decode cX6_helpless 4 = .ok (.iload_n 2, 1) := by decide +kernel
theorem dX6_helpless_5 : decode cX6_helpless 5 = .ok (.aload_n 0, 1) := by decide +kernel
theorem dX6_helpless_6 : decode cX6_helpless 6 = .ok (.getfield 27, 3) := by decide +kernel
theorem in_X6_helpless_6 : ∀ w ∈ wsX60, w ∈ wsX6_helpless := fun w h => List.mem_cons_of_mem _ (List.mem_append_left _ (List.mem_append_left _ (List.mem_append_left _ (List.mem_append_right _ h))))
theorem dX6_helpless_9 : decode cX6_helpless 9 = .ok (.getfield 257, 3) := by decide +kernel
theorem in_X6_helpless_0 : ∀ w ∈ wsX00, w ∈ wsX6_helpless := fun w h => List.mem_cons_of_mem _ (List.mem_append_left _ (List.mem_append_left _ (List.mem_append_right _ h)))
theorem dX6_helpless_12 : decode cX6_helpless 12 = .ok (.if_icmp .ge 34, 3) := by decide +kernel
theorem dX6_helpless_46 : decode cX6_helpless 46 = .ok (.iload_n 1, 1) := by decide +kernel
theorem dX6_helpless_47 : decode cX6_helpless 47 = .ok (.ireturn, 1) := by decide +kernel
set_option maxHeartbeats 4000000 in
set_option maxRecDepth 100000 in
theorem c_X_helpless (l : Launch) (D : va_G) (cI cB cZ cN : ClassId) (h0 : Nat) (x0 : Nat) (x1 : Nat) (x3 : Nat) (x11 : Nat) (x19 : Nat) (x22 : Nat) (x29 : Nat) (x33 : Nat) (x36 : Nat) (x42 : Nat) (x4 : Nat) (x5 : Nat) (x6 : Nat) (x7 : Nat) (x8 : Nat) (x9 : Nat) (x10 : Nat)  : Ci (S := Unit) l D cI cB cZ cN yX6_helpless wsX6_helpless ({ frames := 0, cells := 0, slots := 0, locals := 0 } : Room) [.ref h0] [(h0, .inr (6, [.ref x0, .int 0, .ref x1, .ref x3, .ref x11, .ref x19, .ref x22, .int 0, .ref x29, .ref x33, .ref x36, .ref x42, .int 0, .long 0])), (x3, .inr (0, [.int 0, .ref x4, .ref x5, .int 0, .ref x6, .ref x7, .int 0, .ref x8, .ref x9, .ref x10, .int 9, .int 0]))] (fun (r : Int32) (_ : Unit) => r = 0) (fun u => []) := by
  refine bx_of (D := D) (cI := cI) (cB := cB) (cZ := cZ) (cN := cN) (y := yX6_helpless) (wd := wsX6_helpless) (rm := ({ frames := 0, cells := 0, slots := 0, locals := 0 } : Room)) (av := [.ref h0]) (wc := [(h0, .inr (6, [.ref x0, .int 0, .ref x1, .ref x3, .ref x11, .ref x19, .ref x22, .int 0, .ref x29, .ref x33, .ref x36, .ref x42, .int 0, .long 0])), (x3, .inr (0, [.int 0, .ref x4, .ref x5, .int 0, .ref x6, .ref x7, .int 0, .ref x8, .ref x9, .ref x10, .int 9, .int 0]))]) (cc := cX6_helpless) (maxL := 3) (ret := (some .int)) (Qc := fun _ A => va_Qi (S := Unit) (fun (r : Int32) (_ : Unit) => r = 0) (Aft D (fun (u : Unit) => []) A) A) (by decide) rfl (Nat.le_of_ble_eq_true rfl) ?_
  intro p e s m below meth c A H locs ⟨hx, hb, hr, hml, hown, hts, hlk, hnm⟩ hK hP hD hS hA ls hl
  have hl : lv_has ls 3 [(0, .ref h0)] := hl
  have hown : s.vm.findClass RX6 = some m.cls := hown
  refine lv_iconst (v := 0) hx hb dX6_helpless_0 (by decide) ?_
  refine lv_istore_n (lv' := [(1, .int 0), (0, .ref h0)]) hx hb dX6_helpless_1 rfl hl (by decide) rfl (fun ls hl => ?_)
  refine lv_iconst (v := 0) hx hb dX6_helpless_2 (by decide) ?_
  refine lv_istore_n (lv' := [(2, .int 0), (1, .int 0), (0, .ref h0)]) hx hb dX6_helpless_3 rfl hl (by decide) rfl (fun ls hl => ?_)
  refine lv_iload_n hx hb dX6_helpless_4 rfl (lv_at hl 0 rfl) ?_
  refine lv_aload_n hx hb dX6_helpless_5 rfl (lv_at hl 2 rfl) ?_
  refine va_get (D := D) (ci := 6) (v := .ref x3) (C := RX6) (T := TX6) (N := 14) hx hb hts in_X6_helpless_6 hown hK.1 hP 0 rfl rfl 3 (by decide) (hts (.fieldLink RX6 27 "ChildCoins" "ours" "LChildCoins$Land;") (List.mem_of_getElem? (i := 1) rfl)) (fun _ h9 => h9) rfl dX6_helpless_6 ?_
  refine va_getN (D := D) (ci := 0) (v := .int 0) (C := RX0) (T := TX0) (N := 12) hx hb hts in_X6_helpless_0 hown hK.1 hP 1 rfl rfl 6 (by decide) (nfX6_257 hK.2) (fun _ h9 => h9) rfl dX6_helpless_9 ?_
  refine lv_icmp_ge (tgt := 46) hx hb dX6_helpless_12 (by decide) (fun h1 => ?_) (fun h1 => absurd (by decide) h1)
  refine lv_iload_n hx hb dX6_helpless_46 rfl (lv_at hl 1 rfl) ?_
  exact en_i hx hb hr hlk hP hD hS () [] (by decide) rfl (Nat.le_of_ble_eq_true rfl) (Nat.le_of_ble_eq_true rfl) dX6_helpless_47 rfl
theorem dX6_allWealth_0 : decode cX6_allWealth 0 = .ok (.iconst 0, 1) := by decide +kernel
theorem dX6_allWealth_1 : decode cX6_allWealth 1 = .ok (.istore_n 1, 1) := by decide +kernel
theorem dX6_allWealth_2 : decode cX6_allWealth 2 = .ok (.iconst 0, 1) := by decide +kernel
theorem dX6_allWealth_3 : decode cX6_allWealth 3 = .ok (.istore_n 2, 1) := by decide +kernel
theorem dX6_allWealth_4 : decode cX6_allWealth 4 = .ok (.iload_n 2, 1) := by decide +kernel
theorem dX6_allWealth_5 : decode cX6_allWealth 5 = .ok (.aload_n 0, 1) := by decide +kernel
theorem dX6_allWealth_6 : decode cX6_allWealth 6 = .ok (.getfield 27, 3) := by decide +kernel
theorem in_X6_allWealth_6 : ∀ w ∈ wsX60, w ∈ wsX6_allWealth := fun w h => List.mem_cons_of_mem _ (List.mem_append_left _ (List.mem_append_left _ (List.mem_append_right _ h)))
theorem dX6_allWealth_9 : decode cX6_allWealth 9 = .ok (.getfield 201, 3) := by decide +kernel
theorem in_X6_allWealth_0 : ∀ w ∈ wsX00, w ∈ wsX6_allWealth := fun w h => List.mem_cons_of_mem _ (List.mem_append_left _ (List.mem_append_right _ h))
theorem dX6_allWealth_12 : decode cX6_allWealth 12 = .ok (.if_icmp .ge 17, 3) := by decide +kernel
theorem dX6_allWealth_29 : decode cX6_allWealth 29 = .ok (.iload_n 1, 1) := by decide +kernel
theorem dX6_allWealth_30 : decode cX6_allWealth 30 = .ok (.ireturn, 1) := by decide +kernel
set_option maxHeartbeats 4000000 in
set_option maxRecDepth 100000 in
theorem c_X_allWealth (l : Launch) (D : va_G) (cI cB cZ cN : ClassId) (h0 : Nat) (x0 : Nat) (x1 : Nat) (x3 : Nat) (x11 : Nat) (x19 : Nat) (x22 : Nat) (x29 : Nat) (x33 : Nat) (x36 : Nat) (x42 : Nat) (x4 : Nat) (x5 : Nat) (x6 : Nat) (x7 : Nat) (x8 : Nat) (x9 : Nat) (x10 : Nat)  : Ci (S := Unit) l D cI cB cZ cN yX6_allWealth wsX6_allWealth ({ frames := 0, cells := 0, slots := 0, locals := 0 } : Room) [.ref h0] [(h0, .inr (6, [.ref x0, .int 0, .ref x1, .ref x3, .ref x11, .ref x19, .ref x22, .int 0, .ref x29, .ref x33, .ref x36, .ref x42, .int 0, .long 0])), (x3, .inr (0, [.int 0, .ref x4, .ref x5, .int 0, .ref x6, .ref x7, .int 0, .ref x8, .ref x9, .ref x10, .int 9, .int 0]))] (fun (r : Int32) (_ : Unit) => r = 0) (fun u => []) := by
  refine bx_of (D := D) (cI := cI) (cB := cB) (cZ := cZ) (cN := cN) (y := yX6_allWealth) (wd := wsX6_allWealth) (rm := ({ frames := 0, cells := 0, slots := 0, locals := 0 } : Room)) (av := [.ref h0]) (wc := [(h0, .inr (6, [.ref x0, .int 0, .ref x1, .ref x3, .ref x11, .ref x19, .ref x22, .int 0, .ref x29, .ref x33, .ref x36, .ref x42, .int 0, .long 0])), (x3, .inr (0, [.int 0, .ref x4, .ref x5, .int 0, .ref x6, .ref x7, .int 0, .ref x8, .ref x9, .ref x10, .int 9, .int 0]))]) (cc := cX6_allWealth) (maxL := 3) (ret := (some .int)) (Qc := fun _ A => va_Qi (S := Unit) (fun (r : Int32) (_ : Unit) => r = 0) (Aft D (fun (u : Unit) => []) A) A) (by decide) rfl (Nat.le_of_ble_eq_true rfl) ?_
  intro p e s m below meth c A H locs ⟨hx, hb, hr, hml, hown, hts, hlk, hnm⟩ hK hP hD hS hA ls hl
  have hl : lv_has ls 3 [(0, .ref h0)] := hl
  have hown : s.vm.findClass RX6 = some m.cls := hown
  refine lv_iconst (v := 0) hx hb dX6_allWealth_0 (by decide) ?_
  refine lv_istore_n (lv' := [(1, .int 0), (0, .ref h0)]) hx hb dX6_allWealth_1 rfl hl (by decide) rfl (fun ls hl => ?_)
  refine lv_iconst (v := 0) hx hb dX6_allWealth_2 (by decide) ?_
  refine lv_istore_n (lv' := [(2, .int 0), (1, .int 0), (0, .ref h0)]) hx hb dX6_allWealth_3 rfl hl (by decide) rfl (fun ls hl => ?_)
  refine lv_iload_n hx hb dX6_allWealth_4 rfl (lv_at hl 0 rfl) ?_
  refine lv_aload_n hx hb dX6_allWealth_5 rfl (lv_at hl 2 rfl) ?_
  refine va_get (D := D) (ci := 6) (v := .ref x3) (C := RX6) (T := TX6) (N := 14) hx hb hts in_X6_allWealth_6 hown hK.1 hP 0 rfl rfl 3 (by decide) (hts (.fieldLink RX6 27 "ChildCoins" "ours" "LChildCoins$Land;") (List.mem_of_getElem? (i := 1) rfl)) (fun _ h9 => h9) rfl dX6_allWealth_6 ?_
  refine va_getN (D := D) (ci := 0) (v := .int 0) (C := RX0) (T := TX0) (N := 12) hx hb hts in_X6_allWealth_0 hown hK.1 hP 1 rfl rfl 3 (by decide) (nfX6_201 hK.2) (fun _ h9 => h9) rfl dX6_allWealth_9 ?_
  refine lv_icmp_ge (tgt := 29) hx hb dX6_allWealth_12 (by decide) (fun h1 => ?_) (fun h1 => absurd (by decide) h1)
  refine lv_iload_n hx hb dX6_allWealth_29 rfl (lv_at hl 1 rfl) ?_
  exact en_i hx hb hr hlk hP hD hS () [] (by decide) rfl (Nat.le_of_ble_eq_true rfl) (Nat.le_of_ble_eq_true rfl) dX6_allWealth_30 rfl
theorem dX6_openSums_0 : decode cX6_openSums 0 = .ok (.iconst 0, 1) := by decide +kernel
theorem dX6_openSums_1 : decode cX6_openSums 1 = .ok (.istore_n 1, 1) := by decide +kernel
theorem dX6_openSums_2 : decode cX6_openSums 2 = .ok (.iconst 0, 1) := by decide +kernel
theorem dX6_openSums_3 : decode cX6_openSums 3 = .ok (.istore_n 2, 1) := by decide +kernel
theorem dX6_openSums_4 : decode cX6_openSums 4 = .ok (.iload_n 2, 1) := by decide +kernel
theorem dX6_openSums_5 : decode cX6_openSums 5 = .ok (.aload_n 0, 1) := by decide +kernel
theorem dX6_openSums_6 : decode cX6_openSums 6 = .ok (.getfield 27, 3) := by decide +kernel
theorem in_X6_openSums_6 : ∀ w ∈ wsX60, w ∈ wsX6_openSums := fun w h => List.mem_cons_of_mem _ (List.mem_append_left _ (List.mem_append_left _ (List.mem_append_right _ h)))
theorem dX6_openSums_9 : decode cX6_openSums 9 = .ok (.getfield 257, 3) := by decide +kernel
theorem in_X6_openSums_0 : ∀ w ∈ wsX00, w ∈ wsX6_openSums := fun w h => List.mem_cons_of_mem _ (List.mem_append_left _ (List.mem_append_right _ h))
theorem dX6_openSums_12 : decode cX6_openSums 12 = .ok (.if_icmp .ge 32, 3) := by decide +kernel
theorem dX6_openSums_44 : decode cX6_openSums 44 = .ok (.iload_n 1, 1) := by decide +kernel
theorem dX6_openSums_45 : decode cX6_openSums 45 = .ok (.ireturn, 1) := by decide +kernel
set_option maxHeartbeats 4000000 in
set_option maxRecDepth 100000 in
theorem c_X_openSums (l : Launch) (D : va_G) (cI cB cZ cN : ClassId) (h0 : Nat) (x0 : Nat) (x1 : Nat) (x3 : Nat) (x11 : Nat) (x19 : Nat) (x22 : Nat) (x29 : Nat) (x33 : Nat) (x36 : Nat) (x42 : Nat) (x4 : Nat) (x5 : Nat) (x6 : Nat) (x7 : Nat) (x8 : Nat) (x9 : Nat) (x10 : Nat)  : Ci (S := Unit) l D cI cB cZ cN yX6_openSums wsX6_openSums ({ frames := 0, cells := 0, slots := 0, locals := 0 } : Room) [.ref h0] [(h0, .inr (6, [.ref x0, .int 0, .ref x1, .ref x3, .ref x11, .ref x19, .ref x22, .int 0, .ref x29, .ref x33, .ref x36, .ref x42, .int 0, .long 0])), (x3, .inr (0, [.int 0, .ref x4, .ref x5, .int 0, .ref x6, .ref x7, .int 0, .ref x8, .ref x9, .ref x10, .int 9, .int 0]))] (fun (r : Int32) (_ : Unit) => r = 0) (fun u => []) := by
  refine bx_of (D := D) (cI := cI) (cB := cB) (cZ := cZ) (cN := cN) (y := yX6_openSums) (wd := wsX6_openSums) (rm := ({ frames := 0, cells := 0, slots := 0, locals := 0 } : Room)) (av := [.ref h0]) (wc := [(h0, .inr (6, [.ref x0, .int 0, .ref x1, .ref x3, .ref x11, .ref x19, .ref x22, .int 0, .ref x29, .ref x33, .ref x36, .ref x42, .int 0, .long 0])), (x3, .inr (0, [.int 0, .ref x4, .ref x5, .int 0, .ref x6, .ref x7, .int 0, .ref x8, .ref x9, .ref x10, .int 9, .int 0]))]) (cc := cX6_openSums) (maxL := 3) (ret := (some .int)) (Qc := fun _ A => va_Qi (S := Unit) (fun (r : Int32) (_ : Unit) => r = 0) (Aft D (fun (u : Unit) => []) A) A) (by decide) rfl (Nat.le_of_ble_eq_true rfl) ?_
  intro p e s m below meth c A H locs ⟨hx, hb, hr, hml, hown, hts, hlk, hnm⟩ hK hP hD hS hA ls hl
  have hl : lv_has ls 3 [(0, .ref h0)] := hl
  have hown : s.vm.findClass RX6 = some m.cls := hown
  refine lv_iconst (v := 0) hx hb dX6_openSums_0 (by decide) ?_
  refine lv_istore_n (lv' := [(1, .int 0), (0, .ref h0)]) hx hb dX6_openSums_1 rfl hl (by decide) rfl (fun ls hl => ?_)
  refine lv_iconst (v := 0) hx hb dX6_openSums_2 (by decide) ?_
  refine lv_istore_n (lv' := [(2, .int 0), (1, .int 0), (0, .ref h0)]) hx hb dX6_openSums_3 rfl hl (by decide) rfl (fun ls hl => ?_)
  refine lv_iload_n hx hb dX6_openSums_4 rfl (lv_at hl 0 rfl) ?_
  refine lv_aload_n hx hb dX6_openSums_5 rfl (lv_at hl 2 rfl) ?_
  refine va_get (D := D) (ci := 6) (v := .ref x3) (C := RX6) (T := TX6) (N := 14) hx hb hts in_X6_openSums_6 hown hK.1 hP 0 rfl rfl 3 (by decide) (hts (.fieldLink RX6 27 "ChildCoins" "ours" "LChildCoins$Land;") (List.mem_of_getElem? (i := 1) rfl)) (fun _ h9 => h9) rfl dX6_openSums_6 ?_
  refine va_getN (D := D) (ci := 0) (v := .int 0) (C := RX0) (T := TX0) (N := 12) hx hb hts in_X6_openSums_0 hown hK.1 hP 1 rfl rfl 6 (by decide) (nfX6_257 hK.2) (fun _ h9 => h9) rfl dX6_openSums_9 ?_
  refine lv_icmp_ge (tgt := 44) hx hb dX6_openSums_12 (by decide) (fun h1 => ?_) (fun h1 => absurd (by decide) h1)
  refine lv_iload_n hx hb dX6_openSums_44 rfl (lv_at hl 1 rfl) ?_
  exact en_i hx hb hr hlk hP hD hS () [] (by decide) rfl (Nat.le_of_ble_eq_true rfl) (Nat.le_of_ble_eq_true rfl) dX6_openSums_45 rfl
theorem dX6_allTakenDoFor_0 : decode cX6_allTakenDoFor 0 = .ok (.iconst 0, 1) := by decide +kernel
theorem dX6_allTakenDoFor_1 : decode cX6_allTakenDoFor 1 = .ok (.istore_n 2, 1) := by decide +kernel
theorem dX6_allTakenDoFor_2 : decode cX6_allTakenDoFor 2 = .ok (.iload_n 2, 1) := by decide +kernel
theorem dX6_allTakenDoFor_3 : decode cX6_allTakenDoFor 3 = .ok (.aload_n 0, 1) := by decide +kernel
theorem dX6_allTakenDoFor_4 : decode cX6_allTakenDoFor 4 = .ok (.getfield 72, 3) := by decide +kernel
theorem in_X6_allTakenDoFor_6 : ∀ w ∈ wsX60, w ∈ wsX6_allTakenDoFor := fun w h => List.mem_cons_of_mem _ (List.mem_append_left _ (List.mem_append_right _ h))
theorem dX6_allTakenDoFor_7 : decode cX6_allTakenDoFor 7 = .ok (.if_icmp .ge 31, 3) := by decide +kernel
theorem dX6_allTakenDoFor_38 : decode cX6_allTakenDoFor 38 = .ok (.iconst 1, 1) := by decide +kernel
theorem dX6_allTakenDoFor_39 : decode cX6_allTakenDoFor 39 = .ok (.ireturn, 1) := by decide +kernel
set_option maxHeartbeats 4000000 in
set_option maxRecDepth 100000 in
theorem c_X_allTaken (l : Launch) (D : va_G) (cI cB cZ cN : ClassId) (h0 : Nat) (x0 : Nat) (x1 : Nat) (x3 : Nat) (x11 : Nat) (x19 : Nat) (x22 : Nat) (x29 : Nat) (x33 : Nat) (x36 : Nat) (x42 : Nat) (v_c : Int32)  : Ci (S := Unit) l D cI cB cZ cN yX6_allTakenDoFor wsX6_allTakenDoFor ({ frames := 0, cells := 0, slots := 0, locals := 0 } : Room) [.ref h0, .int v_c] [(h0, .inr (6, [.ref x0, .int 0, .ref x1, .ref x3, .ref x11, .ref x19, .ref x22, .int 0, .ref x29, .ref x33, .ref x36, .ref x42, .int 0, .long 0]))] (fun (r : Int32) (_ : Unit) => r = 1) (fun u => [(h0, .inr (6, [.ref x0, .int 0, .ref x1, .ref x3, .ref x11, .ref x19, .ref x22, .int 0, .ref x29, .ref x33, .ref x36, .ref x42, .int 0, .long 0]))]) := by
  refine bx_of (D := D) (cI := cI) (cB := cB) (cZ := cZ) (cN := cN) (y := yX6_allTakenDoFor) (wd := wsX6_allTakenDoFor) (rm := ({ frames := 0, cells := 0, slots := 0, locals := 0 } : Room)) (av := [.ref h0, .int v_c]) (wc := [(h0, .inr (6, [.ref x0, .int 0, .ref x1, .ref x3, .ref x11, .ref x19, .ref x22, .int 0, .ref x29, .ref x33, .ref x36, .ref x42, .int 0, .long 0]))]) (cc := cX6_allTakenDoFor) (maxL := 3) (ret := (some .boolean)) (Qc := fun _ A => va_Qi (S := Unit) (fun (r : Int32) (_ : Unit) => r = 1) (Aft D (fun (u : Unit) => [(h0, .inr (6, [.ref x0, .int 0, .ref x1, .ref x3, .ref x11, .ref x19, .ref x22, .int 0, .ref x29, .ref x33, .ref x36, .ref x42, .int 0, .long 0]))]) A) A) (by decide) rfl (Nat.le_of_ble_eq_true rfl) ?_
  intro p e s m below meth c A H locs ⟨hx, hb, hr, hml, hown, hts, hlk, hnm⟩ hK hP hD hS hA ls hl
  have hl : lv_has ls 3 [(0, .ref h0), (1, .int v_c)] := hl
  have hown : s.vm.findClass RX6 = some m.cls := hown
  refine lv_iconst (v := 0) hx hb dX6_allTakenDoFor_0 (by decide) ?_
  refine lv_istore_n (lv' := [(2, .int 0), (0, .ref h0), (1, .int v_c)]) hx hb dX6_allTakenDoFor_1 rfl hl (by decide) rfl (fun ls hl => ?_)
  refine lv_iload_n hx hb dX6_allTakenDoFor_2 rfl (lv_at hl 0 rfl) ?_
  refine lv_aload_n hx hb dX6_allTakenDoFor_3 rfl (lv_at hl 1 rfl) ?_
  refine va_get (D := D) (ci := 6) (v := .int 0) (C := RX6) (T := TX6) (N := 14) hx hb hts in_X6_allTakenDoFor_6 hown hK.1 hP 0 rfl rfl 12 (by decide) (hts (.fieldLink RX6 72 "ChildCoins" "takenCount" "I") (List.mem_of_getElem? (i := 1) rfl)) (fun _ h9 => h9) rfl dX6_allTakenDoFor_4 ?_
  refine lv_icmp_ge (tgt := 38) hx hb dX6_allTakenDoFor_7 (by decide) (fun h1 => ?_) (fun h1 => absurd (by decide) h1)
  refine lv_iconst (v := 1) hx hb dX6_allTakenDoFor_38 (by decide) ?_
  exact en_z hx hb hr hlk hP hD hS () [0] (by decide) rfl (Nat.le_of_ble_eq_true rfl) (Nat.le_of_ble_eq_true rfl) dX6_allTakenDoFor_39 rfl rfl
