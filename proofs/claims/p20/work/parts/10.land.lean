set_option maxRecDepth 20000 in
theorem dAX0_hasCoin : decA cX0_hasCoin [(0, .iload_n 1, 1), (1, .ifCond .lt 15, 3), (4, .iload_n 1, 1), (5, .aload_n 0, 1), (6, .getfield 9, 3), (9, .if_icmp .ge 7, 3), (12, .iconst 1, 1), (13, .goto 4, 3), (16, .iconst 0, 1), (17, .ireturn, 1)] = true := by decide +kernel
theorem dX0_hasCoin_0 : decode cX0_hasCoin 0 = .ok (.iload_n 1, 1) := decA_get dAX0_hasCoin 0 rfl
theorem dX0_hasCoin_1 : decode cX0_hasCoin 1 = .ok (.ifCond .lt 15, 3) := decA_get dAX0_hasCoin 1 rfl
theorem dX0_hasCoin_16 : decode cX0_hasCoin 16 = .ok (.iconst 0, 1) := decA_get dAX0_hasCoin 8 rfl
theorem dX0_hasCoin_17 : decode cX0_hasCoin 17 = .ok (.ireturn, 1) := decA_get dAX0_hasCoin 9 rfl
theorem dX0_hasCoin_4 : decode cX0_hasCoin 4 = .ok (.iload_n 1, 1) := decA_get dAX0_hasCoin 2 rfl
theorem dX0_hasCoin_5 : decode cX0_hasCoin 5 = .ok (.aload_n 0, 1) := decA_get dAX0_hasCoin 3 rfl
theorem dX0_hasCoin_6 : decode cX0_hasCoin 6 = .ok (.getfield 9, 3) := decA_get dAX0_hasCoin 4 rfl
theorem in_X0_hasCoin_0 : ∀ w ∈ wsX00, w ∈ wsX0_hasCoin := fun w h => (gd_ids wi_X0_hasCoin wm_X0_hasCoin wi_X00 (by decide +kernel) w h).1
theorem dX0_hasCoin_9 : decode cX0_hasCoin 9 = .ok (.if_icmp .ge 7, 3) := decA_get dAX0_hasCoin 5 rfl
theorem dX0_hasCoin_12 : decode cX0_hasCoin 12 = .ok (.iconst 1, 1) := decA_get dAX0_hasCoin 6 rfl
theorem dX0_hasCoin_13 : decode cX0_hasCoin 13 = .ok (.goto 4, 3) := decA_get dAX0_hasCoin 7 rfl
set_option maxHeartbeats 4000000 in
set_option maxRecDepth 100000 in
theorem g_hasCoin (l : Launch) (D : va_G) (cI cB cZ cN : ClassId) (Lh : Nat) (La1 : Nat) (La2 : Nat) (La4 : Nat) (La5 : Nat) (La7 : Nat) (La8 : Nat) (La9 : Nat) (LS : Nat → Nat → Nat) (v_c : Int32) (hL : LandOk LS) : Ci (S := Unit) l D cI cB cZ cN yX0_hasCoin wsX0_hasCoin ({ frames := 0, cells := 0, slots := 0, locals := 0 } : Room) [.ref Lh, .int v_c] [(Lh, .inr (0, [.int (nI (LS 0 0)), .ref La1, .ref La2, .int (nI (LS 3 0)), .ref La4, .ref La5, .int (nI (LS 6 0)), .ref La7, .ref La8, .ref La9, .int (nI (LS 10 0)), .int (nI (LS 11 0))])), (La1, .inl (cI, 6, .inl (nF (LS 1)))), (La2, .inl (cI, 6, .inl (nF (LS 2)))), (La4, .inl (cI, 5, .inl (nF (LS 4)))), (La5, .inl (cI, 30, .inl (nF (LS 5)))), (La7, .inl (cI, 5, .inl (nF (LS 7)))), (La8, .inl (cI, 5, .inl (nF (LS 8)))), (La9, .inl (cI, 5, .inl (nF (LS 9))))] (fun (r : Int32) (_ : Unit) => (r = nI 1 ∧ inN v_c (LS 0 0)) ∨ (r = nI 0 ∧ ¬ inN v_c (LS 0 0))) (fun u => [(Lh, .inr (0, [.int (nI (LS 0 0)), .ref La1, .ref La2, .int (nI (LS 3 0)), .ref La4, .ref La5, .int (nI (LS 6 0)), .ref La7, .ref La8, .ref La9, .int (nI (LS 10 0)), .int (nI (LS 11 0))])), (La1, .inl (cI, 6, .inl (nF (LS 1)))), (La2, .inl (cI, 6, .inl (nF (LS 2)))), (La4, .inl (cI, 5, .inl (nF (LS 4)))), (La5, .inl (cI, 30, .inl (nF (LS 5)))), (La7, .inl (cI, 5, .inl (nF (LS 7)))), (La8, .inl (cI, 5, .inl (nF (LS 8)))), (La9, .inl (cI, 5, .inl (nF (LS 9))))]) := by
  refine bx_of (D := D) (cI := cI) (cB := cB) (cZ := cZ) (cN := cN) (y := yX0_hasCoin) (wd := wsX0_hasCoin) (rm := ({ frames := 0, cells := 0, slots := 0, locals := 0 } : Room)) (av := [.ref Lh, .int v_c]) (wc := [(Lh, .inr (0, [.int (nI (LS 0 0)), .ref La1, .ref La2, .int (nI (LS 3 0)), .ref La4, .ref La5, .int (nI (LS 6 0)), .ref La7, .ref La8, .ref La9, .int (nI (LS 10 0)), .int (nI (LS 11 0))])), (La1, .inl (cI, 6, .inl (nF (LS 1)))), (La2, .inl (cI, 6, .inl (nF (LS 2)))), (La4, .inl (cI, 5, .inl (nF (LS 4)))), (La5, .inl (cI, 30, .inl (nF (LS 5)))), (La7, .inl (cI, 5, .inl (nF (LS 7)))), (La8, .inl (cI, 5, .inl (nF (LS 8)))), (La9, .inl (cI, 5, .inl (nF (LS 9))))]) (cc := cX0_hasCoin) (maxL := 2) (ret := (some .boolean)) (Qc := fun _ A => va_Qi (S := Unit) (fun (r : Int32) (_ : Unit) => (r = nI 1 ∧ inN v_c (LS 0 0)) ∨ (r = nI 0 ∧ ¬ inN v_c (LS 0 0))) (Aft D (fun (u : Unit) => [(Lh, .inr (0, [.int (nI (LS 0 0)), .ref La1, .ref La2, .int (nI (LS 3 0)), .ref La4, .ref La5, .int (nI (LS 6 0)), .ref La7, .ref La8, .ref La9, .int (nI (LS 10 0)), .int (nI (LS 11 0))])), (La1, .inl (cI, 6, .inl (nF (LS 1)))), (La2, .inl (cI, 6, .inl (nF (LS 2)))), (La4, .inl (cI, 5, .inl (nF (LS 4)))), (La5, .inl (cI, 30, .inl (nF (LS 5)))), (La7, .inl (cI, 5, .inl (nF (LS 7)))), (La8, .inl (cI, 5, .inl (nF (LS 8)))), (La9, .inl (cI, 5, .inl (nF (LS 9))))]) A) A) (by decide) rfl (Nat.le_of_ble_eq_true rfl) ?_
  intro p e s m below meth c A H locs ⟨hx, hb, hr, hml, hown, hts, hlk, hnm⟩ hK hP hD hS hA ls hl
  have hl : lv_has ls 2 [(0, .ref Lh), (1, .int v_c)] := hl
  have hown : s.vm.findClass RX0 = some m.cls := hown
  obtain ⟨bl0, bl3, bl6, bl10, bl11, bl1, bl2, bl4, bl5, bl7, bl8, bl9⟩ := hL
  refine lv_iload_n hx hb dX0_hasCoin_0 rfl (lv_at hl 1 rfl) ?_
  refine lv_if_lt (tgt := 16) hx hb dX0_hasCoin_1 (by decide) (fun hq1 => ?_) (fun hq1 => ?_)
  · skip
    refine lv_iconst (v := nI 0) hx hb dX0_hasCoin_16 (by decide) ?_
    exact en_z hx hb hr hlk hP hD hS () [0, 1, 2, 3, 4, 5, 6, 7] (by decide) rfl (Nat.le_of_ble_eq_true rfl) (Nat.le_of_ble_eq_true rfl) dX0_hasCoin_17 rfl (Or.inr ⟨rfl, inN_neg (by omega) hq1⟩)
  · skip
    refine lv_iload_n hx hb dX0_hasCoin_4 rfl (lv_at hl 1 rfl) ?_
    refine lv_aload_n hx hb dX0_hasCoin_5 rfl (lv_at hl 0 rfl) ?_
    refine va_get (D := D) (ci := 0) (v := .int (nI (LS 0 0))) (C := RX0) (T := TX0) (N := 12) hx hb hts in_X0_hasCoin_0 hown hK.1 hP 0 rfl rfl 0 (by decide) (hts (.fieldLink RX0 9 "ChildCoins$Land" "coins" "I") (List.mem_of_getElem? (i := 1) rfl)) (fun _ h9 => h9) rfl dX0_hasCoin_6 ?_
    refine lv_icmp_ge (tgt := 16) hx hb dX0_hasCoin_9 (by decide) (fun hq2 => ?_) (fun hq2 => ?_)
    · skip
      refine lv_iconst (v := nI 0) hx hb dX0_hasCoin_16 (by decide) ?_
      exact en_z hx hb hr hlk hP hD hS () [0, 1, 2, 3, 4, 5, 6, 7] (by decide) rfl (Nat.le_of_ble_eq_true rfl) (Nat.le_of_ble_eq_true rfl) dX0_hasCoin_17 rfl (Or.inr ⟨rfl, inN_ge (by omega) hq2⟩)
    · skip
      refine lv_iconst (v := nI 1) hx hb dX0_hasCoin_12 (by decide) ?_
      refine lv_goto (tgt := 17) hx hb dX0_hasCoin_13 (by decide) ?_
      exact en_z hx hb hr hlk hP hD hS () [0, 1, 2, 3, 4, 5, 6, 7] (by decide) rfl (Nat.le_of_ble_eq_true rfl) (Nat.le_of_ble_eq_true rfl) dX0_hasCoin_17 rfl (Or.inl ⟨rfl, inN_of (by omega) hq1 hq2⟩)
set_option maxRecDepth 20000 in
theorem dAX0_hasPerson : decA cX0_hasPerson [(0, .iload_n 1, 1), (1, .ifCond .lt 15, 3), (4, .iload_n 1, 1), (5, .aload_n 0, 1), (6, .getfield 22, 3), (9, .if_icmp .ge 7, 3), (12, .iconst 1, 1), (13, .goto 4, 3), (16, .iconst 0, 1), (17, .ireturn, 1)] = true := by decide +kernel
theorem dX0_hasPerson_0 : decode cX0_hasPerson 0 = .ok (.iload_n 1, 1) := decA_get dAX0_hasPerson 0 rfl
theorem dX0_hasPerson_1 : decode cX0_hasPerson 1 = .ok (.ifCond .lt 15, 3) := decA_get dAX0_hasPerson 1 rfl
theorem dX0_hasPerson_16 : decode cX0_hasPerson 16 = .ok (.iconst 0, 1) := decA_get dAX0_hasPerson 8 rfl
theorem dX0_hasPerson_17 : decode cX0_hasPerson 17 = .ok (.ireturn, 1) := decA_get dAX0_hasPerson 9 rfl
theorem dX0_hasPerson_4 : decode cX0_hasPerson 4 = .ok (.iload_n 1, 1) := decA_get dAX0_hasPerson 2 rfl
theorem dX0_hasPerson_5 : decode cX0_hasPerson 5 = .ok (.aload_n 0, 1) := decA_get dAX0_hasPerson 3 rfl
theorem dX0_hasPerson_6 : decode cX0_hasPerson 6 = .ok (.getfield 22, 3) := decA_get dAX0_hasPerson 4 rfl
theorem in_X0_hasPerson_0 : ∀ w ∈ wsX00, w ∈ wsX0_hasPerson := fun w h => (gd_ids wi_X0_hasPerson wm_X0_hasPerson wi_X00 (by decide +kernel) w h).1
theorem dX0_hasPerson_9 : decode cX0_hasPerson 9 = .ok (.if_icmp .ge 7, 3) := decA_get dAX0_hasPerson 5 rfl
theorem dX0_hasPerson_12 : decode cX0_hasPerson 12 = .ok (.iconst 1, 1) := decA_get dAX0_hasPerson 6 rfl
theorem dX0_hasPerson_13 : decode cX0_hasPerson 13 = .ok (.goto 4, 3) := decA_get dAX0_hasPerson 7 rfl
set_option maxHeartbeats 4000000 in
set_option maxRecDepth 100000 in
theorem g_hasPerson (l : Launch) (D : va_G) (cI cB cZ cN : ClassId) (Lh : Nat) (La1 : Nat) (La2 : Nat) (La4 : Nat) (La5 : Nat) (La7 : Nat) (La8 : Nat) (La9 : Nat) (LS : Nat → Nat → Nat) (v_c : Int32) (hL : LandOk LS) : Ci (S := Unit) l D cI cB cZ cN yX0_hasPerson wsX0_hasPerson ({ frames := 0, cells := 0, slots := 0, locals := 0 } : Room) [.ref Lh, .int v_c] [(Lh, .inr (0, [.int (nI (LS 0 0)), .ref La1, .ref La2, .int (nI (LS 3 0)), .ref La4, .ref La5, .int (nI (LS 6 0)), .ref La7, .ref La8, .ref La9, .int (nI (LS 10 0)), .int (nI (LS 11 0))])), (La1, .inl (cI, 6, .inl (nF (LS 1)))), (La2, .inl (cI, 6, .inl (nF (LS 2)))), (La4, .inl (cI, 5, .inl (nF (LS 4)))), (La5, .inl (cI, 30, .inl (nF (LS 5)))), (La7, .inl (cI, 5, .inl (nF (LS 7)))), (La8, .inl (cI, 5, .inl (nF (LS 8)))), (La9, .inl (cI, 5, .inl (nF (LS 9))))] (fun (r : Int32) (_ : Unit) => (r = nI 1 ∧ inN v_c (LS 3 0)) ∨ (r = nI 0 ∧ ¬ inN v_c (LS 3 0))) (fun u => [(Lh, .inr (0, [.int (nI (LS 0 0)), .ref La1, .ref La2, .int (nI (LS 3 0)), .ref La4, .ref La5, .int (nI (LS 6 0)), .ref La7, .ref La8, .ref La9, .int (nI (LS 10 0)), .int (nI (LS 11 0))])), (La1, .inl (cI, 6, .inl (nF (LS 1)))), (La2, .inl (cI, 6, .inl (nF (LS 2)))), (La4, .inl (cI, 5, .inl (nF (LS 4)))), (La5, .inl (cI, 30, .inl (nF (LS 5)))), (La7, .inl (cI, 5, .inl (nF (LS 7)))), (La8, .inl (cI, 5, .inl (nF (LS 8)))), (La9, .inl (cI, 5, .inl (nF (LS 9))))]) := by
  refine bx_of (D := D) (cI := cI) (cB := cB) (cZ := cZ) (cN := cN) (y := yX0_hasPerson) (wd := wsX0_hasPerson) (rm := ({ frames := 0, cells := 0, slots := 0, locals := 0 } : Room)) (av := [.ref Lh, .int v_c]) (wc := [(Lh, .inr (0, [.int (nI (LS 0 0)), .ref La1, .ref La2, .int (nI (LS 3 0)), .ref La4, .ref La5, .int (nI (LS 6 0)), .ref La7, .ref La8, .ref La9, .int (nI (LS 10 0)), .int (nI (LS 11 0))])), (La1, .inl (cI, 6, .inl (nF (LS 1)))), (La2, .inl (cI, 6, .inl (nF (LS 2)))), (La4, .inl (cI, 5, .inl (nF (LS 4)))), (La5, .inl (cI, 30, .inl (nF (LS 5)))), (La7, .inl (cI, 5, .inl (nF (LS 7)))), (La8, .inl (cI, 5, .inl (nF (LS 8)))), (La9, .inl (cI, 5, .inl (nF (LS 9))))]) (cc := cX0_hasPerson) (maxL := 2) (ret := (some .boolean)) (Qc := fun _ A => va_Qi (S := Unit) (fun (r : Int32) (_ : Unit) => (r = nI 1 ∧ inN v_c (LS 3 0)) ∨ (r = nI 0 ∧ ¬ inN v_c (LS 3 0))) (Aft D (fun (u : Unit) => [(Lh, .inr (0, [.int (nI (LS 0 0)), .ref La1, .ref La2, .int (nI (LS 3 0)), .ref La4, .ref La5, .int (nI (LS 6 0)), .ref La7, .ref La8, .ref La9, .int (nI (LS 10 0)), .int (nI (LS 11 0))])), (La1, .inl (cI, 6, .inl (nF (LS 1)))), (La2, .inl (cI, 6, .inl (nF (LS 2)))), (La4, .inl (cI, 5, .inl (nF (LS 4)))), (La5, .inl (cI, 30, .inl (nF (LS 5)))), (La7, .inl (cI, 5, .inl (nF (LS 7)))), (La8, .inl (cI, 5, .inl (nF (LS 8)))), (La9, .inl (cI, 5, .inl (nF (LS 9))))]) A) A) (by decide) rfl (Nat.le_of_ble_eq_true rfl) ?_
  intro p e s m below meth c A H locs ⟨hx, hb, hr, hml, hown, hts, hlk, hnm⟩ hK hP hD hS hA ls hl
  have hl : lv_has ls 2 [(0, .ref Lh), (1, .int v_c)] := hl
  have hown : s.vm.findClass RX0 = some m.cls := hown
  obtain ⟨bl0, bl3, bl6, bl10, bl11, bl1, bl2, bl4, bl5, bl7, bl8, bl9⟩ := hL
  refine lv_iload_n hx hb dX0_hasPerson_0 rfl (lv_at hl 1 rfl) ?_
  refine lv_if_lt (tgt := 16) hx hb dX0_hasPerson_1 (by decide) (fun hq1 => ?_) (fun hq1 => ?_)
  · skip
    refine lv_iconst (v := nI 0) hx hb dX0_hasPerson_16 (by decide) ?_
    exact en_z hx hb hr hlk hP hD hS () [0, 1, 2, 3, 4, 5, 6, 7] (by decide) rfl (Nat.le_of_ble_eq_true rfl) (Nat.le_of_ble_eq_true rfl) dX0_hasPerson_17 rfl (Or.inr ⟨rfl, inN_neg (by omega) hq1⟩)
  · skip
    refine lv_iload_n hx hb dX0_hasPerson_4 rfl (lv_at hl 1 rfl) ?_
    refine lv_aload_n hx hb dX0_hasPerson_5 rfl (lv_at hl 0 rfl) ?_
    refine va_get (D := D) (ci := 0) (v := .int (nI (LS 3 0))) (C := RX0) (T := TX0) (N := 12) hx hb hts in_X0_hasPerson_0 hown hK.1 hP 0 rfl rfl 3 (by decide) (hts (.fieldLink RX0 22 "ChildCoins$Land" "people" "I") (List.mem_of_getElem? (i := 1) rfl)) (fun _ h9 => h9) rfl dX0_hasPerson_6 ?_
    refine lv_icmp_ge (tgt := 16) hx hb dX0_hasPerson_9 (by decide) (fun hq2 => ?_) (fun hq2 => ?_)
    · skip
      refine lv_iconst (v := nI 0) hx hb dX0_hasPerson_16 (by decide) ?_
      exact en_z hx hb hr hlk hP hD hS () [0, 1, 2, 3, 4, 5, 6, 7] (by decide) rfl (Nat.le_of_ble_eq_true rfl) (Nat.le_of_ble_eq_true rfl) dX0_hasPerson_17 rfl (Or.inr ⟨rfl, inN_ge (by omega) hq2⟩)
    · skip
      refine lv_iconst (v := nI 1) hx hb dX0_hasPerson_12 (by decide) ?_
      refine lv_goto (tgt := 17) hx hb dX0_hasPerson_13 (by decide) ?_
      exact en_z hx hb hr hlk hP hD hS () [0, 1, 2, 3, 4, 5, 6, 7] (by decide) rfl (Nat.le_of_ble_eq_true rfl) (Nat.le_of_ble_eq_true rfl) dX0_hasPerson_17 rfl (Or.inl ⟨rfl, inN_of (by omega) hq1 hq2⟩)
set_option maxRecDepth 20000 in
theorem dAX0_hasDebt : decA cX0_hasDebt [(0, .iload_n 1, 1), (1, .ifCond .lt 15, 3), (4, .iload_n 1, 1), (5, .aload_n 0, 1), (6, .getfield 31, 3), (9, .if_icmp .ge 7, 3), (12, .iconst 1, 1), (13, .goto 4, 3), (16, .iconst 0, 1), (17, .ireturn, 1)] = true := by decide +kernel
theorem dX0_hasDebt_0 : decode cX0_hasDebt 0 = .ok (.iload_n 1, 1) := decA_get dAX0_hasDebt 0 rfl
theorem dX0_hasDebt_1 : decode cX0_hasDebt 1 = .ok (.ifCond .lt 15, 3) := decA_get dAX0_hasDebt 1 rfl
theorem dX0_hasDebt_16 : decode cX0_hasDebt 16 = .ok (.iconst 0, 1) := decA_get dAX0_hasDebt 8 rfl
theorem dX0_hasDebt_17 : decode cX0_hasDebt 17 = .ok (.ireturn, 1) := decA_get dAX0_hasDebt 9 rfl
theorem dX0_hasDebt_4 : decode cX0_hasDebt 4 = .ok (.iload_n 1, 1) := decA_get dAX0_hasDebt 2 rfl
theorem dX0_hasDebt_5 : decode cX0_hasDebt 5 = .ok (.aload_n 0, 1) := decA_get dAX0_hasDebt 3 rfl
theorem dX0_hasDebt_6 : decode cX0_hasDebt 6 = .ok (.getfield 31, 3) := decA_get dAX0_hasDebt 4 rfl
theorem in_X0_hasDebt_0 : ∀ w ∈ wsX00, w ∈ wsX0_hasDebt := fun w h => (gd_ids wi_X0_hasDebt wm_X0_hasDebt wi_X00 (by decide +kernel) w h).1
theorem dX0_hasDebt_9 : decode cX0_hasDebt 9 = .ok (.if_icmp .ge 7, 3) := decA_get dAX0_hasDebt 5 rfl
theorem dX0_hasDebt_12 : decode cX0_hasDebt 12 = .ok (.iconst 1, 1) := decA_get dAX0_hasDebt 6 rfl
theorem dX0_hasDebt_13 : decode cX0_hasDebt 13 = .ok (.goto 4, 3) := decA_get dAX0_hasDebt 7 rfl
set_option maxHeartbeats 4000000 in
set_option maxRecDepth 100000 in
theorem g_hasDebt (l : Launch) (D : va_G) (cI cB cZ cN : ClassId) (Lh : Nat) (La1 : Nat) (La2 : Nat) (La4 : Nat) (La5 : Nat) (La7 : Nat) (La8 : Nat) (La9 : Nat) (LS : Nat → Nat → Nat) (v_c : Int32) (hL : LandOk LS) : Ci (S := Unit) l D cI cB cZ cN yX0_hasDebt wsX0_hasDebt ({ frames := 0, cells := 0, slots := 0, locals := 0 } : Room) [.ref Lh, .int v_c] [(Lh, .inr (0, [.int (nI (LS 0 0)), .ref La1, .ref La2, .int (nI (LS 3 0)), .ref La4, .ref La5, .int (nI (LS 6 0)), .ref La7, .ref La8, .ref La9, .int (nI (LS 10 0)), .int (nI (LS 11 0))])), (La1, .inl (cI, 6, .inl (nF (LS 1)))), (La2, .inl (cI, 6, .inl (nF (LS 2)))), (La4, .inl (cI, 5, .inl (nF (LS 4)))), (La5, .inl (cI, 30, .inl (nF (LS 5)))), (La7, .inl (cI, 5, .inl (nF (LS 7)))), (La8, .inl (cI, 5, .inl (nF (LS 8)))), (La9, .inl (cI, 5, .inl (nF (LS 9))))] (fun (r : Int32) (_ : Unit) => (r = nI 1 ∧ inN v_c (LS 6 0)) ∨ (r = nI 0 ∧ ¬ inN v_c (LS 6 0))) (fun u => [(Lh, .inr (0, [.int (nI (LS 0 0)), .ref La1, .ref La2, .int (nI (LS 3 0)), .ref La4, .ref La5, .int (nI (LS 6 0)), .ref La7, .ref La8, .ref La9, .int (nI (LS 10 0)), .int (nI (LS 11 0))])), (La1, .inl (cI, 6, .inl (nF (LS 1)))), (La2, .inl (cI, 6, .inl (nF (LS 2)))), (La4, .inl (cI, 5, .inl (nF (LS 4)))), (La5, .inl (cI, 30, .inl (nF (LS 5)))), (La7, .inl (cI, 5, .inl (nF (LS 7)))), (La8, .inl (cI, 5, .inl (nF (LS 8)))), (La9, .inl (cI, 5, .inl (nF (LS 9))))]) := by
  refine bx_of (D := D) (cI := cI) (cB := cB) (cZ := cZ) (cN := cN) (y := yX0_hasDebt) (wd := wsX0_hasDebt) (rm := ({ frames := 0, cells := 0, slots := 0, locals := 0 } : Room)) (av := [.ref Lh, .int v_c]) (wc := [(Lh, .inr (0, [.int (nI (LS 0 0)), .ref La1, .ref La2, .int (nI (LS 3 0)), .ref La4, .ref La5, .int (nI (LS 6 0)), .ref La7, .ref La8, .ref La9, .int (nI (LS 10 0)), .int (nI (LS 11 0))])), (La1, .inl (cI, 6, .inl (nF (LS 1)))), (La2, .inl (cI, 6, .inl (nF (LS 2)))), (La4, .inl (cI, 5, .inl (nF (LS 4)))), (La5, .inl (cI, 30, .inl (nF (LS 5)))), (La7, .inl (cI, 5, .inl (nF (LS 7)))), (La8, .inl (cI, 5, .inl (nF (LS 8)))), (La9, .inl (cI, 5, .inl (nF (LS 9))))]) (cc := cX0_hasDebt) (maxL := 2) (ret := (some .boolean)) (Qc := fun _ A => va_Qi (S := Unit) (fun (r : Int32) (_ : Unit) => (r = nI 1 ∧ inN v_c (LS 6 0)) ∨ (r = nI 0 ∧ ¬ inN v_c (LS 6 0))) (Aft D (fun (u : Unit) => [(Lh, .inr (0, [.int (nI (LS 0 0)), .ref La1, .ref La2, .int (nI (LS 3 0)), .ref La4, .ref La5, .int (nI (LS 6 0)), .ref La7, .ref La8, .ref La9, .int (nI (LS 10 0)), .int (nI (LS 11 0))])), (La1, .inl (cI, 6, .inl (nF (LS 1)))), (La2, .inl (cI, 6, .inl (nF (LS 2)))), (La4, .inl (cI, 5, .inl (nF (LS 4)))), (La5, .inl (cI, 30, .inl (nF (LS 5)))), (La7, .inl (cI, 5, .inl (nF (LS 7)))), (La8, .inl (cI, 5, .inl (nF (LS 8)))), (La9, .inl (cI, 5, .inl (nF (LS 9))))]) A) A) (by decide) rfl (Nat.le_of_ble_eq_true rfl) ?_
  intro p e s m below meth c A H locs ⟨hx, hb, hr, hml, hown, hts, hlk, hnm⟩ hK hP hD hS hA ls hl
  have hl : lv_has ls 2 [(0, .ref Lh), (1, .int v_c)] := hl
  have hown : s.vm.findClass RX0 = some m.cls := hown
  obtain ⟨bl0, bl3, bl6, bl10, bl11, bl1, bl2, bl4, bl5, bl7, bl8, bl9⟩ := hL
  refine lv_iload_n hx hb dX0_hasDebt_0 rfl (lv_at hl 1 rfl) ?_
  refine lv_if_lt (tgt := 16) hx hb dX0_hasDebt_1 (by decide) (fun hq1 => ?_) (fun hq1 => ?_)
  · skip
    refine lv_iconst (v := nI 0) hx hb dX0_hasDebt_16 (by decide) ?_
    exact en_z hx hb hr hlk hP hD hS () [0, 1, 2, 3, 4, 5, 6, 7] (by decide) rfl (Nat.le_of_ble_eq_true rfl) (Nat.le_of_ble_eq_true rfl) dX0_hasDebt_17 rfl (Or.inr ⟨rfl, inN_neg (by omega) hq1⟩)
  · skip
    refine lv_iload_n hx hb dX0_hasDebt_4 rfl (lv_at hl 1 rfl) ?_
    refine lv_aload_n hx hb dX0_hasDebt_5 rfl (lv_at hl 0 rfl) ?_
    refine va_get (D := D) (ci := 0) (v := .int (nI (LS 6 0))) (C := RX0) (T := TX0) (N := 12) hx hb hts in_X0_hasDebt_0 hown hK.1 hP 0 rfl rfl 6 (by decide) (hts (.fieldLink RX0 31 "ChildCoins$Land" "debts" "I") (List.mem_of_getElem? (i := 1) rfl)) (fun _ h9 => h9) rfl dX0_hasDebt_6 ?_
    refine lv_icmp_ge (tgt := 16) hx hb dX0_hasDebt_9 (by decide) (fun hq2 => ?_) (fun hq2 => ?_)
    · skip
      refine lv_iconst (v := nI 0) hx hb dX0_hasDebt_16 (by decide) ?_
      exact en_z hx hb hr hlk hP hD hS () [0, 1, 2, 3, 4, 5, 6, 7] (by decide) rfl (Nat.le_of_ble_eq_true rfl) (Nat.le_of_ble_eq_true rfl) dX0_hasDebt_17 rfl (Or.inr ⟨rfl, inN_ge (by omega) hq2⟩)
    · skip
      refine lv_iconst (v := nI 1) hx hb dX0_hasDebt_12 (by decide) ?_
      refine lv_goto (tgt := 17) hx hb dX0_hasDebt_13 (by decide) ?_
      exact en_z hx hb hr hlk hP hD hS () [0, 1, 2, 3, 4, 5, 6, 7] (by decide) rfl (Nat.le_of_ble_eq_true rfl) (Nat.le_of_ble_eq_true rfl) dX0_hasDebt_17 rfl (Or.inl ⟨rfl, inN_of (by omega) hq1 hq2⟩)
set_option maxRecDepth 20000 in
theorem dAX0_isAbout : decA cX0_isAbout [(0, .aload_n 0, 1), (1, .getfield 15, 3), (4, .iload_n 1, 1), (5, .iaload, 1), (6, .iload_n 2, 1), (7, .if_icmp .gt 22, 3), (10, .iload_n 2, 1), (11, .aload_n 0, 1), (12, .getfield 15, 3), (15, .iload_n 1, 1), (16, .iaload, 1), (17, .aload_n 0, 1), (18, .getfield 43, 3), (21, .iadd, 1), (22, .if_icmp .ge 7, 3), (25, .iconst 1, 1), (26, .goto 4, 3), (29, .iconst 0, 1), (30, .ireturn, 1)] = true := by decide +kernel
theorem dX0_isAbout_0 : decode cX0_isAbout 0 = .ok (.aload_n 0, 1) := decA_get dAX0_isAbout 0 rfl
theorem dX0_isAbout_1 : decode cX0_isAbout 1 = .ok (.getfield 15, 3) := decA_get dAX0_isAbout 1 rfl
theorem in_X0_isAbout_0 : ∀ w ∈ wsX00, w ∈ wsX0_isAbout := fun w h => (gd_ids wi_X0_isAbout wm_X0_isAbout wi_X00 (by decide +kernel) w h).1
theorem dX0_isAbout_4 : decode cX0_isAbout 4 = .ok (.iload_n 1, 1) := decA_get dAX0_isAbout 2 rfl
theorem dX0_isAbout_5 : decode cX0_isAbout 5 = .ok (.iaload, 1) := decA_get dAX0_isAbout 3 rfl
theorem dX0_isAbout_6 : decode cX0_isAbout 6 = .ok (.iload_n 2, 1) := decA_get dAX0_isAbout 4 rfl
theorem dX0_isAbout_7 : decode cX0_isAbout 7 = .ok (.if_icmp .gt 22, 3) := decA_get dAX0_isAbout 5 rfl
theorem dX0_isAbout_29 : decode cX0_isAbout 29 = .ok (.iconst 0, 1) := decA_get dAX0_isAbout 17 rfl
theorem dX0_isAbout_30 : decode cX0_isAbout 30 = .ok (.ireturn, 1) := decA_get dAX0_isAbout 18 rfl
theorem dX0_isAbout_10 : decode cX0_isAbout 10 = .ok (.iload_n 2, 1) := decA_get dAX0_isAbout 6 rfl
theorem dX0_isAbout_11 : decode cX0_isAbout 11 = .ok (.aload_n 0, 1) := decA_get dAX0_isAbout 7 rfl
theorem dX0_isAbout_12 : decode cX0_isAbout 12 = .ok (.getfield 15, 3) := decA_get dAX0_isAbout 8 rfl
theorem dX0_isAbout_15 : decode cX0_isAbout 15 = .ok (.iload_n 1, 1) := decA_get dAX0_isAbout 9 rfl
theorem dX0_isAbout_16 : decode cX0_isAbout 16 = .ok (.iaload, 1) := decA_get dAX0_isAbout 10 rfl
theorem dX0_isAbout_17 : decode cX0_isAbout 17 = .ok (.aload_n 0, 1) := decA_get dAX0_isAbout 11 rfl
theorem dX0_isAbout_18 : decode cX0_isAbout 18 = .ok (.getfield 43, 3) := decA_get dAX0_isAbout 12 rfl
theorem dX0_isAbout_21 : decode cX0_isAbout 21 = .ok (.iadd, 1) := decA_get dAX0_isAbout 13 rfl
theorem dX0_isAbout_22 : decode cX0_isAbout 22 = .ok (.if_icmp .ge 7, 3) := decA_get dAX0_isAbout 14 rfl
theorem dX0_isAbout_25 : decode cX0_isAbout 25 = .ok (.iconst 1, 1) := decA_get dAX0_isAbout 15 rfl
theorem dX0_isAbout_26 : decode cX0_isAbout 26 = .ok (.goto 4, 3) := decA_get dAX0_isAbout 16 rfl
set_option maxHeartbeats 4000000 in
set_option maxRecDepth 100000 in
theorem g_isAbout (l : Launch) (D : va_G) (cI cB cZ cN : ClassId) (Lh : Nat) (La1 : Nat) (La2 : Nat) (La4 : Nat) (La5 : Nat) (La7 : Nat) (La8 : Nat) (La9 : Nat) (LS : Nat → Nat → Nat) (v_c : Nat) (v_y : Nat) (hL : LandOk LS) (hc : v_c < 6) (hy : v_y < 1000) : Ci (S := Unit) l D cI cB cZ cN yX0_isAbout wsX0_isAbout ({ frames := 0, cells := 0, slots := 0, locals := 0 } : Room) [.ref Lh, .int (nI v_c), .int (nI v_y)] [(Lh, .inr (0, [.int (nI (LS 0 0)), .ref La1, .ref La2, .int (nI (LS 3 0)), .ref La4, .ref La5, .int (nI (LS 6 0)), .ref La7, .ref La8, .ref La9, .int (nI (LS 10 0)), .int (nI (LS 11 0))])), (La1, .inl (cI, 6, .inl (nF (LS 1)))), (La2, .inl (cI, 6, .inl (nF (LS 2)))), (La4, .inl (cI, 5, .inl (nF (LS 4)))), (La5, .inl (cI, 30, .inl (nF (LS 5)))), (La7, .inl (cI, 5, .inl (nF (LS 7)))), (La8, .inl (cI, 5, .inl (nF (LS 8)))), (La9, .inl (cI, 5, .inl (nF (LS 9))))] (fun (r : Int32) (_ : Unit) => r = nI (abN LS v_c v_y)) (fun u => [(Lh, .inr (0, [.int (nI (LS 0 0)), .ref La1, .ref La2, .int (nI (LS 3 0)), .ref La4, .ref La5, .int (nI (LS 6 0)), .ref La7, .ref La8, .ref La9, .int (nI (LS 10 0)), .int (nI (LS 11 0))])), (La1, .inl (cI, 6, .inl (nF (LS 1)))), (La2, .inl (cI, 6, .inl (nF (LS 2)))), (La4, .inl (cI, 5, .inl (nF (LS 4)))), (La5, .inl (cI, 30, .inl (nF (LS 5)))), (La7, .inl (cI, 5, .inl (nF (LS 7)))), (La8, .inl (cI, 5, .inl (nF (LS 8)))), (La9, .inl (cI, 5, .inl (nF (LS 9))))]) := by
  refine bx_of (D := D) (cI := cI) (cB := cB) (cZ := cZ) (cN := cN) (y := yX0_isAbout) (wd := wsX0_isAbout) (rm := ({ frames := 0, cells := 0, slots := 0, locals := 0 } : Room)) (av := [.ref Lh, .int (nI v_c), .int (nI v_y)]) (wc := [(Lh, .inr (0, [.int (nI (LS 0 0)), .ref La1, .ref La2, .int (nI (LS 3 0)), .ref La4, .ref La5, .int (nI (LS 6 0)), .ref La7, .ref La8, .ref La9, .int (nI (LS 10 0)), .int (nI (LS 11 0))])), (La1, .inl (cI, 6, .inl (nF (LS 1)))), (La2, .inl (cI, 6, .inl (nF (LS 2)))), (La4, .inl (cI, 5, .inl (nF (LS 4)))), (La5, .inl (cI, 30, .inl (nF (LS 5)))), (La7, .inl (cI, 5, .inl (nF (LS 7)))), (La8, .inl (cI, 5, .inl (nF (LS 8)))), (La9, .inl (cI, 5, .inl (nF (LS 9))))]) (cc := cX0_isAbout) (maxL := 3) (ret := (some .boolean)) (Qc := fun _ A => va_Qi (S := Unit) (fun (r : Int32) (_ : Unit) => r = nI (abN LS v_c v_y)) (Aft D (fun (u : Unit) => [(Lh, .inr (0, [.int (nI (LS 0 0)), .ref La1, .ref La2, .int (nI (LS 3 0)), .ref La4, .ref La5, .int (nI (LS 6 0)), .ref La7, .ref La8, .ref La9, .int (nI (LS 10 0)), .int (nI (LS 11 0))])), (La1, .inl (cI, 6, .inl (nF (LS 1)))), (La2, .inl (cI, 6, .inl (nF (LS 2)))), (La4, .inl (cI, 5, .inl (nF (LS 4)))), (La5, .inl (cI, 30, .inl (nF (LS 5)))), (La7, .inl (cI, 5, .inl (nF (LS 7)))), (La8, .inl (cI, 5, .inl (nF (LS 8)))), (La9, .inl (cI, 5, .inl (nF (LS 9))))]) A) A) (by decide) rfl (Nat.le_of_ble_eq_true rfl) ?_
  intro p e s m below meth c A H locs ⟨hx, hb, hr, hml, hown, hts, hlk, hnm⟩ hK hP hD hS hA ls hl
  have hl : lv_has ls 3 [(0, .ref Lh), (1, .int (nI v_c)), (2, .int (nI v_y))] := hl
  have hown : s.vm.findClass RX0 = some m.cls := hown
  obtain ⟨bl0, bl3, bl6, bl10, bl11, bl1, bl2, bl4, bl5, bl7, bl8, bl9⟩ := hL
  refine lv_aload_n hx hb dX0_isAbout_0 rfl (lv_at hl 0 rfl) ?_
  refine va_get (D := D) (ci := 0) (v := .ref La1) (C := RX0) (T := TX0) (N := 12) hx hb hts in_X0_isAbout_0 hown hK.1 hP 0 rfl rfl 1 (by decide) (hts (.fieldLink RX0 15 "ChildCoins$Land" "struck" "[I") (List.mem_of_getElem? (i := 1) rfl)) (fun _ h9 => h9) rfl dX0_isAbout_1 ?_
  refine lv_iload_n hx hb dX0_isAbout_4 rfl (lv_at hl 1 rfl) ?_
  refine va_iald hx hb hK.1 hP 1 0 rfl rfl (vp_in_nI (n := v_c) (N := 6) (by omega) (by decide)) dX0_isAbout_5 ?_
  refine set_i (y := nI (LS 1 v_c)) (nF_ld (by omega)) ?_
  have b1 := bl1 v_c
  refine lv_iload_n hx hb dX0_isAbout_6 rfl (lv_at hl 2 rfl) ?_
  refine nb_icmp_gt (tgt := 29) hx hb dX0_isAbout_7 (by decide) (by omega) (by omega) (fun hq2 => ?_) (fun hq2 => ?_)
  · skip
    refine lv_iconst (v := nI 0) hx hb dX0_isAbout_29 (by decide) ?_
    exact en_z hx hb hr hlk hP hD hS () [0, 1, 2, 3, 4, 5, 6, 7] (by decide) rfl (Nat.le_of_ble_eq_true rfl) (Nat.le_of_ble_eq_true rfl) dX0_isAbout_30 rfl (congrArg nI (by unfold abN; split <;> omega))
  · skip
    refine lv_iload_n hx hb dX0_isAbout_10 rfl (lv_at hl 2 rfl) ?_
    refine lv_aload_n hx hb dX0_isAbout_11 rfl (lv_at hl 0 rfl) ?_
    refine va_get (D := D) (ci := 0) (v := .ref La1) (C := RX0) (T := TX0) (N := 12) hx hb hts in_X0_isAbout_0 hown hK.1 hP 0 rfl rfl 1 (by decide) (hts (.fieldLink RX0 15 "ChildCoins$Land" "struck" "[I") (List.mem_of_getElem? (i := 1) rfl)) (fun _ h9 => h9) rfl dX0_isAbout_12 ?_
    refine lv_iload_n hx hb dX0_isAbout_15 rfl (lv_at hl 1 rfl) ?_
    refine va_iald hx hb hK.1 hP 1 0 rfl rfl (vp_in_nI (n := v_c) (N := 6) (by omega) (by decide)) dX0_isAbout_16 ?_
    refine set_i (y := nI (LS 1 v_c)) (nF_ld (by omega)) ?_
    have b3 := bl1 v_c
    refine lv_aload_n hx hb dX0_isAbout_17 rfl (lv_at hl 0 rfl) ?_
    refine va_get (D := D) (ci := 0) (v := .int (nI (LS 10 0))) (C := RX0) (T := TX0) (N := 12) hx hb hts in_X0_isAbout_0 hown hK.1 hP 0 rfl rfl 10 (by decide) (hts (.fieldLink RX0 43 "ChildCoins$Land" "span" "I") (List.mem_of_getElem? (i := 2) rfl)) (fun _ h9 => h9) rfl dX0_isAbout_18 ?_
    refine lv_iadd hx hb dX0_isAbout_21 ?_
    refine set_i (y := nI ((LS 1 v_c) + (LS 10 0))) (nI_add (LS 1 v_c) (LS 10 0)) ?_
    refine nb_icmp_ge (tgt := 29) hx hb dX0_isAbout_22 (by decide) (by omega) (by omega) (fun hq4 => ?_) (fun hq4 => ?_)
    · skip
      refine lv_iconst (v := nI 0) hx hb dX0_isAbout_29 (by decide) ?_
      exact en_z hx hb hr hlk hP hD hS () [0, 1, 2, 3, 4, 5, 6, 7] (by decide) rfl (Nat.le_of_ble_eq_true rfl) (Nat.le_of_ble_eq_true rfl) dX0_isAbout_30 rfl (congrArg nI (by unfold abN; split <;> omega))
    · skip
      refine lv_iconst (v := nI 1) hx hb dX0_isAbout_25 (by decide) ?_
      refine lv_goto (tgt := 30) hx hb dX0_isAbout_26 (by decide) ?_
      exact en_z hx hb hr hlk hP hD hS () [0, 1, 2, 3, 4, 5, 6, 7] (by decide) rfl (Nat.le_of_ble_eq_true rfl) (Nat.le_of_ble_eq_true rfl) dX0_isAbout_30 rfl (congrArg nI (by unfold abN; split <;> omega))
set_option maxRecDepth 20000 in
theorem dAX0_does : decA cX0_does [(0, .aload_n 0, 1), (1, .iload_n 1, 1), (2, .aload_n 0, 1), (3, .getfield 25, 3), (6, .iload_n 2, 1), (7, .iaload, 1), (8, .bipush 7, 2), (10, .iadd, 1), (11, .invokevirtual 50, 3), (14, .ireturn, 1)] = true := by decide +kernel
theorem dX0_does_0 : decode cX0_does 0 = .ok (.aload_n 0, 1) := decA_get dAX0_does 0 rfl
theorem dX0_does_1 : decode cX0_does 1 = .ok (.iload_n 1, 1) := decA_get dAX0_does 1 rfl
theorem dX0_does_2 : decode cX0_does 2 = .ok (.aload_n 0, 1) := decA_get dAX0_does 2 rfl
theorem dX0_does_3 : decode cX0_does 3 = .ok (.getfield 25, 3) := decA_get dAX0_does 3 rfl
theorem in_X0_does_0 : ∀ w ∈ wsX00, w ∈ wsX0_does := fun w h => (gd_ids wi_X0_does wm_X0_does wi_X00 (by decide +kernel) w h).1
theorem dX0_does_6 : decode cX0_does 6 = .ok (.iload_n 2, 1) := decA_get dAX0_does 4 rfl
theorem dX0_does_7 : decode cX0_does 7 = .ok (.iaload, 1) := decA_get dAX0_does 5 rfl
theorem dX0_does_8 : decode cX0_does 8 = .ok (.bipush 7, 2) := decA_get dAX0_does 6 rfl
theorem dX0_does_10 : decode cX0_does 10 = .ok (.iadd, 1) := decA_get dAX0_does 7 rfl
theorem dX0_does_11 : decode cX0_does 11 = .ok (.invokevirtual 50, 3) := decA_get dAX0_does 8 rfl
set_option maxRecDepth 20000 in
theorem ggX0_does_X0_isAbout : GoodIn wsX0_does wsX0_isAbout := gd_ids wi_X0_does wm_X0_does wi_X0_isAbout (by decide +kernel)
set_option maxRecDepth 20000 in
theorem gX0_does_X0_isAbout : GoodIn wsX0_does (wsV RX0 50 RX0 yX0_isAbout wsX0_isAbout) := goodIn_app (gd_ids wi_X0_does wm_X0_does (b := [99, 100, 101, 102]) rfl (by decide +kernel)) ggX0_does_X0_isAbout
theorem dX0_does_14 : decode cX0_does 14 = .ok (.ireturn, 1) := decA_get dAX0_does 9 rfl
set_option maxHeartbeats 4000000 in
set_option maxRecDepth 100000 in
theorem g_does (l : Launch) (D : va_G) (cI cB cZ cN : ClassId) (Lh : Nat) (La1 : Nat) (La2 : Nat) (La4 : Nat) (La5 : Nat) (La7 : Nat) (La8 : Nat) (La9 : Nat) (LS : Nat → Nat → Nat) (v_c : Nat) (v_q : Nat) (hL : LandOk LS) (hc : v_c < 6) (hq : v_q < 5) : Ci (S := Unit) l D cI cB cZ cN yX0_does wsX0_does ({ frames := 1, cells := 0, slots := 0, locals := 22 } : Room) [.ref Lh, .int (nI v_c), .int (nI v_q)] [(Lh, .inr (0, [.int (nI (LS 0 0)), .ref La1, .ref La2, .int (nI (LS 3 0)), .ref La4, .ref La5, .int (nI (LS 6 0)), .ref La7, .ref La8, .ref La9, .int (nI (LS 10 0)), .int (nI (LS 11 0))])), (La1, .inl (cI, 6, .inl (nF (LS 1)))), (La2, .inl (cI, 6, .inl (nF (LS 2)))), (La4, .inl (cI, 5, .inl (nF (LS 4)))), (La5, .inl (cI, 30, .inl (nF (LS 5)))), (La7, .inl (cI, 5, .inl (nF (LS 7)))), (La8, .inl (cI, 5, .inl (nF (LS 8)))), (La9, .inl (cI, 5, .inl (nF (LS 9))))] (fun (r : Int32) (_ : Unit) => r = nI (doN LS v_c v_q)) (fun u => [(Lh, .inr (0, [.int (nI (LS 0 0)), .ref La1, .ref La2, .int (nI (LS 3 0)), .ref La4, .ref La5, .int (nI (LS 6 0)), .ref La7, .ref La8, .ref La9, .int (nI (LS 10 0)), .int (nI (LS 11 0))])), (La1, .inl (cI, 6, .inl (nF (LS 1)))), (La2, .inl (cI, 6, .inl (nF (LS 2)))), (La4, .inl (cI, 5, .inl (nF (LS 4)))), (La5, .inl (cI, 30, .inl (nF (LS 5)))), (La7, .inl (cI, 5, .inl (nF (LS 7)))), (La8, .inl (cI, 5, .inl (nF (LS 8)))), (La9, .inl (cI, 5, .inl (nF (LS 9))))]) := by
  refine bx_of (D := D) (cI := cI) (cB := cB) (cZ := cZ) (cN := cN) (y := yX0_does) (wd := wsX0_does) (rm := ({ frames := 1, cells := 0, slots := 0, locals := 22 } : Room)) (av := [.ref Lh, .int (nI v_c), .int (nI v_q)]) (wc := [(Lh, .inr (0, [.int (nI (LS 0 0)), .ref La1, .ref La2, .int (nI (LS 3 0)), .ref La4, .ref La5, .int (nI (LS 6 0)), .ref La7, .ref La8, .ref La9, .int (nI (LS 10 0)), .int (nI (LS 11 0))])), (La1, .inl (cI, 6, .inl (nF (LS 1)))), (La2, .inl (cI, 6, .inl (nF (LS 2)))), (La4, .inl (cI, 5, .inl (nF (LS 4)))), (La5, .inl (cI, 30, .inl (nF (LS 5)))), (La7, .inl (cI, 5, .inl (nF (LS 7)))), (La8, .inl (cI, 5, .inl (nF (LS 8)))), (La9, .inl (cI, 5, .inl (nF (LS 9))))]) (cc := cX0_does) (maxL := 3) (ret := (some .boolean)) (Qc := fun _ A => va_Qi (S := Unit) (fun (r : Int32) (_ : Unit) => r = nI (doN LS v_c v_q)) (Aft D (fun (u : Unit) => [(Lh, .inr (0, [.int (nI (LS 0 0)), .ref La1, .ref La2, .int (nI (LS 3 0)), .ref La4, .ref La5, .int (nI (LS 6 0)), .ref La7, .ref La8, .ref La9, .int (nI (LS 10 0)), .int (nI (LS 11 0))])), (La1, .inl (cI, 6, .inl (nF (LS 1)))), (La2, .inl (cI, 6, .inl (nF (LS 2)))), (La4, .inl (cI, 5, .inl (nF (LS 4)))), (La5, .inl (cI, 30, .inl (nF (LS 5)))), (La7, .inl (cI, 5, .inl (nF (LS 7)))), (La8, .inl (cI, 5, .inl (nF (LS 8)))), (La9, .inl (cI, 5, .inl (nF (LS 9))))]) A) A) (by decide) rfl (Nat.le_of_ble_eq_true rfl) ?_
  intro p e s m below meth c A H locs ⟨hx, hb, hr, hml, hown, hts, hlk, hnm⟩ hK hP hD hS hA ls hl
  have hl : lv_has ls 3 [(0, .ref Lh), (1, .int (nI v_c)), (2, .int (nI v_q))] := hl
  have hown : s.vm.findClass RX0 = some m.cls := hown
  have hL0 := hL
  obtain ⟨bl0, bl3, bl6, bl10, bl11, bl1, bl2, bl4, bl5, bl7, bl8, bl9⟩ := hL
  refine lv_aload_n hx hb dX0_does_0 rfl (lv_at hl 0 rfl) ?_
  refine lv_iload_n hx hb dX0_does_1 rfl (lv_at hl 1 rfl) ?_
  refine lv_aload_n hx hb dX0_does_2 rfl (lv_at hl 0 rfl) ?_
  refine va_get (D := D) (ci := 0) (v := .ref La4) (C := RX0) (T := TX0) (N := 12) hx hb hts in_X0_does_0 hown hK.1 hP 0 rfl rfl 4 (by decide) (hts (.fieldLink RX0 25 "ChildCoins$Land" "born" "[I") (List.mem_of_getElem? (i := 1) rfl)) (fun _ h9 => h9) rfl dX0_does_3 ?_
  refine lv_iload_n hx hb dX0_does_6 rfl (lv_at hl 2 rfl) ?_
  refine va_iald hx hb hK.1 hP 3 0 rfl rfl (vp_in_nI (n := v_q) (N := 5) (by omega) (by decide)) dX0_does_7 ?_
  refine set_i (y := nI (LS 4 v_q)) (nF_ld (by omega)) ?_
  have b1 := bl4 v_q
  refine lv_bipush (v := nI 7) hx hb dX0_does_8 (by decide) ?_
  refine lv_iadd hx hb dX0_does_10 ?_
  refine set_i (y := nI ((LS 4 v_q) + 7)) (nI_add (LS 4 v_q) 7) ?_
  refine be_i0 (ru_V (As := [.int (nI v_c), .int (nI ((LS 4 v_q) + 7))]) (rest := []) ⟨hx, hb, hml, hown, hts⟩ (g_isAbout l D cI cB cZ cN Lh La1 La2 La4 La5 La7 La8 La9 LS v_c ((LS 4 v_q) + 7) hL0 hc (by omega) H.size) gX0_does_X0_isAbout rfl ⟨rfl, by decide, by decide, (show Option.map (fun d => d.parameters.length) (parseMethodDescriptor yX0_isAbout.desc) = some 2 by decide +kernel)⟩ ⟨Nat.le_of_ble_eq_true rfl, Nat.le_of_ble_eq_true rfl⟩ hK hP hD 0 0 rfl rfl [0, 1, 2, 3, 4, 5, 6, 7] (by decide) rfl hl.1 rfl (Nat.le_of_ble_eq_true rfl) dX0_does_11 ⟨Nat.le_of_ble_eq_true rfl, Nat.le_of_ble_eq_true rfl⟩) hP hD hS hA [0, 1, 2, 3, 4, 5, 6, 7] rfl (fun r3 u2 H locs w4 hP hS => ?_)
  obtain rfl : r3 = nI (abN LS v_c ((LS 4 v_q) + 7)) := w4
  have b5 := abN_le LS v_c ((LS 4 v_q) + 7)
  exact en_z hx hb hr hlk hP hD hS () [0, 1, 2, 3, 4, 5, 6, 7] (by decide) rfl (Nat.le_of_ble_eq_true rfl) (Nat.le_of_ble_eq_true rfl) dX0_does_14 (b01 (by omega)) rfl
set_option maxRecDepth 20000 in
theorem dAX0_peopleFor : decA cX0_peopleFor [(0, .iconst 0, 1), (1, .istore_n 2, 1), (2, .iconst 0, 1), (3, .istore_n 3, 1), (4, .iload_n 3, 1), (5, .aload_n 0, 1), (6, .getfield 22, 3), (9, .if_icmp .ge 24, 3), (12, .aload_n 0, 1), (13, .iload_n 1, 1), (14, .iload_n 3, 1), (15, .invokevirtual 54, 3), (18, .ifCond .eq 9, 3), (21, .iload_n 2, 1), (22, .iconst 1, 1), (23, .iload_n 3, 1), (24, .ishl, 1), (25, .ior, 1), (26, .istore_n 2, 1), (27, .iinc 3 1, 3), (30, .goto (-26), 3), (33, .iload_n 2, 1), (34, .ireturn, 1)] = true := by decide +kernel
theorem dX0_peopleFor_0 : decode cX0_peopleFor 0 = .ok (.iconst 0, 1) := decA_get dAX0_peopleFor 0 rfl
theorem dX0_peopleFor_1 : decode cX0_peopleFor 1 = .ok (.istore_n 2, 1) := decA_get dAX0_peopleFor 1 rfl
theorem dX0_peopleFor_2 : decode cX0_peopleFor 2 = .ok (.iconst 0, 1) := decA_get dAX0_peopleFor 2 rfl
theorem dX0_peopleFor_3 : decode cX0_peopleFor 3 = .ok (.istore_n 3, 1) := decA_get dAX0_peopleFor 3 rfl
theorem dX0_peopleFor_4 : decode cX0_peopleFor 4 = .ok (.iload_n 3, 1) := decA_get dAX0_peopleFor 4 rfl
theorem dX0_peopleFor_5 : decode cX0_peopleFor 5 = .ok (.aload_n 0, 1) := decA_get dAX0_peopleFor 5 rfl
theorem dX0_peopleFor_6 : decode cX0_peopleFor 6 = .ok (.getfield 22, 3) := decA_get dAX0_peopleFor 6 rfl
theorem in_X0_peopleFor_0 : ∀ w ∈ wsX00, w ∈ wsX0_peopleFor := fun w h => (gd_ids wi_X0_peopleFor wm_X0_peopleFor wi_X00 (by decide +kernel) w h).1
theorem dX0_peopleFor_9 : decode cX0_peopleFor 9 = .ok (.if_icmp .ge 24, 3) := decA_get dAX0_peopleFor 7 rfl
theorem dX0_peopleFor_33 : decode cX0_peopleFor 33 = .ok (.iload_n 2, 1) := decA_get dAX0_peopleFor 21 rfl
theorem dX0_peopleFor_34 : decode cX0_peopleFor 34 = .ok (.ireturn, 1) := decA_get dAX0_peopleFor 22 rfl
theorem dX0_peopleFor_12 : decode cX0_peopleFor 12 = .ok (.aload_n 0, 1) := decA_get dAX0_peopleFor 8 rfl
theorem dX0_peopleFor_13 : decode cX0_peopleFor 13 = .ok (.iload_n 1, 1) := decA_get dAX0_peopleFor 9 rfl
theorem dX0_peopleFor_14 : decode cX0_peopleFor 14 = .ok (.iload_n 3, 1) := decA_get dAX0_peopleFor 10 rfl
theorem dX0_peopleFor_15 : decode cX0_peopleFor 15 = .ok (.invokevirtual 54, 3) := decA_get dAX0_peopleFor 11 rfl
set_option maxRecDepth 20000 in
theorem ggX0_peopleFor_X0_does : GoodIn wsX0_peopleFor wsX0_does := gd_ids wi_X0_peopleFor wm_X0_peopleFor wi_X0_does (by decide +kernel)
set_option maxRecDepth 20000 in
theorem gX0_peopleFor_X0_does : GoodIn wsX0_peopleFor (wsV RX0 54 RX0 yX0_does wsX0_does) := goodIn_app (gd_ids wi_X0_peopleFor wm_X0_peopleFor (b := [104, 105, 106, 102]) rfl (by decide +kernel)) ggX0_peopleFor_X0_does
theorem dX0_peopleFor_18 : decode cX0_peopleFor 18 = .ok (.ifCond .eq 9, 3) := decA_get dAX0_peopleFor 12 rfl
theorem dX0_peopleFor_27 : decode cX0_peopleFor 27 = .ok (.iinc 3 1, 3) := decA_get dAX0_peopleFor 19 rfl
theorem dX0_peopleFor_30 : decode cX0_peopleFor 30 = .ok (.goto (-26), 3) := decA_get dAX0_peopleFor 20 rfl
theorem dX0_peopleFor_21 : decode cX0_peopleFor 21 = .ok (.iload_n 2, 1) := decA_get dAX0_peopleFor 13 rfl
theorem dX0_peopleFor_22 : decode cX0_peopleFor 22 = .ok (.iconst 1, 1) := decA_get dAX0_peopleFor 14 rfl
theorem dX0_peopleFor_23 : decode cX0_peopleFor 23 = .ok (.iload_n 3, 1) := decA_get dAX0_peopleFor 15 rfl
theorem dX0_peopleFor_24 : decode cX0_peopleFor 24 = .ok (.ishl, 1) := decA_get dAX0_peopleFor 16 rfl
theorem dX0_peopleFor_25 : decode cX0_peopleFor 25 = .ok (.ior, 1) := decA_get dAX0_peopleFor 17 rfl
theorem dX0_peopleFor_26 : decode cX0_peopleFor 26 = .ok (.istore_n 2, 1) := decA_get dAX0_peopleFor 18 rfl
set_option maxHeartbeats 4000000 in
set_option maxRecDepth 100000 in
theorem g_peopleFor (l : Launch) (D : va_G) (cI cB cZ cN : ClassId) (Lh : Nat) (La1 : Nat) (La2 : Nat) (La4 : Nat) (La5 : Nat) (La7 : Nat) (La8 : Nat) (La9 : Nat) (LS : Nat → Nat → Nat) (v_c : Nat) (hL : LandOk LS) (hc : v_c < 6) : Ci (S := Unit) l D cI cB cZ cN yX0_peopleFor wsX0_peopleFor ({ frames := 2, cells := 0, slots := 0, locals := 44 } : Room) [.ref Lh, .int (nI v_c)] [(Lh, .inr (0, [.int (nI (LS 0 0)), .ref La1, .ref La2, .int (nI (LS 3 0)), .ref La4, .ref La5, .int (nI (LS 6 0)), .ref La7, .ref La8, .ref La9, .int (nI (LS 10 0)), .int (nI (LS 11 0))])), (La1, .inl (cI, 6, .inl (nF (LS 1)))), (La2, .inl (cI, 6, .inl (nF (LS 2)))), (La4, .inl (cI, 5, .inl (nF (LS 4)))), (La5, .inl (cI, 30, .inl (nF (LS 5)))), (La7, .inl (cI, 5, .inl (nF (LS 7)))), (La8, .inl (cI, 5, .inl (nF (LS 8)))), (La9, .inl (cI, 5, .inl (nF (LS 9))))] (fun (r : Int32) (_ : Unit) => r = nI (bitsN (fun q => doN LS v_c q) (LS 3 0))) (fun u => [(Lh, .inr (0, [.int (nI (LS 0 0)), .ref La1, .ref La2, .int (nI (LS 3 0)), .ref La4, .ref La5, .int (nI (LS 6 0)), .ref La7, .ref La8, .ref La9, .int (nI (LS 10 0)), .int (nI (LS 11 0))])), (La1, .inl (cI, 6, .inl (nF (LS 1)))), (La2, .inl (cI, 6, .inl (nF (LS 2)))), (La4, .inl (cI, 5, .inl (nF (LS 4)))), (La5, .inl (cI, 30, .inl (nF (LS 5)))), (La7, .inl (cI, 5, .inl (nF (LS 7)))), (La8, .inl (cI, 5, .inl (nF (LS 8)))), (La9, .inl (cI, 5, .inl (nF (LS 9))))]) := by
  refine bx_of (D := D) (cI := cI) (cB := cB) (cZ := cZ) (cN := cN) (y := yX0_peopleFor) (wd := wsX0_peopleFor) (rm := ({ frames := 2, cells := 0, slots := 0, locals := 44 } : Room)) (av := [.ref Lh, .int (nI v_c)]) (wc := [(Lh, .inr (0, [.int (nI (LS 0 0)), .ref La1, .ref La2, .int (nI (LS 3 0)), .ref La4, .ref La5, .int (nI (LS 6 0)), .ref La7, .ref La8, .ref La9, .int (nI (LS 10 0)), .int (nI (LS 11 0))])), (La1, .inl (cI, 6, .inl (nF (LS 1)))), (La2, .inl (cI, 6, .inl (nF (LS 2)))), (La4, .inl (cI, 5, .inl (nF (LS 4)))), (La5, .inl (cI, 30, .inl (nF (LS 5)))), (La7, .inl (cI, 5, .inl (nF (LS 7)))), (La8, .inl (cI, 5, .inl (nF (LS 8)))), (La9, .inl (cI, 5, .inl (nF (LS 9))))]) (cc := cX0_peopleFor) (maxL := 4) (ret := (some .int)) (Qc := fun _ A => va_Qi (S := Unit) (fun (r : Int32) (_ : Unit) => r = nI (bitsN (fun q => doN LS v_c q) (LS 3 0))) (Aft D (fun (u : Unit) => [(Lh, .inr (0, [.int (nI (LS 0 0)), .ref La1, .ref La2, .int (nI (LS 3 0)), .ref La4, .ref La5, .int (nI (LS 6 0)), .ref La7, .ref La8, .ref La9, .int (nI (LS 10 0)), .int (nI (LS 11 0))])), (La1, .inl (cI, 6, .inl (nF (LS 1)))), (La2, .inl (cI, 6, .inl (nF (LS 2)))), (La4, .inl (cI, 5, .inl (nF (LS 4)))), (La5, .inl (cI, 30, .inl (nF (LS 5)))), (La7, .inl (cI, 5, .inl (nF (LS 7)))), (La8, .inl (cI, 5, .inl (nF (LS 8)))), (La9, .inl (cI, 5, .inl (nF (LS 9))))]) A) A) (by decide) rfl (Nat.le_of_ble_eq_true rfl) ?_
  intro p e s m below meth c A H locs ⟨hx, hb, hr, hml, hown, hts, hlk, hnm⟩ hK hP hD hS hA ls hl
  have hl : lv_has ls 4 [(0, .ref Lh), (1, .int (nI v_c))] := hl
  have hown : s.vm.findClass RX0 = some m.cls := hown
  have hL0 := hL
  obtain ⟨bl0, bl3, bl6, bl10, bl11, bl1, bl2, bl4, bl5, bl7, bl8, bl9⟩ := hL
  refine lv_iconst (v := nI 0) hx hb dX0_peopleFor_0 (by decide) ?_
  refine lv_istore_n (lv' := [(2, .int (nI 0)), (0, .ref Lh), (1, .int (nI v_c))]) hx hb dX0_peopleFor_1 rfl hl (by decide) rfl (fun ls hl => ?_)
  refine lv_iconst (v := nI 0) hx hb dX0_peopleFor_2 (by decide) ?_
  refine lv_istore_n (lv' := [(3, .int (nI 0)), (2, .int (nI 0)), (0, .ref Lh), (1, .int (nI v_c))]) hx hb dX0_peopleFor_3 rfl hl (by decide) rfl (fun ls hl => ?_)
  refine loopW (D := D) (A := A) (fun i => [(Lh, .inr (0, [.int (nI (LS 0 0)), .ref La1, .ref La2, .int (nI (LS 3 0)), .ref La4, .ref La5, .int (nI (LS 6 0)), .ref La7, .ref La8, .ref La9, .int (nI (LS 10 0)), .int (nI (LS 11 0))])), (La1, .inl (cI, 6, .inl (nF (LS 1)))), (La2, .inl (cI, 6, .inl (nF (LS 2)))), (La4, .inl (cI, 5, .inl (nF (LS 4)))), (La5, .inl (cI, 30, .inl (nF (LS 5)))), (La7, .inl (cI, 5, .inl (nF (LS 7)))), (La8, .inl (cI, 5, .inl (nF (LS 8)))), (La9, .inl (cI, 5, .inl (nF (LS 9))))]) (fun i => [(0, .ref Lh), (1, .int (nI v_c)), (2, .int (nI (bitsN (fun q => doN LS v_c q) i))), (3, .int (nI i))]) 4 4 (LS 3 0) 0 (by omega) ?_ ?_ _ _ ls (by first | exact hP | (rw [fill_0]; exact hP)) (by first | exact hD | (rw [fill_0]; exact hD)) hS (lv_sub hl [2, 3, 1, 0] rfl)
  · intro H locs ls hP hD hS hl
    have hl : lv_has ls 4 [(0, .ref Lh), (1, .int (nI v_c)), (2, .int (nI (bitsN (fun q => doN LS v_c q) (LS 3 0)))), (3, .int (nI (LS 3 0)))] := hl
    obtain ⟨hP, hD⟩ : wPD D A [(Lh, .inr (0, [.int (nI (LS 0 0)), .ref La1, .ref La2, .int (nI (LS 3 0)), .ref La4, .ref La5, .int (nI (LS 6 0)), .ref La7, .ref La8, .ref La9, .int (nI (LS 10 0)), .int (nI (LS 11 0))])), (La1, .inl (cI, 6, .inl (nF (LS 1)))), (La2, .inl (cI, 6, .inl (nF (LS 2)))), (La4, .inl (cI, 5, .inl (nF (LS 4)))), (La5, .inl (cI, 30, .inl (nF (LS 5)))), (La7, .inl (cI, 5, .inl (nF (LS 7)))), (La8, .inl (cI, 5, .inl (nF (LS 8)))), (La9, .inl (cI, 5, .inl (nF (LS 9))))] H := ⟨hP, hD⟩
    refine lv_iload_n hx hb dX0_peopleFor_4 rfl (lv_at hl 3 rfl) ?_
    refine lv_aload_n hx hb dX0_peopleFor_5 rfl (lv_at hl 0 rfl) ?_
    refine va_get (D := D) (ci := 0) (v := .int (nI (LS 3 0))) (C := RX0) (T := TX0) (N := 12) hx hb hts in_X0_peopleFor_0 hown hK.1 hP 0 rfl rfl 3 (by decide) (hts (.fieldLink RX0 22 "ChildCoins$Land" "people" "I") (List.mem_of_getElem? (i := 1) rfl)) (fun _ h9 => h9) rfl dX0_peopleFor_6 ?_
    refine nb_icmp_ge (tgt := 33) hx hb dX0_peopleFor_9 (by decide) (by omega) (by omega) (fun hq1 => ?_) (fun hq1 => absurd hq1 (by omega))
    refine lv_iload_n hx hb dX0_peopleFor_33 rfl (lv_at hl 2 rfl) ?_
    exact en_i hx hb hr hlk hP hD hS () [0, 1, 2, 3, 4, 5, 6, 7] (by decide) rfl (Nat.le_of_ble_eq_true rfl) (Nat.le_of_ble_eq_true rfl) dX0_peopleFor_34 rfl
  · intro i hi0 hi ih H locs ls hP hD hS hl
    have hl : lv_has ls 4 [(0, .ref Lh), (1, .int (nI v_c)), (2, .int (nI (bitsN (fun q => doN LS v_c q) i))), (3, .int (nI i))] := hl
    obtain ⟨hP, hD⟩ : wPD D A [(Lh, .inr (0, [.int (nI (LS 0 0)), .ref La1, .ref La2, .int (nI (LS 3 0)), .ref La4, .ref La5, .int (nI (LS 6 0)), .ref La7, .ref La8, .ref La9, .int (nI (LS 10 0)), .int (nI (LS 11 0))])), (La1, .inl (cI, 6, .inl (nF (LS 1)))), (La2, .inl (cI, 6, .inl (nF (LS 2)))), (La4, .inl (cI, 5, .inl (nF (LS 4)))), (La5, .inl (cI, 30, .inl (nF (LS 5)))), (La7, .inl (cI, 5, .inl (nF (LS 7)))), (La8, .inl (cI, 5, .inl (nF (LS 8)))), (La9, .inl (cI, 5, .inl (nF (LS 9))))] H := ⟨hP, hD⟩
    refine lv_iload_n hx hb dX0_peopleFor_4 rfl (lv_at hl 3 rfl) ?_
    refine lv_aload_n hx hb dX0_peopleFor_5 rfl (lv_at hl 0 rfl) ?_
    refine va_get (D := D) (ci := 0) (v := .int (nI (LS 3 0))) (C := RX0) (T := TX0) (N := 12) hx hb hts in_X0_peopleFor_0 hown hK.1 hP 0 rfl rfl 3 (by decide) (hts (.fieldLink RX0 22 "ChildCoins$Land" "people" "I") (List.mem_of_getElem? (i := 1) rfl)) (fun _ h9 => h9) rfl dX0_peopleFor_6 ?_
    refine nb_icmp_ge (tgt := 33) hx hb dX0_peopleFor_9 (by decide) (by omega) (by omega) (fun hq2 => absurd hq2 (by omega)) (fun hq2 => ?_)
    refine lv_aload_n hx hb dX0_peopleFor_12 rfl (lv_at hl 0 rfl) ?_
    refine lv_iload_n hx hb dX0_peopleFor_13 rfl (lv_at hl 1 rfl) ?_
    refine lv_iload_n hx hb dX0_peopleFor_14 rfl (lv_at hl 3 rfl) ?_
    refine be_i0 (ru_V (As := [.int (nI v_c), .int (nI i)]) (rest := []) ⟨hx, hb, hml, hown, hts⟩ (g_does l D cI cB cZ cN Lh La1 La2 La4 La5 La7 La8 La9 LS v_c i hL0 (by omega) (by omega) H.size) gX0_peopleFor_X0_does rfl ⟨rfl, by decide, by decide, (show Option.map (fun d => d.parameters.length) (parseMethodDescriptor yX0_does.desc) = some 2 by decide +kernel)⟩ ⟨Nat.le_of_ble_eq_true rfl, Nat.le_of_ble_eq_true rfl⟩ hK hP hD 0 0 rfl rfl [0, 1, 2, 3, 4, 5, 6, 7] (by decide) rfl hl.1 rfl (Nat.le_of_ble_eq_true rfl) dX0_peopleFor_15 ⟨Nat.le_of_ble_eq_true rfl, Nat.le_of_ble_eq_true rfl⟩) hP hD hS hA [0, 1, 2, 3, 4, 5, 6, 7] rfl (fun r4 u3 H locs w5 hP hS => ?_)
    obtain rfl : r4 = nI (doN LS v_c i) := w5
    have b6 := doN_le LS v_c i
    refine nb_if_eq (tgt := 27) hx hb dX0_peopleFor_18 (by decide) (by omega) (fun hq7 => ?_) (fun hq7 => ?_)
    · skip
      refine lv_iinc (v := nI (i + 1)) (lv' := [(3, .int (nI (i + 1))), (0, .ref Lh), (1, .int (nI v_c)), (2, .int (nI (bitsN (fun q => doN LS v_c q) i)))]) hx hb dX0_peopleFor_27 hl (k := 3) rfl (nI_add i 1) (by decide) rfl (fun ls hl => ?_)
      refine lv_goto (tgt := 4) hx hb dX0_peopleFor_30 (by decide) ?_
      have hl : lv_has ls 4 [(0, .ref Lh), (1, .int (nI v_c)), (2, .int (nI (bitsN (fun q => doN LS v_c q) i))), (3, .int (nI (i + 1)))] := lv_sub hl [1, 2, 3, 0] rfl
      rw [bitsN_f (f := (fun q => doN LS v_c q)) (i := i) hq7] at hl
      exact ih _ _ _ hP hD hS hl
    · skip
      refine lv_iload_n hx hb dX0_peopleFor_21 rfl (lv_at hl 2 rfl) ?_
      refine lv_iconst (v := nI 1) hx hb dX0_peopleFor_22 (by decide) ?_
      refine lv_iload_n hx hb dX0_peopleFor_23 rfl (lv_at hl 3 rfl) ?_
      refine lv_ishl hx hb dX0_peopleFor_24 ?_
      refine set_i (y := nI (2 ^ i)) (shl_1 (by omega)) ?_
      refine lv_ior hx hb dX0_peopleFor_25 ?_
      refine set_i (y := nI ((bitsN (fun q => doN LS v_c q) i) ||| (2 ^ i))) (nI_or (bitsN (fun q => doN LS v_c q) i) (2 ^ i)) ?_
      refine lv_istore_n (lv' := [(2, .int (nI ((bitsN (fun q => doN LS v_c q) i) ||| (2 ^ i)))), (0, .ref Lh), (1, .int (nI v_c)), (3, .int (nI i))]) hx hb dX0_peopleFor_26 rfl hl (by decide) rfl (fun ls hl => ?_)
      refine lv_iinc (v := nI (i + 1)) (lv' := [(3, .int (nI (i + 1))), (2, .int (nI ((bitsN (fun q => doN LS v_c q) i) ||| (2 ^ i)))), (0, .ref Lh), (1, .int (nI v_c))]) hx hb dX0_peopleFor_27 hl (k := 3) rfl (nI_add i 1) (by decide) rfl (fun ls hl => ?_)
      refine lv_goto (tgt := 4) hx hb dX0_peopleFor_30 (by decide) ?_
      have hl : lv_has ls 4 [(0, .ref Lh), (1, .int (nI v_c)), (2, .int (nI ((bitsN (fun q => doN LS v_c q) i) ||| (2 ^ i)))), (3, .int (nI (i + 1)))] := lv_sub hl [2, 3, 1, 0] rfl
      rw [bitsN_t (f := (fun q => doN LS v_c q)) (i := i) hq7] at hl
      exact ih _ _ _ hP hD hS hl
set_option maxRecDepth 20000 in
theorem dAX0_coinsFor : decA cX0_coinsFor [(0, .iconst 0, 1), (1, .istore_n 2, 1), (2, .iconst 0, 1), (3, .istore_n 3, 1), (4, .iload_n 3, 1), (5, .aload_n 0, 1), (6, .getfield 9, 3), (9, .if_icmp .ge 24, 3), (12, .aload_n 0, 1), (13, .iload_n 3, 1), (14, .iload_n 1, 1), (15, .invokevirtual 54, 3), (18, .ifCond .eq 9, 3), (21, .iload_n 2, 1), (22, .iconst 1, 1), (23, .iload_n 3, 1), (24, .ishl, 1), (25, .ior, 1), (26, .istore_n 2, 1), (27, .iinc 3 1, 3), (30, .goto (-26), 3), (33, .iload_n 2, 1), (34, .ireturn, 1)] = true := by decide +kernel
theorem dX0_coinsFor_0 : decode cX0_coinsFor 0 = .ok (.iconst 0, 1) := decA_get dAX0_coinsFor 0 rfl
theorem dX0_coinsFor_1 : decode cX0_coinsFor 1 = .ok (.istore_n 2, 1) := decA_get dAX0_coinsFor 1 rfl
theorem dX0_coinsFor_2 : decode cX0_coinsFor 2 = .ok (.iconst 0, 1) := decA_get dAX0_coinsFor 2 rfl
theorem dX0_coinsFor_3 : decode cX0_coinsFor 3 = .ok (.istore_n 3, 1) := decA_get dAX0_coinsFor 3 rfl
theorem dX0_coinsFor_4 : decode cX0_coinsFor 4 = .ok (.iload_n 3, 1) := decA_get dAX0_coinsFor 4 rfl
theorem dX0_coinsFor_5 : decode cX0_coinsFor 5 = .ok (.aload_n 0, 1) := decA_get dAX0_coinsFor 5 rfl
theorem dX0_coinsFor_6 : decode cX0_coinsFor 6 = .ok (.getfield 9, 3) := decA_get dAX0_coinsFor 6 rfl
theorem in_X0_coinsFor_0 : ∀ w ∈ wsX00, w ∈ wsX0_coinsFor := fun w h => (gd_ids wi_X0_coinsFor wm_X0_coinsFor wi_X00 (by decide +kernel) w h).1
theorem dX0_coinsFor_9 : decode cX0_coinsFor 9 = .ok (.if_icmp .ge 24, 3) := decA_get dAX0_coinsFor 7 rfl
theorem dX0_coinsFor_33 : decode cX0_coinsFor 33 = .ok (.iload_n 2, 1) := decA_get dAX0_coinsFor 21 rfl
theorem dX0_coinsFor_34 : decode cX0_coinsFor 34 = .ok (.ireturn, 1) := decA_get dAX0_coinsFor 22 rfl
theorem dX0_coinsFor_12 : decode cX0_coinsFor 12 = .ok (.aload_n 0, 1) := decA_get dAX0_coinsFor 8 rfl
theorem dX0_coinsFor_13 : decode cX0_coinsFor 13 = .ok (.iload_n 3, 1) := decA_get dAX0_coinsFor 9 rfl
theorem dX0_coinsFor_14 : decode cX0_coinsFor 14 = .ok (.iload_n 1, 1) := decA_get dAX0_coinsFor 10 rfl
theorem dX0_coinsFor_15 : decode cX0_coinsFor 15 = .ok (.invokevirtual 54, 3) := decA_get dAX0_coinsFor 11 rfl
set_option maxRecDepth 20000 in
theorem ggX0_coinsFor_X0_does : GoodIn wsX0_coinsFor wsX0_does := gd_ids wi_X0_coinsFor wm_X0_coinsFor wi_X0_does (by decide +kernel)
set_option maxRecDepth 20000 in
theorem gX0_coinsFor_X0_does : GoodIn wsX0_coinsFor (wsV RX0 54 RX0 yX0_does wsX0_does) := goodIn_app (gd_ids wi_X0_coinsFor wm_X0_coinsFor (b := [104, 105, 106, 102]) rfl (by decide +kernel)) ggX0_coinsFor_X0_does
theorem dX0_coinsFor_18 : decode cX0_coinsFor 18 = .ok (.ifCond .eq 9, 3) := decA_get dAX0_coinsFor 12 rfl
theorem dX0_coinsFor_27 : decode cX0_coinsFor 27 = .ok (.iinc 3 1, 3) := decA_get dAX0_coinsFor 19 rfl
theorem dX0_coinsFor_30 : decode cX0_coinsFor 30 = .ok (.goto (-26), 3) := decA_get dAX0_coinsFor 20 rfl
theorem dX0_coinsFor_21 : decode cX0_coinsFor 21 = .ok (.iload_n 2, 1) := decA_get dAX0_coinsFor 13 rfl
theorem dX0_coinsFor_22 : decode cX0_coinsFor 22 = .ok (.iconst 1, 1) := decA_get dAX0_coinsFor 14 rfl
theorem dX0_coinsFor_23 : decode cX0_coinsFor 23 = .ok (.iload_n 3, 1) := decA_get dAX0_coinsFor 15 rfl
theorem dX0_coinsFor_24 : decode cX0_coinsFor 24 = .ok (.ishl, 1) := decA_get dAX0_coinsFor 16 rfl
theorem dX0_coinsFor_25 : decode cX0_coinsFor 25 = .ok (.ior, 1) := decA_get dAX0_coinsFor 17 rfl
theorem dX0_coinsFor_26 : decode cX0_coinsFor 26 = .ok (.istore_n 2, 1) := decA_get dAX0_coinsFor 18 rfl
set_option maxHeartbeats 4000000 in
set_option maxRecDepth 100000 in
theorem g_coinsFor (l : Launch) (D : va_G) (cI cB cZ cN : ClassId) (Lh : Nat) (La1 : Nat) (La2 : Nat) (La4 : Nat) (La5 : Nat) (La7 : Nat) (La8 : Nat) (La9 : Nat) (LS : Nat → Nat → Nat) (v_c : Nat) (hL : LandOk LS) (hc : v_c < 5) : Ci (S := Unit) l D cI cB cZ cN yX0_coinsFor wsX0_coinsFor ({ frames := 2, cells := 0, slots := 0, locals := 44 } : Room) [.ref Lh, .int (nI v_c)] [(Lh, .inr (0, [.int (nI (LS 0 0)), .ref La1, .ref La2, .int (nI (LS 3 0)), .ref La4, .ref La5, .int (nI (LS 6 0)), .ref La7, .ref La8, .ref La9, .int (nI (LS 10 0)), .int (nI (LS 11 0))])), (La1, .inl (cI, 6, .inl (nF (LS 1)))), (La2, .inl (cI, 6, .inl (nF (LS 2)))), (La4, .inl (cI, 5, .inl (nF (LS 4)))), (La5, .inl (cI, 30, .inl (nF (LS 5)))), (La7, .inl (cI, 5, .inl (nF (LS 7)))), (La8, .inl (cI, 5, .inl (nF (LS 8)))), (La9, .inl (cI, 5, .inl (nF (LS 9))))] (fun (r : Int32) (_ : Unit) => r = nI (bitsN (fun c => doN LS c v_c) (LS 0 0))) (fun u => [(Lh, .inr (0, [.int (nI (LS 0 0)), .ref La1, .ref La2, .int (nI (LS 3 0)), .ref La4, .ref La5, .int (nI (LS 6 0)), .ref La7, .ref La8, .ref La9, .int (nI (LS 10 0)), .int (nI (LS 11 0))])), (La1, .inl (cI, 6, .inl (nF (LS 1)))), (La2, .inl (cI, 6, .inl (nF (LS 2)))), (La4, .inl (cI, 5, .inl (nF (LS 4)))), (La5, .inl (cI, 30, .inl (nF (LS 5)))), (La7, .inl (cI, 5, .inl (nF (LS 7)))), (La8, .inl (cI, 5, .inl (nF (LS 8)))), (La9, .inl (cI, 5, .inl (nF (LS 9))))]) := by
  refine bx_of (D := D) (cI := cI) (cB := cB) (cZ := cZ) (cN := cN) (y := yX0_coinsFor) (wd := wsX0_coinsFor) (rm := ({ frames := 2, cells := 0, slots := 0, locals := 44 } : Room)) (av := [.ref Lh, .int (nI v_c)]) (wc := [(Lh, .inr (0, [.int (nI (LS 0 0)), .ref La1, .ref La2, .int (nI (LS 3 0)), .ref La4, .ref La5, .int (nI (LS 6 0)), .ref La7, .ref La8, .ref La9, .int (nI (LS 10 0)), .int (nI (LS 11 0))])), (La1, .inl (cI, 6, .inl (nF (LS 1)))), (La2, .inl (cI, 6, .inl (nF (LS 2)))), (La4, .inl (cI, 5, .inl (nF (LS 4)))), (La5, .inl (cI, 30, .inl (nF (LS 5)))), (La7, .inl (cI, 5, .inl (nF (LS 7)))), (La8, .inl (cI, 5, .inl (nF (LS 8)))), (La9, .inl (cI, 5, .inl (nF (LS 9))))]) (cc := cX0_coinsFor) (maxL := 4) (ret := (some .int)) (Qc := fun _ A => va_Qi (S := Unit) (fun (r : Int32) (_ : Unit) => r = nI (bitsN (fun c => doN LS c v_c) (LS 0 0))) (Aft D (fun (u : Unit) => [(Lh, .inr (0, [.int (nI (LS 0 0)), .ref La1, .ref La2, .int (nI (LS 3 0)), .ref La4, .ref La5, .int (nI (LS 6 0)), .ref La7, .ref La8, .ref La9, .int (nI (LS 10 0)), .int (nI (LS 11 0))])), (La1, .inl (cI, 6, .inl (nF (LS 1)))), (La2, .inl (cI, 6, .inl (nF (LS 2)))), (La4, .inl (cI, 5, .inl (nF (LS 4)))), (La5, .inl (cI, 30, .inl (nF (LS 5)))), (La7, .inl (cI, 5, .inl (nF (LS 7)))), (La8, .inl (cI, 5, .inl (nF (LS 8)))), (La9, .inl (cI, 5, .inl (nF (LS 9))))]) A) A) (by decide) rfl (Nat.le_of_ble_eq_true rfl) ?_
  intro p e s m below meth c A H locs ⟨hx, hb, hr, hml, hown, hts, hlk, hnm⟩ hK hP hD hS hA ls hl
  have hl : lv_has ls 4 [(0, .ref Lh), (1, .int (nI v_c))] := hl
  have hown : s.vm.findClass RX0 = some m.cls := hown
  have hL0 := hL
  obtain ⟨bl0, bl3, bl6, bl10, bl11, bl1, bl2, bl4, bl5, bl7, bl8, bl9⟩ := hL
  refine lv_iconst (v := nI 0) hx hb dX0_coinsFor_0 (by decide) ?_
  refine lv_istore_n (lv' := [(2, .int (nI 0)), (0, .ref Lh), (1, .int (nI v_c))]) hx hb dX0_coinsFor_1 rfl hl (by decide) rfl (fun ls hl => ?_)
  refine lv_iconst (v := nI 0) hx hb dX0_coinsFor_2 (by decide) ?_
  refine lv_istore_n (lv' := [(3, .int (nI 0)), (2, .int (nI 0)), (0, .ref Lh), (1, .int (nI v_c))]) hx hb dX0_coinsFor_3 rfl hl (by decide) rfl (fun ls hl => ?_)
  refine loopW (D := D) (A := A) (fun i => [(Lh, .inr (0, [.int (nI (LS 0 0)), .ref La1, .ref La2, .int (nI (LS 3 0)), .ref La4, .ref La5, .int (nI (LS 6 0)), .ref La7, .ref La8, .ref La9, .int (nI (LS 10 0)), .int (nI (LS 11 0))])), (La1, .inl (cI, 6, .inl (nF (LS 1)))), (La2, .inl (cI, 6, .inl (nF (LS 2)))), (La4, .inl (cI, 5, .inl (nF (LS 4)))), (La5, .inl (cI, 30, .inl (nF (LS 5)))), (La7, .inl (cI, 5, .inl (nF (LS 7)))), (La8, .inl (cI, 5, .inl (nF (LS 8)))), (La9, .inl (cI, 5, .inl (nF (LS 9))))]) (fun i => [(0, .ref Lh), (1, .int (nI v_c)), (2, .int (nI (bitsN (fun c => doN LS c v_c) i))), (3, .int (nI i))]) 4 4 (LS 0 0) 0 (by omega) ?_ ?_ _ _ ls (by first | exact hP | (rw [fill_0]; exact hP)) (by first | exact hD | (rw [fill_0]; exact hD)) hS (lv_sub hl [2, 3, 1, 0] rfl)
  · intro H locs ls hP hD hS hl
    have hl : lv_has ls 4 [(0, .ref Lh), (1, .int (nI v_c)), (2, .int (nI (bitsN (fun c => doN LS c v_c) (LS 0 0)))), (3, .int (nI (LS 0 0)))] := hl
    obtain ⟨hP, hD⟩ : wPD D A [(Lh, .inr (0, [.int (nI (LS 0 0)), .ref La1, .ref La2, .int (nI (LS 3 0)), .ref La4, .ref La5, .int (nI (LS 6 0)), .ref La7, .ref La8, .ref La9, .int (nI (LS 10 0)), .int (nI (LS 11 0))])), (La1, .inl (cI, 6, .inl (nF (LS 1)))), (La2, .inl (cI, 6, .inl (nF (LS 2)))), (La4, .inl (cI, 5, .inl (nF (LS 4)))), (La5, .inl (cI, 30, .inl (nF (LS 5)))), (La7, .inl (cI, 5, .inl (nF (LS 7)))), (La8, .inl (cI, 5, .inl (nF (LS 8)))), (La9, .inl (cI, 5, .inl (nF (LS 9))))] H := ⟨hP, hD⟩
    refine lv_iload_n hx hb dX0_coinsFor_4 rfl (lv_at hl 3 rfl) ?_
    refine lv_aload_n hx hb dX0_coinsFor_5 rfl (lv_at hl 0 rfl) ?_
    refine va_get (D := D) (ci := 0) (v := .int (nI (LS 0 0))) (C := RX0) (T := TX0) (N := 12) hx hb hts in_X0_coinsFor_0 hown hK.1 hP 0 rfl rfl 0 (by decide) (hts (.fieldLink RX0 9 "ChildCoins$Land" "coins" "I") (List.mem_of_getElem? (i := 1) rfl)) (fun _ h9 => h9) rfl dX0_coinsFor_6 ?_
    refine nb_icmp_ge (tgt := 33) hx hb dX0_coinsFor_9 (by decide) (by omega) (by omega) (fun hq1 => ?_) (fun hq1 => absurd hq1 (by omega))
    refine lv_iload_n hx hb dX0_coinsFor_33 rfl (lv_at hl 2 rfl) ?_
    exact en_i hx hb hr hlk hP hD hS () [0, 1, 2, 3, 4, 5, 6, 7] (by decide) rfl (Nat.le_of_ble_eq_true rfl) (Nat.le_of_ble_eq_true rfl) dX0_coinsFor_34 rfl
  · intro i hi0 hi ih H locs ls hP hD hS hl
    have hl : lv_has ls 4 [(0, .ref Lh), (1, .int (nI v_c)), (2, .int (nI (bitsN (fun c => doN LS c v_c) i))), (3, .int (nI i))] := hl
    obtain ⟨hP, hD⟩ : wPD D A [(Lh, .inr (0, [.int (nI (LS 0 0)), .ref La1, .ref La2, .int (nI (LS 3 0)), .ref La4, .ref La5, .int (nI (LS 6 0)), .ref La7, .ref La8, .ref La9, .int (nI (LS 10 0)), .int (nI (LS 11 0))])), (La1, .inl (cI, 6, .inl (nF (LS 1)))), (La2, .inl (cI, 6, .inl (nF (LS 2)))), (La4, .inl (cI, 5, .inl (nF (LS 4)))), (La5, .inl (cI, 30, .inl (nF (LS 5)))), (La7, .inl (cI, 5, .inl (nF (LS 7)))), (La8, .inl (cI, 5, .inl (nF (LS 8)))), (La9, .inl (cI, 5, .inl (nF (LS 9))))] H := ⟨hP, hD⟩
    refine lv_iload_n hx hb dX0_coinsFor_4 rfl (lv_at hl 3 rfl) ?_
    refine lv_aload_n hx hb dX0_coinsFor_5 rfl (lv_at hl 0 rfl) ?_
    refine va_get (D := D) (ci := 0) (v := .int (nI (LS 0 0))) (C := RX0) (T := TX0) (N := 12) hx hb hts in_X0_coinsFor_0 hown hK.1 hP 0 rfl rfl 0 (by decide) (hts (.fieldLink RX0 9 "ChildCoins$Land" "coins" "I") (List.mem_of_getElem? (i := 1) rfl)) (fun _ h9 => h9) rfl dX0_coinsFor_6 ?_
    refine nb_icmp_ge (tgt := 33) hx hb dX0_coinsFor_9 (by decide) (by omega) (by omega) (fun hq2 => absurd hq2 (by omega)) (fun hq2 => ?_)
    refine lv_aload_n hx hb dX0_coinsFor_12 rfl (lv_at hl 0 rfl) ?_
    refine lv_iload_n hx hb dX0_coinsFor_13 rfl (lv_at hl 3 rfl) ?_
    refine lv_iload_n hx hb dX0_coinsFor_14 rfl (lv_at hl 1 rfl) ?_
    refine be_i0 (ru_V (As := [.int (nI i), .int (nI v_c)]) (rest := []) ⟨hx, hb, hml, hown, hts⟩ (g_does l D cI cB cZ cN Lh La1 La2 La4 La5 La7 La8 La9 LS i v_c hL0 (by omega) (by omega) H.size) gX0_coinsFor_X0_does rfl ⟨rfl, by decide, by decide, (show Option.map (fun d => d.parameters.length) (parseMethodDescriptor yX0_does.desc) = some 2 by decide +kernel)⟩ ⟨Nat.le_of_ble_eq_true rfl, Nat.le_of_ble_eq_true rfl⟩ hK hP hD 0 0 rfl rfl [0, 1, 2, 3, 4, 5, 6, 7] (by decide) rfl hl.1 rfl (Nat.le_of_ble_eq_true rfl) dX0_coinsFor_15 ⟨Nat.le_of_ble_eq_true rfl, Nat.le_of_ble_eq_true rfl⟩) hP hD hS hA [0, 1, 2, 3, 4, 5, 6, 7] rfl (fun r4 u3 H locs w5 hP hS => ?_)
    obtain rfl : r4 = nI (doN LS i v_c) := w5
    have b6 := doN_le LS i v_c
    refine nb_if_eq (tgt := 27) hx hb dX0_coinsFor_18 (by decide) (by omega) (fun hq7 => ?_) (fun hq7 => ?_)
    · skip
      refine lv_iinc (v := nI (i + 1)) (lv' := [(3, .int (nI (i + 1))), (0, .ref Lh), (1, .int (nI v_c)), (2, .int (nI (bitsN (fun c => doN LS c v_c) i)))]) hx hb dX0_coinsFor_27 hl (k := 3) rfl (nI_add i 1) (by decide) rfl (fun ls hl => ?_)
      refine lv_goto (tgt := 4) hx hb dX0_coinsFor_30 (by decide) ?_
      have hl : lv_has ls 4 [(0, .ref Lh), (1, .int (nI v_c)), (2, .int (nI (bitsN (fun c => doN LS c v_c) i))), (3, .int (nI (i + 1)))] := lv_sub hl [1, 2, 3, 0] rfl
      rw [bitsN_f (f := (fun c => doN LS c v_c)) (i := i) hq7] at hl
      exact ih _ _ _ hP hD hS hl
    · skip
      refine lv_iload_n hx hb dX0_coinsFor_21 rfl (lv_at hl 2 rfl) ?_
      refine lv_iconst (v := nI 1) hx hb dX0_coinsFor_22 (by decide) ?_
      refine lv_iload_n hx hb dX0_coinsFor_23 rfl (lv_at hl 3 rfl) ?_
      refine lv_ishl hx hb dX0_coinsFor_24 ?_
      refine set_i (y := nI (2 ^ i)) (shl_1 (by omega)) ?_
      refine lv_ior hx hb dX0_coinsFor_25 ?_
      refine set_i (y := nI ((bitsN (fun c => doN LS c v_c) i) ||| (2 ^ i))) (nI_or (bitsN (fun c => doN LS c v_c) i) (2 ^ i)) ?_
      refine lv_istore_n (lv' := [(2, .int (nI ((bitsN (fun c => doN LS c v_c) i) ||| (2 ^ i)))), (0, .ref Lh), (1, .int (nI v_c)), (3, .int (nI i))]) hx hb dX0_coinsFor_26 rfl hl (by decide) rfl (fun ls hl => ?_)
      refine lv_iinc (v := nI (i + 1)) (lv' := [(3, .int (nI (i + 1))), (2, .int (nI ((bitsN (fun c => doN LS c v_c) i) ||| (2 ^ i)))), (0, .ref Lh), (1, .int (nI v_c))]) hx hb dX0_coinsFor_27 hl (k := 3) rfl (nI_add i 1) (by decide) rfl (fun ls hl => ?_)
      refine lv_goto (tgt := 4) hx hb dX0_coinsFor_30 (by decide) ?_
      have hl : lv_has ls 4 [(0, .ref Lh), (1, .int (nI v_c)), (2, .int (nI ((bitsN (fun c => doN LS c v_c) i) ||| (2 ^ i)))), (3, .int (nI (i + 1)))] := lv_sub hl [2, 3, 1, 0] rfl
      rw [bitsN_t (f := (fun c => doN LS c v_c)) (i := i) hq7] at hl
      exact ih _ _ _ hP hD hS hl
