set_option maxRecDepth 20000 in
theorem dAX3_sortOf : decA cX3_sortOf [(0, .iload_n 0, 1), (1, .bipush 97, 2), (3, .if_icmp .lt 11, 3), (6, .iload_n 0, 1), (7, .bipush 122, 2), (9, .if_icmp .gt 5, 3), (12, .iconst 1, 1), (13, .ireturn, 1), (14, .iload_n 0, 1), (15, .bipush 48, 2), (17, .if_icmp .lt 11, 3), (20, .iload_n 0, 1), (21, .bipush 57, 2), (23, .if_icmp .gt 5, 3), (26, .iconst 2, 1), (27, .ireturn, 1), (28, .iload_n 0, 1), (29, .bipush 59, 2), (31, .if_icmp .ne 7, 3), (34, .iconst 3, 1), (35, .goto 4, 3), (38, .iconst 4, 1), (39, .ireturn, 1)] = true := by decide +kernel
theorem dX3_sortOf_0 : decode cX3_sortOf 0 = .ok (.iload_n 0, 1) := decA_get dAX3_sortOf 0 rfl
theorem dX3_sortOf_1 : decode cX3_sortOf 1 = .ok (.bipush 97, 2) := decA_get dAX3_sortOf 1 rfl
theorem dX3_sortOf_3 : decode cX3_sortOf 3 = .ok (.if_icmp .lt 11, 3) := decA_get dAX3_sortOf 2 rfl
theorem dX3_sortOf_14 : decode cX3_sortOf 14 = .ok (.iload_n 0, 1) := decA_get dAX3_sortOf 8 rfl
theorem dX3_sortOf_15 : decode cX3_sortOf 15 = .ok (.bipush 48, 2) := decA_get dAX3_sortOf 9 rfl
theorem dX3_sortOf_17 : decode cX3_sortOf 17 = .ok (.if_icmp .lt 11, 3) := decA_get dAX3_sortOf 10 rfl
theorem dX3_sortOf_28 : decode cX3_sortOf 28 = .ok (.iload_n 0, 1) := decA_get dAX3_sortOf 16 rfl
theorem dX3_sortOf_29 : decode cX3_sortOf 29 = .ok (.bipush 59, 2) := decA_get dAX3_sortOf 17 rfl
theorem dX3_sortOf_31 : decode cX3_sortOf 31 = .ok (.if_icmp .ne 7, 3) := decA_get dAX3_sortOf 18 rfl
theorem dX3_sortOf_38 : decode cX3_sortOf 38 = .ok (.iconst 4, 1) := decA_get dAX3_sortOf 21 rfl
theorem dX3_sortOf_39 : decode cX3_sortOf 39 = .ok (.ireturn, 1) := decA_get dAX3_sortOf 22 rfl
theorem dX3_sortOf_34 : decode cX3_sortOf 34 = .ok (.iconst 3, 1) := decA_get dAX3_sortOf 19 rfl
theorem dX3_sortOf_35 : decode cX3_sortOf 35 = .ok (.goto 4, 3) := decA_get dAX3_sortOf 20 rfl
theorem dX3_sortOf_20 : decode cX3_sortOf 20 = .ok (.iload_n 0, 1) := decA_get dAX3_sortOf 11 rfl
theorem dX3_sortOf_21 : decode cX3_sortOf 21 = .ok (.bipush 57, 2) := decA_get dAX3_sortOf 12 rfl
theorem dX3_sortOf_23 : decode cX3_sortOf 23 = .ok (.if_icmp .gt 5, 3) := decA_get dAX3_sortOf 13 rfl
theorem dX3_sortOf_26 : decode cX3_sortOf 26 = .ok (.iconst 2, 1) := decA_get dAX3_sortOf 14 rfl
theorem dX3_sortOf_27 : decode cX3_sortOf 27 = .ok (.ireturn, 1) := decA_get dAX3_sortOf 15 rfl
theorem dX3_sortOf_6 : decode cX3_sortOf 6 = .ok (.iload_n 0, 1) := decA_get dAX3_sortOf 3 rfl
theorem dX3_sortOf_7 : decode cX3_sortOf 7 = .ok (.bipush 122, 2) := decA_get dAX3_sortOf 4 rfl
theorem dX3_sortOf_9 : decode cX3_sortOf 9 = .ok (.if_icmp .gt 5, 3) := decA_get dAX3_sortOf 5 rfl
theorem dX3_sortOf_12 : decode cX3_sortOf 12 = .ok (.iconst 1, 1) := decA_get dAX3_sortOf 6 rfl
theorem dX3_sortOf_13 : decode cX3_sortOf 13 = .ok (.ireturn, 1) := decA_get dAX3_sortOf 7 rfl
set_option maxHeartbeats 4000000 in
set_option maxRecDepth 100000 in
theorem g_sortOf (l : Launch) (D : va_G) (cI cB cZ cN : ClassId) (v_b : Nat) (hb0 : v_b < 256) : Ci (S := Unit) l D cI cB cZ cN yX3_sortOf wsX3_sortOf ({ frames := 0, cells := 0, slots := 0, locals := 0 } : Room) [.int (nI v_b)] [] (fun (r : Int32) (_ : Unit) => r = nI (srtN v_b)) (fun u => []) := by
  refine bx_of (D := D) (cI := cI) (cB := cB) (cZ := cZ) (cN := cN) (y := yX3_sortOf) (wd := wsX3_sortOf) (rm := ({ frames := 0, cells := 0, slots := 0, locals := 0 } : Room)) (av := [.int (nI v_b)]) (wc := []) (cc := cX3_sortOf) (maxL := 1) (ret := (some .int)) (Qc := fun _ A => va_Qi (S := Unit) (fun (r : Int32) (_ : Unit) => r = nI (srtN v_b)) (Aft D (fun (u : Unit) => []) A) A) (by decide) rfl (Nat.le_of_ble_eq_true rfl) ?_
  intro p e s m below meth c A H locs ⟨hx, hb, hr, hml, hown, hts, hlk, hnm⟩ hK hP hD hS hA ls hl
  have hl : lv_has ls 1 [(0, .int (nI v_b))] := hl
  have hown : s.vm.findClass RX3 = some m.cls := hown
  refine lv_iload_n hx hb dX3_sortOf_0 rfl (lv_at hl 0 rfl) ?_
  refine lv_bipush (v := nI 97) hx hb dX3_sortOf_1 (by decide) ?_
  refine nb_icmp_lt (tgt := 14) hx hb dX3_sortOf_3 (by decide) (by omega) (by omega) (fun hq1 => ?_) (fun hq1 => ?_)
  · skip
    refine lv_iload_n hx hb dX3_sortOf_14 rfl (lv_at hl 0 rfl) ?_
    refine lv_bipush (v := nI 48) hx hb dX3_sortOf_15 (by decide) ?_
    refine nb_icmp_lt (tgt := 28) hx hb dX3_sortOf_17 (by decide) (by omega) (by omega) (fun hq2 => ?_) (fun hq2 => ?_)
    · skip
      refine lv_iload_n hx hb dX3_sortOf_28 rfl (lv_at hl 0 rfl) ?_
      refine lv_bipush (v := nI 59) hx hb dX3_sortOf_29 (by decide) ?_
      refine nb_icmp_ne (tgt := 38) hx hb dX3_sortOf_31 (by decide) (by omega) (by omega) (fun hq3 => ?_) (fun hq3 => ?_)
      · skip
        refine lv_iconst (v := nI 4) hx hb dX3_sortOf_38 (by decide) ?_
        exact en_i hx hb hr hlk hP hD hS () [] (by decide) rfl (Nat.le_of_ble_eq_true rfl) (Nat.le_of_ble_eq_true rfl) dX3_sortOf_39 (congrArg nI (by unfold srtN; (repeat' split) <;> omega))
      · skip
        refine lv_iconst (v := nI 3) hx hb dX3_sortOf_34 (by decide) ?_
        refine lv_goto (tgt := 39) hx hb dX3_sortOf_35 (by decide) ?_
        exact en_i hx hb hr hlk hP hD hS () [] (by decide) rfl (Nat.le_of_ble_eq_true rfl) (Nat.le_of_ble_eq_true rfl) dX3_sortOf_39 (congrArg nI (by unfold srtN; (repeat' split) <;> omega))
    · skip
      refine lv_iload_n hx hb dX3_sortOf_20 rfl (lv_at hl 0 rfl) ?_
      refine lv_bipush (v := nI 57) hx hb dX3_sortOf_21 (by decide) ?_
      refine nb_icmp_gt (tgt := 28) hx hb dX3_sortOf_23 (by decide) (by omega) (by omega) (fun hq4 => ?_) (fun hq4 => ?_)
      · skip
        refine lv_iload_n hx hb dX3_sortOf_28 rfl (lv_at hl 0 rfl) ?_
        refine lv_bipush (v := nI 59) hx hb dX3_sortOf_29 (by decide) ?_
        refine nb_icmp_ne (tgt := 38) hx hb dX3_sortOf_31 (by decide) (by omega) (by omega) (fun hq5 => ?_) (fun hq5 => ?_)
        · skip
          refine lv_iconst (v := nI 4) hx hb dX3_sortOf_38 (by decide) ?_
          exact en_i hx hb hr hlk hP hD hS () [] (by decide) rfl (Nat.le_of_ble_eq_true rfl) (Nat.le_of_ble_eq_true rfl) dX3_sortOf_39 (congrArg nI (by unfold srtN; (repeat' split) <;> omega))
        · skip
          refine lv_iconst (v := nI 3) hx hb dX3_sortOf_34 (by decide) ?_
          refine lv_goto (tgt := 39) hx hb dX3_sortOf_35 (by decide) ?_
          exact en_i hx hb hr hlk hP hD hS () [] (by decide) rfl (Nat.le_of_ble_eq_true rfl) (Nat.le_of_ble_eq_true rfl) dX3_sortOf_39 (congrArg nI (by unfold srtN; (repeat' split) <;> omega))
      · skip
        refine lv_iconst (v := nI 2) hx hb dX3_sortOf_26 (by decide) ?_
        exact en_i hx hb hr hlk hP hD hS () [] (by decide) rfl (Nat.le_of_ble_eq_true rfl) (Nat.le_of_ble_eq_true rfl) dX3_sortOf_27 (congrArg nI (by unfold srtN; (repeat' split) <;> omega))
  · skip
    refine lv_iload_n hx hb dX3_sortOf_6 rfl (lv_at hl 0 rfl) ?_
    refine lv_bipush (v := nI 122) hx hb dX3_sortOf_7 (by decide) ?_
    refine nb_icmp_gt (tgt := 14) hx hb dX3_sortOf_9 (by decide) (by omega) (by omega) (fun hq6 => ?_) (fun hq6 => ?_)
    · skip
      refine lv_iload_n hx hb dX3_sortOf_14 rfl (lv_at hl 0 rfl) ?_
      refine lv_bipush (v := nI 48) hx hb dX3_sortOf_15 (by decide) ?_
      refine nb_icmp_lt (tgt := 28) hx hb dX3_sortOf_17 (by decide) (by omega) (by omega) (fun hq7 => ?_) (fun hq7 => ?_)
      · skip
        refine lv_iload_n hx hb dX3_sortOf_28 rfl (lv_at hl 0 rfl) ?_
        refine lv_bipush (v := nI 59) hx hb dX3_sortOf_29 (by decide) ?_
        refine nb_icmp_ne (tgt := 38) hx hb dX3_sortOf_31 (by decide) (by omega) (by omega) (fun hq8 => ?_) (fun hq8 => ?_)
        · skip
          refine lv_iconst (v := nI 4) hx hb dX3_sortOf_38 (by decide) ?_
          exact en_i hx hb hr hlk hP hD hS () [] (by decide) rfl (Nat.le_of_ble_eq_true rfl) (Nat.le_of_ble_eq_true rfl) dX3_sortOf_39 (congrArg nI (by unfold srtN; (repeat' split) <;> omega))
        · skip
          refine lv_iconst (v := nI 3) hx hb dX3_sortOf_34 (by decide) ?_
          refine lv_goto (tgt := 39) hx hb dX3_sortOf_35 (by decide) ?_
          exact en_i hx hb hr hlk hP hD hS () [] (by decide) rfl (Nat.le_of_ble_eq_true rfl) (Nat.le_of_ble_eq_true rfl) dX3_sortOf_39 (congrArg nI (by unfold srtN; (repeat' split) <;> omega))
      · skip
        refine lv_iload_n hx hb dX3_sortOf_20 rfl (lv_at hl 0 rfl) ?_
        refine lv_bipush (v := nI 57) hx hb dX3_sortOf_21 (by decide) ?_
        refine nb_icmp_gt (tgt := 28) hx hb dX3_sortOf_23 (by decide) (by omega) (by omega) (fun hq9 => ?_) (fun hq9 => ?_)
        · skip
          refine lv_iload_n hx hb dX3_sortOf_28 rfl (lv_at hl 0 rfl) ?_
          refine lv_bipush (v := nI 59) hx hb dX3_sortOf_29 (by decide) ?_
          refine nb_icmp_ne (tgt := 38) hx hb dX3_sortOf_31 (by decide) (by omega) (by omega) (fun hq10 => ?_) (fun hq10 => ?_)
          · skip
            refine lv_iconst (v := nI 4) hx hb dX3_sortOf_38 (by decide) ?_
            exact en_i hx hb hr hlk hP hD hS () [] (by decide) rfl (Nat.le_of_ble_eq_true rfl) (Nat.le_of_ble_eq_true rfl) dX3_sortOf_39 (congrArg nI (by unfold srtN; (repeat' split) <;> omega))
          · skip
            refine lv_iconst (v := nI 3) hx hb dX3_sortOf_34 (by decide) ?_
            refine lv_goto (tgt := 39) hx hb dX3_sortOf_35 (by decide) ?_
            exact en_i hx hb hr hlk hP hD hS () [] (by decide) rfl (Nat.le_of_ble_eq_true rfl) (Nat.le_of_ble_eq_true rfl) dX3_sortOf_39 (congrArg nI (by unfold srtN; (repeat' split) <;> omega))
        · skip
          refine lv_iconst (v := nI 2) hx hb dX3_sortOf_26 (by decide) ?_
          exact en_i hx hb hr hlk hP hD hS () [] (by decide) rfl (Nat.le_of_ble_eq_true rfl) (Nat.le_of_ble_eq_true rfl) dX3_sortOf_27 (congrArg nI (by unfold srtN; (repeat' split) <;> omega))
    · skip
      refine lv_iconst (v := nI 1) hx hb dX3_sortOf_12 (by decide) ?_
      exact en_i hx hb hr hlk hP hD hS () [] (by decide) rfl (Nat.le_of_ble_eq_true rfl) (Nat.le_of_ble_eq_true rfl) dX3_sortOf_13 (congrArg nI (by unfold srtN; (repeat' split) <;> omega))
set_option maxRecDepth 20000 in
theorem dAX3_weighLetters : decA cX3_weighLetters [(0, .aload_n 0, 1), (1, .getfield 19, 3), (4, .aload_n 0, 1), (5, .getfield 22, 3), (8, .isub, 1), (9, .iconst 1, 1), (10, .if_icmp .ne 16, 3), (13, .aload_n 0, 1), (14, .aload_n 0, 1), (15, .getfield 9, 3), (18, .aload_n 0, 1), (19, .getfield 22, 3), (22, .iaload, 1), (23, .putfield 28, 3), (26, .return_, 1)] = true := by decide +kernel
theorem dX3_weighLetters_0 : decode cX3_weighLetters 0 = .ok (.aload_n 0, 1) := decA_get dAX3_weighLetters 0 rfl
theorem dX3_weighLetters_1 : decode cX3_weighLetters 1 = .ok (.getfield 19, 3) := decA_get dAX3_weighLetters 1 rfl
theorem in_X3_weighLetters_3 : ∀ w ∈ wsX30, w ∈ wsX3_weighLetters := fun w h => (gd_ids wi_X3_weighLetters wm_X3_weighLetters wi_X30 (by decide +kernel) w h).1
theorem dX3_weighLetters_4 : decode cX3_weighLetters 4 = .ok (.aload_n 0, 1) := decA_get dAX3_weighLetters 2 rfl
theorem dX3_weighLetters_5 : decode cX3_weighLetters 5 = .ok (.getfield 22, 3) := decA_get dAX3_weighLetters 3 rfl
theorem dX3_weighLetters_8 : decode cX3_weighLetters 8 = .ok (.isub, 1) := decA_get dAX3_weighLetters 4 rfl
theorem dX3_weighLetters_9 : decode cX3_weighLetters 9 = .ok (.iconst 1, 1) := decA_get dAX3_weighLetters 5 rfl
theorem dX3_weighLetters_10 : decode cX3_weighLetters 10 = .ok (.if_icmp .ne 16, 3) := decA_get dAX3_weighLetters 6 rfl
theorem dX3_weighLetters_26 : decode cX3_weighLetters 26 = .ok (.return_, 1) := decA_get dAX3_weighLetters 14 rfl
theorem dX3_weighLetters_13 : decode cX3_weighLetters 13 = .ok (.aload_n 0, 1) := decA_get dAX3_weighLetters 7 rfl
theorem dX3_weighLetters_14 : decode cX3_weighLetters 14 = .ok (.aload_n 0, 1) := decA_get dAX3_weighLetters 8 rfl
theorem dX3_weighLetters_15 : decode cX3_weighLetters 15 = .ok (.getfield 9, 3) := decA_get dAX3_weighLetters 9 rfl
theorem dX3_weighLetters_18 : decode cX3_weighLetters 18 = .ok (.aload_n 0, 1) := decA_get dAX3_weighLetters 10 rfl
theorem dX3_weighLetters_19 : decode cX3_weighLetters 19 = .ok (.getfield 22, 3) := decA_get dAX3_weighLetters 11 rfl
theorem dX3_weighLetters_22 : decode cX3_weighLetters 22 = .ok (.iaload, 1) := decA_get dAX3_weighLetters 12 rfl
theorem dX3_weighLetters_23 : decode cX3_weighLetters 23 = .ok (.putfield 28, 3) := decA_get dAX3_weighLetters 13 rfl
set_option maxHeartbeats 4000000 in
set_option maxRecDepth 100000 in
theorem g_weighLetters (l : Launch) (D : va_G) (cI cB cZ cN : ClassId) (Rh : Nat) (RS : Nat → Nat → Nat) (Th : Nat) (TS : Nat → Nat → Nat) (hT : ∀ j, TS 0 j < 256) (h1 : RS 3 0 ≤ RS 2 0) (h2 : RS 3 0 < 180) (h3 : RS 2 0 ≤ 180) : Cv (S := (Nat → Nat → Nat)) l D cI cB cZ cN yX3_weighLetters wsX3_weighLetters ({ frames := 0, cells := 0, slots := 0, locals := 0 } : Room) [.ref Rh] [(Rh, .inr (3, [.ref Th, .int (nI (RS 1 0)), .int (nI (RS 2 0)), .int (nI (RS 3 0)), .int (nI (RS 4 0)), .int (nI (RS 5 0))])), (Th, .inl (cI, 180, .inl (nF (TS 0))))] (fun (u : (Nat → Nat → Nat)) => u 1 0 = RS 1 0 ∧ u 2 0 = RS 2 0 ∧ u 3 0 = RS 3 0 ∧ u 4 0 = RS 4 0 ∧ u 5 0 = (if RS 2 0 - RS 3 0 = 1 then TS 0 (RS 3 0) else RS 5 0)) (fun u => [(Rh, .inr (3, [.ref Th, .int (nI (u 1 0)), .int (nI (u 2 0)), .int (nI (u 3 0)), .int (nI (u 4 0)), .int (nI (u 5 0))])), (Th, .inl (cI, 180, .inl (nF (TS 0))))]) := by
  refine bx_of (D := D) (cI := cI) (cB := cB) (cZ := cZ) (cN := cN) (y := yX3_weighLetters) (wd := wsX3_weighLetters) (rm := ({ frames := 0, cells := 0, slots := 0, locals := 0 } : Room)) (av := [.ref Rh]) (wc := [(Rh, .inr (3, [.ref Th, .int (nI (RS 1 0)), .int (nI (RS 2 0)), .int (nI (RS 3 0)), .int (nI (RS 4 0)), .int (nI (RS 5 0))])), (Th, .inl (cI, 180, .inl (nF (TS 0))))]) (cc := cX3_weighLetters) (maxL := 1) (ret := none) (Qc := fun _ A => va_Qv (S := (Nat → Nat → Nat)) (fun (u : (Nat → Nat → Nat)) => u 1 0 = RS 1 0 ∧ u 2 0 = RS 2 0 ∧ u 3 0 = RS 3 0 ∧ u 4 0 = RS 4 0 ∧ u 5 0 = (if RS 2 0 - RS 3 0 = 1 then TS 0 (RS 3 0) else RS 5 0)) (Aft D (fun (u : (Nat → Nat → Nat)) => [(Rh, .inr (3, [.ref Th, .int (nI (u 1 0)), .int (nI (u 2 0)), .int (nI (u 3 0)), .int (nI (u 4 0)), .int (nI (u 5 0))])), (Th, .inl (cI, 180, .inl (nF (TS 0))))]) A) A) (by decide) rfl (Nat.le_of_ble_eq_true rfl) ?_
  intro p e s m below meth c A H locs ⟨hx, hb, hr, hml, hown, hts, hlk, hnm⟩ hK hP hD hS hA ls hl
  have hl : lv_has ls 1 [(0, .ref Rh)] := hl
  have hown : s.vm.findClass RX3 = some m.cls := hown
  have bt := hT
  refine lv_aload_n hx hb dX3_weighLetters_0 rfl (lv_at hl 0 rfl) ?_
  refine va_get (D := D) (ci := 3) (v := .int (nI (RS 2 0))) (C := RX3) (T := TX3) (N := 6) hx hb hts in_X3_weighLetters_3 hown hK.1 hP 0 rfl rfl 2 (by decide) (hts (.fieldLink RX3 19 "ChildCoins$Reader" "at" "I") (List.mem_of_getElem? (i := 1) rfl)) (fun _ h9 => h9) rfl dX3_weighLetters_1 ?_
  refine lv_aload_n hx hb dX3_weighLetters_4 rfl (lv_at hl 0 rfl) ?_
  refine va_get (D := D) (ci := 3) (v := .int (nI (RS 3 0))) (C := RX3) (T := TX3) (N := 6) hx hb hts in_X3_weighLetters_3 hown hK.1 hP 0 rfl rfl 3 (by decide) (hts (.fieldLink RX3 22 "ChildCoins$Reader" "start" "I") (List.mem_of_getElem? (i := 2) rfl)) (fun _ h9 => h9) rfl dX3_weighLetters_5 ?_
  refine lv_isub hx hb dX3_weighLetters_8 ?_
  refine set_i (y := nI ((RS 2 0) - (RS 3 0))) (pk_sub (by omega)) ?_
  refine lv_iconst (v := nI 1) hx hb dX3_weighLetters_9 (by decide) ?_
  refine nb_icmp_ne (tgt := 26) hx hb dX3_weighLetters_10 (by decide) (by omega) (by omega) (fun hq1 => ?_) (fun hq1 => ?_)
  · skip
    exact en_v hx hb hr hlk hP hD hS RS [0, 1] (by decide) rfl (Nat.le_of_ble_eq_true rfl) (Nat.le_of_ble_eq_true rfl) dX3_weighLetters_26 ⟨rfl, rfl, rfl, rfl, (if_neg hq1).symm⟩
  · skip
    refine lv_aload_n hx hb dX3_weighLetters_13 rfl (lv_at hl 0 rfl) ?_
    refine lv_aload_n hx hb dX3_weighLetters_14 rfl (lv_at hl 0 rfl) ?_
    refine va_get (D := D) (ci := 3) (v := .ref Th) (C := RX3) (T := TX3) (N := 6) hx hb hts in_X3_weighLetters_3 hown hK.1 hP 0 rfl rfl 0 (by decide) (hts (.fieldLink RX3 9 "ChildCoins$Reader" "bytes" "[I") (List.mem_of_getElem? (i := 3) rfl)) (fun _ h9 => h9) rfl dX3_weighLetters_15 ?_
    refine lv_aload_n hx hb dX3_weighLetters_18 rfl (lv_at hl 0 rfl) ?_
    refine va_get (D := D) (ci := 3) (v := .int (nI (RS 3 0))) (C := RX3) (T := TX3) (N := 6) hx hb hts in_X3_weighLetters_3 hown hK.1 hP 0 rfl rfl 3 (by decide) (hts (.fieldLink RX3 22 "ChildCoins$Reader" "start" "I") (List.mem_of_getElem? (i := 2) rfl)) (fun _ h9 => h9) rfl dX3_weighLetters_19 ?_
    refine va_iald hx hb hK.1 hP 1 0 rfl rfl (vp_in_nI (n := RS 3 0) (N := 180) (by omega) (by decide)) dX3_weighLetters_22 ?_
    refine set_i (y := nI (TS 0 (RS 3 0))) (nF_ld (by omega)) ?_
    have b2 := bt (RS 3 0)
    refine va_put (D := D) (ci := 3) (v := .int (nI (TS 0 (RS 3 0)))) (ty := tyX3 5) (C := RX3) (T := TX3) (N := 6) hx hb hts in_X3_weighLetters_3 tyX3 tyX3_ok nmX3 hown hK.1 hP hD hS 0 rfl rfl 5 (by decide) (hts (.fieldLink RX3 28 "ChildCoins$Reader" "value" "I") (List.mem_of_getElem? (i := 4) rfl)) (fun _ h9 => h9) rfl (tyX3_ok 5 (by decide)) rfl rfl (Nat.le_of_ble_eq_true rfl) dX3_weighLetters_23 (fun H locs hP hD hS => ?_)
    obtain ⟨hP, hD⟩ : wPD D A [(Rh, .inr (3, [.ref Th, .int (nI (RS 1 0)), .int (nI (RS 2 0)), .int (nI (RS 3 0)), .int (nI (RS 4 0)), .int (nI (TS 0 (RS 3 0)))])), (Th, .inl (cI, 180, .inl (nF (TS 0))))] H := ⟨hP, hD⟩
    exact en_v hx hb hr hlk hP hD hS (ua RS 5 (fun _ => TS 0 (RS 3 0))) [0, 1] (by decide) rfl (Nat.le_of_ble_eq_true rfl) (Nat.le_of_ble_eq_true rfl) dX3_weighLetters_26 ⟨rfl, rfl, rfl, rfl, (if_pos hq1).symm⟩
set_option maxRecDepth 20000 in
theorem dAX3_weighNumber : decA cX3_weighNumber [(0, .aload_n 0, 1), (1, .getfield 19, 3), (4, .aload_n 0, 1), (5, .getfield 22, 3), (8, .isub, 1), (9, .istore_n 1, 1), (10, .iload_n 1, 1), (11, .iconst 2, 1), (12, .if_icmp .gt 22, 3), (15, .iload_n 1, 1), (16, .iconst 2, 1), (17, .if_icmp .ne 23, 3), (20, .aload_n 0, 1), (21, .getfield 9, 3), (24, .aload_n 0, 1), (25, .getfield 22, 3), (28, .iaload, 1), (29, .bipush 48, 2), (31, .if_icmp .ne 9, 3), (34, .aload_n 0, 1), (35, .iconst 4, 1), (36, .putfield 25, 3), (39, .return_, 1), (40, .aload_n 0, 1), (41, .getfield 22, 3), (44, .istore_n 2, 1), (45, .iload_n 2, 1), (46, .aload_n 0, 1), (47, .getfield 19, 3), (50, .if_icmp .ge 30, 3), (53, .aload_n 0, 1), (54, .aload_n 0, 1), (55, .getfield 28, 3), (58, .bipush 10, 2), (60, .imul, 1), (61, .aload_n 0, 1), (62, .getfield 9, 3), (65, .iload_n 2, 1), (66, .iaload, 1), (67, .iadd, 1), (68, .bipush 48, 2), (70, .isub, 1), (71, .putfield 28, 3), (74, .iinc 2 1, 3), (77, .goto (-32), 3), (80, .return_, 1)] = true := by decide +kernel
theorem dX3_weighNumber_0 : decode cX3_weighNumber 0 = .ok (.aload_n 0, 1) := decA_get dAX3_weighNumber 0 rfl
theorem dX3_weighNumber_1 : decode cX3_weighNumber 1 = .ok (.getfield 19, 3) := decA_get dAX3_weighNumber 1 rfl
theorem in_X3_weighNumber_3 : ∀ w ∈ wsX30, w ∈ wsX3_weighNumber := fun w h => (gd_ids wi_X3_weighNumber wm_X3_weighNumber wi_X30 (by decide +kernel) w h).1
theorem dX3_weighNumber_4 : decode cX3_weighNumber 4 = .ok (.aload_n 0, 1) := decA_get dAX3_weighNumber 2 rfl
theorem dX3_weighNumber_5 : decode cX3_weighNumber 5 = .ok (.getfield 22, 3) := decA_get dAX3_weighNumber 3 rfl
theorem dX3_weighNumber_8 : decode cX3_weighNumber 8 = .ok (.isub, 1) := decA_get dAX3_weighNumber 4 rfl
theorem dX3_weighNumber_9 : decode cX3_weighNumber 9 = .ok (.istore_n 1, 1) := decA_get dAX3_weighNumber 5 rfl
theorem dX3_weighNumber_10 : decode cX3_weighNumber 10 = .ok (.iload_n 1, 1) := decA_get dAX3_weighNumber 6 rfl
theorem dX3_weighNumber_11 : decode cX3_weighNumber 11 = .ok (.iconst 2, 1) := decA_get dAX3_weighNumber 7 rfl
theorem dX3_weighNumber_12 : decode cX3_weighNumber 12 = .ok (.if_icmp .gt 22, 3) := decA_get dAX3_weighNumber 8 rfl
theorem dX3_weighNumber_34 : decode cX3_weighNumber 34 = .ok (.aload_n 0, 1) := decA_get dAX3_weighNumber 19 rfl
theorem dX3_weighNumber_35 : decode cX3_weighNumber 35 = .ok (.iconst 4, 1) := decA_get dAX3_weighNumber 20 rfl
theorem dX3_weighNumber_36 : decode cX3_weighNumber 36 = .ok (.putfield 25, 3) := decA_get dAX3_weighNumber 21 rfl
theorem dX3_weighNumber_39 : decode cX3_weighNumber 39 = .ok (.return_, 1) := decA_get dAX3_weighNumber 22 rfl
theorem dX3_weighNumber_15 : decode cX3_weighNumber 15 = .ok (.iload_n 1, 1) := decA_get dAX3_weighNumber 9 rfl
theorem dX3_weighNumber_16 : decode cX3_weighNumber 16 = .ok (.iconst 2, 1) := decA_get dAX3_weighNumber 10 rfl
theorem dX3_weighNumber_17 : decode cX3_weighNumber 17 = .ok (.if_icmp .ne 23, 3) := decA_get dAX3_weighNumber 11 rfl
theorem dX3_weighNumber_40 : decode cX3_weighNumber 40 = .ok (.aload_n 0, 1) := decA_get dAX3_weighNumber 23 rfl
theorem dX3_weighNumber_41 : decode cX3_weighNumber 41 = .ok (.getfield 22, 3) := decA_get dAX3_weighNumber 24 rfl
theorem dX3_weighNumber_44 : decode cX3_weighNumber 44 = .ok (.istore_n 2, 1) := decA_get dAX3_weighNumber 25 rfl
theorem dX3_weighNumber_45 : decode cX3_weighNumber 45 = .ok (.iload_n 2, 1) := decA_get dAX3_weighNumber 26 rfl
theorem dX3_weighNumber_46 : decode cX3_weighNumber 46 = .ok (.aload_n 0, 1) := decA_get dAX3_weighNumber 27 rfl
theorem dX3_weighNumber_47 : decode cX3_weighNumber 47 = .ok (.getfield 19, 3) := decA_get dAX3_weighNumber 28 rfl
theorem dX3_weighNumber_50 : decode cX3_weighNumber 50 = .ok (.if_icmp .ge 30, 3) := decA_get dAX3_weighNumber 29 rfl
theorem dX3_weighNumber_80 : decode cX3_weighNumber 80 = .ok (.return_, 1) := decA_get dAX3_weighNumber 45 rfl
theorem dX3_weighNumber_53 : decode cX3_weighNumber 53 = .ok (.aload_n 0, 1) := decA_get dAX3_weighNumber 30 rfl
theorem dX3_weighNumber_54 : decode cX3_weighNumber 54 = .ok (.aload_n 0, 1) := decA_get dAX3_weighNumber 31 rfl
theorem dX3_weighNumber_55 : decode cX3_weighNumber 55 = .ok (.getfield 28, 3) := decA_get dAX3_weighNumber 32 rfl
theorem dX3_weighNumber_58 : decode cX3_weighNumber 58 = .ok (.bipush 10, 2) := decA_get dAX3_weighNumber 33 rfl
theorem dX3_weighNumber_60 : decode cX3_weighNumber 60 = .ok (.imul, 1) := decA_get dAX3_weighNumber 34 rfl
theorem dX3_weighNumber_61 : decode cX3_weighNumber 61 = .ok (.aload_n 0, 1) := decA_get dAX3_weighNumber 35 rfl
theorem dX3_weighNumber_62 : decode cX3_weighNumber 62 = .ok (.getfield 9, 3) := decA_get dAX3_weighNumber 36 rfl
theorem dX3_weighNumber_65 : decode cX3_weighNumber 65 = .ok (.iload_n 2, 1) := decA_get dAX3_weighNumber 37 rfl
theorem dX3_weighNumber_66 : decode cX3_weighNumber 66 = .ok (.iaload, 1) := decA_get dAX3_weighNumber 38 rfl
theorem dX3_weighNumber_67 : decode cX3_weighNumber 67 = .ok (.iadd, 1) := decA_get dAX3_weighNumber 39 rfl
theorem dX3_weighNumber_68 : decode cX3_weighNumber 68 = .ok (.bipush 48, 2) := decA_get dAX3_weighNumber 40 rfl
theorem dX3_weighNumber_70 : decode cX3_weighNumber 70 = .ok (.isub, 1) := decA_get dAX3_weighNumber 41 rfl
theorem dX3_weighNumber_71 : decode cX3_weighNumber 71 = .ok (.putfield 28, 3) := decA_get dAX3_weighNumber 42 rfl
theorem dX3_weighNumber_74 : decode cX3_weighNumber 74 = .ok (.iinc 2 1, 3) := decA_get dAX3_weighNumber 43 rfl
theorem dX3_weighNumber_77 : decode cX3_weighNumber 77 = .ok (.goto (-32), 3) := decA_get dAX3_weighNumber 44 rfl
theorem dX3_weighNumber_20 : decode cX3_weighNumber 20 = .ok (.aload_n 0, 1) := decA_get dAX3_weighNumber 12 rfl
theorem dX3_weighNumber_21 : decode cX3_weighNumber 21 = .ok (.getfield 9, 3) := decA_get dAX3_weighNumber 13 rfl
theorem dX3_weighNumber_24 : decode cX3_weighNumber 24 = .ok (.aload_n 0, 1) := decA_get dAX3_weighNumber 14 rfl
theorem dX3_weighNumber_25 : decode cX3_weighNumber 25 = .ok (.getfield 22, 3) := decA_get dAX3_weighNumber 15 rfl
theorem dX3_weighNumber_28 : decode cX3_weighNumber 28 = .ok (.iaload, 1) := decA_get dAX3_weighNumber 16 rfl
theorem dX3_weighNumber_29 : decode cX3_weighNumber 29 = .ok (.bipush 48, 2) := decA_get dAX3_weighNumber 17 rfl
theorem dX3_weighNumber_31 : decode cX3_weighNumber 31 = .ok (.if_icmp .ne 9, 3) := decA_get dAX3_weighNumber 18 rfl
set_option maxHeartbeats 4000000 in
set_option maxRecDepth 100000 in
theorem g_weighNumber (l : Launch) (D : va_G) (cI cB cZ cN : ClassId) (Rh : Nat) (RS : Nat → Nat → Nat) (Th : Nat) (TS : Nat → Nat → Nat) (hT : ∀ j, TS 0 j < 256) (h1 : RS 3 0 ≤ RS 2 0) (h2 : RS 3 0 < 180) (h3 : RS 2 0 ≤ 180) (h5 : RS 5 0 = 0) (hd : ∀ j, RS 3 0 ≤ j → j < RS 2 0 → 48 ≤ TS 0 j ∧ TS 0 j ≤ 57) : Cv (S := (Nat → Nat → Nat)) l D cI cB cZ cN yX3_weighNumber wsX3_weighNumber ({ frames := 0, cells := 0, slots := 0, locals := 0 } : Room) [.ref Rh] [(Rh, .inr (3, [.ref Th, .int (nI (RS 1 0)), .int (nI (RS 2 0)), .int (nI (RS 3 0)), .int (nI (RS 4 0)), .int (nI (RS 5 0))])), (Th, .inl (cI, 180, .inl (nF (TS 0))))] (fun (u : (Nat → Nat → Nat)) => u 1 0 = RS 1 0 ∧ u 2 0 = RS 2 0 ∧ u 3 0 = RS 3 0 ∧ u 4 0 = (if (2 < RS 2 0 - RS 3 0 ∨ (RS 2 0 - RS 3 0 = 2 ∧ TS 0 (RS 3 0) = 48)) then 4 else RS 4 0) ∧ u 5 0 = (if (2 < RS 2 0 - RS 3 0 ∨ (RS 2 0 - RS 3 0 = 2 ∧ TS 0 (RS 3 0) = 48)) then 0 else numN (TS 0) (RS 3 0) (RS 2 0 - RS 3 0))) (fun u => [(Rh, .inr (3, [.ref Th, .int (nI (u 1 0)), .int (nI (u 2 0)), .int (nI (u 3 0)), .int (nI (u 4 0)), .int (nI (u 5 0))])), (Th, .inl (cI, 180, .inl (nF (TS 0))))]) := by
  refine bx_of (D := D) (cI := cI) (cB := cB) (cZ := cZ) (cN := cN) (y := yX3_weighNumber) (wd := wsX3_weighNumber) (rm := ({ frames := 0, cells := 0, slots := 0, locals := 0 } : Room)) (av := [.ref Rh]) (wc := [(Rh, .inr (3, [.ref Th, .int (nI (RS 1 0)), .int (nI (RS 2 0)), .int (nI (RS 3 0)), .int (nI (RS 4 0)), .int (nI (RS 5 0))])), (Th, .inl (cI, 180, .inl (nF (TS 0))))]) (cc := cX3_weighNumber) (maxL := 3) (ret := none) (Qc := fun _ A => va_Qv (S := (Nat → Nat → Nat)) (fun (u : (Nat → Nat → Nat)) => u 1 0 = RS 1 0 ∧ u 2 0 = RS 2 0 ∧ u 3 0 = RS 3 0 ∧ u 4 0 = (if (2 < RS 2 0 - RS 3 0 ∨ (RS 2 0 - RS 3 0 = 2 ∧ TS 0 (RS 3 0) = 48)) then 4 else RS 4 0) ∧ u 5 0 = (if (2 < RS 2 0 - RS 3 0 ∨ (RS 2 0 - RS 3 0 = 2 ∧ TS 0 (RS 3 0) = 48)) then 0 else numN (TS 0) (RS 3 0) (RS 2 0 - RS 3 0))) (Aft D (fun (u : (Nat → Nat → Nat)) => [(Rh, .inr (3, [.ref Th, .int (nI (u 1 0)), .int (nI (u 2 0)), .int (nI (u 3 0)), .int (nI (u 4 0)), .int (nI (u 5 0))])), (Th, .inl (cI, 180, .inl (nF (TS 0))))]) A) A) (by decide) rfl (Nat.le_of_ble_eq_true rfl) ?_
  intro p e s m below meth c A H locs ⟨hx, hb, hr, hml, hown, hts, hlk, hnm⟩ hK hP hD hS hA ls hl
  have hl : lv_has ls 3 [(0, .ref Rh)] := hl
  have hown : s.vm.findClass RX3 = some m.cls := hown
  have bt := hT
  refine lv_aload_n hx hb dX3_weighNumber_0 rfl (lv_at hl 0 rfl) ?_
  refine va_get (D := D) (ci := 3) (v := .int (nI (RS 2 0))) (C := RX3) (T := TX3) (N := 6) hx hb hts in_X3_weighNumber_3 hown hK.1 hP 0 rfl rfl 2 (by decide) (hts (.fieldLink RX3 19 "ChildCoins$Reader" "at" "I") (List.mem_of_getElem? (i := 1) rfl)) (fun _ h9 => h9) rfl dX3_weighNumber_1 ?_
  refine lv_aload_n hx hb dX3_weighNumber_4 rfl (lv_at hl 0 rfl) ?_
  refine va_get (D := D) (ci := 3) (v := .int (nI (RS 3 0))) (C := RX3) (T := TX3) (N := 6) hx hb hts in_X3_weighNumber_3 hown hK.1 hP 0 rfl rfl 3 (by decide) (hts (.fieldLink RX3 22 "ChildCoins$Reader" "start" "I") (List.mem_of_getElem? (i := 2) rfl)) (fun _ h9 => h9) rfl dX3_weighNumber_5 ?_
  refine lv_isub hx hb dX3_weighNumber_8 ?_
  refine set_i (y := nI ((RS 2 0) - (RS 3 0))) (pk_sub (by omega)) ?_
  refine lv_istore_n (lv' := [(1, .int (nI ((RS 2 0) - (RS 3 0)))), (0, .ref Rh)]) hx hb dX3_weighNumber_9 rfl hl (by decide) rfl (fun ls hl => ?_)
  refine lv_iload_n hx hb dX3_weighNumber_10 rfl (lv_at hl 0 rfl) ?_
  refine lv_iconst (v := nI 2) hx hb dX3_weighNumber_11 (by decide) ?_
  refine nb_icmp_gt (tgt := 34) hx hb dX3_weighNumber_12 (by decide) (by omega) (by omega) (fun hq1 => ?_) (fun hq1 => ?_)
  · skip
    refine lv_aload_n hx hb dX3_weighNumber_34 rfl (lv_at hl 1 rfl) ?_
    refine lv_iconst (v := nI 4) hx hb dX3_weighNumber_35 (by decide) ?_
    refine va_put (D := D) (ci := 3) (v := .int (nI 4)) (ty := tyX3 4) (C := RX3) (T := TX3) (N := 6) hx hb hts in_X3_weighNumber_3 tyX3 tyX3_ok nmX3 hown hK.1 hP hD hS 0 rfl rfl 4 (by decide) (hts (.fieldLink RX3 25 "ChildCoins$Reader" "token" "I") (List.mem_of_getElem? (i := 4) rfl)) (fun _ h9 => h9) rfl (tyX3_ok 4 (by decide)) rfl rfl (Nat.le_of_ble_eq_true rfl) dX3_weighNumber_36 (fun H locs hP hD hS => ?_)
    obtain ⟨hP, hD⟩ : wPD D A [(Rh, .inr (3, [.ref Th, .int (nI (RS 1 0)), .int (nI (RS 2 0)), .int (nI (RS 3 0)), .int (nI 4), .int (nI (RS 5 0))])), (Th, .inl (cI, 180, .inl (nF (TS 0))))] H := ⟨hP, hD⟩
    exact en_v hx hb hr hlk hP hD hS (ua RS 4 (fun _ => 4)) [0, 1] (by decide) rfl (Nat.le_of_ble_eq_true rfl) (Nat.le_of_ble_eq_true rfl) dX3_weighNumber_39 ⟨rfl, rfl, rfl, (if_pos (by omega)).symm, h5.trans (if_pos (by omega)).symm⟩
  · skip
    refine lv_iload_n hx hb dX3_weighNumber_15 rfl (lv_at hl 0 rfl) ?_
    refine lv_iconst (v := nI 2) hx hb dX3_weighNumber_16 (by decide) ?_
    refine nb_icmp_ne (tgt := 40) hx hb dX3_weighNumber_17 (by decide) (by omega) (by omega) (fun hq2 => ?_) (fun hq2 => ?_)
    · skip
      refine lv_aload_n hx hb dX3_weighNumber_40 rfl (lv_at hl 1 rfl) ?_
      refine va_get (D := D) (ci := 3) (v := .int (nI (RS 3 0))) (C := RX3) (T := TX3) (N := 6) hx hb hts in_X3_weighNumber_3 hown hK.1 hP 0 rfl rfl 3 (by decide) (hts (.fieldLink RX3 22 "ChildCoins$Reader" "start" "I") (List.mem_of_getElem? (i := 2) rfl)) (fun _ h9 => h9) rfl dX3_weighNumber_41 ?_
      refine lv_istore_n (lv' := [(2, .int (nI (RS 3 0))), (1, .int (nI ((RS 2 0) - (RS 3 0)))), (0, .ref Rh)]) hx hb dX3_weighNumber_44 rfl hl (by decide) rfl (fun ls hl => ?_)
      refine loopW (D := D) (A := A) (fun i => [(Rh, .inr (3, [.ref Th, .int (nI (RS 1 0)), .int (nI (RS 2 0)), .int (nI (RS 3 0)), .int (nI (RS 4 0)), .int (nI (numN (TS 0) (RS 3 0) i))])), (Th, .inl (cI, 180, .inl (nF (TS 0))))]) (fun i => [(0, .ref Rh), (1, .int (nI ((RS 2 0) - (RS 3 0)))), (2, .int (nI (RS 3 0 + i)))]) 45 3 (RS 2 0 - RS 3 0) 0 (by omega) ?_ ?_ _ _ ls (by first | exact hP | (rw [fill_0]; exact hP) | (rw [h5] at hP; exact hP)) (by first | exact hD | (rw [fill_0]; exact hD) | (rw [h5] at hD; exact hD)) hS (lv_sub hl [2, 1, 0] rfl)
      · intro H locs ls hP hD hS hl
        have hl : lv_has ls 3 [(0, .ref Rh), (1, .int (nI ((RS 2 0) - (RS 3 0)))), (2, .int (nI (RS 3 0 + (RS 2 0 - RS 3 0))))] := hl
        obtain ⟨hP, hD⟩ : wPD D A [(Rh, .inr (3, [.ref Th, .int (nI (RS 1 0)), .int (nI (RS 2 0)), .int (nI (RS 3 0)), .int (nI (RS 4 0)), .int (nI (numN (TS 0) (RS 3 0) (RS 2 0 - RS 3 0)))])), (Th, .inl (cI, 180, .inl (nF (TS 0))))] H := ⟨hP, hD⟩
        refine lv_iload_n hx hb dX3_weighNumber_45 rfl (lv_at hl 2 rfl) ?_
        refine lv_aload_n hx hb dX3_weighNumber_46 rfl (lv_at hl 0 rfl) ?_
        refine va_get (D := D) (ci := 3) (v := .int (nI (RS 2 0))) (C := RX3) (T := TX3) (N := 6) hx hb hts in_X3_weighNumber_3 hown hK.1 hP 0 rfl rfl 2 (by decide) (hts (.fieldLink RX3 19 "ChildCoins$Reader" "at" "I") (List.mem_of_getElem? (i := 1) rfl)) (fun _ h9 => h9) rfl dX3_weighNumber_47 ?_
        refine nb_icmp_ge (tgt := 80) hx hb dX3_weighNumber_50 (by decide) (by omega) (by omega) (fun hq3 => ?_) (fun hq3 => absurd hq3 (by omega))
        exact en_v hx hb hr hlk hP hD hS (ua RS 5 (fun _ => numN (TS 0) (RS 3 0) (RS 2 0 - RS 3 0))) [0, 1] (by decide) rfl (Nat.le_of_ble_eq_true rfl) (Nat.le_of_ble_eq_true rfl) dX3_weighNumber_80 ⟨rfl, rfl, rfl, (if_neg (by omega)).symm, (if_neg (by omega)).symm⟩
      · intro i hi0 hi ih H locs ls hP hD hS hl
        have hl : lv_has ls 3 [(0, .ref Rh), (1, .int (nI ((RS 2 0) - (RS 3 0)))), (2, .int (nI (RS 3 0 + i)))] := hl
        obtain ⟨hP, hD⟩ : wPD D A [(Rh, .inr (3, [.ref Th, .int (nI (RS 1 0)), .int (nI (RS 2 0)), .int (nI (RS 3 0)), .int (nI (RS 4 0)), .int (nI (numN (TS 0) (RS 3 0) i))])), (Th, .inl (cI, 180, .inl (nF (TS 0))))] H := ⟨hP, hD⟩
        refine lv_iload_n hx hb dX3_weighNumber_45 rfl (lv_at hl 2 rfl) ?_
        refine lv_aload_n hx hb dX3_weighNumber_46 rfl (lv_at hl 0 rfl) ?_
        refine va_get (D := D) (ci := 3) (v := .int (nI (RS 2 0))) (C := RX3) (T := TX3) (N := 6) hx hb hts in_X3_weighNumber_3 hown hK.1 hP 0 rfl rfl 2 (by decide) (hts (.fieldLink RX3 19 "ChildCoins$Reader" "at" "I") (List.mem_of_getElem? (i := 1) rfl)) (fun _ h9 => h9) rfl dX3_weighNumber_47 ?_
        refine nb_icmp_ge (tgt := 80) hx hb dX3_weighNumber_50 (by decide) (by omega) (by omega) (fun hq4 => absurd hq4 (by omega)) (fun hq4 => ?_)
        refine lv_aload_n hx hb dX3_weighNumber_53 rfl (lv_at hl 0 rfl) ?_
        refine lv_aload_n hx hb dX3_weighNumber_54 rfl (lv_at hl 0 rfl) ?_
        refine va_get (D := D) (ci := 3) (v := .int (nI (numN (TS 0) (RS 3 0) i))) (C := RX3) (T := TX3) (N := 6) hx hb hts in_X3_weighNumber_3 hown hK.1 hP 0 rfl rfl 5 (by decide) (hts (.fieldLink RX3 28 "ChildCoins$Reader" "value" "I") (List.mem_of_getElem? (i := 5) rfl)) (fun _ h9 => h9) rfl dX3_weighNumber_55 ?_
        refine lv_bipush (v := nI 10) hx hb dX3_weighNumber_58 (by decide) ?_
        refine lv_imul hx hb dX3_weighNumber_60 ?_
        refine set_i (y := nI ((numN (TS 0) (RS 3 0) i) * 10)) (pk_mul (numN (TS 0) (RS 3 0) i) 10) ?_
        refine lv_aload_n hx hb dX3_weighNumber_61 rfl (lv_at hl 0 rfl) ?_
        refine va_get (D := D) (ci := 3) (v := .ref Th) (C := RX3) (T := TX3) (N := 6) hx hb hts in_X3_weighNumber_3 hown hK.1 hP 0 rfl rfl 0 (by decide) (hts (.fieldLink RX3 9 "ChildCoins$Reader" "bytes" "[I") (List.mem_of_getElem? (i := 3) rfl)) (fun _ h9 => h9) rfl dX3_weighNumber_62 ?_
        refine lv_iload_n hx hb dX3_weighNumber_65 rfl (lv_at hl 2 rfl) ?_
        refine va_iald hx hb hK.1 hP 1 0 rfl rfl (vp_in_nI (n := RS 3 0 + i) (N := 180) (by omega) (by decide)) dX3_weighNumber_66 ?_
        refine set_i (y := nI (TS 0 (RS 3 0 + i))) (nF_ld (by omega)) ?_
        have bdg := hd (RS 3 0 + i) (by omega) (by omega)
        have b5 := bt (RS 3 0 + i)
        refine lv_iadd hx hb dX3_weighNumber_67 ?_
        refine set_i (y := nI (((numN (TS 0) (RS 3 0) i) * 10) + (TS 0 (RS 3 0 + i)))) (nI_add ((numN (TS 0) (RS 3 0) i) * 10) (TS 0 (RS 3 0 + i))) ?_
        refine lv_bipush (v := nI 48) hx hb dX3_weighNumber_68 (by decide) ?_
        refine lv_isub hx hb dX3_weighNumber_70 ?_
        refine set_i (y := nI ((((numN (TS 0) (RS 3 0) i) * 10) + (TS 0 (RS 3 0 + i))) - 48)) (pk_sub (by omega)) ?_
        refine va_put (D := D) (ci := 3) (v := .int (nI ((((numN (TS 0) (RS 3 0) i) * 10) + (TS 0 (RS 3 0 + i))) - 48))) (ty := tyX3 5) (C := RX3) (T := TX3) (N := 6) hx hb hts in_X3_weighNumber_3 tyX3 tyX3_ok nmX3 hown hK.1 hP hD hS 0 rfl rfl 5 (by decide) (hts (.fieldLink RX3 28 "ChildCoins$Reader" "value" "I") (List.mem_of_getElem? (i := 5) rfl)) (fun _ h9 => h9) rfl (tyX3_ok 5 (by decide)) rfl rfl (Nat.le_of_ble_eq_true rfl) dX3_weighNumber_71 (fun H locs hP hD hS => ?_)
        obtain ⟨hP, hD⟩ : wPD D A [(Rh, .inr (3, [.ref Th, .int (nI (RS 1 0)), .int (nI (RS 2 0)), .int (nI (RS 3 0)), .int (nI (RS 4 0)), .int (nI ((((numN (TS 0) (RS 3 0) i) * 10) + (TS 0 (RS 3 0 + i))) - 48))])), (Th, .inl (cI, 180, .inl (nF (TS 0))))] H := ⟨hP, hD⟩
        refine lv_iinc (v := nI (RS 3 0 + i + 1)) (lv' := [(2, .int (nI (RS 3 0 + i + 1))), (0, .ref Rh), (1, .int (nI ((RS 2 0) - (RS 3 0))))]) hx hb dX3_weighNumber_74 hl (k := 2) rfl (nI_add (RS 3 0 + i) 1) (by decide) rfl (fun ls hl => ?_)
        refine lv_goto (tgt := 45) hx hb dX3_weighNumber_77 (by decide) ?_
        have hl : lv_has ls 3 [(0, .ref Rh), (1, .int (nI ((RS 2 0) - (RS 3 0)))), (2, .int (nI (RS 3 0 + i + 1)))] := lv_sub hl [1, 2, 0] rfl
        exact ih _ _ _ hP hD hS hl
    · skip
      refine lv_aload_n hx hb dX3_weighNumber_20 rfl (lv_at hl 1 rfl) ?_
      refine va_get (D := D) (ci := 3) (v := .ref Th) (C := RX3) (T := TX3) (N := 6) hx hb hts in_X3_weighNumber_3 hown hK.1 hP 0 rfl rfl 0 (by decide) (hts (.fieldLink RX3 9 "ChildCoins$Reader" "bytes" "[I") (List.mem_of_getElem? (i := 3) rfl)) (fun _ h9 => h9) rfl dX3_weighNumber_21 ?_
      refine lv_aload_n hx hb dX3_weighNumber_24 rfl (lv_at hl 1 rfl) ?_
      refine va_get (D := D) (ci := 3) (v := .int (nI (RS 3 0))) (C := RX3) (T := TX3) (N := 6) hx hb hts in_X3_weighNumber_3 hown hK.1 hP 0 rfl rfl 3 (by decide) (hts (.fieldLink RX3 22 "ChildCoins$Reader" "start" "I") (List.mem_of_getElem? (i := 2) rfl)) (fun _ h9 => h9) rfl dX3_weighNumber_25 ?_
      refine va_iald hx hb hK.1 hP 1 0 rfl rfl (vp_in_nI (n := RS 3 0) (N := 180) (by omega) (by decide)) dX3_weighNumber_28 ?_
      refine set_i (y := nI (TS 0 (RS 3 0))) (nF_ld (by omega)) ?_
      have b6 := bt (RS 3 0)
      refine lv_bipush (v := nI 48) hx hb dX3_weighNumber_29 (by decide) ?_
      refine nb_icmp_ne (tgt := 40) hx hb dX3_weighNumber_31 (by decide) (by omega) (by omega) (fun hq7 => ?_) (fun hq7 => ?_)
      · skip
        refine lv_aload_n hx hb dX3_weighNumber_40 rfl (lv_at hl 1 rfl) ?_
        refine va_get (D := D) (ci := 3) (v := .int (nI (RS 3 0))) (C := RX3) (T := TX3) (N := 6) hx hb hts in_X3_weighNumber_3 hown hK.1 hP 0 rfl rfl 3 (by decide) (hts (.fieldLink RX3 22 "ChildCoins$Reader" "start" "I") (List.mem_of_getElem? (i := 2) rfl)) (fun _ h9 => h9) rfl dX3_weighNumber_41 ?_
        refine lv_istore_n (lv' := [(2, .int (nI (RS 3 0))), (1, .int (nI ((RS 2 0) - (RS 3 0)))), (0, .ref Rh)]) hx hb dX3_weighNumber_44 rfl hl (by decide) rfl (fun ls hl => ?_)
        refine loopW (D := D) (A := A) (fun i => [(Rh, .inr (3, [.ref Th, .int (nI (RS 1 0)), .int (nI (RS 2 0)), .int (nI (RS 3 0)), .int (nI (RS 4 0)), .int (nI (numN (TS 0) (RS 3 0) i))])), (Th, .inl (cI, 180, .inl (nF (TS 0))))]) (fun i => [(0, .ref Rh), (1, .int (nI ((RS 2 0) - (RS 3 0)))), (2, .int (nI (RS 3 0 + i)))]) 45 3 (RS 2 0 - RS 3 0) 0 (by omega) ?_ ?_ _ _ ls (by first | exact hP | (rw [fill_0]; exact hP) | (rw [h5] at hP; exact hP)) (by first | exact hD | (rw [fill_0]; exact hD) | (rw [h5] at hD; exact hD)) hS (lv_sub hl [2, 1, 0] rfl)
        · intro H locs ls hP hD hS hl
          have hl : lv_has ls 3 [(0, .ref Rh), (1, .int (nI ((RS 2 0) - (RS 3 0)))), (2, .int (nI (RS 3 0 + (RS 2 0 - RS 3 0))))] := hl
          obtain ⟨hP, hD⟩ : wPD D A [(Rh, .inr (3, [.ref Th, .int (nI (RS 1 0)), .int (nI (RS 2 0)), .int (nI (RS 3 0)), .int (nI (RS 4 0)), .int (nI (numN (TS 0) (RS 3 0) (RS 2 0 - RS 3 0)))])), (Th, .inl (cI, 180, .inl (nF (TS 0))))] H := ⟨hP, hD⟩
          refine lv_iload_n hx hb dX3_weighNumber_45 rfl (lv_at hl 2 rfl) ?_
          refine lv_aload_n hx hb dX3_weighNumber_46 rfl (lv_at hl 0 rfl) ?_
          refine va_get (D := D) (ci := 3) (v := .int (nI (RS 2 0))) (C := RX3) (T := TX3) (N := 6) hx hb hts in_X3_weighNumber_3 hown hK.1 hP 0 rfl rfl 2 (by decide) (hts (.fieldLink RX3 19 "ChildCoins$Reader" "at" "I") (List.mem_of_getElem? (i := 1) rfl)) (fun _ h9 => h9) rfl dX3_weighNumber_47 ?_
          refine nb_icmp_ge (tgt := 80) hx hb dX3_weighNumber_50 (by decide) (by omega) (by omega) (fun hq8 => ?_) (fun hq8 => absurd hq8 (by omega))
          exact en_v hx hb hr hlk hP hD hS (ua RS 5 (fun _ => numN (TS 0) (RS 3 0) (RS 2 0 - RS 3 0))) [0, 1] (by decide) rfl (Nat.le_of_ble_eq_true rfl) (Nat.le_of_ble_eq_true rfl) dX3_weighNumber_80 ⟨rfl, rfl, rfl, (if_neg (by omega)).symm, (if_neg (by omega)).symm⟩
        · intro i hi0 hi ih H locs ls hP hD hS hl
          have hl : lv_has ls 3 [(0, .ref Rh), (1, .int (nI ((RS 2 0) - (RS 3 0)))), (2, .int (nI (RS 3 0 + i)))] := hl
          obtain ⟨hP, hD⟩ : wPD D A [(Rh, .inr (3, [.ref Th, .int (nI (RS 1 0)), .int (nI (RS 2 0)), .int (nI (RS 3 0)), .int (nI (RS 4 0)), .int (nI (numN (TS 0) (RS 3 0) i))])), (Th, .inl (cI, 180, .inl (nF (TS 0))))] H := ⟨hP, hD⟩
          refine lv_iload_n hx hb dX3_weighNumber_45 rfl (lv_at hl 2 rfl) ?_
          refine lv_aload_n hx hb dX3_weighNumber_46 rfl (lv_at hl 0 rfl) ?_
          refine va_get (D := D) (ci := 3) (v := .int (nI (RS 2 0))) (C := RX3) (T := TX3) (N := 6) hx hb hts in_X3_weighNumber_3 hown hK.1 hP 0 rfl rfl 2 (by decide) (hts (.fieldLink RX3 19 "ChildCoins$Reader" "at" "I") (List.mem_of_getElem? (i := 1) rfl)) (fun _ h9 => h9) rfl dX3_weighNumber_47 ?_
          refine nb_icmp_ge (tgt := 80) hx hb dX3_weighNumber_50 (by decide) (by omega) (by omega) (fun hq9 => absurd hq9 (by omega)) (fun hq9 => ?_)
          refine lv_aload_n hx hb dX3_weighNumber_53 rfl (lv_at hl 0 rfl) ?_
          refine lv_aload_n hx hb dX3_weighNumber_54 rfl (lv_at hl 0 rfl) ?_
          refine va_get (D := D) (ci := 3) (v := .int (nI (numN (TS 0) (RS 3 0) i))) (C := RX3) (T := TX3) (N := 6) hx hb hts in_X3_weighNumber_3 hown hK.1 hP 0 rfl rfl 5 (by decide) (hts (.fieldLink RX3 28 "ChildCoins$Reader" "value" "I") (List.mem_of_getElem? (i := 5) rfl)) (fun _ h9 => h9) rfl dX3_weighNumber_55 ?_
          refine lv_bipush (v := nI 10) hx hb dX3_weighNumber_58 (by decide) ?_
          refine lv_imul hx hb dX3_weighNumber_60 ?_
          refine set_i (y := nI ((numN (TS 0) (RS 3 0) i) * 10)) (pk_mul (numN (TS 0) (RS 3 0) i) 10) ?_
          refine lv_aload_n hx hb dX3_weighNumber_61 rfl (lv_at hl 0 rfl) ?_
          refine va_get (D := D) (ci := 3) (v := .ref Th) (C := RX3) (T := TX3) (N := 6) hx hb hts in_X3_weighNumber_3 hown hK.1 hP 0 rfl rfl 0 (by decide) (hts (.fieldLink RX3 9 "ChildCoins$Reader" "bytes" "[I") (List.mem_of_getElem? (i := 3) rfl)) (fun _ h9 => h9) rfl dX3_weighNumber_62 ?_
          refine lv_iload_n hx hb dX3_weighNumber_65 rfl (lv_at hl 2 rfl) ?_
          refine va_iald hx hb hK.1 hP 1 0 rfl rfl (vp_in_nI (n := RS 3 0 + i) (N := 180) (by omega) (by decide)) dX3_weighNumber_66 ?_
          refine set_i (y := nI (TS 0 (RS 3 0 + i))) (nF_ld (by omega)) ?_
          have bdg := hd (RS 3 0 + i) (by omega) (by omega)
          have b10 := bt (RS 3 0 + i)
          refine lv_iadd hx hb dX3_weighNumber_67 ?_
          refine set_i (y := nI (((numN (TS 0) (RS 3 0) i) * 10) + (TS 0 (RS 3 0 + i)))) (nI_add ((numN (TS 0) (RS 3 0) i) * 10) (TS 0 (RS 3 0 + i))) ?_
          refine lv_bipush (v := nI 48) hx hb dX3_weighNumber_68 (by decide) ?_
          refine lv_isub hx hb dX3_weighNumber_70 ?_
          refine set_i (y := nI ((((numN (TS 0) (RS 3 0) i) * 10) + (TS 0 (RS 3 0 + i))) - 48)) (pk_sub (by omega)) ?_
          refine va_put (D := D) (ci := 3) (v := .int (nI ((((numN (TS 0) (RS 3 0) i) * 10) + (TS 0 (RS 3 0 + i))) - 48))) (ty := tyX3 5) (C := RX3) (T := TX3) (N := 6) hx hb hts in_X3_weighNumber_3 tyX3 tyX3_ok nmX3 hown hK.1 hP hD hS 0 rfl rfl 5 (by decide) (hts (.fieldLink RX3 28 "ChildCoins$Reader" "value" "I") (List.mem_of_getElem? (i := 5) rfl)) (fun _ h9 => h9) rfl (tyX3_ok 5 (by decide)) rfl rfl (Nat.le_of_ble_eq_true rfl) dX3_weighNumber_71 (fun H locs hP hD hS => ?_)
          obtain ⟨hP, hD⟩ : wPD D A [(Rh, .inr (3, [.ref Th, .int (nI (RS 1 0)), .int (nI (RS 2 0)), .int (nI (RS 3 0)), .int (nI (RS 4 0)), .int (nI ((((numN (TS 0) (RS 3 0) i) * 10) + (TS 0 (RS 3 0 + i))) - 48))])), (Th, .inl (cI, 180, .inl (nF (TS 0))))] H := ⟨hP, hD⟩
          refine lv_iinc (v := nI (RS 3 0 + i + 1)) (lv' := [(2, .int (nI (RS 3 0 + i + 1))), (0, .ref Rh), (1, .int (nI ((RS 2 0) - (RS 3 0))))]) hx hb dX3_weighNumber_74 hl (k := 2) rfl (nI_add (RS 3 0 + i) 1) (by decide) rfl (fun ls hl => ?_)
          refine lv_goto (tgt := 45) hx hb dX3_weighNumber_77 (by decide) ?_
          have hl : lv_has ls 3 [(0, .ref Rh), (1, .int (nI ((RS 2 0) - (RS 3 0)))), (2, .int (nI (RS 3 0 + i + 1)))] := lv_sub hl [1, 2, 0] rfl
          exact ih _ _ _ hP hD hS hl
      · skip
        refine lv_aload_n hx hb dX3_weighNumber_34 rfl (lv_at hl 1 rfl) ?_
        refine lv_iconst (v := nI 4) hx hb dX3_weighNumber_35 (by decide) ?_
        refine va_put (D := D) (ci := 3) (v := .int (nI 4)) (ty := tyX3 4) (C := RX3) (T := TX3) (N := 6) hx hb hts in_X3_weighNumber_3 tyX3 tyX3_ok nmX3 hown hK.1 hP hD hS 0 rfl rfl 4 (by decide) (hts (.fieldLink RX3 25 "ChildCoins$Reader" "token" "I") (List.mem_of_getElem? (i := 4) rfl)) (fun _ h9 => h9) rfl (tyX3_ok 4 (by decide)) rfl rfl (Nat.le_of_ble_eq_true rfl) dX3_weighNumber_36 (fun H locs hP hD hS => ?_)
        obtain ⟨hP, hD⟩ : wPD D A [(Rh, .inr (3, [.ref Th, .int (nI (RS 1 0)), .int (nI (RS 2 0)), .int (nI (RS 3 0)), .int (nI 4), .int (nI (RS 5 0))])), (Th, .inl (cI, 180, .inl (nF (TS 0))))] H := ⟨hP, hD⟩
        exact en_v hx hb hr hlk hP hD hS (ua RS 4 (fun _ => 4)) [0, 1] (by decide) rfl (Nat.le_of_ble_eq_true rfl) (Nat.le_of_ble_eq_true rfl) dX3_weighNumber_39 ⟨rfl, rfl, rfl, (if_pos (by omega)).symm, h5.trans (if_pos (by omega)).symm⟩
