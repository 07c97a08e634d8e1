theorem dX7_years_0 : decode cX7_years 0 = .ok (.iload_n 1, 1) := by decide +kernel
theorem dX7_years_1 : decode cX7_years 1 = .ok (.iconst 0, 1) := by decide +kernel
theorem dX7_years_2 : decode cX7_years 2 = .ok (.iconst 2, 1) := by decide +kernel
theorem dX7_years_3 : decode cX7_years 3 = .ok (.invokestatic 78, 3) := by decide +kernel
set_option maxRecDepth 20000 in
theorem ggX7_years_X7_in : GoodIn wsX7_years wsX7_in := goodIn_r _ [6] (by decide +kernel) (by decide +kernel)
theorem dX7_years_6 : decode cX7_years 6 = .ok (.ifCond .ne 5, 3) := by decide +kernel
theorem dX7_years_11 : decode cX7_years 11 = .ok (.iconst 0, 1) := by decide +kernel
theorem dX7_years_12 : decode cX7_years 12 = .ok (.istore_n 2, 1) := by decide +kernel
theorem dX7_years_13 : decode cX7_years 13 = .ok (.bipush (-9), 2) := by decide +kernel
theorem dX7_years_15 : decode cX7_years 15 = .ok (.istore_n 3, 1) := by decide +kernel
theorem dX7_years_16 : decode cX7_years 16 = .ok (.bipush (-9), 2) := by decide +kernel
theorem dX7_years_18 : decode cX7_years 18 = .ok (.istore 4, 2) := by decide +kernel
theorem dX7_years_20 : decode cX7_years 20 = .ok (.iconst 0, 1) := by decide +kernel
theorem dX7_years_21 : decode cX7_years 21 = .ok (.istore 5, 2) := by decide +kernel
theorem dX7_years_23 : decode cX7_years 23 = .ok (.iload 5, 2) := by decide +kernel
theorem dX7_years_25 : decode cX7_years 25 = .ok (.bipush 60, 2) := by decide +kernel
theorem dX7_years_27 : decode cX7_years 27 = .ok (.if_icmp .gt 81, 3) := by decide +kernel
theorem dX7_years_30 : decode cX7_years 30 = .ok (.iconst 1, 1) := by decide +kernel
theorem dX7_years_31 : decode cX7_years 31 = .ok (.istore 6, 2) := by decide +kernel
theorem dX7_years_33 : decode cX7_years 33 = .ok (.iconst 0, 1) := by decide +kernel
theorem dX7_years_34 : decode cX7_years 34 = .ok (.istore 7, 2) := by decide +kernel
theorem dX7_years_36 : decode cX7_years 36 = .ok (.iload 7, 2) := by decide +kernel
theorem dX7_years_38 : decode cX7_years 38 = .ok (.aload_n 0, 1) := by decide +kernel
theorem dX7_years_39 : decode cX7_years 39 = .ok (.getfield 120, 3) := by decide +kernel
theorem in_X7_years_7 : ∀ w ∈ wsX70, w ∈ wsX7_years := fun w h => List.mem_cons_of_mem _ (List.mem_append_right _ h)
theorem dX7_years_42 : decode cX7_years 42 = .ok (.if_icmp .ge 37, 3) := by decide +kernel
theorem dX7_years_79 : decode cX7_years 79 = .ok (.iload 6, 2) := by decide +kernel
theorem dX7_years_81 : decode cX7_years 81 = .ok (.ifCond .eq 21, 3) := by decide +kernel
theorem dX7_years_84 : decode cX7_years 84 = .ok (.iload_n 2, 1) := by decide +kernel
theorem dX7_years_85 : decode cX7_years 85 = .ok (.ifCond .ne 8, 3) := by decide +kernel
theorem dX7_years_88 : decode cX7_years 88 = .ok (.iload 5, 2) := by decide +kernel
theorem dX7_years_90 : decode cX7_years 90 = .ok (.goto 4, 3) := by decide +kernel
theorem dX7_years_94 : decode cX7_years 94 = .ok (.istore_n 3, 1) := by decide +kernel
theorem dX7_years_95 : decode cX7_years 95 = .ok (.iload 5, 2) := by decide +kernel
theorem dX7_years_97 : decode cX7_years 97 = .ok (.istore 4, 2) := by decide +kernel
theorem dX7_years_99 : decode cX7_years 99 = .ok (.iinc 2 1, 3) := by decide +kernel
theorem dX7_years_102 : decode cX7_years 102 = .ok (.iinc 5 1, 3) := by decide +kernel
theorem dX7_years_105 : decode cX7_years 105 = .ok (.goto (-82), 3) := by decide +kernel
theorem dX7_years_108 : decode cX7_years 108 = .ok (.iload_n 1, 1) := by decide +kernel
theorem dX7_years_109 : decode cX7_years 109 = .ok (.ifCond .ne 7, 3) := by decide +kernel
theorem dX7_years_116 : decode cX7_years 116 = .ok (.iload_n 1, 1) := by decide +kernel
theorem dX7_years_117 : decode cX7_years 117 = .ok (.iconst 1, 1) := by decide +kernel
theorem dX7_years_118 : decode cX7_years 118 = .ok (.if_icmp .ne 7, 3) := by decide +kernel
theorem dX7_years_125 : decode cX7_years 125 = .ok (.iload 4, 2) := by decide +kernel
theorem dX7_years_127 : decode cX7_years 127 = .ok (.ireturn, 1) := by decide +kernel
theorem dX7_years_121 : decode cX7_years 121 = .ok (.iload_n 3, 1) := by decide +kernel
theorem dX7_years_122 : decode cX7_years 122 = .ok (.goto 5, 3) := by decide +kernel
theorem dX7_years_112 : decode cX7_years 112 = .ok (.iload_n 2, 1) := by decide +kernel
theorem dX7_years_113 : decode cX7_years 113 = .ok (.goto 14, 3) := by decide +kernel
theorem dX7_years_93 : decode cX7_years 93 = .ok (.iload_n 3, 1) := by decide +kernel
theorem dX7_years_9 : decode cX7_years 9 = .ok (.iconst (-1), 1) := by decide +kernel
theorem dX7_years_10 : decode cX7_years 10 = .ok (.ireturn, 1) := by decide +kernel
set_option maxHeartbeats 4000000 in
set_option maxRecDepth 100000 in
theorem c_M_years (l : Launch) (D : va_G) (cI cB cZ cN : ClassId) (h0 : Nat) (m0 : Nat) (m1 : Nat) (m2 : Nat) (m3 : Nat) (m4 : Nat) (m5 : Nat) (m6 : Nat) (m7 : Nat) (m8 : Nat) (m9 : Nat) (m10 : Nat) (m11 : Nat) (m12 : Nat) (m13 : Nat) (m14 : Nat) (m15 : Nat) (m16 : Nat) (m17 : Nat) (m18 : Nat) (m19 : Nat) (v_c : Int32)  : Ci (S := Unit) l D cI cB cZ cN yX7_years wsX7_years ({ frames := 1, cells := 0, slots := 0, locals := 22 } : Room) [.ref h0, .int v_c] [(h0, .inr (7, [.long 0, .ref m0, .int 0, .ref m1, .ref m2, .ref m3, .ref m4, .ref m5, .ref m6, .ref m7, .ref m8, .ref m9, .ref m10, .ref m11, .int 0, .int 0, .int 0, .int 0, .int 0, .int 0, .ref m12, .ref m13, .ref m14, .ref m15, .ref m16, .ref m17, .ref m18, .ref m19, .int 0]))] (fun (r : Int32) (_ : Unit) => r = yrA v_c) (fun u => []) := by
  refine bx_of (D := D) (cI := cI) (cB := cB) (cZ := cZ) (cN := cN) (y := yX7_years) (wd := wsX7_years) (rm := ({ frames := 1, cells := 0, slots := 0, locals := 22 } : Room)) (av := [.ref h0, .int v_c]) (wc := [(h0, .inr (7, [.long 0, .ref m0, .int 0, .ref m1, .ref m2, .ref m3, .ref m4, .ref m5, .ref m6, .ref m7, .ref m8, .ref m9, .ref m10, .ref m11, .int 0, .int 0, .int 0, .int 0, .int 0, .int 0, .ref m12, .ref m13, .ref m14, .ref m15, .ref m16, .ref m17, .ref m18, .ref m19, .int 0]))]) (cc := cX7_years) (maxL := 8) (ret := (some .int)) (Qc := fun _ A => va_Qi (S := Unit) (fun (r : Int32) (_ : Unit) => r = yrA v_c) (Aft D (fun (u : Unit) => []) A) A) (by decide) rfl (Nat.le_of_ble_eq_true rfl) ?_
  intro p e s m below meth c A H locs ⟨hx, hb, hr, hml, hown, hts, hlk, hnm⟩ hK hP hD hS hA ls hl
  have hl : lv_has ls 8 [(0, .ref h0), (1, .int v_c)] := hl
  have hown : s.vm.findClass RX7 = some m.cls := hown
  refine lv_iload_n hx hb dX7_years_0 rfl (lv_at hl 1 rfl) ?_
  refine lv_iconst (v := 0) hx hb dX7_years_1 (by decide) ?_
  refine lv_iconst (v := 2) hx hb dX7_years_2 (by decide) ?_
  refine be_i (free := va_A [] H.size) (wc := []) (wr := [(h0, .inr (7, [.long 0, .ref m0, .int 0, .ref m1, .ref m2, .ref m3, .ref m4, .ref m5, .ref m6, .ref m7, .ref m8, .ref m9, .ref m10, .ref m11, .int 0, .int 0, .int 0, .int 0, .int 0, .int 0, .ref m12, .ref m13, .ref m14, .ref m15, .ref m16, .ref m17, .ref m18, .ref m19, .int 0]))]) (ru_S (As := [.int v_c, .int 0, .int 2]) (rest := []) ⟨hx, hb, hml, hown, hts⟩ (c_M_in l D cI cB cZ cN v_c 0 2 H.size) ggX7_years_X7_in rfl (hts (.initialized RX7) (List.mem_of_getElem? (i := 5) rfl)) (hts (.methodLink RX7 78 yX7_in) (List.mem_of_getElem? (i := 3) rfl)) (hts (.static yX7_in) (List.mem_of_getElem? (i := 4) rfl)) ⟨by decide, by decide, (show Option.map (fun d => d.parameters.length) (parseMethodDescriptor yX7_in.desc) = some 3 by decide +kernel)⟩ ⟨Nat.le_of_ble_eq_true rfl, Nat.le_of_ble_eq_true rfl⟩ hK hP hD [] (by decide) rfl hl.1 rfl (Nat.le_of_ble_eq_true rfl) dX7_years_3 ⟨Nat.le_of_ble_eq_true rfl, Nat.le_of_ble_eq_true rfl⟩) hP hD hS hA [] [0] rfl rfl (by decide) (by decide) (fun r2 u1 H locs w3 hP hD hS => ?_)
  have hP : va_P D vwCl [(h0, .inr (7, [.long 0, .ref m0, .int 0, .ref m1, .ref m2, .ref m3, .ref m4, .ref m5, .ref m6, .ref m7, .ref m8, .ref m9, .ref m10, .ref m11, .int 0, .int 0, .int 0, .int 0, .int 0, .int 0, .ref m12, .ref m13, .ref m14, .ref m15, .ref m16, .ref m17, .ref m18, .ref m19, .int 0]))] H := hP
  have hD : va_D A [(h0, .inr (7, [.long 0, .ref m0, .int 0, .ref m1, .ref m2, .ref m3, .ref m4, .ref m5, .ref m6, .ref m7, .ref m8, .ref m9, .ref m10, .ref m11, .int 0, .int 0, .int 0, .int 0, .int 0, .int 0, .ref m12, .ref m13, .ref m14, .ref m15, .ref m16, .ref m17, .ref m18, .ref m19, .int 0]))] := hD
  obtain rfl : r2 = inz v_c 0 2 := w3
  refine lv_if_ne (tgt := 11) hx hb dX7_years_6 (by decide) (fun h4 => ?_) (fun h4 => ?_)
  · skip
    refine lv_iconst (v := 0) hx hb dX7_years_11 (by decide) ?_
    refine lv_istore_n (lv' := [(2, .int 0), (0, .ref h0), (1, .int v_c)]) hx hb dX7_years_12 rfl hl (by decide) rfl (fun ls hl => ?_)
    refine lv_bipush (v := -9) hx hb dX7_years_13 (by decide) ?_
    refine lv_istore_n (lv' := [(3, .int (-9)), (2, .int 0), (0, .ref h0), (1, .int v_c)]) hx hb dX7_years_15 rfl hl (by decide) rfl (fun ls hl => ?_)
    refine lv_bipush (v := -9) hx hb dX7_years_16 (by decide) ?_
    refine lv_istore (lv' := [(4, .int (-9)), (3, .int (-9)), (2, .int 0), (0, .ref h0), (1, .int v_c)]) hx hb dX7_years_18 hl (by decide) rfl (fun ls hl => ?_)
    refine lv_iconst (v := 0) hx hb dX7_years_20 (by decide) ?_
    refine lv_istore (lv' := [(5, .int 0), (4, .int (-9)), (3, .int (-9)), (2, .int 0), (0, .ref h0), (1, .int v_c)]) hx hb dX7_years_21 hl (by decide) rfl (fun ls hl => ?_)
    refine lv_iload hx hb dX7_years_23 (lv_at hl 0 rfl) ?_
    refine lv_bipush (v := 60) hx hb dX7_years_25 (by decide) ?_
    refine lv_icmp_gt (tgt := 108) hx hb dX7_years_27 (by decide) (fun h5 => absurd h5 (by decide)) (fun h5 => ?_)
    refine lv_iconst (v := 1) hx hb dX7_years_30 (by decide) ?_
    refine lv_istore (lv' := [(6, .int 1), (5, .int 0), (4, .int (-9)), (3, .int (-9)), (2, .int 0), (0, .ref h0), (1, .int v_c)]) hx hb dX7_years_31 hl (by decide) rfl (fun ls hl => ?_)
    refine lv_iconst (v := 0) hx hb dX7_years_33 (by decide) ?_
    refine lv_istore (lv' := [(7, .int 0), (6, .int 1), (5, .int 0), (4, .int (-9)), (3, .int (-9)), (2, .int 0), (0, .ref h0), (1, .int v_c)]) hx hb dX7_years_34 hl (by decide) rfl (fun ls hl => ?_)
    refine lv_iload hx hb dX7_years_36 (lv_at hl 0 rfl) ?_
    refine lv_aload_n hx hb dX7_years_38 rfl (lv_at hl 6 rfl) ?_
    refine va_get (D := D) (ci := 7) (v := .int 0) (C := RX7) (T := TX7) (N := 29) hx hb hts in_X7_years_7 hown hK.1 hP 0 rfl rfl 28 (by decide) (hts (.fieldLink RX7 120 "ChildCoinsModel" "told" "I") (List.mem_of_getElem? (i := 1) rfl)) (fun _ h9 => h9) rfl dX7_years_39 ?_
    refine lv_icmp_ge (tgt := 79) hx hb dX7_years_42 (by decide) (fun h6 => ?_) (fun h6 => absurd (by decide) h6)
    refine lv_iload hx hb dX7_years_79 (lv_at hl 1 rfl) ?_
    refine lv_if_eq (tgt := 102) hx hb dX7_years_81 (by decide) (fun h7 => absurd h7 (by decide)) (fun h7 => ?_)
    refine lv_iload_n hx hb dX7_years_84 rfl (lv_at hl 5 rfl) ?_
    refine lv_if_ne (tgt := 93) hx hb dX7_years_85 (by decide) (fun h8 => absurd (by decide) h8) (fun h8 => ?_)
    refine lv_iload hx hb dX7_years_88 (lv_at hl 2 rfl) ?_
    refine lv_goto (tgt := 94) hx hb dX7_years_90 (by decide) ?_
    refine lv_istore_n (lv' := [(3, .int 0), (7, .int 0), (6, .int 1), (5, .int 0), (4, .int (-9)), (2, .int 0), (0, .ref h0), (1, .int v_c)]) hx hb dX7_years_94 rfl hl (by decide) rfl (fun ls hl => ?_)
    refine lv_iload hx hb dX7_years_95 (lv_at hl 3 rfl) ?_
    refine lv_istore (lv' := [(4, .int 0), (3, .int 0), (7, .int 0), (6, .int 1), (5, .int 0), (2, .int 0), (0, .ref h0), (1, .int v_c)]) hx hb dX7_years_97 hl (by decide) rfl (fun ls hl => ?_)
    refine lv_iinc (v := 1) (lv' := [(2, .int 1), (4, .int 0), (3, .int 0), (7, .int 0), (6, .int 1), (5, .int 0), (0, .ref h0), (1, .int v_c)]) hx hb dX7_years_99 hl (k := 5) rfl (by decide) (by decide) rfl (fun ls hl => ?_)
    refine lv_iinc (v := 1) (lv' := [(5, .int 1), (2, .int 1), (4, .int 0), (3, .int 0), (7, .int 0), (6, .int 1), (0, .ref h0), (1, .int v_c)]) hx hb dX7_years_102 hl (k := 5) rfl (by decide) (by decide) rfl (fun ls hl => ?_)
    refine lv_goto (tgt := 23) hx hb dX7_years_105 (by decide) ?_
    refine loopW (D := D) (A := A) (fun i => [(h0, .inr (7, [.long 0, .ref m0, .int 0, .ref m1, .ref m2, .ref m3, .ref m4, .ref m5, .ref m6, .ref m7, .ref m8, .ref m9, .ref m10, .ref m11, .int 0, .int 0, .int 0, .int 0, .int 0, .int 0, .ref m12, .ref m13, .ref m14, .ref m15, .ref m16, .ref m17, .ref m18, .ref m19, .int 0]))]) (fun i => [(0, .ref h0), (1, .int v_c), (2, .int (nI i)), (3, .int 0), (4, .int (nI (i - 1))), (5, .int (nI i)), (6, .int 1), (7, .int 0)]) 23 8 61 1 (Nat.le_of_ble_eq_true rfl) ?_ ?_ _ _ ls hP hD hS (lv_sub hl [6, 7, 1, 3, 2, 0, 5, 4] rfl)
    · intro H locs ls hP hD hS hl
      have hP : va_P D vwCl [(h0, .inr (7, [.long 0, .ref m0, .int 0, .ref m1, .ref m2, .ref m3, .ref m4, .ref m5, .ref m6, .ref m7, .ref m8, .ref m9, .ref m10, .ref m11, .int 0, .int 0, .int 0, .int 0, .int 0, .int 0, .ref m12, .ref m13, .ref m14, .ref m15, .ref m16, .ref m17, .ref m18, .ref m19, .int 0]))] H := hP
      have hD : va_D A [(h0, .inr (7, [.long 0, .ref m0, .int 0, .ref m1, .ref m2, .ref m3, .ref m4, .ref m5, .ref m6, .ref m7, .ref m8, .ref m9, .ref m10, .ref m11, .int 0, .int 0, .int 0, .int 0, .int 0, .int 0, .ref m12, .ref m13, .ref m14, .ref m15, .ref m16, .ref m17, .ref m18, .ref m19, .int 0]))] := hD
      have hl : lv_has ls 8 [(0, .ref h0), (1, .int v_c), (2, .int 61), (3, .int 0), (4, .int 60), (5, .int 61), (6, .int 1), (7, .int 0)] := hl
      refine lv_iload hx hb dX7_years_23 (lv_at hl 5 rfl) ?_
      refine lv_bipush (v := 60) hx hb dX7_years_25 (by decide) ?_
      refine lv_icmp_gt (tgt := 108) hx hb dX7_years_27 (by decide) (fun h9 => ?_) (fun h9 => absurd (by decide) h9)
      refine lv_iload_n hx hb dX7_years_108 rfl (lv_at hl 1 rfl) ?_
      refine lv_if_ne (tgt := 116) hx hb dX7_years_109 (by decide) (fun h10 => ?_) (fun h10 => ?_)
      · skip
        refine lv_iload_n hx hb dX7_years_116 rfl (lv_at hl 1 rfl) ?_
        refine lv_iconst (v := 1) hx hb dX7_years_117 (by decide) ?_
        refine lv_icmp_ne (tgt := 125) hx hb dX7_years_118 (by decide) (fun h11 => ?_) (fun h11 => ?_)
        · skip
          refine lv_iload hx hb dX7_years_125 (lv_at hl 4 rfl) ?_
          exact en_i hx hb hr hlk hP hD hS () [] (by decide) rfl (Nat.le_of_ble_eq_true rfl) (Nat.le_of_ble_eq_true rfl) dX7_years_127 (by unfold yrA; rw [if_neg h4, if_neg h10, if_neg h11])
        · skip
          refine lv_iload_n hx hb dX7_years_121 rfl (lv_at hl 3 rfl) ?_
          refine lv_goto (tgt := 127) hx hb dX7_years_122 (by decide) ?_
          exact en_i hx hb hr hlk hP hD hS () [] (by decide) rfl (Nat.le_of_ble_eq_true rfl) (Nat.le_of_ble_eq_true rfl) dX7_years_127 (by unfold yrA; rw [if_neg h4, if_neg h10, if_pos h11])
      · skip
        refine lv_iload_n hx hb dX7_years_112 rfl (lv_at hl 2 rfl) ?_
        refine lv_goto (tgt := 127) hx hb dX7_years_113 (by decide) ?_
        exact en_i hx hb hr hlk hP hD hS () [] (by decide) rfl (Nat.le_of_ble_eq_true rfl) (Nat.le_of_ble_eq_true rfl) dX7_years_127 (by unfold yrA; rw [if_neg h4, if_pos h10])
    · intro i hi0 hi ih H locs ls hP hD hS hl
      have hP : va_P D vwCl [(h0, .inr (7, [.long 0, .ref m0, .int 0, .ref m1, .ref m2, .ref m3, .ref m4, .ref m5, .ref m6, .ref m7, .ref m8, .ref m9, .ref m10, .ref m11, .int 0, .int 0, .int 0, .int 0, .int 0, .int 0, .ref m12, .ref m13, .ref m14, .ref m15, .ref m16, .ref m17, .ref m18, .ref m19, .int 0]))] H := hP
      have hD : va_D A [(h0, .inr (7, [.long 0, .ref m0, .int 0, .ref m1, .ref m2, .ref m3, .ref m4, .ref m5, .ref m6, .ref m7, .ref m8, .ref m9, .ref m10, .ref m11, .int 0, .int 0, .int 0, .int 0, .int 0, .int 0, .ref m12, .ref m13, .ref m14, .ref m15, .ref m16, .ref m17, .ref m18, .ref m19, .int 0]))] := hD
      have hl : lv_has ls 8 [(0, .ref h0), (1, .int v_c), (2, .int (nI i)), (3, .int 0), (4, .int (nI (i - 1))), (5, .int (nI i)), (6, .int 1), (7, .int 0)] := hl
      refine lv_iload hx hb dX7_years_23 (lv_at hl 5 rfl) ?_
      refine lv_bipush (v := 60) hx hb dX7_years_25 (by decide) ?_
      refine lv_icmp_gt (tgt := 108) hx hb dX7_years_27 (by decide) (fun h12 => absurd h12 (fun q => absurd ((nI_ltI (a := 60) (b := i) (by omega) (by omega)).mp q) (by omega))) (fun h12 => ?_)
      refine lv_iconst (v := 1) hx hb dX7_years_30 (by decide) ?_
      refine lv_istore (lv' := [(6, .int 1), (0, .ref h0), (1, .int v_c), (2, .int (nI i)), (3, .int 0), (4, .int (nI (i - 1))), (5, .int (nI i)), (7, .int 0)]) hx hb dX7_years_31 hl (by decide) rfl (fun ls hl => ?_)
      refine lv_iconst (v := 0) hx hb dX7_years_33 (by decide) ?_
      refine lv_istore (lv' := [(7, .int 0), (6, .int 1), (0, .ref h0), (1, .int v_c), (2, .int (nI i)), (3, .int 0), (4, .int (nI (i - 1))), (5, .int (nI i))]) hx hb dX7_years_34 hl (by decide) rfl (fun ls hl => ?_)
      refine lv_iload hx hb dX7_years_36 (lv_at hl 0 rfl) ?_
      refine lv_aload_n hx hb dX7_years_38 rfl (lv_at hl 2 rfl) ?_
      refine va_get (D := D) (ci := 7) (v := .int 0) (C := RX7) (T := TX7) (N := 29) hx hb hts in_X7_years_7 hown hK.1 hP 0 rfl rfl 28 (by decide) (hts (.fieldLink RX7 120 "ChildCoinsModel" "told" "I") (List.mem_of_getElem? (i := 1) rfl)) (fun _ h9 => h9) rfl dX7_years_39 ?_
      refine lv_icmp_ge (tgt := 79) hx hb dX7_years_42 (by decide) (fun h13 => ?_) (fun h13 => absurd (by decide) h13)
      refine lv_iload hx hb dX7_years_79 (lv_at hl 1 rfl) ?_
      refine lv_if_eq (tgt := 102) hx hb dX7_years_81 (by decide) (fun h14 => absurd h14 (by decide)) (fun h14 => ?_)
      refine lv_iload_n hx hb dX7_years_84 rfl (lv_at hl 4 rfl) ?_
      refine lv_if_ne (tgt := 93) hx hb dX7_years_85 (by decide) (fun h15 => ?_) (fun h15 => absurd h15 (fun q => absurd ((nI_eq (a := i) (b := 0) (by omega) (by omega)).mp q) (by omega)))
      refine lv_iload_n hx hb dX7_years_93 rfl (lv_at hl 5 rfl) ?_
      refine lv_istore_n (lv' := [(3, .int 0), (7, .int 0), (6, .int 1), (0, .ref h0), (1, .int v_c), (2, .int (nI i)), (4, .int (nI (i - 1))), (5, .int (nI i))]) hx hb dX7_years_94 rfl hl (by decide) rfl (fun ls hl => ?_)
      refine lv_iload hx hb dX7_years_95 (lv_at hl 7 rfl) ?_
      refine lv_istore (lv' := [(4, .int (nI i)), (3, .int 0), (7, .int 0), (6, .int 1), (0, .ref h0), (1, .int v_c), (2, .int (nI i)), (5, .int (nI i))]) hx hb dX7_years_97 hl (by decide) rfl (fun ls hl => ?_)
      refine lv_iinc (v := nI (i + 1)) (lv' := [(2, .int (nI (i + 1))), (4, .int (nI i)), (3, .int 0), (7, .int 0), (6, .int 1), (0, .ref h0), (1, .int v_c), (5, .int (nI i))]) hx hb dX7_years_99 hl (k := 6) rfl (nI_1 i) (by decide) rfl (fun ls hl => ?_)
      refine lv_iinc (v := nI (i + 1)) (lv' := [(5, .int (nI (i + 1))), (2, .int (nI (i + 1))), (4, .int (nI i)), (3, .int 0), (7, .int 0), (6, .int 1), (0, .ref h0), (1, .int v_c)]) hx hb dX7_years_102 hl (k := 7) rfl (nI_1 i) (by decide) rfl (fun ls hl => ?_)
      refine lv_goto (tgt := 23) hx hb dX7_years_105 (by decide) ?_
      exact ih _ _ _ hP hD hS (lv_sub hl [6, 7, 1, 3, 2, 0, 5, 4] rfl)
  · skip
    refine lv_iconst (v := -1) hx hb dX7_years_9 (by decide) ?_
    exact en_i hx hb hr hlk hP hD hS () [] (by decide) rfl (Nat.le_of_ble_eq_true rfl) (Nat.le_of_ble_eq_true rfl) dX7_years_10 (if_pos h4).symm
