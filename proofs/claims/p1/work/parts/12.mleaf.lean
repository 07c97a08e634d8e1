theorem dX7_in_0 : decode cX7_in 0 = .ok (.iload_n 0, 1) := by decide +kernel
theorem dX7_in_1 : decode cX7_in 1 = .ok (.iload_n 1, 1) := by decide +kernel
theorem dX7_in_2 : decode cX7_in 2 = .ok (.if_icmp .lt 12, 3) := by decide +kernel
theorem dX7_in_14 : decode cX7_in 14 = .ok (.iconst 0, 1) := by decide +kernel
theorem dX7_in_15 : decode cX7_in 15 = .ok (.ireturn, 1) := by decide +kernel
theorem dX7_in_5 : decode cX7_in 5 = .ok (.iload_n 0, 1) := by decide +kernel
theorem dX7_in_6 : decode cX7_in 6 = .ok (.iload_n 2, 1) := by decide +kernel
theorem dX7_in_7 : decode cX7_in 7 = .ok (.if_icmp .gt 7, 3) := by decide +kernel
theorem dX7_in_10 : decode cX7_in 10 = .ok (.iconst 1, 1) := by decide +kernel
theorem dX7_in_11 : decode cX7_in 11 = .ok (.goto 4, 3) := by decide +kernel
set_option maxHeartbeats 4000000 in
set_option maxRecDepth 100000 in
theorem c_M_in0 (l : Launch) (D : va_G) (cI cB cZ cN : ClassId) (v_v : Int32)  : Ci (S := Unit) l D cI cB cZ cN yX7_in wsX7_in ({ frames := 0, cells := 0, slots := 0, locals := 0 } : Room) [.int v_v, .int 0, .int (-1)] [] (fun (r : Int32) (_ : Unit) => r = 0) (fun u => []) := by
  refine bx_of (D := D) (cI := cI) (cB := cB) (cZ := cZ) (cN := cN) (y := yX7_in) (wd := wsX7_in) (rm := ({ frames := 0, cells := 0, slots := 0, locals := 0 } : Room)) (av := [.int v_v, .int 0, .int (-1)]) (wc := []) (cc := cX7_in) (maxL := 3) (ret := (some .boolean)) (Qc := fun _ A => va_Qi (S := Unit) (fun (r : Int32) (_ : Unit) => r = 0) (Aft D (fun (u : Unit) => []) A) A) (by decide) rfl (Nat.le_of_ble_eq_true rfl) ?_
  intro p e s m below meth c A H locs ⟨hx, hb, hr, hml, hown, hts, hlk, hnm⟩ hK hP hD hS hA ls hl
  have hl : lv_has ls 3 [(0, .int v_v), (1, .int 0), (2, .int (-1))] := hl
  have hown : s.vm.findClass RX7 = some m.cls := hown
  refine lv_iload_n hx hb dX7_in_0 rfl (lv_at hl 0 rfl) ?_
  refine lv_iload_n hx hb dX7_in_1 rfl (lv_at hl 1 rfl) ?_
  refine lv_icmp_lt (tgt := 14) hx hb dX7_in_2 (by decide) (fun h1 => ?_) (fun h1 => ?_)
  · skip
    refine lv_iconst (v := 0) hx hb dX7_in_14 (by decide) ?_
    exact en_z hx hb hr hlk hP hD hS () [] (by decide) rfl (Nat.le_of_ble_eq_true rfl) (Nat.le_of_ble_eq_true rfl) dX7_in_15 rfl rfl
  · skip
    refine lv_iload_n hx hb dX7_in_5 rfl (lv_at hl 0 rfl) ?_
    refine lv_iload_n hx hb dX7_in_6 rfl (lv_at hl 2 rfl) ?_
    refine lv_icmp_gt (tgt := 14) hx hb dX7_in_7 (by decide) (fun h2 => ?_) (fun h2 => ?_)
    · skip
      refine lv_iconst (v := 0) hx hb dX7_in_14 (by decide) ?_
      exact en_z hx hb hr hlk hP hD hS () [] (by decide) rfl (Nat.le_of_ble_eq_true rfl) (Nat.le_of_ble_eq_true rfl) dX7_in_15 rfl rfl
    · skip
      refine lv_iconst (v := 1) hx hb dX7_in_10 (by decide) ?_
      refine lv_goto (tgt := 15) hx hb dX7_in_11 (by decide) ?_
      exact en_z hx hb hr hlk hP hD hS () [] (by decide) rfl (Nat.le_of_ble_eq_true rfl) (Nat.le_of_ble_eq_true rfl) dX7_in_15 rfl (ic_2 h1 h2).elim
set_option maxHeartbeats 4000000 in
set_option maxRecDepth 100000 in
theorem c_M_in (l : Launch) (D : va_G) (cI cB cZ cN : ClassId) (v_v : Int32) (v_lo : Int32) (v_hi : Int32)  : Ci (S := Unit) l D cI cB cZ cN yX7_in wsX7_in ({ frames := 0, cells := 0, slots := 0, locals := 0 } : Room) [.int v_v, .int v_lo, .int v_hi] [] (fun (r : Int32) (_ : Unit) => r = inz v_v v_lo v_hi) (fun u => []) := by
  refine bx_of (D := D) (cI := cI) (cB := cB) (cZ := cZ) (cN := cN) (y := yX7_in) (wd := wsX7_in) (rm := ({ frames := 0, cells := 0, slots := 0, locals := 0 } : Room)) (av := [.int v_v, .int v_lo, .int v_hi]) (wc := []) (cc := cX7_in) (maxL := 3) (ret := (some .boolean)) (Qc := fun _ A => va_Qi (S := Unit) (fun (r : Int32) (_ : Unit) => r = inz v_v v_lo v_hi) (Aft D (fun (u : Unit) => []) A) A) (by decide) rfl (Nat.le_of_ble_eq_true rfl) ?_
  intro p e s m below meth c A H locs ⟨hx, hb, hr, hml, hown, hts, hlk, hnm⟩ hK hP hD hS hA ls hl
  have hl : lv_has ls 3 [(0, .int v_v), (1, .int v_lo), (2, .int v_hi)] := hl
  have hown : s.vm.findClass RX7 = some m.cls := hown
  refine lv_iload_n hx hb dX7_in_0 rfl (lv_at hl 0 rfl) ?_
  refine lv_iload_n hx hb dX7_in_1 rfl (lv_at hl 1 rfl) ?_
  refine lv_icmp_lt (tgt := 14) hx hb dX7_in_2 (by decide) (fun h1 => ?_) (fun h1 => ?_)
  · skip
    refine lv_iconst (v := 0) hx hb dX7_in_14 (by decide) ?_
    exact en_z hx hb hr hlk hP hD hS () [] (by decide) rfl (Nat.le_of_ble_eq_true rfl) (Nat.le_of_ble_eq_true rfl) dX7_in_15 rfl (inz_lt h1).symm
  · skip
    refine lv_iload_n hx hb dX7_in_5 rfl (lv_at hl 0 rfl) ?_
    refine lv_iload_n hx hb dX7_in_6 rfl (lv_at hl 2 rfl) ?_
    refine lv_icmp_gt (tgt := 14) hx hb dX7_in_7 (by decide) (fun h2 => ?_) (fun h2 => ?_)
    · skip
      refine lv_iconst (v := 0) hx hb dX7_in_14 (by decide) ?_
      exact en_z hx hb hr hlk hP hD hS () [] (by decide) rfl (Nat.le_of_ble_eq_true rfl) (Nat.le_of_ble_eq_true rfl) dX7_in_15 rfl (inz_gt h2).symm
    · skip
      refine lv_iconst (v := 1) hx hb dX7_in_10 (by decide) ?_
      refine lv_goto (tgt := 15) hx hb dX7_in_11 (by decide) ?_
      exact en_z hx hb hr hlk hP hD hS () [] (by decide) rfl (Nat.le_of_ble_eq_true rfl) (Nat.le_of_ble_eq_true rfl) dX7_in_15 rfl (inz_in h1 h2).symm
theorem dX7_isCoin_0 : decode cX7_isCoin 0 = .ok (.iload_n 1, 1) := by decide +kernel
theorem dX7_isCoin_1 : decode cX7_isCoin 1 = .ok (.iconst 0, 1) := by decide +kernel
theorem dX7_isCoin_2 : decode cX7_isCoin 2 = .ok (.aload_n 0, 1) := by decide +kernel
theorem dX7_isCoin_3 : decode cX7_isCoin 3 = .ok (.getfield 13, 3) := by decide +kernel
theorem in_X7_isCoin_7 : ∀ w ∈ wsX70, w ∈ wsX7_isCoin := fun w h => List.mem_cons_of_mem _ (List.mem_append_right _ h)
theorem dX7_isCoin_6 : decode cX7_isCoin 6 = .ok (.iconst 0, 1) := by decide +kernel
theorem dX7_isCoin_7 : decode cX7_isCoin 7 = .ok (.iaload, 1) := by decide +kernel
theorem dX7_isCoin_8 : decode cX7_isCoin 8 = .ok (.iconst 1, 1) := by decide +kernel
theorem dX7_isCoin_9 : decode cX7_isCoin 9 = .ok (.isub, 1) := by decide +kernel
theorem dX7_isCoin_10 : decode cX7_isCoin 10 = .ok (.invokestatic 78, 3) := by decide +kernel
set_option maxRecDepth 20000 in
theorem ggX7_isCoin_X7_in : GoodIn wsX7_isCoin wsX7_in := goodIn_r _ [5] (by decide +kernel) (by decide +kernel)
theorem dX7_isCoin_13 : decode cX7_isCoin 13 = .ok (.ireturn, 1) := by decide +kernel
set_option maxHeartbeats 4000000 in
set_option maxRecDepth 100000 in
theorem c_M_isCoin (l : Launch) (D : va_G) (cI cB cZ cN : ClassId) (h0 : Nat) (m0 : Nat) (m1 : Nat) (m2 : Nat) (m3 : Nat) (m4 : Nat) (m5 : Nat) (m6 : Nat) (m7 : Nat) (m8 : Nat) (m9 : Nat) (m10 : Nat) (m11 : Nat) (m12 : Nat) (m13 : Nat) (m14 : Nat) (m15 : Nat) (m16 : Nat) (m17 : Nat) (m18 : Nat) (m19 : Nat) (v_c : Int32)  : Ci (S := Unit) l D cI cB cZ cN yX7_isCoin wsX7_isCoin ({ frames := 1, cells := 0, slots := 0, locals := 22 } : Room) [.ref h0, .int v_c] [(h0, .inr (7, [.long 0, .ref m0, .int 0, .ref m1, .ref m2, .ref m3, .ref m4, .ref m5, .ref m6, .ref m7, .ref m8, .ref m9, .ref m10, .ref m11, .int 0, .int 0, .int 0, .int 0, .int 0, .int 0, .ref m12, .ref m13, .ref m14, .ref m15, .ref m16, .ref m17, .ref m18, .ref m19, .int 0])), (m1, .inl (cI, 2, .inl zf))] (fun (r : Int32) (_ : Unit) => r = 0) (fun u => [(h0, .inr (7, [.long 0, .ref m0, .int 0, .ref m1, .ref m2, .ref m3, .ref m4, .ref m5, .ref m6, .ref m7, .ref m8, .ref m9, .ref m10, .ref m11, .int 0, .int 0, .int 0, .int 0, .int 0, .int 0, .ref m12, .ref m13, .ref m14, .ref m15, .ref m16, .ref m17, .ref m18, .ref m19, .int 0])), (m1, .inl (cI, 2, .inl zf))]) := by
  refine bx_of (D := D) (cI := cI) (cB := cB) (cZ := cZ) (cN := cN) (y := yX7_isCoin) (wd := wsX7_isCoin) (rm := ({ frames := 1, cells := 0, slots := 0, locals := 22 } : Room)) (av := [.ref h0, .int v_c]) (wc := [(h0, .inr (7, [.long 0, .ref m0, .int 0, .ref m1, .ref m2, .ref m3, .ref m4, .ref m5, .ref m6, .ref m7, .ref m8, .ref m9, .ref m10, .ref m11, .int 0, .int 0, .int 0, .int 0, .int 0, .int 0, .ref m12, .ref m13, .ref m14, .ref m15, .ref m16, .ref m17, .ref m18, .ref m19, .int 0])), (m1, .inl (cI, 2, .inl zf))]) (cc := cX7_isCoin) (maxL := 2) (ret := (some .boolean)) (Qc := fun _ A => va_Qi (S := Unit) (fun (r : Int32) (_ : Unit) => r = 0) (Aft D (fun (u : Unit) => [(h0, .inr (7, [.long 0, .ref m0, .int 0, .ref m1, .ref m2, .ref m3, .ref m4, .ref m5, .ref m6, .ref m7, .ref m8, .ref m9, .ref m10, .ref m11, .int 0, .int 0, .int 0, .int 0, .int 0, .int 0, .ref m12, .ref m13, .ref m14, .ref m15, .ref m16, .ref m17, .ref m18, .ref m19, .int 0])), (m1, .inl (cI, 2, .inl zf))]) A) A) (by decide) rfl (Nat.le_of_ble_eq_true rfl) ?_
  intro p e s m below meth c A H locs ⟨hx, hb, hr, hml, hown, hts, hlk, hnm⟩ hK hP hD hS hA ls hl
  have hl : lv_has ls 2 [(0, .ref h0), (1, .int v_c)] := hl
  have hown : s.vm.findClass RX7 = some m.cls := hown
  refine lv_iload_n hx hb dX7_isCoin_0 rfl (lv_at hl 1 rfl) ?_
  refine lv_iconst (v := 0) hx hb dX7_isCoin_1 (by decide) ?_
  refine lv_aload_n hx hb dX7_isCoin_2 rfl (lv_at hl 0 rfl) ?_
  refine va_get (D := D) (ci := 7) (v := .ref m1) (C := RX7) (T := TX7) (N := 29) hx hb hts in_X7_isCoin_7 hown hK.1 hP 0 rfl rfl 3 (by decide) (hts (.fieldLink RX7 13 "ChildCoinsModel" "coins" "[I") (List.mem_of_getElem? (i := 1) rfl)) (fun _ h9 => h9) rfl dX7_isCoin_3 ?_
  refine lv_iconst (v := 0) hx hb dX7_isCoin_6 (by decide) ?_
  refine va_iald hx hb hK.1 hP 1 0 rfl rfl (vp_in_nI (n := 0) (N := 2) (by decide) (by decide)) dX7_isCoin_7 ?_
  refine set_i (y := 0) rfl ?_
  refine lv_iconst (v := 1) hx hb dX7_isCoin_8 (by decide) ?_
  refine lv_isub hx hb dX7_isCoin_9 ?_
  refine set_i (y := -1) (by decide) ?_
  refine be_i (free := va_A [] H.size) (wc := []) (wr := [(h0, .inr (7, [.long 0, .ref m0, .int 0, .ref m1, .ref m2, .ref m3, .ref m4, .ref m5, .ref m6, .ref m7, .ref m8, .ref m9, .ref m10, .ref m11, .int 0, .int 0, .int 0, .int 0, .int 0, .int 0, .ref m12, .ref m13, .ref m14, .ref m15, .ref m16, .ref m17, .ref m18, .ref m19, .int 0])), (m1, .inl (cI, 2, .inl zf))]) (ru_S (As := [.int v_c, .int 0, .int (-1)]) (rest := []) ⟨hx, hb, hml, hown, hts⟩ (c_M_in0 l D cI cB cZ cN v_c H.size) ggX7_isCoin_X7_in rfl (hts (.initialized RX7) (List.mem_of_getElem? (i := 4) rfl)) (hts (.methodLink RX7 78 yX7_in) (List.mem_of_getElem? (i := 2) rfl)) (hts (.static yX7_in) (List.mem_of_getElem? (i := 3) rfl)) ⟨by decide, by decide, (show Option.map (fun d => d.parameters.length) (parseMethodDescriptor yX7_in.desc) = some 3 by decide +kernel)⟩ ⟨Nat.le_of_ble_eq_true rfl, Nat.le_of_ble_eq_true rfl⟩ hK hP hD [] (by decide) rfl hl.1 rfl (Nat.le_of_ble_eq_true rfl) dX7_isCoin_10 ⟨Nat.le_of_ble_eq_true rfl, Nat.le_of_ble_eq_true rfl⟩) hP hD hS hA [] [0, 1] rfl rfl (by decide) (by decide) (fun r2 u1 H locs w3 hP hD hS => ?_)
  have hP : va_P D vwCl [(h0, .inr (7, [.long 0, .ref m0, .int 0, .ref m1, .ref m2, .ref m3, .ref m4, .ref m5, .ref m6, .ref m7, .ref m8, .ref m9, .ref m10, .ref m11, .int 0, .int 0, .int 0, .int 0, .int 0, .int 0, .ref m12, .ref m13, .ref m14, .ref m15, .ref m16, .ref m17, .ref m18, .ref m19, .int 0])), (m1, .inl (cI, 2, .inl zf))] H := hP
  have hD : va_D A [(h0, .inr (7, [.long 0, .ref m0, .int 0, .ref m1, .ref m2, .ref m3, .ref m4, .ref m5, .ref m6, .ref m7, .ref m8, .ref m9, .ref m10, .ref m11, .int 0, .int 0, .int 0, .int 0, .int 0, .int 0, .ref m12, .ref m13, .ref m14, .ref m15, .ref m16, .ref m17, .ref m18, .ref m19, .int 0])), (m1, .inl (cI, 2, .inl zf))] := hD
  obtain rfl : r2 = 0 := w3
  exact en_z hx hb hr hlk hP hD hS () [0, 1] (by decide) rfl (Nat.le_of_ble_eq_true rfl) (Nat.le_of_ble_eq_true rfl) dX7_isCoin_13 rfl rfl
theorem dX7_isPerson_0 : decode cX7_isPerson 0 = .ok (.iload_n 1, 1) := by decide +kernel
theorem dX7_isPerson_1 : decode cX7_isPerson 1 = .ok (.iconst 0, 1) := by decide +kernel
theorem dX7_isPerson_2 : decode cX7_isPerson 2 = .ok (.aload_n 0, 1) := by decide +kernel
theorem dX7_isPerson_3 : decode cX7_isPerson 3 = .ok (.getfield 23, 3) := by decide +kernel
theorem in_X7_isPerson_7 : ∀ w ∈ wsX70, w ∈ wsX7_isPerson := fun w h => List.mem_cons_of_mem _ (List.mem_append_right _ h)
theorem dX7_isPerson_6 : decode cX7_isPerson 6 = .ok (.iconst 0, 1) := by decide +kernel
theorem dX7_isPerson_7 : decode cX7_isPerson 7 = .ok (.iaload, 1) := by decide +kernel
theorem dX7_isPerson_8 : decode cX7_isPerson 8 = .ok (.iconst 1, 1) := by decide +kernel
theorem dX7_isPerson_9 : decode cX7_isPerson 9 = .ok (.isub, 1) := by decide +kernel
theorem dX7_isPerson_10 : decode cX7_isPerson 10 = .ok (.invokestatic 78, 3) := by decide +kernel
set_option maxRecDepth 20000 in
theorem ggX7_isPerson_X7_in : GoodIn wsX7_isPerson wsX7_in := goodIn_r _ [5] (by decide +kernel) (by decide +kernel)
theorem dX7_isPerson_13 : decode cX7_isPerson 13 = .ok (.ireturn, 1) := by decide +kernel
set_option maxHeartbeats 4000000 in
set_option maxRecDepth 100000 in
theorem c_M_isPerson (l : Launch) (D : va_G) (cI cB cZ cN : ClassId) (h0 : Nat) (m0 : Nat) (m1 : Nat) (m2 : Nat) (m3 : Nat) (m4 : Nat) (m5 : Nat) (m6 : Nat) (m7 : Nat) (m8 : Nat) (m9 : Nat) (m10 : Nat) (m11 : Nat) (m12 : Nat) (m13 : Nat) (m14 : Nat) (m15 : Nat) (m16 : Nat) (m17 : Nat) (m18 : Nat) (m19 : Nat) (v_c : Int32)  : Ci (S := Unit) l D cI cB cZ cN yX7_isPerson wsX7_isPerson ({ frames := 1, cells := 0, slots := 0, locals := 22 } : Room) [.ref h0, .int v_c] [(h0, .inr (7, [.long 0, .ref m0, .int 0, .ref m1, .ref m2, .ref m3, .ref m4, .ref m5, .ref m6, .ref m7, .ref m8, .ref m9, .ref m10, .ref m11, .int 0, .int 0, .int 0, .int 0, .int 0, .int 0, .ref m12, .ref m13, .ref m14, .ref m15, .ref m16, .ref m17, .ref m18, .ref m19, .int 0])), (m4, .inl (cI, 2, .inl zf))] (fun (r : Int32) (_ : Unit) => r = 0) (fun u => [(h0, .inr (7, [.long 0, .ref m0, .int 0, .ref m1, .ref m2, .ref m3, .ref m4, .ref m5, .ref m6, .ref m7, .ref m8, .ref m9, .ref m10, .ref m11, .int 0, .int 0, .int 0, .int 0, .int 0, .int 0, .ref m12, .ref m13, .ref m14, .ref m15, .ref m16, .ref m17, .ref m18, .ref m19, .int 0])), (m4, .inl (cI, 2, .inl zf))]) := by
  refine bx_of (D := D) (cI := cI) (cB := cB) (cZ := cZ) (cN := cN) (y := yX7_isPerson) (wd := wsX7_isPerson) (rm := ({ frames := 1, cells := 0, slots := 0, locals := 22 } : Room)) (av := [.ref h0, .int v_c]) (wc := [(h0, .inr (7, [.long 0, .ref m0, .int 0, .ref m1, .ref m2, .ref m3, .ref m4, .ref m5, .ref m6, .ref m7, .ref m8, .ref m9, .ref m10, .ref m11, .int 0, .int 0, .int 0, .int 0, .int 0, .int 0, .ref m12, .ref m13, .ref m14, .ref m15, .ref m16, .ref m17, .ref m18, .ref m19, .int 0])), (m4, .inl (cI, 2, .inl zf))]) (cc := cX7_isPerson) (maxL := 2) (ret := (some .boolean)) (Qc := fun _ A => va_Qi (S := Unit) (fun (r : Int32) (_ : Unit) => r = 0) (Aft D (fun (u : Unit) => [(h0, .inr (7, [.long 0, .ref m0, .int 0, .ref m1, .ref m2, .ref m3, .ref m4, .ref m5, .ref m6, .ref m7, .ref m8, .ref m9, .ref m10, .ref m11, .int 0, .int 0, .int 0, .int 0, .int 0, .int 0, .ref m12, .ref m13, .ref m14, .ref m15, .ref m16, .ref m17, .ref m18, .ref m19, .int 0])), (m4, .inl (cI, 2, .inl zf))]) A) A) (by decide) rfl (Nat.le_of_ble_eq_true rfl) ?_
  intro p e s m below meth c A H locs ⟨hx, hb, hr, hml, hown, hts, hlk, hnm⟩ hK hP hD hS hA ls hl
  have hl : lv_has ls 2 [(0, .ref h0), (1, .int v_c)] := hl
  have hown : s.vm.findClass RX7 = some m.cls := hown
  refine lv_iload_n hx hb dX7_isPerson_0 rfl (lv_at hl 1 rfl) ?_
  refine lv_iconst (v := 0) hx hb dX7_isPerson_1 (by decide) ?_
  refine lv_aload_n hx hb dX7_isPerson_2 rfl (lv_at hl 0 rfl) ?_
  refine va_get (D := D) (ci := 7) (v := .ref m4) (C := RX7) (T := TX7) (N := 29) hx hb hts in_X7_isPerson_7 hown hK.1 hP 0 rfl rfl 6 (by decide) (hts (.fieldLink RX7 23 "ChildCoinsModel" "people" "[I") (List.mem_of_getElem? (i := 1) rfl)) (fun _ h9 => h9) rfl dX7_isPerson_3 ?_
  refine lv_iconst (v := 0) hx hb dX7_isPerson_6 (by decide) ?_
  refine va_iald hx hb hK.1 hP 1 0 rfl rfl (vp_in_nI (n := 0) (N := 2) (by decide) (by decide)) dX7_isPerson_7 ?_
  refine set_i (y := 0) rfl ?_
  refine lv_iconst (v := 1) hx hb dX7_isPerson_8 (by decide) ?_
  refine lv_isub hx hb dX7_isPerson_9 ?_
  refine set_i (y := -1) (by decide) ?_
  refine be_i (free := va_A [] H.size) (wc := []) (wr := [(h0, .inr (7, [.long 0, .ref m0, .int 0, .ref m1, .ref m2, .ref m3, .ref m4, .ref m5, .ref m6, .ref m7, .ref m8, .ref m9, .ref m10, .ref m11, .int 0, .int 0, .int 0, .int 0, .int 0, .int 0, .ref m12, .ref m13, .ref m14, .ref m15, .ref m16, .ref m17, .ref m18, .ref m19, .int 0])), (m4, .inl (cI, 2, .inl zf))]) (ru_S (As := [.int v_c, .int 0, .int (-1)]) (rest := []) ⟨hx, hb, hml, hown, hts⟩ (c_M_in0 l D cI cB cZ cN v_c H.size) ggX7_isPerson_X7_in rfl (hts (.initialized RX7) (List.mem_of_getElem? (i := 4) rfl)) (hts (.methodLink RX7 78 yX7_in) (List.mem_of_getElem? (i := 2) rfl)) (hts (.static yX7_in) (List.mem_of_getElem? (i := 3) rfl)) ⟨by decide, by decide, (show Option.map (fun d => d.parameters.length) (parseMethodDescriptor yX7_in.desc) = some 3 by decide +kernel)⟩ ⟨Nat.le_of_ble_eq_true rfl, Nat.le_of_ble_eq_true rfl⟩ hK hP hD [] (by decide) rfl hl.1 rfl (Nat.le_of_ble_eq_true rfl) dX7_isPerson_10 ⟨Nat.le_of_ble_eq_true rfl, Nat.le_of_ble_eq_true rfl⟩) hP hD hS hA [] [0, 1] rfl rfl (by decide) (by decide) (fun r2 u1 H locs w3 hP hD hS => ?_)
  have hP : va_P D vwCl [(h0, .inr (7, [.long 0, .ref m0, .int 0, .ref m1, .ref m2, .ref m3, .ref m4, .ref m5, .ref m6, .ref m7, .ref m8, .ref m9, .ref m10, .ref m11, .int 0, .int 0, .int 0, .int 0, .int 0, .int 0, .ref m12, .ref m13, .ref m14, .ref m15, .ref m16, .ref m17, .ref m18, .ref m19, .int 0])), (m4, .inl (cI, 2, .inl zf))] H := hP
  have hD : va_D A [(h0, .inr (7, [.long 0, .ref m0, .int 0, .ref m1, .ref m2, .ref m3, .ref m4, .ref m5, .ref m6, .ref m7, .ref m8, .ref m9, .ref m10, .ref m11, .int 0, .int 0, .int 0, .int 0, .int 0, .int 0, .ref m12, .ref m13, .ref m14, .ref m15, .ref m16, .ref m17, .ref m18, .ref m19, .int 0])), (m4, .inl (cI, 2, .inl zf))] := hD
  obtain rfl : r2 = 0 := w3
  exact en_z hx hb hr hlk hP hD hS () [0, 1] (by decide) rfl (Nat.le_of_ble_eq_true rfl) (Nat.le_of_ble_eq_true rfl) dX7_isPerson_13 rfl rfl
theorem dX7_isDebt_0 : decode cX7_isDebt 0 = .ok (.iload_n 1, 1) := by decide +kernel
theorem dX7_isDebt_1 : decode cX7_isDebt 1 = .ok (.iconst 0, 1) := by decide +kernel
theorem dX7_isDebt_2 : decode cX7_isDebt 2 = .ok (.aload_n 0, 1) := by decide +kernel
theorem dX7_isDebt_3 : decode cX7_isDebt 3 = .ok (.getfield 32, 3) := by decide +kernel
theorem in_X7_isDebt_7 : ∀ w ∈ wsX70, w ∈ wsX7_isDebt := fun w h => List.mem_cons_of_mem _ (List.mem_append_right _ h)
theorem dX7_isDebt_6 : decode cX7_isDebt 6 = .ok (.iconst 0, 1) := by decide +kernel
theorem dX7_isDebt_7 : decode cX7_isDebt 7 = .ok (.iaload, 1) := by decide +kernel
theorem dX7_isDebt_8 : decode cX7_isDebt 8 = .ok (.iconst 1, 1) := by decide +kernel
theorem dX7_isDebt_9 : decode cX7_isDebt 9 = .ok (.isub, 1) := by decide +kernel
theorem dX7_isDebt_10 : decode cX7_isDebt 10 = .ok (.invokestatic 78, 3) := by decide +kernel
set_option maxRecDepth 20000 in
theorem ggX7_isDebt_X7_in : GoodIn wsX7_isDebt wsX7_in := goodIn_r _ [5] (by decide +kernel) (by decide +kernel)
theorem dX7_isDebt_13 : decode cX7_isDebt 13 = .ok (.ireturn, 1) := by decide +kernel
set_option maxHeartbeats 4000000 in
set_option maxRecDepth 100000 in
theorem c_M_isDebt (l : Launch) (D : va_G) (cI cB cZ cN : ClassId) (h0 : Nat) (m0 : Nat) (m1 : Nat) (m2 : Nat) (m3 : Nat) (m4 : Nat) (m5 : Nat) (m6 : Nat) (m7 : Nat) (m8 : Nat) (m9 : Nat) (m10 : Nat) (m11 : Nat) (m12 : Nat) (m13 : Nat) (m14 : Nat) (m15 : Nat) (m16 : Nat) (m17 : Nat) (m18 : Nat) (m19 : Nat) (v_c : Int32)  : Ci (S := Unit) l D cI cB cZ cN yX7_isDebt wsX7_isDebt ({ frames := 1, cells := 0, slots := 0, locals := 22 } : Room) [.ref h0, .int v_c] [(h0, .inr (7, [.long 0, .ref m0, .int 0, .ref m1, .ref m2, .ref m3, .ref m4, .ref m5, .ref m6, .ref m7, .ref m8, .ref m9, .ref m10, .ref m11, .int 0, .int 0, .int 0, .int 0, .int 0, .int 0, .ref m12, .ref m13, .ref m14, .ref m15, .ref m16, .ref m17, .ref m18, .ref m19, .int 0])), (m7, .inl (cI, 2, .inl zf))] (fun (r : Int32) (_ : Unit) => r = 0) (fun u => [(h0, .inr (7, [.long 0, .ref m0, .int 0, .ref m1, .ref m2, .ref m3, .ref m4, .ref m5, .ref m6, .ref m7, .ref m8, .ref m9, .ref m10, .ref m11, .int 0, .int 0, .int 0, .int 0, .int 0, .int 0, .ref m12, .ref m13, .ref m14, .ref m15, .ref m16, .ref m17, .ref m18, .ref m19, .int 0])), (m7, .inl (cI, 2, .inl zf))]) := by
  refine bx_of (D := D) (cI := cI) (cB := cB) (cZ := cZ) (cN := cN) (y := yX7_isDebt) (wd := wsX7_isDebt) (rm := ({ frames := 1, cells := 0, slots := 0, locals := 22 } : Room)) (av := [.ref h0, .int v_c]) (wc := [(h0, .inr (7, [.long 0, .ref m0, .int 0, .ref m1, .ref m2, .ref m3, .ref m4, .ref m5, .ref m6, .ref m7, .ref m8, .ref m9, .ref m10, .ref m11, .int 0, .int 0, .int 0, .int 0, .int 0, .int 0, .ref m12, .ref m13, .ref m14, .ref m15, .ref m16, .ref m17, .ref m18, .ref m19, .int 0])), (m7, .inl (cI, 2, .inl zf))]) (cc := cX7_isDebt) (maxL := 2) (ret := (some .boolean)) (Qc := fun _ A => va_Qi (S := Unit) (fun (r : Int32) (_ : Unit) => r = 0) (Aft D (fun (u : Unit) => [(h0, .inr (7, [.long 0, .ref m0, .int 0, .ref m1, .ref m2, .ref m3, .ref m4, .ref m5, .ref m6, .ref m7, .ref m8, .ref m9, .ref m10, .ref m11, .int 0, .int 0, .int 0, .int 0, .int 0, .int 0, .ref m12, .ref m13, .ref m14, .ref m15, .ref m16, .ref m17, .ref m18, .ref m19, .int 0])), (m7, .inl (cI, 2, .inl zf))]) A) A) (by decide) rfl (Nat.le_of_ble_eq_true rfl) ?_
  intro p e s m below meth c A H locs ⟨hx, hb, hr, hml, hown, hts, hlk, hnm⟩ hK hP hD hS hA ls hl
  have hl : lv_has ls 2 [(0, .ref h0), (1, .int v_c)] := hl
  have hown : s.vm.findClass RX7 = some m.cls := hown
  refine lv_iload_n hx hb dX7_isDebt_0 rfl (lv_at hl 1 rfl) ?_
  refine lv_iconst (v := 0) hx hb dX7_isDebt_1 (by decide) ?_
  refine lv_aload_n hx hb dX7_isDebt_2 rfl (lv_at hl 0 rfl) ?_
  refine va_get (D := D) (ci := 7) (v := .ref m7) (C := RX7) (T := TX7) (N := 29) hx hb hts in_X7_isDebt_7 hown hK.1 hP 0 rfl rfl 9 (by decide) (hts (.fieldLink RX7 32 "ChildCoinsModel" "debts" "[I") (List.mem_of_getElem? (i := 1) rfl)) (fun _ h9 => h9) rfl dX7_isDebt_3 ?_
  refine lv_iconst (v := 0) hx hb dX7_isDebt_6 (by decide) ?_
  refine va_iald hx hb hK.1 hP 1 0 rfl rfl (vp_in_nI (n := 0) (N := 2) (by decide) (by decide)) dX7_isDebt_7 ?_
  refine set_i (y := 0) rfl ?_
  refine lv_iconst (v := 1) hx hb dX7_isDebt_8 (by decide) ?_
  refine lv_isub hx hb dX7_isDebt_9 ?_
  refine set_i (y := -1) (by decide) ?_
  refine be_i (free := va_A [] H.size) (wc := []) (wr := [(h0, .inr (7, [.long 0, .ref m0, .int 0, .ref m1, .ref m2, .ref m3, .ref m4, .ref m5, .ref m6, .ref m7, .ref m8, .ref m9, .ref m10, .ref m11, .int 0, .int 0, .int 0, .int 0, .int 0, .int 0, .ref m12, .ref m13, .ref m14, .ref m15, .ref m16, .ref m17, .ref m18, .ref m19, .int 0])), (m7, .inl (cI, 2, .inl zf))]) (ru_S (As := [.int v_c, .int 0, .int (-1)]) (rest := []) ⟨hx, hb, hml, hown, hts⟩ (c_M_in0 l D cI cB cZ cN v_c H.size) ggX7_isDebt_X7_in rfl (hts (.initialized RX7) (List.mem_of_getElem? (i := 4) rfl)) (hts (.methodLink RX7 78 yX7_in) (List.mem_of_getElem? (i := 2) rfl)) (hts (.static yX7_in) (List.mem_of_getElem? (i := 3) rfl)) ⟨by decide, by decide, (show Option.map (fun d => d.parameters.length) (parseMethodDescriptor yX7_in.desc) = some 3 by decide +kernel)⟩ ⟨Nat.le_of_ble_eq_true rfl, Nat.le_of_ble_eq_true rfl⟩ hK hP hD [] (by decide) rfl hl.1 rfl (Nat.le_of_ble_eq_true rfl) dX7_isDebt_10 ⟨Nat.le_of_ble_eq_true rfl, Nat.le_of_ble_eq_true rfl⟩) hP hD hS hA [] [0, 1] rfl rfl (by decide) (by decide) (fun r2 u1 H locs w3 hP hD hS => ?_)
  have hP : va_P D vwCl [(h0, .inr (7, [.long 0, .ref m0, .int 0, .ref m1, .ref m2, .ref m3, .ref m4, .ref m5, .ref m6, .ref m7, .ref m8, .ref m9, .ref m10, .ref m11, .int 0, .int 0, .int 0, .int 0, .int 0, .int 0, .ref m12, .ref m13, .ref m14, .ref m15, .ref m16, .ref m17, .ref m18, .ref m19, .int 0])), (m7, .inl (cI, 2, .inl zf))] H := hP
  have hD : va_D A [(h0, .inr (7, [.long 0, .ref m0, .int 0, .ref m1, .ref m2, .ref m3, .ref m4, .ref m5, .ref m6, .ref m7, .ref m8, .ref m9, .ref m10, .ref m11, .int 0, .int 0, .int 0, .int 0, .int 0, .int 0, .ref m12, .ref m13, .ref m14, .ref m15, .ref m16, .ref m17, .ref m18, .ref m19, .int 0])), (m7, .inl (cI, 2, .inl zf))] := hD
  obtain rfl : r2 = 0 := w3
  exact en_z hx hb hr hlk hP hD hS () [0, 1] (by decide) rfl (Nat.le_of_ble_eq_true rfl) (Nat.le_of_ble_eq_true rfl) dX7_isDebt_13 rfl rfl
theorem dX7_manyOf_0 : decode cX7_manyOf 0 = .ok (.iconst 0, 1) := by decide +kernel
theorem dX7_manyOf_1 : decode cX7_manyOf 1 = .ok (.istore_n 1, 1) := by decide +kernel
theorem dX7_manyOf_2 : decode cX7_manyOf 2 = .ok (.iconst 0, 1) := by decide +kernel
theorem dX7_manyOf_3 : decode cX7_manyOf 3 = .ok (.istore_n 2, 1) := by decide +kernel
theorem dX7_manyOf_4 : decode cX7_manyOf 4 = .ok (.iload_n 2, 1) := by decide +kernel
theorem dX7_manyOf_5 : decode cX7_manyOf 5 = .ok (.bipush 6, 2) := by decide +kernel
theorem dX7_manyOf_7 : decode cX7_manyOf 7 = .ok (.if_icmp .ge 17, 3) := by decide +kernel
theorem dX7_manyOf_10 : decode cX7_manyOf 10 = .ok (.iload_n 1, 1) := by decide +kernel
theorem dX7_manyOf_11 : decode cX7_manyOf 11 = .ok (.iload_n 0, 1) := by decide +kernel
theorem dX7_manyOf_12 : decode cX7_manyOf 12 = .ok (.iload_n 2, 1) := by decide +kernel
theorem dX7_manyOf_13 : decode cX7_manyOf 13 = .ok (.ishr, 1) := by decide +kernel
theorem dX7_manyOf_14 : decode cX7_manyOf 14 = .ok (.iconst 1, 1) := by decide +kernel
theorem dX7_manyOf_15 : decode cX7_manyOf 15 = .ok (.iand, 1) := by decide +kernel
theorem dX7_manyOf_16 : decode cX7_manyOf 16 = .ok (.iadd, 1) := by decide +kernel
theorem dX7_manyOf_17 : decode cX7_manyOf 17 = .ok (.istore_n 1, 1) := by decide +kernel
theorem dX7_manyOf_18 : decode cX7_manyOf 18 = .ok (.iinc 2 1, 3) := by decide +kernel
theorem dX7_manyOf_21 : decode cX7_manyOf 21 = .ok (.goto (-17), 3) := by decide +kernel
theorem dX7_manyOf_24 : decode cX7_manyOf 24 = .ok (.iload_n 1, 1) := by decide +kernel
theorem dX7_manyOf_25 : decode cX7_manyOf 25 = .ok (.ireturn, 1) := by decide +kernel
set_option maxHeartbeats 4000000 in
set_option maxRecDepth 100000 in
theorem c_M_many0 (l : Launch) (D : va_G) (cI cB cZ cN : ClassId)   : Ci (S := Unit) l D cI cB cZ cN yX7_manyOf wsX7_manyOf ({ frames := 0, cells := 0, slots := 0, locals := 0 } : Room) [.int 0] [] (fun (r : Int32) (_ : Unit) => r = 0) (fun u => []) := by
  refine bx_of (D := D) (cI := cI) (cB := cB) (cZ := cZ) (cN := cN) (y := yX7_manyOf) (wd := wsX7_manyOf) (rm := ({ frames := 0, cells := 0, slots := 0, locals := 0 } : Room)) (av := [.int 0]) (wc := []) (cc := cX7_manyOf) (maxL := 3) (ret := (some .int)) (Qc := fun _ A => va_Qi (S := Unit) (fun (r : Int32) (_ : Unit) => r = 0) (Aft D (fun (u : Unit) => []) A) A) (by decide) rfl (Nat.le_of_ble_eq_true rfl) ?_
  intro p e s m below meth c A H locs ⟨hx, hb, hr, hml, hown, hts, hlk, hnm⟩ hK hP hD hS hA ls hl
  have hl : lv_has ls 3 [(0, .int 0)] := hl
  have hown : s.vm.findClass RX7 = some m.cls := hown
  refine lv_iconst (v := 0) hx hb dX7_manyOf_0 (by decide) ?_
  refine lv_istore_n (lv' := [(1, .int 0), (0, .int 0)]) hx hb dX7_manyOf_1 rfl hl (by decide) rfl (fun ls hl => ?_)
  refine lv_iconst (v := 0) hx hb dX7_manyOf_2 (by decide) ?_
  refine lv_istore_n (lv' := [(2, .int 0), (1, .int 0), (0, .int 0)]) hx hb dX7_manyOf_3 rfl hl (by decide) rfl (fun ls hl => ?_)
  refine lv_iload_n hx hb dX7_manyOf_4 rfl (lv_at hl 0 rfl) ?_
  refine lv_bipush (v := 6) hx hb dX7_manyOf_5 (by decide) ?_
  refine lv_icmp_ge (tgt := 24) hx hb dX7_manyOf_7 (by decide) (fun h1 => absurd h1 (by decide)) (fun h1 => ?_)
  refine lv_iload_n hx hb dX7_manyOf_10 rfl (lv_at hl 1 rfl) ?_
  refine lv_iload_n hx hb dX7_manyOf_11 rfl (lv_at hl 2 rfl) ?_
  refine lv_iload_n hx hb dX7_manyOf_12 rfl (lv_at hl 0 rfl) ?_
  refine lv_ishr hx hb dX7_manyOf_13 ?_
  refine set_i (y := 0) (by decide) ?_
  refine lv_iconst (v := 1) hx hb dX7_manyOf_14 (by decide) ?_
  refine lv_iand hx hb dX7_manyOf_15 ?_
  refine set_i (y := 0) (by decide) ?_
  refine lv_iadd hx hb dX7_manyOf_16 ?_
  refine set_i (y := 0) (by decide) ?_
  refine lv_istore_n (lv' := [(1, .int 0), (2, .int 0), (0, .int 0)]) hx hb dX7_manyOf_17 rfl hl (by decide) rfl (fun ls hl => ?_)
  refine lv_iinc (v := 1) (lv' := [(2, .int 1), (1, .int 0), (0, .int 0)]) hx hb dX7_manyOf_18 hl (k := 1) rfl (by decide) (by decide) rfl (fun ls hl => ?_)
  refine lv_goto (tgt := 4) hx hb dX7_manyOf_21 (by decide) ?_
  refine lv_iload_n hx hb dX7_manyOf_4 rfl (lv_at hl 0 rfl) ?_
  refine lv_bipush (v := 6) hx hb dX7_manyOf_5 (by decide) ?_
  refine lv_icmp_ge (tgt := 24) hx hb dX7_manyOf_7 (by decide) (fun h2 => absurd h2 (by decide)) (fun h2 => ?_)
  refine lv_iload_n hx hb dX7_manyOf_10 rfl (lv_at hl 1 rfl) ?_
  refine lv_iload_n hx hb dX7_manyOf_11 rfl (lv_at hl 2 rfl) ?_
  refine lv_iload_n hx hb dX7_manyOf_12 rfl (lv_at hl 0 rfl) ?_
  refine lv_ishr hx hb dX7_manyOf_13 ?_
  refine set_i (y := 0) (by decide) ?_
  refine lv_iconst (v := 1) hx hb dX7_manyOf_14 (by decide) ?_
  refine lv_iand hx hb dX7_manyOf_15 ?_
  refine set_i (y := 0) (by decide) ?_
  refine lv_iadd hx hb dX7_manyOf_16 ?_
  refine set_i (y := 0) (by decide) ?_
  refine lv_istore_n (lv' := [(1, .int 0), (2, .int 1), (0, .int 0)]) hx hb dX7_manyOf_17 rfl hl (by decide) rfl (fun ls hl => ?_)
  refine lv_iinc (v := 2) (lv' := [(2, .int 2), (1, .int 0), (0, .int 0)]) hx hb dX7_manyOf_18 hl (k := 1) rfl (by decide) (by decide) rfl (fun ls hl => ?_)
  refine lv_goto (tgt := 4) hx hb dX7_manyOf_21 (by decide) ?_
  refine lv_iload_n hx hb dX7_manyOf_4 rfl (lv_at hl 0 rfl) ?_
  refine lv_bipush (v := 6) hx hb dX7_manyOf_5 (by decide) ?_
  refine lv_icmp_ge (tgt := 24) hx hb dX7_manyOf_7 (by decide) (fun h3 => absurd h3 (by decide)) (fun h3 => ?_)
  refine lv_iload_n hx hb dX7_manyOf_10 rfl (lv_at hl 1 rfl) ?_
  refine lv_iload_n hx hb dX7_manyOf_11 rfl (lv_at hl 2 rfl) ?_
  refine lv_iload_n hx hb dX7_manyOf_12 rfl (lv_at hl 0 rfl) ?_
  refine lv_ishr hx hb dX7_manyOf_13 ?_
  refine set_i (y := 0) (by decide) ?_
  refine lv_iconst (v := 1) hx hb dX7_manyOf_14 (by decide) ?_
  refine lv_iand hx hb dX7_manyOf_15 ?_
  refine set_i (y := 0) (by decide) ?_
  refine lv_iadd hx hb dX7_manyOf_16 ?_
  refine set_i (y := 0) (by decide) ?_
  refine lv_istore_n (lv' := [(1, .int 0), (2, .int 2), (0, .int 0)]) hx hb dX7_manyOf_17 rfl hl (by decide) rfl (fun ls hl => ?_)
  refine lv_iinc (v := 3) (lv' := [(2, .int 3), (1, .int 0), (0, .int 0)]) hx hb dX7_manyOf_18 hl (k := 1) rfl (by decide) (by decide) rfl (fun ls hl => ?_)
  refine lv_goto (tgt := 4) hx hb dX7_manyOf_21 (by decide) ?_
  refine lv_iload_n hx hb dX7_manyOf_4 rfl (lv_at hl 0 rfl) ?_
  refine lv_bipush (v := 6) hx hb dX7_manyOf_5 (by decide) ?_
  refine lv_icmp_ge (tgt := 24) hx hb dX7_manyOf_7 (by decide) (fun h4 => absurd h4 (by decide)) (fun h4 => ?_)
  refine lv_iload_n hx hb dX7_manyOf_10 rfl (lv_at hl 1 rfl) ?_
  refine lv_iload_n hx hb dX7_manyOf_11 rfl (lv_at hl 2 rfl) ?_
  refine lv_iload_n hx hb dX7_manyOf_12 rfl (lv_at hl 0 rfl) ?_
  refine lv_ishr hx hb dX7_manyOf_13 ?_
  refine set_i (y := 0) (by decide) ?_
  refine lv_iconst (v := 1) hx hb dX7_manyOf_14 (by decide) ?_
  refine lv_iand hx hb dX7_manyOf_15 ?_
  refine set_i (y := 0) (by decide) ?_
  refine lv_iadd hx hb dX7_manyOf_16 ?_
  refine set_i (y := 0) (by decide) ?_
  refine lv_istore_n (lv' := [(1, .int 0), (2, .int 3), (0, .int 0)]) hx hb dX7_manyOf_17 rfl hl (by decide) rfl (fun ls hl => ?_)
  refine lv_iinc (v := 4) (lv' := [(2, .int 4), (1, .int 0), (0, .int 0)]) hx hb dX7_manyOf_18 hl (k := 1) rfl (by decide) (by decide) rfl (fun ls hl => ?_)
  refine lv_goto (tgt := 4) hx hb dX7_manyOf_21 (by decide) ?_
  refine lv_iload_n hx hb dX7_manyOf_4 rfl (lv_at hl 0 rfl) ?_
  refine lv_bipush (v := 6) hx hb dX7_manyOf_5 (by decide) ?_
  refine lv_icmp_ge (tgt := 24) hx hb dX7_manyOf_7 (by decide) (fun h5 => absurd h5 (by decide)) (fun h5 => ?_)
  refine lv_iload_n hx hb dX7_manyOf_10 rfl (lv_at hl 1 rfl) ?_
  refine lv_iload_n hx hb dX7_manyOf_11 rfl (lv_at hl 2 rfl) ?_
  refine lv_iload_n hx hb dX7_manyOf_12 rfl (lv_at hl 0 rfl) ?_
  refine lv_ishr hx hb dX7_manyOf_13 ?_
  refine set_i (y := 0) (by decide) ?_
  refine lv_iconst (v := 1) hx hb dX7_manyOf_14 (by decide) ?_
  refine lv_iand hx hb dX7_manyOf_15 ?_
  refine set_i (y := 0) (by decide) ?_
  refine lv_iadd hx hb dX7_manyOf_16 ?_
  refine set_i (y := 0) (by decide) ?_
  refine lv_istore_n (lv' := [(1, .int 0), (2, .int 4), (0, .int 0)]) hx hb dX7_manyOf_17 rfl hl (by decide) rfl (fun ls hl => ?_)
  refine lv_iinc (v := 5) (lv' := [(2, .int 5), (1, .int 0), (0, .int 0)]) hx hb dX7_manyOf_18 hl (k := 1) rfl (by decide) (by decide) rfl (fun ls hl => ?_)
  refine lv_goto (tgt := 4) hx hb dX7_manyOf_21 (by decide) ?_
  refine lv_iload_n hx hb dX7_manyOf_4 rfl (lv_at hl 0 rfl) ?_
  refine lv_bipush (v := 6) hx hb dX7_manyOf_5 (by decide) ?_
  refine lv_icmp_ge (tgt := 24) hx hb dX7_manyOf_7 (by decide) (fun h6 => absurd h6 (by decide)) (fun h6 => ?_)
  refine lv_iload_n hx hb dX7_manyOf_10 rfl (lv_at hl 1 rfl) ?_
  refine lv_iload_n hx hb dX7_manyOf_11 rfl (lv_at hl 2 rfl) ?_
  refine lv_iload_n hx hb dX7_manyOf_12 rfl (lv_at hl 0 rfl) ?_
  refine lv_ishr hx hb dX7_manyOf_13 ?_
  refine set_i (y := 0) (by decide) ?_
  refine lv_iconst (v := 1) hx hb dX7_manyOf_14 (by decide) ?_
  refine lv_iand hx hb dX7_manyOf_15 ?_
  refine set_i (y := 0) (by decide) ?_
  refine lv_iadd hx hb dX7_manyOf_16 ?_
  refine set_i (y := 0) (by decide) ?_
  refine lv_istore_n (lv' := [(1, .int 0), (2, .int 5), (0, .int 0)]) hx hb dX7_manyOf_17 rfl hl (by decide) rfl (fun ls hl => ?_)
  refine lv_iinc (v := 6) (lv' := [(2, .int 6), (1, .int 0), (0, .int 0)]) hx hb dX7_manyOf_18 hl (k := 1) rfl (by decide) (by decide) rfl (fun ls hl => ?_)
  refine lv_goto (tgt := 4) hx hb dX7_manyOf_21 (by decide) ?_
  refine lv_iload_n hx hb dX7_manyOf_4 rfl (lv_at hl 0 rfl) ?_
  refine lv_bipush (v := 6) hx hb dX7_manyOf_5 (by decide) ?_
  refine lv_icmp_ge (tgt := 24) hx hb dX7_manyOf_7 (by decide) (fun h7 => ?_) (fun h7 => absurd (by decide) h7)
  refine lv_iload_n hx hb dX7_manyOf_24 rfl (lv_at hl 1 rfl) ?_
  exact en_i hx hb hr hlk hP hD hS () [] (by decide) rfl (Nat.le_of_ble_eq_true rfl) (Nat.le_of_ble_eq_true rfl) dX7_manyOf_25 rfl
theorem dX7_clear_0 : decode cX7_clear 0 = .ok (.aload_n 0, 1) := by decide +kernel
theorem dX7_clear_1 : decode cX7_clear 1 = .ok (.getfield 82, 3) := by decide +kernel
theorem in_X7_clear_7 : ∀ w ∈ wsX70, w ∈ wsX7_clear := fun w h => List.mem_cons_of_mem _ (List.mem_append_right _ h)
theorem dX7_clear_4 : decode cX7_clear 4 = .ok (.istore_n 1, 1) := by decide +kernel
theorem dX7_clear_5 : decode cX7_clear 5 = .ok (.aload_n 0, 1) := by decide +kernel
theorem dX7_clear_6 : decode cX7_clear 6 = .ok (.iconst 0, 1) := by decide +kernel
theorem dX7_clear_7 : decode cX7_clear 7 = .ok (.putfield 82, 3) := by decide +kernel
theorem dX7_clear_10 : decode cX7_clear 10 = .ok (.iload_n 1, 1) := by decide +kernel
theorem dX7_clear_11 : decode cX7_clear 11 = .ok (.ireturn, 1) := by decide +kernel
set_option maxHeartbeats 4000000 in
set_option maxRecDepth 100000 in
theorem c_M_clear (l : Launch) (D : va_G) (cI cB cZ cN : ClassId) (h0 : Nat) (m0 : Nat) (m1 : Nat) (m2 : Nat) (m3 : Nat) (m4 : Nat) (m5 : Nat) (m6 : Nat) (m7 : Nat) (m8 : Nat) (m9 : Nat) (m10 : Nat) (m11 : Nat) (m12 : Nat) (m13 : Nat) (m14 : Nat) (m15 : Nat) (m16 : Nat) (m17 : Nat) (m18 : Nat) (m19 : Nat)  : Ci (S := Unit) l D cI cB cZ cN yX7_clear wsX7_clear ({ frames := 0, cells := 0, slots := 0, locals := 0 } : Room) [.ref h0] [(h0, .inr (7, [.long 0, .ref m0, .int 0, .ref m1, .ref m2, .ref m3, .ref m4, .ref m5, .ref m6, .ref m7, .ref m8, .ref m9, .ref m10, .ref m11, .int 0, .int 0, .int 0, .int 0, .int 0, .int 0, .ref m12, .ref m13, .ref m14, .ref m15, .ref m16, .ref m17, .ref m18, .ref m19, .int 0]))] (fun (r : Int32) (_ : Unit) => r = 0) (fun u => []) := by
  refine bx_of (D := D) (cI := cI) (cB := cB) (cZ := cZ) (cN := cN) (y := yX7_clear) (wd := wsX7_clear) (rm := ({ frames := 0, cells := 0, slots := 0, locals := 0 } : Room)) (av := [.ref h0]) (wc := [(h0, .inr (7, [.long 0, .ref m0, .int 0, .ref m1, .ref m2, .ref m3, .ref m4, .ref m5, .ref m6, .ref m7, .ref m8, .ref m9, .ref m10, .ref m11, .int 0, .int 0, .int 0, .int 0, .int 0, .int 0, .ref m12, .ref m13, .ref m14, .ref m15, .ref m16, .ref m17, .ref m18, .ref m19, .int 0]))]) (cc := cX7_clear) (maxL := 2) (ret := (some .int)) (Qc := fun _ A => va_Qi (S := Unit) (fun (r : Int32) (_ : Unit) => r = 0) (Aft D (fun (u : Unit) => []) A) A) (by decide) rfl (Nat.le_of_ble_eq_true rfl) ?_
  intro p e s m below meth c A H locs ⟨hx, hb, hr, hml, hown, hts, hlk, hnm⟩ hK hP hD hS hA ls hl
  have hl : lv_has ls 2 [(0, .ref h0)] := hl
  have hown : s.vm.findClass RX7 = some m.cls := hown
  refine lv_aload_n hx hb dX7_clear_0 rfl (lv_at hl 0 rfl) ?_
  refine va_get (D := D) (ci := 7) (v := .int 0) (C := RX7) (T := TX7) (N := 29) hx hb hts in_X7_clear_7 hown hK.1 hP 0 rfl rfl 2 (by decide) (hts (.fieldLink RX7 82 "ChildCoinsModel" "typed" "I") (List.mem_of_getElem? (i := 1) rfl)) (fun _ h9 => h9) rfl dX7_clear_1 ?_
  refine lv_istore_n (lv' := [(1, .int 0), (0, .ref h0)]) hx hb dX7_clear_4 rfl hl (by decide) rfl (fun ls hl => ?_)
  refine lv_aload_n hx hb dX7_clear_5 rfl (lv_at hl 1 rfl) ?_
  refine lv_iconst (v := 0) hx hb dX7_clear_6 (by decide) ?_
  refine va_put (D := D) (ci := 7) (v := .int 0) (ty := tyX7 2) (C := RX7) (T := TX7) (N := 29) hx hb hts in_X7_clear_7 tyX7 tyX7_ok nmX7 hown hK.1 hP hD hS 0 rfl rfl 2 (by decide) (hts (.fieldLink RX7 82 "ChildCoinsModel" "typed" "I") (List.mem_of_getElem? (i := 1) rfl)) (fun _ h9 => h9) rfl (tyX7_ok 2 (by decide)) rfl rfl (Nat.le_of_ble_eq_true rfl) dX7_clear_7 (fun H locs hP hD hS => ?_)
  have hP : va_P D vwCl [(h0, .inr (7, [.long 0, .ref m0, .int 0, .ref m1, .ref m2, .ref m3, .ref m4, .ref m5, .ref m6, .ref m7, .ref m8, .ref m9, .ref m10, .ref m11, .int 0, .int 0, .int 0, .int 0, .int 0, .int 0, .ref m12, .ref m13, .ref m14, .ref m15, .ref m16, .ref m17, .ref m18, .ref m19, .int 0]))] H := hP
  have hD : va_D A [(h0, .inr (7, [.long 0, .ref m0, .int 0, .ref m1, .ref m2, .ref m3, .ref m4, .ref m5, .ref m6, .ref m7, .ref m8, .ref m9, .ref m10, .ref m11, .int 0, .int 0, .int 0, .int 0, .int 0, .int 0, .ref m12, .ref m13, .ref m14, .ref m15, .ref m16, .ref m17, .ref m18, .ref m19, .int 0]))] := hD
  refine lv_iload_n hx hb dX7_clear_10 rfl (lv_at hl 0 rfl) ?_
  exact en_i hx hb hr hlk hP hD hS () [] (by decide) rfl (Nat.le_of_ble_eq_true rfl) (Nat.le_of_ble_eq_true rfl) dX7_clear_11 rfl
theorem dX7_type_0 : decode cX7_type 0 = .ok (.iload_n 1, 1) := by decide +kernel
theorem dX7_type_1 : decode cX7_type 1 = .ok (.iconst 0, 1) := by decide +kernel
theorem dX7_type_2 : decode cX7_type 2 = .ok (.sipush 255, 3) := by decide +kernel
theorem dX7_type_5 : decode cX7_type 5 = .ok (.invokestatic 78, 3) := by decide +kernel
set_option maxRecDepth 20000 in
theorem ggX7_type_X7_in : GoodIn wsX7_type wsX7_in := goodIn_r _ [6] (by decide +kernel) (by decide +kernel)
theorem dX7_type_8 : decode cX7_type 8 = .ok (.ifCond .ne 5, 3) := by decide +kernel
theorem dX7_type_13 : decode cX7_type 13 = .ok (.aload_n 0, 1) := by decide +kernel
theorem dX7_type_14 : decode cX7_type 14 = .ok (.getfield 82, 3) := by decide +kernel
theorem in_X7_type_7 : ∀ w ∈ wsX70, w ∈ wsX7_type := fun w h => List.mem_cons_of_mem _ (List.mem_append_right _ h)
theorem dX7_type_17 : decode cX7_type 17 = .ok (.sipush 180, 3) := by decide +kernel
theorem dX7_type_20 : decode cX7_type 20 = .ok (.if_icmp .ne 6, 3) := by decide +kernel
theorem dX7_type_26 : decode cX7_type 26 = .ok (.aload_n 0, 1) := by decide +kernel
theorem dX7_type_27 : decode cX7_type 27 = .ok (.getfield 7, 3) := by decide +kernel
theorem dX7_type_30 : decode cX7_type 30 = .ok (.aload_n 0, 1) := by decide +kernel
theorem dX7_type_31 : decode cX7_type 31 = .ok (.getfield 82, 3) := by decide +kernel
theorem dX7_type_34 : decode cX7_type 34 = .ok (.iload_n 1, 1) := by decide +kernel
theorem dX7_type_35 : decode cX7_type 35 = .ok (.i2b, 1) := by decide +kernel
theorem dX7_type_36 : decode cX7_type 36 = .ok (.bastore, 1) := by decide +kernel
theorem dX7_type_37 : decode cX7_type 37 = .ok (.aload_n 0, 1) := by decide +kernel
theorem dX7_type_38 : decode cX7_type 38 = .ok (.dup, 1) := by decide +kernel
theorem dX7_type_39 : decode cX7_type 39 = .ok (.getfield 82, 3) := by decide +kernel
theorem dX7_type_42 : decode cX7_type 42 = .ok (.iconst 1, 1) := by decide +kernel
theorem dX7_type_43 : decode cX7_type 43 = .ok (.iadd, 1) := by decide +kernel
theorem dX7_type_44 : decode cX7_type 44 = .ok (.putfield 82, 3) := by decide +kernel
theorem dX7_type_47 : decode cX7_type 47 = .ok (.aload_n 0, 1) := by decide +kernel
theorem dX7_type_48 : decode cX7_type 48 = .ok (.getfield 82, 3) := by decide +kernel
theorem dX7_type_51 : decode cX7_type 51 = .ok (.ireturn, 1) := by decide +kernel
theorem dX7_type_11 : decode cX7_type 11 = .ok (.iconst (-1), 1) := by decide +kernel
theorem dX7_type_12 : decode cX7_type 12 = .ok (.ireturn, 1) := by decide +kernel
set_option maxHeartbeats 4000000 in
set_option maxRecDepth 100000 in
theorem c_M_type (l : Launch) (D : va_G) (cI cB cZ cN : ClassId) (h0 : Nat) (m0 : Nat) (m1 : Nat) (m2 : Nat) (m3 : Nat) (m4 : Nat) (m5 : Nat) (m6 : Nat) (m7 : Nat) (m8 : Nat) (m9 : Nat) (m10 : Nat) (m11 : Nat) (m12 : Nat) (m13 : Nat) (m14 : Nat) (m15 : Nat) (m16 : Nat) (m17 : Nat) (m18 : Nat) (m19 : Nat) (v_c : Int32)  : Ci (S := Unit) l D cI cB cZ cN yX7_type wsX7_type ({ frames := 1, cells := 0, slots := 0, locals := 22 } : Room) [.ref h0, .int v_c] [(h0, .inr (7, [.long 0, .ref m0, .int 0, .ref m1, .ref m2, .ref m3, .ref m4, .ref m5, .ref m6, .ref m7, .ref m8, .ref m9, .ref m10, .ref m11, .int 0, .int 0, .int 0, .int 0, .int 0, .int 0, .ref m12, .ref m13, .ref m14, .ref m15, .ref m16, .ref m17, .ref m18, .ref m19, .int 0])), (m0, .inl (cB, 180, .inl zf))] (fun (r : Int32) (_ : Unit) => r = tpA v_c) (fun u => []) := by
  refine bx_of (D := D) (cI := cI) (cB := cB) (cZ := cZ) (cN := cN) (y := yX7_type) (wd := wsX7_type) (rm := ({ frames := 1, cells := 0, slots := 0, locals := 22 } : Room)) (av := [.ref h0, .int v_c]) (wc := [(h0, .inr (7, [.long 0, .ref m0, .int 0, .ref m1, .ref m2, .ref m3, .ref m4, .ref m5, .ref m6, .ref m7, .ref m8, .ref m9, .ref m10, .ref m11, .int 0, .int 0, .int 0, .int 0, .int 0, .int 0, .ref m12, .ref m13, .ref m14, .ref m15, .ref m16, .ref m17, .ref m18, .ref m19, .int 0])), (m0, .inl (cB, 180, .inl zf))]) (cc := cX7_type) (maxL := 2) (ret := (some .int)) (Qc := fun _ A => va_Qi (S := Unit) (fun (r : Int32) (_ : Unit) => r = tpA v_c) (Aft D (fun (u : Unit) => []) A) A) (by decide) rfl (Nat.le_of_ble_eq_true rfl) ?_
  intro p e s m below meth c A H locs ⟨hx, hb, hr, hml, hown, hts, hlk, hnm⟩ hK hP hD hS hA ls hl
  have hl : lv_has ls 2 [(0, .ref h0), (1, .int v_c)] := hl
  have hown : s.vm.findClass RX7 = some m.cls := hown
  refine lv_iload_n hx hb dX7_type_0 rfl (lv_at hl 1 rfl) ?_
  refine lv_iconst (v := 0) hx hb dX7_type_1 (by decide) ?_
  refine lv_sipush (v := 255) hx hb dX7_type_2 (by decide) ?_
  refine be_i (free := va_A [] H.size) (wc := []) (wr := [(h0, .inr (7, [.long 0, .ref m0, .int 0, .ref m1, .ref m2, .ref m3, .ref m4, .ref m5, .ref m6, .ref m7, .ref m8, .ref m9, .ref m10, .ref m11, .int 0, .int 0, .int 0, .int 0, .int 0, .int 0, .ref m12, .ref m13, .ref m14, .ref m15, .ref m16, .ref m17, .ref m18, .ref m19, .int 0])), (m0, .inl (cB, 180, .inl zf))]) (ru_S (As := [.int v_c, .int 0, .int 255]) (rest := []) ⟨hx, hb, hml, hown, hts⟩ (c_M_in l D cI cB cZ cN v_c 0 255 H.size) ggX7_type_X7_in rfl (hts (.initialized RX7) (List.mem_of_getElem? (i := 5) rfl)) (hts (.methodLink RX7 78 yX7_in) (List.mem_of_getElem? (i := 3) rfl)) (hts (.static yX7_in) (List.mem_of_getElem? (i := 4) rfl)) ⟨by decide, by decide, (show Option.map (fun d => d.parameters.length) (parseMethodDescriptor yX7_in.desc) = some 3 by decide +kernel)⟩ ⟨Nat.le_of_ble_eq_true rfl, Nat.le_of_ble_eq_true rfl⟩ hK hP hD [] (by decide) rfl hl.1 rfl (Nat.le_of_ble_eq_true rfl) dX7_type_5 ⟨Nat.le_of_ble_eq_true rfl, Nat.le_of_ble_eq_true rfl⟩) hP hD hS hA [] [0, 1] rfl rfl (by decide) (by decide) (fun r2 u1 H locs w3 hP hD hS => ?_)
  have hP : va_P D vwCl [(h0, .inr (7, [.long 0, .ref m0, .int 0, .ref m1, .ref m2, .ref m3, .ref m4, .ref m5, .ref m6, .ref m7, .ref m8, .ref m9, .ref m10, .ref m11, .int 0, .int 0, .int 0, .int 0, .int 0, .int 0, .ref m12, .ref m13, .ref m14, .ref m15, .ref m16, .ref m17, .ref m18, .ref m19, .int 0])), (m0, .inl (cB, 180, .inl zf))] H := hP
  have hD : va_D A [(h0, .inr (7, [.long 0, .ref m0, .int 0, .ref m1, .ref m2, .ref m3, .ref m4, .ref m5, .ref m6, .ref m7, .ref m8, .ref m9, .ref m10, .ref m11, .int 0, .int 0, .int 0, .int 0, .int 0, .int 0, .ref m12, .ref m13, .ref m14, .ref m15, .ref m16, .ref m17, .ref m18, .ref m19, .int 0])), (m0, .inl (cB, 180, .inl zf))] := hD
  obtain rfl : r2 = inz v_c 0 255 := w3
  refine lv_if_ne (tgt := 13) hx hb dX7_type_8 (by decide) (fun h4 => ?_) (fun h4 => ?_)
  · skip
    refine lv_aload_n hx hb dX7_type_13 rfl (lv_at hl 0 rfl) ?_
    refine va_get (D := D) (ci := 7) (v := .int 0) (C := RX7) (T := TX7) (N := 29) hx hb hts in_X7_type_7 hown hK.1 hP 0 rfl rfl 2 (by decide) (hts (.fieldLink RX7 82 "ChildCoinsModel" "typed" "I") (List.mem_of_getElem? (i := 1) rfl)) (fun _ h9 => h9) rfl dX7_type_14 ?_
    refine lv_sipush (v := 180) hx hb dX7_type_17 (by decide) ?_
    refine lv_icmp_ne (tgt := 26) hx hb dX7_type_20 (by decide) (fun h5 => ?_) (fun h5 => absurd h5 (by decide))
    refine lv_aload_n hx hb dX7_type_26 rfl (lv_at hl 0 rfl) ?_
    refine va_get (D := D) (ci := 7) (v := .ref m0) (C := RX7) (T := TX7) (N := 29) hx hb hts in_X7_type_7 hown hK.1 hP 0 rfl rfl 1 (by decide) (hts (.fieldLink RX7 7 "ChildCoinsModel" "text" "[B") (List.mem_of_getElem? (i := 2) rfl)) (fun _ h9 => h9) rfl dX7_type_27 ?_
    refine lv_aload_n hx hb dX7_type_30 rfl (lv_at hl 0 rfl) ?_
    refine va_get (D := D) (ci := 7) (v := .int 0) (C := RX7) (T := TX7) (N := 29) hx hb hts in_X7_type_7 hown hK.1 hP 0 rfl rfl 2 (by decide) (hts (.fieldLink RX7 82 "ChildCoinsModel" "typed" "I") (List.mem_of_getElem? (i := 1) rfl)) (fun _ h9 => h9) rfl dX7_type_31 ?_
    refine lv_iload_n hx hb dX7_type_34 rfl (lv_at hl 1 rfl) ?_
    refine lv_i2b (v := v_c.toInt8.toInt32) hx hb dX7_type_35 rfl ?_
    refine va_bast hx hb hK.1 hP hD hS 1 1 rfl rfl (vp_in_nI (n := 0) (N := 180) (by decide) (by decide)) dX7_type_36 (fun H locs hP hD hS => ?_)
    have hP : va_P D vwCl [(h0, .inr (7, [.long 0, .ref m0, .int 0, .ref m1, .ref m2, .ref m3, .ref m4, .ref m5, .ref m6, .ref m7, .ref m8, .ref m9, .ref m10, .ref m11, .int 0, .int 0, .int 0, .int 0, .int 0, .int 0, .ref m12, .ref m13, .ref m14, .ref m15, .ref m16, .ref m17, .ref m18, .ref m19, .int 0])), (m0, .inl (cB, 180, .inl (upd zf 0 (vp_nar .byte v_c.toInt8.toInt32))))] H := hP
    have hD : va_D A [(h0, .inr (7, [.long 0, .ref m0, .int 0, .ref m1, .ref m2, .ref m3, .ref m4, .ref m5, .ref m6, .ref m7, .ref m8, .ref m9, .ref m10, .ref m11, .int 0, .int 0, .int 0, .int 0, .int 0, .int 0, .ref m12, .ref m13, .ref m14, .ref m15, .ref m16, .ref m17, .ref m18, .ref m19, .int 0])), (m0, .inl (cB, 180, .inl (upd zf 0 (vp_nar .byte v_c.toInt8.toInt32))))] := hD
    refine lv_aload_n hx hb dX7_type_37 rfl (lv_at hl 0 rfl) ?_
    refine lv_dup hx hb dX7_type_38 rfl ?_
    refine va_get (D := D) (ci := 7) (v := .int 0) (C := RX7) (T := TX7) (N := 29) hx hb hts in_X7_type_7 hown hK.1 hP 0 rfl rfl 2 (by decide) (hts (.fieldLink RX7 82 "ChildCoinsModel" "typed" "I") (List.mem_of_getElem? (i := 1) rfl)) (fun _ h9 => h9) rfl dX7_type_39 ?_
    refine lv_iconst (v := 1) hx hb dX7_type_42 (by decide) ?_
    refine lv_iadd hx hb dX7_type_43 ?_
    refine set_i (y := 1) (by decide) ?_
    refine va_put (D := D) (ci := 7) (v := .int 1) (ty := tyX7 2) (C := RX7) (T := TX7) (N := 29) hx hb hts in_X7_type_7 tyX7 tyX7_ok nmX7 hown hK.1 hP hD hS 0 rfl rfl 2 (by decide) (hts (.fieldLink RX7 82 "ChildCoinsModel" "typed" "I") (List.mem_of_getElem? (i := 1) rfl)) (fun _ h9 => h9) rfl (tyX7_ok 2 (by decide)) rfl rfl (Nat.le_of_ble_eq_true rfl) dX7_type_44 (fun H locs hP hD hS => ?_)
    have hP : va_P D vwCl [(h0, .inr (7, [.long 0, .ref m0, .int 1, .ref m1, .ref m2, .ref m3, .ref m4, .ref m5, .ref m6, .ref m7, .ref m8, .ref m9, .ref m10, .ref m11, .int 0, .int 0, .int 0, .int 0, .int 0, .int 0, .ref m12, .ref m13, .ref m14, .ref m15, .ref m16, .ref m17, .ref m18, .ref m19, .int 0])), (m0, .inl (cB, 180, .inl (upd zf 0 (vp_nar .byte v_c.toInt8.toInt32))))] H := hP
    have hD : va_D A [(h0, .inr (7, [.long 0, .ref m0, .int 1, .ref m1, .ref m2, .ref m3, .ref m4, .ref m5, .ref m6, .ref m7, .ref m8, .ref m9, .ref m10, .ref m11, .int 0, .int 0, .int 0, .int 0, .int 0, .int 0, .ref m12, .ref m13, .ref m14, .ref m15, .ref m16, .ref m17, .ref m18, .ref m19, .int 0])), (m0, .inl (cB, 180, .inl (upd zf 0 (vp_nar .byte v_c.toInt8.toInt32))))] := hD
    refine lv_aload_n hx hb dX7_type_47 rfl (lv_at hl 0 rfl) ?_
    refine va_get (D := D) (ci := 7) (v := .int 1) (C := RX7) (T := TX7) (N := 29) hx hb hts in_X7_type_7 hown hK.1 hP 0 rfl rfl 2 (by decide) (hts (.fieldLink RX7 82 "ChildCoinsModel" "typed" "I") (List.mem_of_getElem? (i := 1) rfl)) (fun _ h9 => h9) rfl dX7_type_48 ?_
    exact en_i hx hb hr hlk hP hD hS () [] (by decide) rfl (Nat.le_of_ble_eq_true rfl) (Nat.le_of_ble_eq_true rfl) dX7_type_51 (if_neg h4).symm
  · skip
    refine lv_iconst (v := -1) hx hb dX7_type_11 (by decide) ?_
    exact en_i hx hb hr hlk hP hD hS () [] (by decide) rfl (Nat.le_of_ble_eq_true rfl) (Nat.le_of_ble_eq_true rfl) dX7_type_12 (if_pos h4).symm
