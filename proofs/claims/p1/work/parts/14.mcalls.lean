theorem dX7_coin_0 : decode cX7_coin 0 = .ok (.aload_n 0, 1) := by decide +kernel
theorem dX7_coin_1 : decode cX7_coin 1 = .ok (.iload_n 1, 1) := by decide +kernel
theorem dX7_coin_2 : decode cX7_coin 2 = .ok (.invokevirtual 142, 3) := by decide +kernel
set_option maxRecDepth 20000 in
theorem ggX7_coin_X7_isCoin : GoodIn wsX7_coin wsX7_isCoin := goodIn_r _ [8, 9, 10, 11, 7, 12, 28, 29, 30, 31, 32, 33, 34, 35, 36, 37, 38, 39, 40, 41, 42, 43, 44, 45, 46, 47, 48, 49, 50, 51, 52, 53, 54, 55, 56] (by decide +kernel) (by decide +kernel)
set_option maxRecDepth 20000 in
theorem gX7_coin_X7_isCoin : GoodIn wsX7_coin (wsV RX7 142 RX7 yX7_isCoin wsX7_isCoin) := goodIn_app (goodIn_of _ (by decide +kernel)) ggX7_coin_X7_isCoin
theorem dX7_coin_5 : decode cX7_coin 5 = .ok (.ifCond .eq 12, 3) := by decide +kernel
theorem dX7_coin_17 : decode cX7_coin 17 = .ok (.iconst (-1), 1) := by decide +kernel
theorem dX7_coin_18 : decode cX7_coin 18 = .ok (.ireturn, 1) := by decide +kernel
set_option maxHeartbeats 4000000 in
set_option maxRecDepth 100000 in
theorem c_M_coin (l : Launch) (D : va_G) (cI cB cZ cN : ClassId) (h0 : Nat) (m0 : Nat) (m1 : Nat) (m2 : Nat) (m3 : Nat) (m4 : Nat) (m5 : Nat) (m6 : Nat) (m7 : Nat) (m8 : Nat) (m9 : Nat) (m10 : Nat) (m11 : Nat) (m12 : Nat) (m13 : Nat) (m14 : Nat) (m15 : Nat) (m16 : Nat) (m17 : Nat) (m18 : Nat) (m19 : Nat) (v_c : Int32) (v_w : Int32)  : Ci (S := Unit) l D cI cB cZ cN yX7_coin wsX7_coin ({ frames := 2, cells := 0, slots := 0, locals := 43 } : Room) [.ref h0, .int v_c, .int v_w] [(h0, .inr (7, [.long 0, .ref m0, .int 0, .ref m1, .ref m2, .ref m3, .ref m4, .ref m5, .ref m6, .ref m7, .ref m8, .ref m9, .ref m10, .ref m11, .int 0, .int 0, .int 0, .int 0, .int 0, .int 0, .ref m12, .ref m13, .ref m14, .ref m15, .ref m16, .ref m17, .ref m18, .ref m19, .int 0])), (m1, .inl (cI, 2, .inl zf))] (fun (r : Int32) (_ : Unit) => r = -1) (fun u => []) := by
  refine bx_of (D := D) (cI := cI) (cB := cB) (cZ := cZ) (cN := cN) (y := yX7_coin) (wd := wsX7_coin) (rm := ({ frames := 2, cells := 0, slots := 0, locals := 43 } : Room)) (av := [.ref h0, .int v_c, .int v_w]) (wc := [(h0, .inr (7, [.long 0, .ref m0, .int 0, .ref m1, .ref m2, .ref m3, .ref m4, .ref m5, .ref m6, .ref m7, .ref m8, .ref m9, .ref m10, .ref m11, .int 0, .int 0, .int 0, .int 0, .int 0, .int 0, .ref m12, .ref m13, .ref m14, .ref m15, .ref m16, .ref m17, .ref m18, .ref m19, .int 0])), (m1, .inl (cI, 2, .inl zf))]) (cc := cX7_coin) (maxL := 5) (ret := (some .int)) (Qc := fun _ A => va_Qi (S := Unit) (fun (r : Int32) (_ : Unit) => r = -1) (Aft D (fun (u : Unit) => []) A) A) (by decide) rfl (Nat.le_of_ble_eq_true rfl) ?_
  intro p e s m below meth c A H locs ⟨hx, hb, hr, hml, hown, hts, hlk, hnm⟩ hK hP hD hS hA ls hl
  have hl : lv_has ls 5 [(0, .ref h0), (1, .int v_c), (2, .int v_w)] := hl
  have hown : s.vm.findClass RX7 = some m.cls := hown
  refine lv_aload_n hx hb dX7_coin_0 rfl (lv_at hl 0 rfl) ?_
  refine lv_iload_n hx hb dX7_coin_1 rfl (lv_at hl 1 rfl) ?_
  refine be_i (free := va_A [(h0, .inr (7, [.long 0, .ref m0, .int 0, .ref m1, .ref m2, .ref m3, .ref m4, .ref m5, .ref m6, .ref m7, .ref m8, .ref m9, .ref m10, .ref m11, .int 0, .int 0, .int 0, .int 0, .int 0, .int 0, .ref m12, .ref m13, .ref m14, .ref m15, .ref m16, .ref m17, .ref m18, .ref m19, .int 0])), (m1, .inl (cI, 2, .inl zf))] H.size) (wc := [(h0, .inr (7, [.long 0, .ref m0, .int 0, .ref m1, .ref m2, .ref m3, .ref m4, .ref m5, .ref m6, .ref m7, .ref m8, .ref m9, .ref m10, .ref m11, .int 0, .int 0, .int 0, .int 0, .int 0, .int 0, .ref m12, .ref m13, .ref m14, .ref m15, .ref m16, .ref m17, .ref m18, .ref m19, .int 0])), (m1, .inl (cI, 2, .inl zf))]) (wr := []) (ru_V (As := [.int v_c]) (rest := []) ⟨hx, hb, hml, hown, hts⟩ (c_M_isCoin l D cI cB cZ cN h0 m0 m1 m2 m3 m4 m5 m6 m7 m8 m9 m10 m11 m12 m13 m14 m15 m16 m17 m18 m19 v_c H.size) gX7_coin_X7_isCoin rfl ⟨rfl, by decide, by decide, (show Option.map (fun d => d.parameters.length) (parseMethodDescriptor yX7_isCoin.desc) = some 1 by decide +kernel)⟩ ⟨Nat.le_of_ble_eq_true rfl, Nat.le_of_ble_eq_true rfl⟩ hK hP hD 7 0 rfl rfl [0, 1] (by decide) rfl hl.1 rfl (Nat.le_of_ble_eq_true rfl) dX7_coin_2 ⟨Nat.le_of_ble_eq_true rfl, Nat.le_of_ble_eq_true rfl⟩) hP hD hS hA [0, 1] [] rfl rfl (by decide) (by decide) (fun r2 u1 H locs w3 hP hD hS => ?_)
  have hP : va_P D vwCl [(h0, .inr (7, [.long 0, .ref m0, .int 0, .ref m1, .ref m2, .ref m3, .ref m4, .ref m5, .ref m6, .ref m7, .ref m8, .ref m9, .ref m10, .ref m11, .int 0, .int 0, .int 0, .int 0, .int 0, .int 0, .ref m12, .ref m13, .ref m14, .ref m15, .ref m16, .ref m17, .ref m18, .ref m19, .int 0])), (m1, .inl (cI, 2, .inl zf))] H := hP
  have hD : va_D A [(h0, .inr (7, [.long 0, .ref m0, .int 0, .ref m1, .ref m2, .ref m3, .ref m4, .ref m5, .ref m6, .ref m7, .ref m8, .ref m9, .ref m10, .ref m11, .int 0, .int 0, .int 0, .int 0, .int 0, .int 0, .ref m12, .ref m13, .ref m14, .ref m15, .ref m16, .ref m17, .ref m18, .ref m19, .int 0])), (m1, .inl (cI, 2, .inl zf))] := hD
  obtain rfl : r2 = 0 := w3
  refine lv_if_eq (tgt := 17) hx hb dX7_coin_5 (by decide) (fun h4 => ?_) (fun h4 => absurd (by decide) h4)
  refine lv_iconst (v := -1) hx hb dX7_coin_17 (by decide) ?_
  exact en_i hx hb hr hlk hP hD hS () [] (by decide) rfl (Nat.le_of_ble_eq_true rfl) (Nat.le_of_ble_eq_true rfl) dX7_coin_18 rfl
theorem dX7_person_0 : decode cX7_person 0 = .ok (.aload_n 0, 1) := by decide +kernel
theorem dX7_person_1 : decode cX7_person 1 = .ok (.iload_n 1, 1) := by decide +kernel
theorem dX7_person_2 : decode cX7_person 2 = .ok (.invokevirtual 145, 3) := by decide +kernel
set_option maxRecDepth 20000 in
theorem ggX7_person_X7_isPerson : GoodIn wsX7_person wsX7_isPerson := goodIn_r _ [7, 8, 9, 10, 6, 11, 36, 37, 38, 39, 40, 41, 42, 43, 44, 45, 46, 47, 48, 49, 50, 51, 52, 53, 54, 55, 56, 57, 58, 59, 60, 61, 62, 63, 64] (by decide +kernel) (by decide +kernel)
set_option maxRecDepth 20000 in
theorem gX7_person_X7_isPerson : GoodIn wsX7_person (wsV RX7 145 RX7 yX7_isPerson wsX7_isPerson) := goodIn_app (goodIn_of _ (by decide +kernel)) ggX7_person_X7_isPerson
theorem dX7_person_5 : decode cX7_person 5 = .ok (.ifCond .eq 12, 3) := by decide +kernel
theorem dX7_person_17 : decode cX7_person 17 = .ok (.iconst (-1), 1) := by decide +kernel
theorem dX7_person_18 : decode cX7_person 18 = .ok (.ireturn, 1) := by decide +kernel
set_option maxHeartbeats 4000000 in
set_option maxRecDepth 100000 in
theorem c_M_person (l : Launch) (D : va_G) (cI cB cZ cN : ClassId) (h0 : Nat) (m0 : Nat) (m1 : Nat) (m2 : Nat) (m3 : Nat) (m4 : Nat) (m5 : Nat) (m6 : Nat) (m7 : Nat) (m8 : Nat) (m9 : Nat) (m10 : Nat) (m11 : Nat) (m12 : Nat) (m13 : Nat) (m14 : Nat) (m15 : Nat) (m16 : Nat) (m17 : Nat) (m18 : Nat) (m19 : Nat) (v_c : Int32) (v_w : Int32)  : Ci (S := Unit) l D cI cB cZ cN yX7_person wsX7_person ({ frames := 2, cells := 0, slots := 0, locals := 43 } : Room) [.ref h0, .int v_c, .int v_w] [(h0, .inr (7, [.long 0, .ref m0, .int 0, .ref m1, .ref m2, .ref m3, .ref m4, .ref m5, .ref m6, .ref m7, .ref m8, .ref m9, .ref m10, .ref m11, .int 0, .int 0, .int 0, .int 0, .int 0, .int 0, .ref m12, .ref m13, .ref m14, .ref m15, .ref m16, .ref m17, .ref m18, .ref m19, .int 0])), (m4, .inl (cI, 2, .inl zf))] (fun (r : Int32) (_ : Unit) => r = -1) (fun u => []) := by
  refine bx_of (D := D) (cI := cI) (cB := cB) (cZ := cZ) (cN := cN) (y := yX7_person) (wd := wsX7_person) (rm := ({ frames := 2, cells := 0, slots := 0, locals := 43 } : Room)) (av := [.ref h0, .int v_c, .int v_w]) (wc := [(h0, .inr (7, [.long 0, .ref m0, .int 0, .ref m1, .ref m2, .ref m3, .ref m4, .ref m5, .ref m6, .ref m7, .ref m8, .ref m9, .ref m10, .ref m11, .int 0, .int 0, .int 0, .int 0, .int 0, .int 0, .ref m12, .ref m13, .ref m14, .ref m15, .ref m16, .ref m17, .ref m18, .ref m19, .int 0])), (m4, .inl (cI, 2, .inl zf))]) (cc := cX7_person) (maxL := 5) (ret := (some .int)) (Qc := fun _ A => va_Qi (S := Unit) (fun (r : Int32) (_ : Unit) => r = -1) (Aft D (fun (u : Unit) => []) A) A) (by decide) rfl (Nat.le_of_ble_eq_true rfl) ?_
  intro p e s m below meth c A H locs ⟨hx, hb, hr, hml, hown, hts, hlk, hnm⟩ hK hP hD hS hA ls hl
  have hl : lv_has ls 5 [(0, .ref h0), (1, .int v_c), (2, .int v_w)] := hl
  have hown : s.vm.findClass RX7 = some m.cls := hown
  refine lv_aload_n hx hb dX7_person_0 rfl (lv_at hl 0 rfl) ?_
  refine lv_iload_n hx hb dX7_person_1 rfl (lv_at hl 1 rfl) ?_
  refine be_i (free := va_A [(h0, .inr (7, [.long 0, .ref m0, .int 0, .ref m1, .ref m2, .ref m3, .ref m4, .ref m5, .ref m6, .ref m7, .ref m8, .ref m9, .ref m10, .ref m11, .int 0, .int 0, .int 0, .int 0, .int 0, .int 0, .ref m12, .ref m13, .ref m14, .ref m15, .ref m16, .ref m17, .ref m18, .ref m19, .int 0])), (m4, .inl (cI, 2, .inl zf))] H.size) (wc := [(h0, .inr (7, [.long 0, .ref m0, .int 0, .ref m1, .ref m2, .ref m3, .ref m4, .ref m5, .ref m6, .ref m7, .ref m8, .ref m9, .ref m10, .ref m11, .int 0, .int 0, .int 0, .int 0, .int 0, .int 0, .ref m12, .ref m13, .ref m14, .ref m15, .ref m16, .ref m17, .ref m18, .ref m19, .int 0])), (m4, .inl (cI, 2, .inl zf))]) (wr := []) (ru_V (As := [.int v_c]) (rest := []) ⟨hx, hb, hml, hown, hts⟩ (c_M_isPerson l D cI cB cZ cN h0 m0 m1 m2 m3 m4 m5 m6 m7 m8 m9 m10 m11 m12 m13 m14 m15 m16 m17 m18 m19 v_c H.size) gX7_person_X7_isPerson rfl ⟨rfl, by decide, by decide, (show Option.map (fun d => d.parameters.length) (parseMethodDescriptor yX7_isPerson.desc) = some 1 by decide +kernel)⟩ ⟨Nat.le_of_ble_eq_true rfl, Nat.le_of_ble_eq_true rfl⟩ hK hP hD 7 0 rfl rfl [0, 1] (by decide) rfl hl.1 rfl (Nat.le_of_ble_eq_true rfl) dX7_person_2 ⟨Nat.le_of_ble_eq_true rfl, Nat.le_of_ble_eq_true rfl⟩) hP hD hS hA [0, 1] [] rfl rfl (by decide) (by decide) (fun r2 u1 H locs w3 hP hD hS => ?_)
  have hP : va_P D vwCl [(h0, .inr (7, [.long 0, .ref m0, .int 0, .ref m1, .ref m2, .ref m3, .ref m4, .ref m5, .ref m6, .ref m7, .ref m8, .ref m9, .ref m10, .ref m11, .int 0, .int 0, .int 0, .int 0, .int 0, .int 0, .ref m12, .ref m13, .ref m14, .ref m15, .ref m16, .ref m17, .ref m18, .ref m19, .int 0])), (m4, .inl (cI, 2, .inl zf))] H := hP
  have hD : va_D A [(h0, .inr (7, [.long 0, .ref m0, .int 0, .ref m1, .ref m2, .ref m3, .ref m4, .ref m5, .ref m6, .ref m7, .ref m8, .ref m9, .ref m10, .ref m11, .int 0, .int 0, .int 0, .int 0, .int 0, .int 0, .ref m12, .ref m13, .ref m14, .ref m15, .ref m16, .ref m17, .ref m18, .ref m19, .int 0])), (m4, .inl (cI, 2, .inl zf))] := hD
  obtain rfl : r2 = 0 := w3
  refine lv_if_eq (tgt := 17) hx hb dX7_person_5 (by decide) (fun h4 => ?_) (fun h4 => absurd (by decide) h4)
  refine lv_iconst (v := -1) hx hb dX7_person_17 (by decide) ?_
  exact en_i hx hb hr hlk hP hD hS () [] (by decide) rfl (Nat.le_of_ble_eq_true rfl) (Nat.le_of_ble_eq_true rfl) dX7_person_18 rfl
theorem dX7_holds_0 : decode cX7_holds 0 = .ok (.aload_n 0, 1) := by decide +kernel
theorem dX7_holds_1 : decode cX7_holds 1 = .ok (.iload_n 1, 1) := by decide +kernel
theorem dX7_holds_2 : decode cX7_holds 2 = .ok (.invokevirtual 145, 3) := by decide +kernel
set_option maxRecDepth 20000 in
theorem ggX7_holds_X7_isPerson : GoodIn wsX7_holds wsX7_isPerson := goodIn_r _ [6, 7, 8, 9, 5, 10, 16, 17, 18, 19, 20, 21, 22, 23, 24, 25, 26, 27, 28, 29, 30, 31, 32, 33, 34, 35, 36, 37, 38, 39, 40, 41, 42, 43, 44] (by decide +kernel) (by decide +kernel)
set_option maxRecDepth 20000 in
theorem gX7_holds_X7_isPerson : GoodIn wsX7_holds (wsV RX7 145 RX7 yX7_isPerson wsX7_isPerson) := goodIn_app (goodIn_of _ (by decide +kernel)) ggX7_holds_X7_isPerson
theorem dX7_holds_5 : decode cX7_holds 5 = .ok (.ifCond .eq 25, 3) := by decide +kernel
theorem dX7_holds_30 : decode cX7_holds 30 = .ok (.iconst (-1), 1) := by decide +kernel
theorem dX7_holds_31 : decode cX7_holds 31 = .ok (.ireturn, 1) := by decide +kernel
set_option maxHeartbeats 4000000 in
set_option maxRecDepth 100000 in
theorem c_M_holds (l : Launch) (D : va_G) (cI cB cZ cN : ClassId) (h0 : Nat) (m0 : Nat) (m1 : Nat) (m2 : Nat) (m3 : Nat) (m4 : Nat) (m5 : Nat) (m6 : Nat) (m7 : Nat) (m8 : Nat) (m9 : Nat) (m10 : Nat) (m11 : Nat) (m12 : Nat) (m13 : Nat) (m14 : Nat) (m15 : Nat) (m16 : Nat) (m17 : Nat) (m18 : Nat) (m19 : Nat) (v_c : Int32) (v_w : Int32)  : Ci (S := Unit) l D cI cB cZ cN yX7_holds wsX7_holds ({ frames := 2, cells := 0, slots := 0, locals := 43 } : Room) [.ref h0, .int v_c, .int v_w] [(h0, .inr (7, [.long 0, .ref m0, .int 0, .ref m1, .ref m2, .ref m3, .ref m4, .ref m5, .ref m6, .ref m7, .ref m8, .ref m9, .ref m10, .ref m11, .int 0, .int 0, .int 0, .int 0, .int 0, .int 0, .ref m12, .ref m13, .ref m14, .ref m15, .ref m16, .ref m17, .ref m18, .ref m19, .int 0])), (m4, .inl (cI, 2, .inl zf))] (fun (r : Int32) (_ : Unit) => r = -1) (fun u => []) := by
  refine bx_of (D := D) (cI := cI) (cB := cB) (cZ := cZ) (cN := cN) (y := yX7_holds) (wd := wsX7_holds) (rm := ({ frames := 2, cells := 0, slots := 0, locals := 43 } : Room)) (av := [.ref h0, .int v_c, .int v_w]) (wc := [(h0, .inr (7, [.long 0, .ref m0, .int 0, .ref m1, .ref m2, .ref m3, .ref m4, .ref m5, .ref m6, .ref m7, .ref m8, .ref m9, .ref m10, .ref m11, .int 0, .int 0, .int 0, .int 0, .int 0, .int 0, .ref m12, .ref m13, .ref m14, .ref m15, .ref m16, .ref m17, .ref m18, .ref m19, .int 0])), (m4, .inl (cI, 2, .inl zf))]) (cc := cX7_holds) (maxL := 3) (ret := (some .int)) (Qc := fun _ A => va_Qi (S := Unit) (fun (r : Int32) (_ : Unit) => r = -1) (Aft D (fun (u : Unit) => []) A) A) (by decide) rfl (Nat.le_of_ble_eq_true rfl) ?_
  intro p e s m below meth c A H locs ⟨hx, hb, hr, hml, hown, hts, hlk, hnm⟩ hK hP hD hS hA ls hl
  have hl : lv_has ls 3 [(0, .ref h0), (1, .int v_c), (2, .int v_w)] := hl
  have hown : s.vm.findClass RX7 = some m.cls := hown
  refine lv_aload_n hx hb dX7_holds_0 rfl (lv_at hl 0 rfl) ?_
  refine lv_iload_n hx hb dX7_holds_1 rfl (lv_at hl 1 rfl) ?_
  refine be_i (free := va_A [(h0, .inr (7, [.long 0, .ref m0, .int 0, .ref m1, .ref m2, .ref m3, .ref m4, .ref m5, .ref m6, .ref m7, .ref m8, .ref m9, .ref m10, .ref m11, .int 0, .int 0, .int 0, .int 0, .int 0, .int 0, .ref m12, .ref m13, .ref m14, .ref m15, .ref m16, .ref m17, .ref m18, .ref m19, .int 0])), (m4, .inl (cI, 2, .inl zf))] H.size) (wc := [(h0, .inr (7, [.long 0, .ref m0, .int 0, .ref m1, .ref m2, .ref m3, .ref m4, .ref m5, .ref m6, .ref m7, .ref m8, .ref m9, .ref m10, .ref m11, .int 0, .int 0, .int 0, .int 0, .int 0, .int 0, .ref m12, .ref m13, .ref m14, .ref m15, .ref m16, .ref m17, .ref m18, .ref m19, .int 0])), (m4, .inl (cI, 2, .inl zf))]) (wr := []) (ru_V (As := [.int v_c]) (rest := []) ⟨hx, hb, hml, hown, hts⟩ (c_M_isPerson l D cI cB cZ cN h0 m0 m1 m2 m3 m4 m5 m6 m7 m8 m9 m10 m11 m12 m13 m14 m15 m16 m17 m18 m19 v_c H.size) gX7_holds_X7_isPerson rfl ⟨rfl, by decide, by decide, (show Option.map (fun d => d.parameters.length) (parseMethodDescriptor yX7_isPerson.desc) = some 1 by decide +kernel)⟩ ⟨Nat.le_of_ble_eq_true rfl, Nat.le_of_ble_eq_true rfl⟩ hK hP hD 7 0 rfl rfl [0, 1] (by decide) rfl hl.1 rfl (Nat.le_of_ble_eq_true rfl) dX7_holds_2 ⟨Nat.le_of_ble_eq_true rfl, Nat.le_of_ble_eq_true rfl⟩) hP hD hS hA [0, 1] [] rfl rfl (by decide) (by decide) (fun r2 u1 H locs w3 hP hD hS => ?_)
  have hP : va_P D vwCl [(h0, .inr (7, [.long 0, .ref m0, .int 0, .ref m1, .ref m2, .ref m3, .ref m4, .ref m5, .ref m6, .ref m7, .ref m8, .ref m9, .ref m10, .ref m11, .int 0, .int 0, .int 0, .int 0, .int 0, .int 0, .ref m12, .ref m13, .ref m14, .ref m15, .ref m16, .ref m17, .ref m18, .ref m19, .int 0])), (m4, .inl (cI, 2, .inl zf))] H := hP
  have hD : va_D A [(h0, .inr (7, [.long 0, .ref m0, .int 0, .ref m1, .ref m2, .ref m3, .ref m4, .ref m5, .ref m6, .ref m7, .ref m8, .ref m9, .ref m10, .ref m11, .int 0, .int 0, .int 0, .int 0, .int 0, .int 0, .ref m12, .ref m13, .ref m14, .ref m15, .ref m16, .ref m17, .ref m18, .ref m19, .int 0])), (m4, .inl (cI, 2, .inl zf))] := hD
  obtain rfl : r2 = 0 := w3
  refine lv_if_eq (tgt := 30) hx hb dX7_holds_5 (by decide) (fun h4 => ?_) (fun h4 => absurd (by decide) h4)
  refine lv_iconst (v := -1) hx hb dX7_holds_30 (by decide) ?_
  exact en_i hx hb hr hlk hP hD hS () [] (by decide) rfl (Nat.le_of_ble_eq_true rfl) (Nat.le_of_ble_eq_true rfl) dX7_holds_31 rfl
theorem dX7_debt_0 : decode cX7_debt 0 = .ok (.aload_n 0, 1) := by decide +kernel
theorem dX7_debt_1 : decode cX7_debt 1 = .ok (.iload_n 1, 1) := by decide +kernel
theorem dX7_debt_2 : decode cX7_debt 2 = .ok (.invokevirtual 165, 3) := by decide +kernel
set_option maxRecDepth 20000 in
theorem ggX7_debt_X7_isDebt : GoodIn wsX7_debt wsX7_isDebt := goodIn_r _ [8, 9, 10, 11, 7, 12, 62, 63, 64, 65, 66, 67, 68, 69, 70, 71, 72, 73, 74, 75, 76, 77, 78, 79, 80, 81, 82, 83, 84, 85, 86, 87, 88, 89, 90] (by decide +kernel) (by decide +kernel)
set_option maxRecDepth 20000 in
theorem gX7_debt_X7_isDebt : GoodIn wsX7_debt (wsV RX7 165 RX7 yX7_isDebt wsX7_isDebt) := goodIn_app (goodIn_of _ (by decide +kernel)) ggX7_debt_X7_isDebt
theorem dX7_debt_5 : decode cX7_debt 5 = .ok (.ifCond .ne 5, 3) := by decide +kernel
theorem dX7_debt_8 : decode cX7_debt 8 = .ok (.iconst (-1), 1) := by decide +kernel
theorem dX7_debt_9 : decode cX7_debt 9 = .ok (.ireturn, 1) := by decide +kernel
set_option maxHeartbeats 4000000 in
set_option maxRecDepth 100000 in
theorem c_M_debt (l : Launch) (D : va_G) (cI cB cZ cN : ClassId) (h0 : Nat) (m0 : Nat) (m1 : Nat) (m2 : Nat) (m3 : Nat) (m4 : Nat) (m5 : Nat) (m6 : Nat) (m7 : Nat) (m8 : Nat) (m9 : Nat) (m10 : Nat) (m11 : Nat) (m12 : Nat) (m13 : Nat) (m14 : Nat) (m15 : Nat) (m16 : Nat) (m17 : Nat) (m18 : Nat) (m19 : Nat) (v_c : Int32) (v_w : Int32)  : Ci (S := Unit) l D cI cB cZ cN yX7_debt wsX7_debt ({ frames := 2, cells := 0, slots := 0, locals := 43 } : Room) [.ref h0, .int v_c, .int v_w] [(h0, .inr (7, [.long 0, .ref m0, .int 0, .ref m1, .ref m2, .ref m3, .ref m4, .ref m5, .ref m6, .ref m7, .ref m8, .ref m9, .ref m10, .ref m11, .int 0, .int 0, .int 0, .int 0, .int 0, .int 0, .ref m12, .ref m13, .ref m14, .ref m15, .ref m16, .ref m17, .ref m18, .ref m19, .int 0])), (m7, .inl (cI, 2, .inl zf))] (fun (r : Int32) (_ : Unit) => r = -1) (fun u => []) := by
  refine bx_of (D := D) (cI := cI) (cB := cB) (cZ := cZ) (cN := cN) (y := yX7_debt) (wd := wsX7_debt) (rm := ({ frames := 2, cells := 0, slots := 0, locals := 43 } : Room)) (av := [.ref h0, .int v_c, .int v_w]) (wc := [(h0, .inr (7, [.long 0, .ref m0, .int 0, .ref m1, .ref m2, .ref m3, .ref m4, .ref m5, .ref m6, .ref m7, .ref m8, .ref m9, .ref m10, .ref m11, .int 0, .int 0, .int 0, .int 0, .int 0, .int 0, .ref m12, .ref m13, .ref m14, .ref m15, .ref m16, .ref m17, .ref m18, .ref m19, .int 0])), (m7, .inl (cI, 2, .inl zf))]) (cc := cX7_debt) (maxL := 3) (ret := (some .int)) (Qc := fun _ A => va_Qi (S := Unit) (fun (r : Int32) (_ : Unit) => r = -1) (Aft D (fun (u : Unit) => []) A) A) (by decide) rfl (Nat.le_of_ble_eq_true rfl) ?_
  intro p e s m below meth c A H locs ⟨hx, hb, hr, hml, hown, hts, hlk, hnm⟩ hK hP hD hS hA ls hl
  have hl : lv_has ls 3 [(0, .ref h0), (1, .int v_c), (2, .int v_w)] := hl
  have hown : s.vm.findClass RX7 = some m.cls := hown
  refine lv_aload_n hx hb dX7_debt_0 rfl (lv_at hl 0 rfl) ?_
  refine lv_iload_n hx hb dX7_debt_1 rfl (lv_at hl 1 rfl) ?_
  refine be_i (free := va_A [(h0, .inr (7, [.long 0, .ref m0, .int 0, .ref m1, .ref m2, .ref m3, .ref m4, .ref m5, .ref m6, .ref m7, .ref m8, .ref m9, .ref m10, .ref m11, .int 0, .int 0, .int 0, .int 0, .int 0, .int 0, .ref m12, .ref m13, .ref m14, .ref m15, .ref m16, .ref m17, .ref m18, .ref m19, .int 0])), (m7, .inl (cI, 2, .inl zf))] H.size) (wc := [(h0, .inr (7, [.long 0, .ref m0, .int 0, .ref m1, .ref m2, .ref m3, .ref m4, .ref m5, .ref m6, .ref m7, .ref m8, .ref m9, .ref m10, .ref m11, .int 0, .int 0, .int 0, .int 0, .int 0, .int 0, .ref m12, .ref m13, .ref m14, .ref m15, .ref m16, .ref m17, .ref m18, .ref m19, .int 0])), (m7, .inl (cI, 2, .inl zf))]) (wr := []) (ru_V (As := [.int v_c]) (rest := []) ⟨hx, hb, hml, hown, hts⟩ (c_M_isDebt l D cI cB cZ cN h0 m0 m1 m2 m3 m4 m5 m6 m7 m8 m9 m10 m11 m12 m13 m14 m15 m16 m17 m18 m19 v_c H.size) gX7_debt_X7_isDebt rfl ⟨rfl, by decide, by decide, (show Option.map (fun d => d.parameters.length) (parseMethodDescriptor yX7_isDebt.desc) = some 1 by decide +kernel)⟩ ⟨Nat.le_of_ble_eq_true rfl, Nat.le_of_ble_eq_true rfl⟩ hK hP hD 7 0 rfl rfl [0, 1] (by decide) rfl hl.1 rfl (Nat.le_of_ble_eq_true rfl) dX7_debt_2 ⟨Nat.le_of_ble_eq_true rfl, Nat.le_of_ble_eq_true rfl⟩) hP hD hS hA [0, 1] [] rfl rfl (by decide) (by decide) (fun r2 u1 H locs w3 hP hD hS => ?_)
  have hP : va_P D vwCl [(h0, .inr (7, [.long 0, .ref m0, .int 0, .ref m1, .ref m2, .ref m3, .ref m4, .ref m5, .ref m6, .ref m7, .ref m8, .ref m9, .ref m10, .ref m11, .int 0, .int 0, .int 0, .int 0, .int 0, .int 0, .ref m12, .ref m13, .ref m14, .ref m15, .ref m16, .ref m17, .ref m18, .ref m19, .int 0])), (m7, .inl (cI, 2, .inl zf))] H := hP
  have hD : va_D A [(h0, .inr (7, [.long 0, .ref m0, .int 0, .ref m1, .ref m2, .ref m3, .ref m4, .ref m5, .ref m6, .ref m7, .ref m8, .ref m9, .ref m10, .ref m11, .int 0, .int 0, .int 0, .int 0, .int 0, .int 0, .ref m12, .ref m13, .ref m14, .ref m15, .ref m16, .ref m17, .ref m18, .ref m19, .int 0])), (m7, .inl (cI, 2, .inl zf))] := hD
  obtain rfl : r2 = 0 := w3
  refine lv_if_ne (tgt := 10) hx hb dX7_debt_5 (by decide) (fun h4 => absurd (by decide) h4) (fun h4 => ?_)
  refine lv_iconst (v := -1) hx hb dX7_debt_8 (by decide) ?_
  exact en_i hx hb hr hlk hP hD hS () [] (by decide) rfl (Nat.le_of_ble_eq_true rfl) (Nat.le_of_ble_eq_true rfl) dX7_debt_9 rfl
theorem dX7_pays_0 : decode cX7_pays 0 = .ok (.aload_n 0, 1) := by decide +kernel
theorem dX7_pays_1 : decode cX7_pays 1 = .ok (.iload_n 1, 1) := by decide +kernel
theorem dX7_pays_2 : decode cX7_pays 2 = .ok (.invokevirtual 165, 3) := by decide +kernel
set_option maxRecDepth 20000 in
theorem ggX7_pays_X7_isDebt : GoodIn wsX7_pays wsX7_isDebt := goodIn_r _ [7, 8, 9, 10, 6, 11, 57, 58, 59, 60, 61, 62, 63, 64, 65, 66, 67, 68, 69, 70, 71, 72, 73, 74, 75, 76, 77, 78, 79, 80, 81, 82, 83, 84, 85] (by decide +kernel) (by decide +kernel)
set_option maxRecDepth 20000 in
theorem gX7_pays_X7_isDebt : GoodIn wsX7_pays (wsV RX7 165 RX7 yX7_isDebt wsX7_isDebt) := goodIn_app (goodIn_of _ (by decide +kernel)) ggX7_pays_X7_isDebt
theorem dX7_pays_5 : decode cX7_pays 5 = .ok (.ifCond .ne 5, 3) := by decide +kernel
theorem dX7_pays_8 : decode cX7_pays 8 = .ok (.iconst (-1), 1) := by decide +kernel
theorem dX7_pays_9 : decode cX7_pays 9 = .ok (.ireturn, 1) := by decide +kernel
set_option maxHeartbeats 4000000 in
set_option maxRecDepth 100000 in
theorem c_M_pays (l : Launch) (D : va_G) (cI cB cZ cN : ClassId) (h0 : Nat) (m0 : Nat) (m1 : Nat) (m2 : Nat) (m3 : Nat) (m4 : Nat) (m5 : Nat) (m6 : Nat) (m7 : Nat) (m8 : Nat) (m9 : Nat) (m10 : Nat) (m11 : Nat) (m12 : Nat) (m13 : Nat) (m14 : Nat) (m15 : Nat) (m16 : Nat) (m17 : Nat) (m18 : Nat) (m19 : Nat) (v_c : Int32)  : Ci (S := Unit) l D cI cB cZ cN yX7_pays wsX7_pays ({ frames := 2, cells := 0, slots := 0, locals := 43 } : Room) [.ref h0, .int v_c] [(h0, .inr (7, [.long 0, .ref m0, .int 0, .ref m1, .ref m2, .ref m3, .ref m4, .ref m5, .ref m6, .ref m7, .ref m8, .ref m9, .ref m10, .ref m11, .int 0, .int 0, .int 0, .int 0, .int 0, .int 0, .ref m12, .ref m13, .ref m14, .ref m15, .ref m16, .ref m17, .ref m18, .ref m19, .int 0])), (m7, .inl (cI, 2, .inl zf))] (fun (r : Int32) (_ : Unit) => r = -1) (fun u => []) := by
  refine bx_of (D := D) (cI := cI) (cB := cB) (cZ := cZ) (cN := cN) (y := yX7_pays) (wd := wsX7_pays) (rm := ({ frames := 2, cells := 0, slots := 0, locals := 43 } : Room)) (av := [.ref h0, .int v_c]) (wc := [(h0, .inr (7, [.long 0, .ref m0, .int 0, .ref m1, .ref m2, .ref m3, .ref m4, .ref m5, .ref m6, .ref m7, .ref m8, .ref m9, .ref m10, .ref m11, .int 0, .int 0, .int 0, .int 0, .int 0, .int 0, .ref m12, .ref m13, .ref m14, .ref m15, .ref m16, .ref m17, .ref m18, .ref m19, .int 0])), (m7, .inl (cI, 2, .inl zf))]) (cc := cX7_pays) (maxL := 4) (ret := (some .int)) (Qc := fun _ A => va_Qi (S := Unit) (fun (r : Int32) (_ : Unit) => r = -1) (Aft D (fun (u : Unit) => []) A) A) (by decide) rfl (Nat.le_of_ble_eq_true rfl) ?_
  intro p e s m below meth c A H locs ⟨hx, hb, hr, hml, hown, hts, hlk, hnm⟩ hK hP hD hS hA ls hl
  have hl : lv_has ls 4 [(0, .ref h0), (1, .int v_c)] := hl
  have hown : s.vm.findClass RX7 = some m.cls := hown
  refine lv_aload_n hx hb dX7_pays_0 rfl (lv_at hl 0 rfl) ?_
  refine lv_iload_n hx hb dX7_pays_1 rfl (lv_at hl 1 rfl) ?_
  refine be_i (free := va_A [(h0, .inr (7, [.long 0, .ref m0, .int 0, .ref m1, .ref m2, .ref m3, .ref m4, .ref m5, .ref m6, .ref m7, .ref m8, .ref m9, .ref m10, .ref m11, .int 0, .int 0, .int 0, .int 0, .int 0, .int 0, .ref m12, .ref m13, .ref m14, .ref m15, .ref m16, .ref m17, .ref m18, .ref m19, .int 0])), (m7, .inl (cI, 2, .inl zf))] H.size) (wc := [(h0, .inr (7, [.long 0, .ref m0, .int 0, .ref m1, .ref m2, .ref m3, .ref m4, .ref m5, .ref m6, .ref m7, .ref m8, .ref m9, .ref m10, .ref m11, .int 0, .int 0, .int 0, .int 0, .int 0, .int 0, .ref m12, .ref m13, .ref m14, .ref m15, .ref m16, .ref m17, .ref m18, .ref m19, .int 0])), (m7, .inl (cI, 2, .inl zf))]) (wr := []) (ru_V (As := [.int v_c]) (rest := []) ⟨hx, hb, hml, hown, hts⟩ (c_M_isDebt l D cI cB cZ cN h0 m0 m1 m2 m3 m4 m5 m6 m7 m8 m9 m10 m11 m12 m13 m14 m15 m16 m17 m18 m19 v_c H.size) gX7_pays_X7_isDebt rfl ⟨rfl, by decide, by decide, (show Option.map (fun d => d.parameters.length) (parseMethodDescriptor yX7_isDebt.desc) = some 1 by decide +kernel)⟩ ⟨Nat.le_of_ble_eq_true rfl, Nat.le_of_ble_eq_true rfl⟩ hK hP hD 7 0 rfl rfl [0, 1] (by decide) rfl hl.1 rfl (Nat.le_of_ble_eq_true rfl) dX7_pays_2 ⟨Nat.le_of_ble_eq_true rfl, Nat.le_of_ble_eq_true rfl⟩) hP hD hS hA [0, 1] [] rfl rfl (by decide) (by decide) (fun r2 u1 H locs w3 hP hD hS => ?_)
  have hP : va_P D vwCl [(h0, .inr (7, [.long 0, .ref m0, .int 0, .ref m1, .ref m2, .ref m3, .ref m4, .ref m5, .ref m6, .ref m7, .ref m8, .ref m9, .ref m10, .ref m11, .int 0, .int 0, .int 0, .int 0, .int 0, .int 0, .ref m12, .ref m13, .ref m14, .ref m15, .ref m16, .ref m17, .ref m18, .ref m19, .int 0])), (m7, .inl (cI, 2, .inl zf))] H := hP
  have hD : va_D A [(h0, .inr (7, [.long 0, .ref m0, .int 0, .ref m1, .ref m2, .ref m3, .ref m4, .ref m5, .ref m6, .ref m7, .ref m8, .ref m9, .ref m10, .ref m11, .int 0, .int 0, .int 0, .int 0, .int 0, .int 0, .ref m12, .ref m13, .ref m14, .ref m15, .ref m16, .ref m17, .ref m18, .ref m19, .int 0])), (m7, .inl (cI, 2, .inl zf))] := hD
  obtain rfl : r2 = 0 := w3
  refine lv_if_ne (tgt := 10) hx hb dX7_pays_5 (by decide) (fun h4 => absurd (by decide) h4) (fun h4 => ?_)
  refine lv_iconst (v := -1) hx hb dX7_pays_8 (by decide) ?_
  exact en_i hx hb hr hlk hP hD hS () [] (by decide) rfl (Nat.le_of_ble_eq_true rfl) (Nat.le_of_ble_eq_true rfl) dX7_pays_9 rfl
theorem dX7_trades_0 : decode cX7_trades 0 = .ok (.aload_n 0, 1) := by decide +kernel
theorem dX7_trades_1 : decode cX7_trades 1 = .ok (.iload_n 1, 1) := by decide +kernel
theorem dX7_trades_2 : decode cX7_trades 2 = .ok (.invokevirtual 145, 3) := by decide +kernel
set_option maxRecDepth 20000 in
theorem ggX7_trades_X7_isPerson : GoodIn wsX7_trades wsX7_isPerson := goodIn_r _ [7, 8, 9, 10, 6, 11, 21, 22, 23, 24, 25, 26, 27, 28, 29, 30, 31, 32, 33, 34, 35, 36, 37, 38, 39, 40, 41, 42, 43, 44, 45, 46, 47, 48, 49] (by decide +kernel) (by decide +kernel)
set_option maxRecDepth 20000 in
theorem gX7_trades_X7_isPerson : GoodIn wsX7_trades (wsV RX7 145 RX7 yX7_isPerson wsX7_isPerson) := goodIn_app (goodIn_of _ (by decide +kernel)) ggX7_trades_X7_isPerson
theorem dX7_trades_5 : decode cX7_trades 5 = .ok (.ifCond .eq 39, 3) := by decide +kernel
theorem dX7_trades_44 : decode cX7_trades 44 = .ok (.iconst (-1), 1) := by decide +kernel
theorem dX7_trades_45 : decode cX7_trades 45 = .ok (.ireturn, 1) := by decide +kernel
set_option maxHeartbeats 4000000 in
set_option maxRecDepth 100000 in
theorem c_M_trades (l : Launch) (D : va_G) (cI cB cZ cN : ClassId) (h0 : Nat) (m0 : Nat) (m1 : Nat) (m2 : Nat) (m3 : Nat) (m4 : Nat) (m5 : Nat) (m6 : Nat) (m7 : Nat) (m8 : Nat) (m9 : Nat) (m10 : Nat) (m11 : Nat) (m12 : Nat) (m13 : Nat) (m14 : Nat) (m15 : Nat) (m16 : Nat) (m17 : Nat) (m18 : Nat) (m19 : Nat) (v_c : Int32) (v_w : Int32) (v_q : Int32) (v_e : Int32)  : Ci (S := Unit) l D cI cB cZ cN yX7_trades wsX7_trades ({ frames := 2, cells := 0, slots := 0, locals := 43 } : Room) [.ref h0, .int v_c, .int v_w, .int v_q, .int v_e] [(h0, .inr (7, [.long 0, .ref m0, .int 0, .ref m1, .ref m2, .ref m3, .ref m4, .ref m5, .ref m6, .ref m7, .ref m8, .ref m9, .ref m10, .ref m11, .int 0, .int 0, .int 0, .int 0, .int 0, .int 0, .ref m12, .ref m13, .ref m14, .ref m15, .ref m16, .ref m17, .ref m18, .ref m19, .int 0])), (m4, .inl (cI, 2, .inl zf))] (fun (r : Int32) (_ : Unit) => r = -1) (fun u => []) := by
  refine bx_of (D := D) (cI := cI) (cB := cB) (cZ := cZ) (cN := cN) (y := yX7_trades) (wd := wsX7_trades) (rm := ({ frames := 2, cells := 0, slots := 0, locals := 43 } : Room)) (av := [.ref h0, .int v_c, .int v_w, .int v_q, .int v_e]) (wc := [(h0, .inr (7, [.long 0, .ref m0, .int 0, .ref m1, .ref m2, .ref m3, .ref m4, .ref m5, .ref m6, .ref m7, .ref m8, .ref m9, .ref m10, .ref m11, .int 0, .int 0, .int 0, .int 0, .int 0, .int 0, .ref m12, .ref m13, .ref m14, .ref m15, .ref m16, .ref m17, .ref m18, .ref m19, .int 0])), (m4, .inl (cI, 2, .inl zf))]) (cc := cX7_trades) (maxL := 6) (ret := (some .int)) (Qc := fun _ A => va_Qi (S := Unit) (fun (r : Int32) (_ : Unit) => r = -1) (Aft D (fun (u : Unit) => []) A) A) (by decide) rfl (Nat.le_of_ble_eq_true rfl) ?_
  intro p e s m below meth c A H locs ⟨hx, hb, hr, hml, hown, hts, hlk, hnm⟩ hK hP hD hS hA ls hl
  have hl : lv_has ls 6 [(0, .ref h0), (1, .int v_c), (2, .int v_w), (3, .int v_q), (4, .int v_e)] := hl
  have hown : s.vm.findClass RX7 = some m.cls := hown
  refine lv_aload_n hx hb dX7_trades_0 rfl (lv_at hl 0 rfl) ?_
  refine lv_iload_n hx hb dX7_trades_1 rfl (lv_at hl 1 rfl) ?_
  refine be_i (free := va_A [(h0, .inr (7, [.long 0, .ref m0, .int 0, .ref m1, .ref m2, .ref m3, .ref m4, .ref m5, .ref m6, .ref m7, .ref m8, .ref m9, .ref m10, .ref m11, .int 0, .int 0, .int 0, .int 0, .int 0, .int 0, .ref m12, .ref m13, .ref m14, .ref m15, .ref m16, .ref m17, .ref m18, .ref m19, .int 0])), (m4, .inl (cI, 2, .inl zf))] H.size) (wc := [(h0, .inr (7, [.long 0, .ref m0, .int 0, .ref m1, .ref m2, .ref m3, .ref m4, .ref m5, .ref m6, .ref m7, .ref m8, .ref m9, .ref m10, .ref m11, .int 0, .int 0, .int 0, .int 0, .int 0, .int 0, .ref m12, .ref m13, .ref m14, .ref m15, .ref m16, .ref m17, .ref m18, .ref m19, .int 0])), (m4, .inl (cI, 2, .inl zf))]) (wr := []) (ru_V (As := [.int v_c]) (rest := []) ⟨hx, hb, hml, hown, hts⟩ (c_M_isPerson l D cI cB cZ cN h0 m0 m1 m2 m3 m4 m5 m6 m7 m8 m9 m10 m11 m12 m13 m14 m15 m16 m17 m18 m19 v_c H.size) gX7_trades_X7_isPerson rfl ⟨rfl, by decide, by decide, (show Option.map (fun d => d.parameters.length) (parseMethodDescriptor yX7_isPerson.desc) = some 1 by decide +kernel)⟩ ⟨Nat.le_of_ble_eq_true rfl, Nat.le_of_ble_eq_true rfl⟩ hK hP hD 7 0 rfl rfl [0, 1] (by decide) rfl hl.1 rfl (Nat.le_of_ble_eq_true rfl) dX7_trades_2 ⟨Nat.le_of_ble_eq_true rfl, Nat.le_of_ble_eq_true rfl⟩) hP hD hS hA [0, 1] [] rfl rfl (by decide) (by decide) (fun r2 u1 H locs w3 hP hD hS => ?_)
  have hP : va_P D vwCl [(h0, .inr (7, [.long 0, .ref m0, .int 0, .ref m1, .ref m2, .ref m3, .ref m4, .ref m5, .ref m6, .ref m7, .ref m8, .ref m9, .ref m10, .ref m11, .int 0, .int 0, .int 0, .int 0, .int 0, .int 0, .ref m12, .ref m13, .ref m14, .ref m15, .ref m16, .ref m17, .ref m18, .ref m19, .int 0])), (m4, .inl (cI, 2, .inl zf))] H := hP
  have hD : va_D A [(h0, .inr (7, [.long 0, .ref m0, .int 0, .ref m1, .ref m2, .ref m3, .ref m4, .ref m5, .ref m6, .ref m7, .ref m8, .ref m9, .ref m10, .ref m11, .int 0, .int 0, .int 0, .int 0, .int 0, .int 0, .ref m12, .ref m13, .ref m14, .ref m15, .ref m16, .ref m17, .ref m18, .ref m19, .int 0])), (m4, .inl (cI, 2, .inl zf))] := hD
  obtain rfl : r2 = 0 := w3
  refine lv_if_eq (tgt := 44) hx hb dX7_trades_5 (by decide) (fun h4 => ?_) (fun h4 => absurd (by decide) h4)
  refine lv_iconst (v := -1) hx hb dX7_trades_44 (by decide) ?_
  exact en_i hx hb hr hlk hP hD hS () [] (by decide) rfl (Nat.le_of_ble_eq_true rfl) (Nat.le_of_ble_eq_true rfl) dX7_trades_45 rfl
theorem dX7_loses_0 : decode cX7_loses 0 = .ok (.aload_n 0, 1) := by decide +kernel
theorem dX7_loses_1 : decode cX7_loses 1 = .ok (.iload_n 1, 1) := by decide +kernel
theorem dX7_loses_2 : decode cX7_loses 2 = .ok (.invokevirtual 145, 3) := by decide +kernel
set_option maxRecDepth 20000 in
theorem ggX7_loses_X7_isPerson : GoodIn wsX7_loses wsX7_isPerson := goodIn_r _ [6, 7, 8, 9, 5, 10, 20, 21, 22, 23, 24, 25, 26, 27, 28, 29, 30, 31, 32, 33, 34, 35, 36, 37, 38, 39, 40, 41, 42, 43, 44, 45, 46, 47, 48] (by decide +kernel) (by decide +kernel)
set_option maxRecDepth 20000 in
theorem gX7_loses_X7_isPerson : GoodIn wsX7_loses (wsV RX7 145 RX7 yX7_isPerson wsX7_isPerson) := goodIn_app (goodIn_of _ (by decide +kernel)) ggX7_loses_X7_isPerson
theorem dX7_loses_5 : decode cX7_loses 5 = .ok (.ifCond .eq 11, 3) := by decide +kernel
theorem dX7_loses_16 : decode cX7_loses 16 = .ok (.iconst (-1), 1) := by decide +kernel
theorem dX7_loses_17 : decode cX7_loses 17 = .ok (.ireturn, 1) := by decide +kernel
set_option maxHeartbeats 4000000 in
set_option maxRecDepth 100000 in
theorem c_M_loses (l : Launch) (D : va_G) (cI cB cZ cN : ClassId) (h0 : Nat) (m0 : Nat) (m1 : Nat) (m2 : Nat) (m3 : Nat) (m4 : Nat) (m5 : Nat) (m6 : Nat) (m7 : Nat) (m8 : Nat) (m9 : Nat) (m10 : Nat) (m11 : Nat) (m12 : Nat) (m13 : Nat) (m14 : Nat) (m15 : Nat) (m16 : Nat) (m17 : Nat) (m18 : Nat) (m19 : Nat) (v_c : Int32) (v_w : Int32)  : Ci (S := Unit) l D cI cB cZ cN yX7_loses wsX7_loses ({ frames := 2, cells := 0, slots := 0, locals := 43 } : Room) [.ref h0, .int v_c, .int v_w] [(h0, .inr (7, [.long 0, .ref m0, .int 0, .ref m1, .ref m2, .ref m3, .ref m4, .ref m5, .ref m6, .ref m7, .ref m8, .ref m9, .ref m10, .ref m11, .int 0, .int 0, .int 0, .int 0, .int 0, .int 0, .ref m12, .ref m13, .ref m14, .ref m15, .ref m16, .ref m17, .ref m18, .ref m19, .int 0])), (m4, .inl (cI, 2, .inl zf))] (fun (r : Int32) (_ : Unit) => r = -1) (fun u => []) := by
  refine bx_of (D := D) (cI := cI) (cB := cB) (cZ := cZ) (cN := cN) (y := yX7_loses) (wd := wsX7_loses) (rm := ({ frames := 2, cells := 0, slots := 0, locals := 43 } : Room)) (av := [.ref h0, .int v_c, .int v_w]) (wc := [(h0, .inr (7, [.long 0, .ref m0, .int 0, .ref m1, .ref m2, .ref m3, .ref m4, .ref m5, .ref m6, .ref m7, .ref m8, .ref m9, .ref m10, .ref m11, .int 0, .int 0, .int 0, .int 0, .int 0, .int 0, .ref m12, .ref m13, .ref m14, .ref m15, .ref m16, .ref m17, .ref m18, .ref m19, .int 0])), (m4, .inl (cI, 2, .inl zf))]) (cc := cX7_loses) (maxL := 3) (ret := (some .int)) (Qc := fun _ A => va_Qi (S := Unit) (fun (r : Int32) (_ : Unit) => r = -1) (Aft D (fun (u : Unit) => []) A) A) (by decide) rfl (Nat.le_of_ble_eq_true rfl) ?_
  intro p e s m below meth c A H locs ⟨hx, hb, hr, hml, hown, hts, hlk, hnm⟩ hK hP hD hS hA ls hl
  have hl : lv_has ls 3 [(0, .ref h0), (1, .int v_c), (2, .int v_w)] := hl
  have hown : s.vm.findClass RX7 = some m.cls := hown
  refine lv_aload_n hx hb dX7_loses_0 rfl (lv_at hl 0 rfl) ?_
  refine lv_iload_n hx hb dX7_loses_1 rfl (lv_at hl 1 rfl) ?_
  refine be_i (free := va_A [(h0, .inr (7, [.long 0, .ref m0, .int 0, .ref m1, .ref m2, .ref m3, .ref m4, .ref m5, .ref m6, .ref m7, .ref m8, .ref m9, .ref m10, .ref m11, .int 0, .int 0, .int 0, .int 0, .int 0, .int 0, .ref m12, .ref m13, .ref m14, .ref m15, .ref m16, .ref m17, .ref m18, .ref m19, .int 0])), (m4, .inl (cI, 2, .inl zf))] H.size) (wc := [(h0, .inr (7, [.long 0, .ref m0, .int 0, .ref m1, .ref m2, .ref m3, .ref m4, .ref m5, .ref m6, .ref m7, .ref m8, .ref m9, .ref m10, .ref m11, .int 0, .int 0, .int 0, .int 0, .int 0, .int 0, .ref m12, .ref m13, .ref m14, .ref m15, .ref m16, .ref m17, .ref m18, .ref m19, .int 0])), (m4, .inl (cI, 2, .inl zf))]) (wr := []) (ru_V (As := [.int v_c]) (rest := []) ⟨hx, hb, hml, hown, hts⟩ (c_M_isPerson l D cI cB cZ cN h0 m0 m1 m2 m3 m4 m5 m6 m7 m8 m9 m10 m11 m12 m13 m14 m15 m16 m17 m18 m19 v_c H.size) gX7_loses_X7_isPerson rfl ⟨rfl, by decide, by decide, (show Option.map (fun d => d.parameters.length) (parseMethodDescriptor yX7_isPerson.desc) = some 1 by decide +kernel)⟩ ⟨Nat.le_of_ble_eq_true rfl, Nat.le_of_ble_eq_true rfl⟩ hK hP hD 7 0 rfl rfl [0, 1] (by decide) rfl hl.1 rfl (Nat.le_of_ble_eq_true rfl) dX7_loses_2 ⟨Nat.le_of_ble_eq_true rfl, Nat.le_of_ble_eq_true rfl⟩) hP hD hS hA [0, 1] [] rfl rfl (by decide) (by decide) (fun r2 u1 H locs w3 hP hD hS => ?_)
  have hP : va_P D vwCl [(h0, .inr (7, [.long 0, .ref m0, .int 0, .ref m1, .ref m2, .ref m3, .ref m4, .ref m5, .ref m6, .ref m7, .ref m8, .ref m9, .ref m10, .ref m11, .int 0, .int 0, .int 0, .int 0, .int 0, .int 0, .ref m12, .ref m13, .ref m14, .ref m15, .ref m16, .ref m17, .ref m18, .ref m19, .int 0])), (m4, .inl (cI, 2, .inl zf))] H := hP
  have hD : va_D A [(h0, .inr (7, [.long 0, .ref m0, .int 0, .ref m1, .ref m2, .ref m3, .ref m4, .ref m5, .ref m6, .ref m7, .ref m8, .ref m9, .ref m10, .ref m11, .int 0, .int 0, .int 0, .int 0, .int 0, .int 0, .ref m12, .ref m13, .ref m14, .ref m15, .ref m16, .ref m17, .ref m18, .ref m19, .int 0])), (m4, .inl (cI, 2, .inl zf))] := hD
  obtain rfl : r2 = 0 := w3
  refine lv_if_eq (tgt := 16) hx hb dX7_loses_5 (by decide) (fun h4 => ?_) (fun h4 => absurd (by decide) h4)
  refine lv_iconst (v := -1) hx hb dX7_loses_16 (by decide) ?_
  exact en_i hx hb hr hlk hP hD hS () [] (by decide) rfl (Nat.le_of_ble_eq_true rfl) (Nat.le_of_ble_eq_true rfl) dX7_loses_17 rfl
theorem dX7_finds_0 : decode cX7_finds 0 = .ok (.aload_n 0, 1) := by decide +kernel
theorem dX7_finds_1 : decode cX7_finds 1 = .ok (.iload_n 1, 1) := by decide +kernel
theorem dX7_finds_2 : decode cX7_finds 2 = .ok (.invokevirtual 145, 3) := by decide +kernel
set_option maxRecDepth 20000 in
theorem ggX7_finds_X7_isPerson : GoodIn wsX7_finds wsX7_isPerson := goodIn_r _ [6, 7, 8, 9, 5, 10, 20, 21, 22, 23, 24, 25, 26, 27, 28, 29, 30, 31, 32, 33, 34, 35, 36, 37, 38, 39, 40, 41, 42, 43, 44, 45, 46, 47, 48] (by decide +kernel) (by decide +kernel)
set_option maxRecDepth 20000 in
theorem gX7_finds_X7_isPerson : GoodIn wsX7_finds (wsV RX7 145 RX7 yX7_isPerson wsX7_isPerson) := goodIn_app (goodIn_of _ (by decide +kernel)) ggX7_finds_X7_isPerson
theorem dX7_finds_5 : decode cX7_finds 5 = .ok (.ifCond .eq 11, 3) := by decide +kernel
theorem dX7_finds_16 : decode cX7_finds 16 = .ok (.iconst (-1), 1) := by decide +kernel
theorem dX7_finds_17 : decode cX7_finds 17 = .ok (.ireturn, 1) := by decide +kernel
set_option maxHeartbeats 4000000 in
set_option maxRecDepth 100000 in
theorem c_M_finds (l : Launch) (D : va_G) (cI cB cZ cN : ClassId) (h0 : Nat) (m0 : Nat) (m1 : Nat) (m2 : Nat) (m3 : Nat) (m4 : Nat) (m5 : Nat) (m6 : Nat) (m7 : Nat) (m8 : Nat) (m9 : Nat) (m10 : Nat) (m11 : Nat) (m12 : Nat) (m13 : Nat) (m14 : Nat) (m15 : Nat) (m16 : Nat) (m17 : Nat) (m18 : Nat) (m19 : Nat) (v_c : Int32) (v_w : Int32)  : Ci (S := Unit) l D cI cB cZ cN yX7_finds wsX7_finds ({ frames := 2, cells := 0, slots := 0, locals := 43 } : Room) [.ref h0, .int v_c, .int v_w] [(h0, .inr (7, [.long 0, .ref m0, .int 0, .ref m1, .ref m2, .ref m3, .ref m4, .ref m5, .ref m6, .ref m7, .ref m8, .ref m9, .ref m10, .ref m11, .int 0, .int 0, .int 0, .int 0, .int 0, .int 0, .ref m12, .ref m13, .ref m14, .ref m15, .ref m16, .ref m17, .ref m18, .ref m19, .int 0])), (m4, .inl (cI, 2, .inl zf))] (fun (r : Int32) (_ : Unit) => r = -1) (fun u => []) := by
  refine bx_of (D := D) (cI := cI) (cB := cB) (cZ := cZ) (cN := cN) (y := yX7_finds) (wd := wsX7_finds) (rm := ({ frames := 2, cells := 0, slots := 0, locals := 43 } : Room)) (av := [.ref h0, .int v_c, .int v_w]) (wc := [(h0, .inr (7, [.long 0, .ref m0, .int 0, .ref m1, .ref m2, .ref m3, .ref m4, .ref m5, .ref m6, .ref m7, .ref m8, .ref m9, .ref m10, .ref m11, .int 0, .int 0, .int 0, .int 0, .int 0, .int 0, .ref m12, .ref m13, .ref m14, .ref m15, .ref m16, .ref m17, .ref m18, .ref m19, .int 0])), (m4, .inl (cI, 2, .inl zf))]) (cc := cX7_finds) (maxL := 3) (ret := (some .int)) (Qc := fun _ A => va_Qi (S := Unit) (fun (r : Int32) (_ : Unit) => r = -1) (Aft D (fun (u : Unit) => []) A) A) (by decide) rfl (Nat.le_of_ble_eq_true rfl) ?_
  intro p e s m below meth c A H locs ⟨hx, hb, hr, hml, hown, hts, hlk, hnm⟩ hK hP hD hS hA ls hl
  have hl : lv_has ls 3 [(0, .ref h0), (1, .int v_c), (2, .int v_w)] := hl
  have hown : s.vm.findClass RX7 = some m.cls := hown
  refine lv_aload_n hx hb dX7_finds_0 rfl (lv_at hl 0 rfl) ?_
  refine lv_iload_n hx hb dX7_finds_1 rfl (lv_at hl 1 rfl) ?_
  refine be_i (free := va_A [(h0, .inr (7, [.long 0, .ref m0, .int 0, .ref m1, .ref m2, .ref m3, .ref m4, .ref m5, .ref m6, .ref m7, .ref m8, .ref m9, .ref m10, .ref m11, .int 0, .int 0, .int 0, .int 0, .int 0, .int 0, .ref m12, .ref m13, .ref m14, .ref m15, .ref m16, .ref m17, .ref m18, .ref m19, .int 0])), (m4, .inl (cI, 2, .inl zf))] H.size) (wc := [(h0, .inr (7, [.long 0, .ref m0, .int 0, .ref m1, .ref m2, .ref m3, .ref m4, .ref m5, .ref m6, .ref m7, .ref m8, .ref m9, .ref m10, .ref m11, .int 0, .int 0, .int 0, .int 0, .int 0, .int 0, .ref m12, .ref m13, .ref m14, .ref m15, .ref m16, .ref m17, .ref m18, .ref m19, .int 0])), (m4, .inl (cI, 2, .inl zf))]) (wr := []) (ru_V (As := [.int v_c]) (rest := []) ⟨hx, hb, hml, hown, hts⟩ (c_M_isPerson l D cI cB cZ cN h0 m0 m1 m2 m3 m4 m5 m6 m7 m8 m9 m10 m11 m12 m13 m14 m15 m16 m17 m18 m19 v_c H.size) gX7_finds_X7_isPerson rfl ⟨rfl, by decide, by decide, (show Option.map (fun d => d.parameters.length) (parseMethodDescriptor yX7_isPerson.desc) = some 1 by decide +kernel)⟩ ⟨Nat.le_of_ble_eq_true rfl, Nat.le_of_ble_eq_true rfl⟩ hK hP hD 7 0 rfl rfl [0, 1] (by decide) rfl hl.1 rfl (Nat.le_of_ble_eq_true rfl) dX7_finds_2 ⟨Nat.le_of_ble_eq_true rfl, Nat.le_of_ble_eq_true rfl⟩) hP hD hS hA [0, 1] [] rfl rfl (by decide) (by decide) (fun r2 u1 H locs w3 hP hD hS => ?_)
  have hP : va_P D vwCl [(h0, .inr (7, [.long 0, .ref m0, .int 0, .ref m1, .ref m2, .ref m3, .ref m4, .ref m5, .ref m6, .ref m7, .ref m8, .ref m9, .ref m10, .ref m11, .int 0, .int 0, .int 0, .int 0, .int 0, .int 0, .ref m12, .ref m13, .ref m14, .ref m15, .ref m16, .ref m17, .ref m18, .ref m19, .int 0])), (m4, .inl (cI, 2, .inl zf))] H := hP
  have hD : va_D A [(h0, .inr (7, [.long 0, .ref m0, .int 0, .ref m1, .ref m2, .ref m3, .ref m4, .ref m5, .ref m6, .ref m7, .ref m8, .ref m9, .ref m10, .ref m11, .int 0, .int 0, .int 0, .int 0, .int 0, .int 0, .ref m12, .ref m13, .ref m14, .ref m15, .ref m16, .ref m17, .ref m18, .ref m19, .int 0])), (m4, .inl (cI, 2, .inl zf))] := hD
  obtain rfl : r2 = 0 := w3
  refine lv_if_eq (tgt := 16) hx hb dX7_finds_5 (by decide) (fun h4 => ?_) (fun h4 => absurd (by decide) h4)
  refine lv_iconst (v := -1) hx hb dX7_finds_16 (by decide) ?_
  exact en_i hx hb hr hlk hP hD hS () [] (by decide) rfl (Nat.le_of_ble_eq_true rfl) (Nat.le_of_ble_eq_true rfl) dX7_finds_17 rfl
theorem dX7_passes_0 : decode cX7_passes 0 = .ok (.aload_n 0, 1) := by decide +kernel
theorem dX7_passes_1 : decode cX7_passes 1 = .ok (.iload_n 1, 1) := by decide +kernel
theorem dX7_passes_2 : decode cX7_passes 2 = .ok (.invokevirtual 165, 3) := by decide +kernel
set_option maxRecDepth 20000 in
theorem ggX7_passes_X7_isDebt : GoodIn wsX7_passes wsX7_isDebt := goodIn_r _ [7, 8, 9, 10, 6, 11, 25, 26, 27, 28, 29, 30, 31, 32, 33, 34, 35, 36, 37, 38, 39, 40, 41, 42, 43, 44, 45, 46, 47, 48, 49, 50, 51, 52, 53] (by decide +kernel) (by decide +kernel)
set_option maxRecDepth 20000 in
theorem gX7_passes_X7_isDebt : GoodIn wsX7_passes (wsV RX7 165 RX7 yX7_isDebt wsX7_isDebt) := goodIn_app (goodIn_of _ (by decide +kernel)) ggX7_passes_X7_isDebt
theorem dX7_passes_5 : decode cX7_passes 5 = .ok (.ifCond .eq 11, 3) := by decide +kernel
theorem dX7_passes_16 : decode cX7_passes 16 = .ok (.iconst (-1), 1) := by decide +kernel
theorem dX7_passes_17 : decode cX7_passes 17 = .ok (.ireturn, 1) := by decide +kernel
set_option maxHeartbeats 4000000 in
set_option maxRecDepth 100000 in
theorem c_M_passes (l : Launch) (D : va_G) (cI cB cZ cN : ClassId) (h0 : Nat) (m0 : Nat) (m1 : Nat) (m2 : Nat) (m3 : Nat) (m4 : Nat) (m5 : Nat) (m6 : Nat) (m7 : Nat) (m8 : Nat) (m9 : Nat) (m10 : Nat) (m11 : Nat) (m12 : Nat) (m13 : Nat) (m14 : Nat) (m15 : Nat) (m16 : Nat) (m17 : Nat) (m18 : Nat) (m19 : Nat) (v_c : Int32) (v_w : Int32)  : Ci (S := Unit) l D cI cB cZ cN yX7_passes wsX7_passes ({ frames := 2, cells := 0, slots := 0, locals := 43 } : Room) [.ref h0, .int v_c, .int v_w] [(h0, .inr (7, [.long 0, .ref m0, .int 0, .ref m1, .ref m2, .ref m3, .ref m4, .ref m5, .ref m6, .ref m7, .ref m8, .ref m9, .ref m10, .ref m11, .int 0, .int 0, .int 0, .int 0, .int 0, .int 0, .ref m12, .ref m13, .ref m14, .ref m15, .ref m16, .ref m17, .ref m18, .ref m19, .int 0])), (m7, .inl (cI, 2, .inl zf))] (fun (r : Int32) (_ : Unit) => r = -1) (fun u => []) := by
  refine bx_of (D := D) (cI := cI) (cB := cB) (cZ := cZ) (cN := cN) (y := yX7_passes) (wd := wsX7_passes) (rm := ({ frames := 2, cells := 0, slots := 0, locals := 43 } : Room)) (av := [.ref h0, .int v_c, .int v_w]) (wc := [(h0, .inr (7, [.long 0, .ref m0, .int 0, .ref m1, .ref m2, .ref m3, .ref m4, .ref m5, .ref m6, .ref m7, .ref m8, .ref m9, .ref m10, .ref m11, .int 0, .int 0, .int 0, .int 0, .int 0, .int 0, .ref m12, .ref m13, .ref m14, .ref m15, .ref m16, .ref m17, .ref m18, .ref m19, .int 0])), (m7, .inl (cI, 2, .inl zf))]) (cc := cX7_passes) (maxL := 4) (ret := (some .int)) (Qc := fun _ A => va_Qi (S := Unit) (fun (r : Int32) (_ : Unit) => r = -1) (Aft D (fun (u : Unit) => []) A) A) (by decide) rfl (Nat.le_of_ble_eq_true rfl) ?_
  intro p e s m below meth c A H locs ⟨hx, hb, hr, hml, hown, hts, hlk, hnm⟩ hK hP hD hS hA ls hl
  have hl : lv_has ls 4 [(0, .ref h0), (1, .int v_c), (2, .int v_w)] := hl
  have hown : s.vm.findClass RX7 = some m.cls := hown
  refine lv_aload_n hx hb dX7_passes_0 rfl (lv_at hl 0 rfl) ?_
  refine lv_iload_n hx hb dX7_passes_1 rfl (lv_at hl 1 rfl) ?_
  refine be_i (free := va_A [(h0, .inr (7, [.long 0, .ref m0, .int 0, .ref m1, .ref m2, .ref m3, .ref m4, .ref m5, .ref m6, .ref m7, .ref m8, .ref m9, .ref m10, .ref m11, .int 0, .int 0, .int 0, .int 0, .int 0, .int 0, .ref m12, .ref m13, .ref m14, .ref m15, .ref m16, .ref m17, .ref m18, .ref m19, .int 0])), (m7, .inl (cI, 2, .inl zf))] H.size) (wc := [(h0, .inr (7, [.long 0, .ref m0, .int 0, .ref m1, .ref m2, .ref m3, .ref m4, .ref m5, .ref m6, .ref m7, .ref m8, .ref m9, .ref m10, .ref m11, .int 0, .int 0, .int 0, .int 0, .int 0, .int 0, .ref m12, .ref m13, .ref m14, .ref m15, .ref m16, .ref m17, .ref m18, .ref m19, .int 0])), (m7, .inl (cI, 2, .inl zf))]) (wr := []) (ru_V (As := [.int v_c]) (rest := []) ⟨hx, hb, hml, hown, hts⟩ (c_M_isDebt l D cI cB cZ cN h0 m0 m1 m2 m3 m4 m5 m6 m7 m8 m9 m10 m11 m12 m13 m14 m15 m16 m17 m18 m19 v_c H.size) gX7_passes_X7_isDebt rfl ⟨rfl, by decide, by decide, (show Option.map (fun d => d.parameters.length) (parseMethodDescriptor yX7_isDebt.desc) = some 1 by decide +kernel)⟩ ⟨Nat.le_of_ble_eq_true rfl, Nat.le_of_ble_eq_true rfl⟩ hK hP hD 7 0 rfl rfl [0, 1] (by decide) rfl hl.1 rfl (Nat.le_of_ble_eq_true rfl) dX7_passes_2 ⟨Nat.le_of_ble_eq_true rfl, Nat.le_of_ble_eq_true rfl⟩) hP hD hS hA [0, 1] [] rfl rfl (by decide) (by decide) (fun r2 u1 H locs w3 hP hD hS => ?_)
  have hP : va_P D vwCl [(h0, .inr (7, [.long 0, .ref m0, .int 0, .ref m1, .ref m2, .ref m3, .ref m4, .ref m5, .ref m6, .ref m7, .ref m8, .ref m9, .ref m10, .ref m11, .int 0, .int 0, .int 0, .int 0, .int 0, .int 0, .ref m12, .ref m13, .ref m14, .ref m15, .ref m16, .ref m17, .ref m18, .ref m19, .int 0])), (m7, .inl (cI, 2, .inl zf))] H := hP
  have hD : va_D A [(h0, .inr (7, [.long 0, .ref m0, .int 0, .ref m1, .ref m2, .ref m3, .ref m4, .ref m5, .ref m6, .ref m7, .ref m8, .ref m9, .ref m10, .ref m11, .int 0, .int 0, .int 0, .int 0, .int 0, .int 0, .ref m12, .ref m13, .ref m14, .ref m15, .ref m16, .ref m17, .ref m18, .ref m19, .int 0])), (m7, .inl (cI, 2, .inl zf))] := hD
  obtain rfl : r2 = 0 := w3
  refine lv_if_eq (tgt := 16) hx hb dX7_passes_5 (by decide) (fun h4 => ?_) (fun h4 => absurd (by decide) h4)
  refine lv_iconst (v := -1) hx hb dX7_passes_16 (by decide) ?_
  exact en_i hx hb hr hlk hP hD hS () [] (by decide) rfl (Nat.le_of_ble_eq_true rfl) (Nat.le_of_ble_eq_true rfl) dX7_passes_17 rfl
theorem dX7_pieces_0 : decode cX7_pieces 0 = .ok (.aload_n 0, 1) := by decide +kernel
theorem dX7_pieces_1 : decode cX7_pieces 1 = .ok (.iload_n 1, 1) := by decide +kernel
theorem dX7_pieces_2 : decode cX7_pieces 2 = .ok (.invokevirtual 165, 3) := by decide +kernel
set_option maxRecDepth 20000 in
theorem ggX7_pieces_X7_isDebt : GoodIn wsX7_pieces wsX7_isDebt := goodIn_r _ [7, 8, 9, 10, 6, 11, 45, 46, 47, 48, 49, 50, 51, 52, 53, 54, 55, 56, 57, 58, 59, 60, 61, 62, 63, 64, 65, 66, 67, 68, 69, 70, 71, 72, 73] (by decide +kernel) (by decide +kernel)
set_option maxRecDepth 20000 in
theorem gX7_pieces_X7_isDebt : GoodIn wsX7_pieces (wsV RX7 165 RX7 yX7_isDebt wsX7_isDebt) := goodIn_app (goodIn_of _ (by decide +kernel)) ggX7_pieces_X7_isDebt
theorem dX7_pieces_5 : decode cX7_pieces 5 = .ok (.ifCond .eq 11, 3) := by decide +kernel
theorem dX7_pieces_16 : decode cX7_pieces 16 = .ok (.iconst (-1), 1) := by decide +kernel
theorem dX7_pieces_17 : decode cX7_pieces 17 = .ok (.ireturn, 1) := by decide +kernel
set_option maxHeartbeats 4000000 in
set_option maxRecDepth 100000 in
theorem c_M_pieces (l : Launch) (D : va_G) (cI cB cZ cN : ClassId) (h0 : Nat) (m0 : Nat) (m1 : Nat) (m2 : Nat) (m3 : Nat) (m4 : Nat) (m5 : Nat) (m6 : Nat) (m7 : Nat) (m8 : Nat) (m9 : Nat) (m10 : Nat) (m11 : Nat) (m12 : Nat) (m13 : Nat) (m14 : Nat) (m15 : Nat) (m16 : Nat) (m17 : Nat) (m18 : Nat) (m19 : Nat) (v_c : Int32) (v_w : Int32)  : Ci (S := Unit) l D cI cB cZ cN yX7_pieces wsX7_pieces ({ frames := 2, cells := 0, slots := 0, locals := 43 } : Room) [.ref h0, .int v_c, .int v_w] [(h0, .inr (7, [.long 0, .ref m0, .int 0, .ref m1, .ref m2, .ref m3, .ref m4, .ref m5, .ref m6, .ref m7, .ref m8, .ref m9, .ref m10, .ref m11, .int 0, .int 0, .int 0, .int 0, .int 0, .int 0, .ref m12, .ref m13, .ref m14, .ref m15, .ref m16, .ref m17, .ref m18, .ref m19, .int 0])), (m7, .inl (cI, 2, .inl zf))] (fun (r : Int32) (_ : Unit) => r = -1) (fun u => []) := by
  refine bx_of (D := D) (cI := cI) (cB := cB) (cZ := cZ) (cN := cN) (y := yX7_pieces) (wd := wsX7_pieces) (rm := ({ frames := 2, cells := 0, slots := 0, locals := 43 } : Room)) (av := [.ref h0, .int v_c, .int v_w]) (wc := [(h0, .inr (7, [.long 0, .ref m0, .int 0, .ref m1, .ref m2, .ref m3, .ref m4, .ref m5, .ref m6, .ref m7, .ref m8, .ref m9, .ref m10, .ref m11, .int 0, .int 0, .int 0, .int 0, .int 0, .int 0, .ref m12, .ref m13, .ref m14, .ref m15, .ref m16, .ref m17, .ref m18, .ref m19, .int 0])), (m7, .inl (cI, 2, .inl zf))]) (cc := cX7_pieces) (maxL := 3) (ret := (some .int)) (Qc := fun _ A => va_Qi (S := Unit) (fun (r : Int32) (_ : Unit) => r = -1) (Aft D (fun (u : Unit) => []) A) A) (by decide) rfl (Nat.le_of_ble_eq_true rfl) ?_
  intro p e s m below meth c A H locs ⟨hx, hb, hr, hml, hown, hts, hlk, hnm⟩ hK hP hD hS hA ls hl
  have hl : lv_has ls 3 [(0, .ref h0), (1, .int v_c), (2, .int v_w)] := hl
  have hown : s.vm.findClass RX7 = some m.cls := hown
  refine lv_aload_n hx hb dX7_pieces_0 rfl (lv_at hl 0 rfl) ?_
  refine lv_iload_n hx hb dX7_pieces_1 rfl (lv_at hl 1 rfl) ?_
  refine be_i (free := va_A [(h0, .inr (7, [.long 0, .ref m0, .int 0, .ref m1, .ref m2, .ref m3, .ref m4, .ref m5, .ref m6, .ref m7, .ref m8, .ref m9, .ref m10, .ref m11, .int 0, .int 0, .int 0, .int 0, .int 0, .int 0, .ref m12, .ref m13, .ref m14, .ref m15, .ref m16, .ref m17, .ref m18, .ref m19, .int 0])), (m7, .inl (cI, 2, .inl zf))] H.size) (wc := [(h0, .inr (7, [.long 0, .ref m0, .int 0, .ref m1, .ref m2, .ref m3, .ref m4, .ref m5, .ref m6, .ref m7, .ref m8, .ref m9, .ref m10, .ref m11, .int 0, .int 0, .int 0, .int 0, .int 0, .int 0, .ref m12, .ref m13, .ref m14, .ref m15, .ref m16, .ref m17, .ref m18, .ref m19, .int 0])), (m7, .inl (cI, 2, .inl zf))]) (wr := []) (ru_V (As := [.int v_c]) (rest := []) ⟨hx, hb, hml, hown, hts⟩ (c_M_isDebt l D cI cB cZ cN h0 m0 m1 m2 m3 m4 m5 m6 m7 m8 m9 m10 m11 m12 m13 m14 m15 m16 m17 m18 m19 v_c H.size) gX7_pieces_X7_isDebt rfl ⟨rfl, by decide, by decide, (show Option.map (fun d => d.parameters.length) (parseMethodDescriptor yX7_isDebt.desc) = some 1 by decide +kernel)⟩ ⟨Nat.le_of_ble_eq_true rfl, Nat.le_of_ble_eq_true rfl⟩ hK hP hD 7 0 rfl rfl [0, 1] (by decide) rfl hl.1 rfl (Nat.le_of_ble_eq_true rfl) dX7_pieces_2 ⟨Nat.le_of_ble_eq_true rfl, Nat.le_of_ble_eq_true rfl⟩) hP hD hS hA [0, 1] [] rfl rfl (by decide) (by decide) (fun r2 u1 H locs w3 hP hD hS => ?_)
  have hP : va_P D vwCl [(h0, .inr (7, [.long 0, .ref m0, .int 0, .ref m1, .ref m2, .ref m3, .ref m4, .ref m5, .ref m6, .ref m7, .ref m8, .ref m9, .ref m10, .ref m11, .int 0, .int 0, .int 0, .int 0, .int 0, .int 0, .ref m12, .ref m13, .ref m14, .ref m15, .ref m16, .ref m17, .ref m18, .ref m19, .int 0])), (m7, .inl (cI, 2, .inl zf))] H := hP
  have hD : va_D A [(h0, .inr (7, [.long 0, .ref m0, .int 0, .ref m1, .ref m2, .ref m3, .ref m4, .ref m5, .ref m6, .ref m7, .ref m8, .ref m9, .ref m10, .ref m11, .int 0, .int 0, .int 0, .int 0, .int 0, .int 0, .ref m12, .ref m13, .ref m14, .ref m15, .ref m16, .ref m17, .ref m18, .ref m19, .int 0])), (m7, .inl (cI, 2, .inl zf))] := hD
  obtain rfl : r2 = 0 := w3
  refine lv_if_eq (tgt := 16) hx hb dX7_pieces_5 (by decide) (fun h4 => ?_) (fun h4 => absurd (by decide) h4)
  refine lv_iconst (v := -1) hx hb dX7_pieces_16 (by decide) ?_
  exact en_i hx hb hr hlk hP hD hS () [] (by decide) rfl (Nat.le_of_ble_eq_true rfl) (Nat.le_of_ble_eq_true rfl) dX7_pieces_17 rfl
theorem dX7_lender_0 : decode cX7_lender 0 = .ok (.aload_n 0, 1) := by decide +kernel
theorem dX7_lender_1 : decode cX7_lender 1 = .ok (.iload_n 1, 1) := by decide +kernel
theorem dX7_lender_2 : decode cX7_lender 2 = .ok (.invokevirtual 145, 3) := by decide +kernel
set_option maxRecDepth 20000 in
theorem ggX7_lender_X7_isPerson : GoodIn wsX7_lender wsX7_isPerson := goodIn_r _ [6, 1, 7, 8, 5, 9, 36, 37, 38, 39, 40, 41, 42, 43, 44, 45, 46, 47, 48, 49, 50, 51, 52, 53, 54, 55, 56, 57, 58, 59, 60, 61, 62, 63, 64] (by decide +kernel) (by decide +kernel)
set_option maxRecDepth 20000 in
theorem gX7_lender_X7_isPerson : GoodIn wsX7_lender (wsV RX7 145 RX7 yX7_isPerson wsX7_isPerson) := goodIn_app (goodIn_of _ (by decide +kernel)) ggX7_lender_X7_isPerson
theorem dX7_lender_5 : decode cX7_lender 5 = .ok (.ifCond .ne 5, 3) := by decide +kernel
theorem dX7_lender_8 : decode cX7_lender 8 = .ok (.iconst (-1), 1) := by decide +kernel
theorem dX7_lender_9 : decode cX7_lender 9 = .ok (.ireturn, 1) := by decide +kernel
set_option maxHeartbeats 4000000 in
set_option maxRecDepth 100000 in
theorem c_M_lender (l : Launch) (D : va_G) (cI cB cZ cN : ClassId) (h0 : Nat) (m0 : Nat) (m1 : Nat) (m2 : Nat) (m3 : Nat) (m4 : Nat) (m5 : Nat) (m6 : Nat) (m7 : Nat) (m8 : Nat) (m9 : Nat) (m10 : Nat) (m11 : Nat) (m12 : Nat) (m13 : Nat) (m14 : Nat) (m15 : Nat) (m16 : Nat) (m17 : Nat) (m18 : Nat) (m19 : Nat) (v_c : Int32)  : Ci (S := Unit) l D cI cB cZ cN yX7_lender wsX7_lender ({ frames := 2, cells := 0, slots := 0, locals := 43 } : Room) [.ref h0, .int v_c] [(h0, .inr (7, [.long 0, .ref m0, .int 0, .ref m1, .ref m2, .ref m3, .ref m4, .ref m5, .ref m6, .ref m7, .ref m8, .ref m9, .ref m10, .ref m11, .int 0, .int 0, .int 0, .int 0, .int 0, .int 0, .ref m12, .ref m13, .ref m14, .ref m15, .ref m16, .ref m17, .ref m18, .ref m19, .int 0])), (m4, .inl (cI, 2, .inl zf))] (fun (r : Int32) (_ : Unit) => r = -1) (fun u => []) := by
  refine bx_of (D := D) (cI := cI) (cB := cB) (cZ := cZ) (cN := cN) (y := yX7_lender) (wd := wsX7_lender) (rm := ({ frames := 2, cells := 0, slots := 0, locals := 43 } : Room)) (av := [.ref h0, .int v_c]) (wc := [(h0, .inr (7, [.long 0, .ref m0, .int 0, .ref m1, .ref m2, .ref m3, .ref m4, .ref m5, .ref m6, .ref m7, .ref m8, .ref m9, .ref m10, .ref m11, .int 0, .int 0, .int 0, .int 0, .int 0, .int 0, .ref m12, .ref m13, .ref m14, .ref m15, .ref m16, .ref m17, .ref m18, .ref m19, .int 0])), (m4, .inl (cI, 2, .inl zf))]) (cc := cX7_lender) (maxL := 5) (ret := (some .int)) (Qc := fun _ A => va_Qi (S := Unit) (fun (r : Int32) (_ : Unit) => r = -1) (Aft D (fun (u : Unit) => []) A) A) (by decide) rfl (Nat.le_of_ble_eq_true rfl) ?_
  intro p e s m below meth c A H locs ⟨hx, hb, hr, hml, hown, hts, hlk, hnm⟩ hK hP hD hS hA ls hl
  have hl : lv_has ls 5 [(0, .ref h0), (1, .int v_c)] := hl
  have hown : s.vm.findClass RX7 = some m.cls := hown
  refine lv_aload_n hx hb dX7_lender_0 rfl (lv_at hl 0 rfl) ?_
  refine lv_iload_n hx hb dX7_lender_1 rfl (lv_at hl 1 rfl) ?_
  refine be_i (free := va_A [(h0, .inr (7, [.long 0, .ref m0, .int 0, .ref m1, .ref m2, .ref m3, .ref m4, .ref m5, .ref m6, .ref m7, .ref m8, .ref m9, .ref m10, .ref m11, .int 0, .int 0, .int 0, .int 0, .int 0, .int 0, .ref m12, .ref m13, .ref m14, .ref m15, .ref m16, .ref m17, .ref m18, .ref m19, .int 0])), (m4, .inl (cI, 2, .inl zf))] H.size) (wc := [(h0, .inr (7, [.long 0, .ref m0, .int 0, .ref m1, .ref m2, .ref m3, .ref m4, .ref m5, .ref m6, .ref m7, .ref m8, .ref m9, .ref m10, .ref m11, .int 0, .int 0, .int 0, .int 0, .int 0, .int 0, .ref m12, .ref m13, .ref m14, .ref m15, .ref m16, .ref m17, .ref m18, .ref m19, .int 0])), (m4, .inl (cI, 2, .inl zf))]) (wr := []) (ru_V (As := [.int v_c]) (rest := []) ⟨hx, hb, hml, hown, hts⟩ (c_M_isPerson l D cI cB cZ cN h0 m0 m1 m2 m3 m4 m5 m6 m7 m8 m9 m10 m11 m12 m13 m14 m15 m16 m17 m18 m19 v_c H.size) gX7_lender_X7_isPerson rfl ⟨rfl, by decide, by decide, (show Option.map (fun d => d.parameters.length) (parseMethodDescriptor yX7_isPerson.desc) = some 1 by decide +kernel)⟩ ⟨Nat.le_of_ble_eq_true rfl, Nat.le_of_ble_eq_true rfl⟩ hK hP hD 7 0 rfl rfl [0, 1] (by decide) rfl hl.1 rfl (Nat.le_of_ble_eq_true rfl) dX7_lender_2 ⟨Nat.le_of_ble_eq_true rfl, Nat.le_of_ble_eq_true rfl⟩) hP hD hS hA [0, 1] [] rfl rfl (by decide) (by decide) (fun r2 u1 H locs w3 hP hD hS => ?_)
  have hP : va_P D vwCl [(h0, .inr (7, [.long 0, .ref m0, .int 0, .ref m1, .ref m2, .ref m3, .ref m4, .ref m5, .ref m6, .ref m7, .ref m8, .ref m9, .ref m10, .ref m11, .int 0, .int 0, .int 0, .int 0, .int 0, .int 0, .ref m12, .ref m13, .ref m14, .ref m15, .ref m16, .ref m17, .ref m18, .ref m19, .int 0])), (m4, .inl (cI, 2, .inl zf))] H := hP
  have hD : va_D A [(h0, .inr (7, [.long 0, .ref m0, .int 0, .ref m1, .ref m2, .ref m3, .ref m4, .ref m5, .ref m6, .ref m7, .ref m8, .ref m9, .ref m10, .ref m11, .int 0, .int 0, .int 0, .int 0, .int 0, .int 0, .ref m12, .ref m13, .ref m14, .ref m15, .ref m16, .ref m17, .ref m18, .ref m19, .int 0])), (m4, .inl (cI, 2, .inl zf))] := hD
  obtain rfl : r2 = 0 := w3
  refine lv_if_ne (tgt := 10) hx hb dX7_lender_5 (by decide) (fun h4 => absurd (by decide) h4) (fun h4 => ?_)
  refine lv_iconst (v := -1) hx hb dX7_lender_8 (by decide) ?_
  exact en_i hx hb hr hlk hP hD hS () [] (by decide) rfl (Nat.le_of_ble_eq_true rfl) (Nat.le_of_ble_eq_true rfl) dX7_lender_9 rfl
theorem dX7_corner_0 : decode cX7_corner 0 = .ok (.aload_n 0, 1) := by decide +kernel
theorem dX7_corner_1 : decode cX7_corner 1 = .ok (.iload_n 1, 1) := by decide +kernel
theorem dX7_corner_2 : decode cX7_corner 2 = .ok (.invokevirtual 165, 3) := by decide +kernel
set_option maxRecDepth 20000 in
theorem ggX7_corner_X7_isDebt : GoodIn wsX7_corner wsX7_isDebt := goodIn_r _ [6, 7, 8, 9, 5, 10, 48, 49, 50, 51, 52, 53, 54, 55, 56, 57, 58, 59, 60, 61, 62, 63, 64, 65, 66, 67, 68, 69, 70, 71, 72, 73, 74, 75, 76] (by decide +kernel) (by decide +kernel)
set_option maxRecDepth 20000 in
theorem gX7_corner_X7_isDebt : GoodIn wsX7_corner (wsV RX7 165 RX7 yX7_isDebt wsX7_isDebt) := goodIn_app (goodIn_of _ (by decide +kernel)) ggX7_corner_X7_isDebt
theorem dX7_corner_5 : decode cX7_corner 5 = .ok (.ifCond .ne 5, 3) := by decide +kernel
theorem dX7_corner_8 : decode cX7_corner 8 = .ok (.iconst (-1), 1) := by decide +kernel
theorem dX7_corner_9 : decode cX7_corner 9 = .ok (.ireturn, 1) := by decide +kernel
set_option maxHeartbeats 4000000 in
set_option maxRecDepth 100000 in
theorem c_M_corner (l : Launch) (D : va_G) (cI cB cZ cN : ClassId) (h0 : Nat) (m0 : Nat) (m1 : Nat) (m2 : Nat) (m3 : Nat) (m4 : Nat) (m5 : Nat) (m6 : Nat) (m7 : Nat) (m8 : Nat) (m9 : Nat) (m10 : Nat) (m11 : Nat) (m12 : Nat) (m13 : Nat) (m14 : Nat) (m15 : Nat) (m16 : Nat) (m17 : Nat) (m18 : Nat) (m19 : Nat) (v_c : Int32)  : Ci (S := Unit) l D cI cB cZ cN yX7_corner wsX7_corner ({ frames := 2, cells := 0, slots := 0, locals := 43 } : Room) [.ref h0, .int v_c] [(h0, .inr (7, [.long 0, .ref m0, .int 0, .ref m1, .ref m2, .ref m3, .ref m4, .ref m5, .ref m6, .ref m7, .ref m8, .ref m9, .ref m10, .ref m11, .int 0, .int 0, .int 0, .int 0, .int 0, .int 0, .ref m12, .ref m13, .ref m14, .ref m15, .ref m16, .ref m17, .ref m18, .ref m19, .int 0])), (m7, .inl (cI, 2, .inl zf))] (fun (r : Int32) (_ : Unit) => r = -1) (fun u => []) := by
  refine bx_of (D := D) (cI := cI) (cB := cB) (cZ := cZ) (cN := cN) (y := yX7_corner) (wd := wsX7_corner) (rm := ({ frames := 2, cells := 0, slots := 0, locals := 43 } : Room)) (av := [.ref h0, .int v_c]) (wc := [(h0, .inr (7, [.long 0, .ref m0, .int 0, .ref m1, .ref m2, .ref m3, .ref m4, .ref m5, .ref m6, .ref m7, .ref m8, .ref m9, .ref m10, .ref m11, .int 0, .int 0, .int 0, .int 0, .int 0, .int 0, .ref m12, .ref m13, .ref m14, .ref m15, .ref m16, .ref m17, .ref m18, .ref m19, .int 0])), (m7, .inl (cI, 2, .inl zf))]) (cc := cX7_corner) (maxL := 5) (ret := (some .int)) (Qc := fun _ A => va_Qi (S := Unit) (fun (r : Int32) (_ : Unit) => r = -1) (Aft D (fun (u : Unit) => []) A) A) (by decide) rfl (Nat.le_of_ble_eq_true rfl) ?_
  intro p e s m below meth c A H locs ⟨hx, hb, hr, hml, hown, hts, hlk, hnm⟩ hK hP hD hS hA ls hl
  have hl : lv_has ls 5 [(0, .ref h0), (1, .int v_c)] := hl
  have hown : s.vm.findClass RX7 = some m.cls := hown
  refine lv_aload_n hx hb dX7_corner_0 rfl (lv_at hl 0 rfl) ?_
  refine lv_iload_n hx hb dX7_corner_1 rfl (lv_at hl 1 rfl) ?_
  refine be_i (free := va_A [(h0, .inr (7, [.long 0, .ref m0, .int 0, .ref m1, .ref m2, .ref m3, .ref m4, .ref m5, .ref m6, .ref m7, .ref m8, .ref m9, .ref m10, .ref m11, .int 0, .int 0, .int 0, .int 0, .int 0, .int 0, .ref m12, .ref m13, .ref m14, .ref m15, .ref m16, .ref m17, .ref m18, .ref m19, .int 0])), (m7, .inl (cI, 2, .inl zf))] H.size) (wc := [(h0, .inr (7, [.long 0, .ref m0, .int 0, .ref m1, .ref m2, .ref m3, .ref m4, .ref m5, .ref m6, .ref m7, .ref m8, .ref m9, .ref m10, .ref m11, .int 0, .int 0, .int 0, .int 0, .int 0, .int 0, .ref m12, .ref m13, .ref m14, .ref m15, .ref m16, .ref m17, .ref m18, .ref m19, .int 0])), (m7, .inl (cI, 2, .inl zf))]) (wr := []) (ru_V (As := [.int v_c]) (rest := []) ⟨hx, hb, hml, hown, hts⟩ (c_M_isDebt l D cI cB cZ cN h0 m0 m1 m2 m3 m4 m5 m6 m7 m8 m9 m10 m11 m12 m13 m14 m15 m16 m17 m18 m19 v_c H.size) gX7_corner_X7_isDebt rfl ⟨rfl, by decide, by decide, (show Option.map (fun d => d.parameters.length) (parseMethodDescriptor yX7_isDebt.desc) = some 1 by decide +kernel)⟩ ⟨Nat.le_of_ble_eq_true rfl, Nat.le_of_ble_eq_true rfl⟩ hK hP hD 7 0 rfl rfl [0, 1] (by decide) rfl hl.1 rfl (Nat.le_of_ble_eq_true rfl) dX7_corner_2 ⟨Nat.le_of_ble_eq_true rfl, Nat.le_of_ble_eq_true rfl⟩) hP hD hS hA [0, 1] [] rfl rfl (by decide) (by decide) (fun r2 u1 H locs w3 hP hD hS => ?_)
  have hP : va_P D vwCl [(h0, .inr (7, [.long 0, .ref m0, .int 0, .ref m1, .ref m2, .ref m3, .ref m4, .ref m5, .ref m6, .ref m7, .ref m8, .ref m9, .ref m10, .ref m11, .int 0, .int 0, .int 0, .int 0, .int 0, .int 0, .ref m12, .ref m13, .ref m14, .ref m15, .ref m16, .ref m17, .ref m18, .ref m19, .int 0])), (m7, .inl (cI, 2, .inl zf))] H := hP
  have hD : va_D A [(h0, .inr (7, [.long 0, .ref m0, .int 0, .ref m1, .ref m2, .ref m3, .ref m4, .ref m5, .ref m6, .ref m7, .ref m8, .ref m9, .ref m10, .ref m11, .int 0, .int 0, .int 0, .int 0, .int 0, .int 0, .ref m12, .ref m13, .ref m14, .ref m15, .ref m16, .ref m17, .ref m18, .ref m19, .int 0])), (m7, .inl (cI, 2, .inl zf))] := hD
  obtain rfl : r2 = 0 := w3
  refine lv_if_ne (tgt := 10) hx hb dX7_corner_5 (by decide) (fun h4 => absurd (by decide) h4) (fun h4 => ?_)
  refine lv_iconst (v := -1) hx hb dX7_corner_8 (by decide) ?_
  exact en_i hx hb hr hlk hP hD hS () [] (by decide) rfl (Nat.le_of_ble_eq_true rfl) (Nat.le_of_ble_eq_true rfl) dX7_corner_9 rfl
theorem dX7_odds_0 : decode cX7_odds 0 = .ok (.aload_n 0, 1) := by decide +kernel
theorem dX7_odds_1 : decode cX7_odds 1 = .ok (.iload_n 1, 1) := by decide +kernel
theorem dX7_odds_2 : decode cX7_odds 2 = .ok (.invokevirtual 165, 3) := by decide +kernel
set_option maxRecDepth 20000 in
theorem ggX7_odds_X7_isDebt : GoodIn wsX7_odds wsX7_isDebt := goodIn_r _ [6, 7, 8, 9, 5, 10, 45, 46, 47, 48, 49, 50, 51, 52, 53, 54, 55, 56, 57, 58, 59, 60, 61, 62, 63, 64, 65, 66, 67, 68, 69, 70, 71, 72, 73] (by decide +kernel) (by decide +kernel)
set_option maxRecDepth 20000 in
theorem gX7_odds_X7_isDebt : GoodIn wsX7_odds (wsV RX7 165 RX7 yX7_isDebt wsX7_isDebt) := goodIn_app (goodIn_of _ (by decide +kernel)) ggX7_odds_X7_isDebt
theorem dX7_odds_5 : decode cX7_odds 5 = .ok (.ifCond .eq 22, 3) := by decide +kernel
theorem dX7_odds_27 : decode cX7_odds 27 = .ok (.iconst (-1), 1) := by decide +kernel
theorem dX7_odds_28 : decode cX7_odds 28 = .ok (.ireturn, 1) := by decide +kernel
set_option maxHeartbeats 4000000 in
set_option maxRecDepth 100000 in
theorem c_M_odds (l : Launch) (D : va_G) (cI cB cZ cN : ClassId) (h0 : Nat) (m0 : Nat) (m1 : Nat) (m2 : Nat) (m3 : Nat) (m4 : Nat) (m5 : Nat) (m6 : Nat) (m7 : Nat) (m8 : Nat) (m9 : Nat) (m10 : Nat) (m11 : Nat) (m12 : Nat) (m13 : Nat) (m14 : Nat) (m15 : Nat) (m16 : Nat) (m17 : Nat) (m18 : Nat) (m19 : Nat) (v_c : Int32) (v_w : Int32) (v_q : Int32)  : Ci (S := Unit) l D cI cB cZ cN yX7_odds wsX7_odds ({ frames := 2, cells := 0, slots := 0, locals := 43 } : Room) [.ref h0, .int v_c, .int v_w, .int v_q] [(h0, .inr (7, [.long 0, .ref m0, .int 0, .ref m1, .ref m2, .ref m3, .ref m4, .ref m5, .ref m6, .ref m7, .ref m8, .ref m9, .ref m10, .ref m11, .int 0, .int 0, .int 0, .int 0, .int 0, .int 0, .ref m12, .ref m13, .ref m14, .ref m15, .ref m16, .ref m17, .ref m18, .ref m19, .int 0])), (m7, .inl (cI, 2, .inl zf))] (fun (r : Int32) (_ : Unit) => r = -1) (fun u => []) := by
  refine bx_of (D := D) (cI := cI) (cB := cB) (cZ := cZ) (cN := cN) (y := yX7_odds) (wd := wsX7_odds) (rm := ({ frames := 2, cells := 0, slots := 0, locals := 43 } : Room)) (av := [.ref h0, .int v_c, .int v_w, .int v_q]) (wc := [(h0, .inr (7, [.long 0, .ref m0, .int 0, .ref m1, .ref m2, .ref m3, .ref m4, .ref m5, .ref m6, .ref m7, .ref m8, .ref m9, .ref m10, .ref m11, .int 0, .int 0, .int 0, .int 0, .int 0, .int 0, .ref m12, .ref m13, .ref m14, .ref m15, .ref m16, .ref m17, .ref m18, .ref m19, .int 0])), (m7, .inl (cI, 2, .inl zf))]) (cc := cX7_odds) (maxL := 9) (ret := (some .int)) (Qc := fun _ A => va_Qi (S := Unit) (fun (r : Int32) (_ : Unit) => r = -1) (Aft D (fun (u : Unit) => []) A) A) (by decide) rfl (Nat.le_of_ble_eq_true rfl) ?_
  intro p e s m below meth c A H locs ⟨hx, hb, hr, hml, hown, hts, hlk, hnm⟩ hK hP hD hS hA ls hl
  have hl : lv_has ls 9 [(0, .ref h0), (1, .int v_c), (2, .int v_w), (3, .int v_q)] := hl
  have hown : s.vm.findClass RX7 = some m.cls := hown
  refine lv_aload_n hx hb dX7_odds_0 rfl (lv_at hl 0 rfl) ?_
  refine lv_iload_n hx hb dX7_odds_1 rfl (lv_at hl 1 rfl) ?_
  refine be_i (free := va_A [(h0, .inr (7, [.long 0, .ref m0, .int 0, .ref m1, .ref m2, .ref m3, .ref m4, .ref m5, .ref m6, .ref m7, .ref m8, .ref m9, .ref m10, .ref m11, .int 0, .int 0, .int 0, .int 0, .int 0, .int 0, .ref m12, .ref m13, .ref m14, .ref m15, .ref m16, .ref m17, .ref m18, .ref m19, .int 0])), (m7, .inl (cI, 2, .inl zf))] H.size) (wc := [(h0, .inr (7, [.long 0, .ref m0, .int 0, .ref m1, .ref m2, .ref m3, .ref m4, .ref m5, .ref m6, .ref m7, .ref m8, .ref m9, .ref m10, .ref m11, .int 0, .int 0, .int 0, .int 0, .int 0, .int 0, .ref m12, .ref m13, .ref m14, .ref m15, .ref m16, .ref m17, .ref m18, .ref m19, .int 0])), (m7, .inl (cI, 2, .inl zf))]) (wr := []) (ru_V (As := [.int v_c]) (rest := []) ⟨hx, hb, hml, hown, hts⟩ (c_M_isDebt l D cI cB cZ cN h0 m0 m1 m2 m3 m4 m5 m6 m7 m8 m9 m10 m11 m12 m13 m14 m15 m16 m17 m18 m19 v_c H.size) gX7_odds_X7_isDebt rfl ⟨rfl, by decide, by decide, (show Option.map (fun d => d.parameters.length) (parseMethodDescriptor yX7_isDebt.desc) = some 1 by decide +kernel)⟩ ⟨Nat.le_of_ble_eq_true rfl, Nat.le_of_ble_eq_true rfl⟩ hK hP hD 7 0 rfl rfl [0, 1] (by decide) rfl hl.1 rfl (Nat.le_of_ble_eq_true rfl) dX7_odds_2 ⟨Nat.le_of_ble_eq_true rfl, Nat.le_of_ble_eq_true rfl⟩) hP hD hS hA [0, 1] [] rfl rfl (by decide) (by decide) (fun r2 u1 H locs w3 hP hD hS => ?_)
  have hP : va_P D vwCl [(h0, .inr (7, [.long 0, .ref m0, .int 0, .ref m1, .ref m2, .ref m3, .ref m4, .ref m5, .ref m6, .ref m7, .ref m8, .ref m9, .ref m10, .ref m11, .int 0, .int 0, .int 0, .int 0, .int 0, .int 0, .ref m12, .ref m13, .ref m14, .ref m15, .ref m16, .ref m17, .ref m18, .ref m19, .int 0])), (m7, .inl (cI, 2, .inl zf))] H := hP
  have hD : va_D A [(h0, .inr (7, [.long 0, .ref m0, .int 0, .ref m1, .ref m2, .ref m3, .ref m4, .ref m5, .ref m6, .ref m7, .ref m8, .ref m9, .ref m10, .ref m11, .int 0, .int 0, .int 0, .int 0, .int 0, .int 0, .ref m12, .ref m13, .ref m14, .ref m15, .ref m16, .ref m17, .ref m18, .ref m19, .int 0])), (m7, .inl (cI, 2, .inl zf))] := hD
  obtain rfl : r2 = 0 := w3
  refine lv_if_eq (tgt := 27) hx hb dX7_odds_5 (by decide) (fun h4 => ?_) (fun h4 => absurd (by decide) h4)
  refine lv_iconst (v := -1) hx hb dX7_odds_27 (by decide) ?_
  exact en_i hx hb hr hlk hP hD hS () [] (by decide) rfl (Nat.le_of_ble_eq_true rfl) (Nat.le_of_ble_eq_true rfl) dX7_odds_28 rfl
theorem dX7_took_0 : decode cX7_took 0 = .ok (.aload_n 0, 1) := by decide +kernel
theorem dX7_took_1 : decode cX7_took 1 = .ok (.iload_n 1, 1) := by decide +kernel
theorem dX7_took_2 : decode cX7_took 2 = .ok (.invokevirtual 142, 3) := by decide +kernel
set_option maxRecDepth 20000 in
theorem ggX7_took_X7_isCoin : GoodIn wsX7_took wsX7_isCoin := goodIn_r _ [7, 8, 9, 10, 6, 11, 12, 13, 14, 15, 16, 17, 18, 19, 20, 21, 22, 23, 24, 25, 26, 27, 28, 29, 30, 31, 32, 33, 34, 35, 36, 37, 38, 39, 40] (by decide +kernel) (by decide +kernel)
set_option maxRecDepth 20000 in
theorem gX7_took_X7_isCoin : GoodIn wsX7_took (wsV RX7 142 RX7 yX7_isCoin wsX7_isCoin) := goodIn_app (goodIn_of _ (by decide +kernel)) ggX7_took_X7_isCoin
theorem dX7_took_5 : decode cX7_took 5 = .ok (.ifCond .ne 5, 3) := by decide +kernel
theorem dX7_took_8 : decode cX7_took 8 = .ok (.iconst (-1), 1) := by decide +kernel
theorem dX7_took_9 : decode cX7_took 9 = .ok (.ireturn, 1) := by decide +kernel
set_option maxHeartbeats 4000000 in
set_option maxRecDepth 100000 in
theorem c_M_took (l : Launch) (D : va_G) (cI cB cZ cN : ClassId) (h0 : Nat) (m0 : Nat) (m1 : Nat) (m2 : Nat) (m3 : Nat) (m4 : Nat) (m5 : Nat) (m6 : Nat) (m7 : Nat) (m8 : Nat) (m9 : Nat) (m10 : Nat) (m11 : Nat) (m12 : Nat) (m13 : Nat) (m14 : Nat) (m15 : Nat) (m16 : Nat) (m17 : Nat) (m18 : Nat) (m19 : Nat) (v_c : Int32)  : Ci (S := Unit) l D cI cB cZ cN yX7_took wsX7_took ({ frames := 2, cells := 0, slots := 0, locals := 43 } : Room) [.ref h0, .int v_c] [(h0, .inr (7, [.long 0, .ref m0, .int 0, .ref m1, .ref m2, .ref m3, .ref m4, .ref m5, .ref m6, .ref m7, .ref m8, .ref m9, .ref m10, .ref m11, .int 0, .int 0, .int 0, .int 0, .int 0, .int 0, .ref m12, .ref m13, .ref m14, .ref m15, .ref m16, .ref m17, .ref m18, .ref m19, .int 0])), (m1, .inl (cI, 2, .inl zf))] (fun (r : Int32) (_ : Unit) => r = -1) (fun u => []) := by
  refine bx_of (D := D) (cI := cI) (cB := cB) (cZ := cZ) (cN := cN) (y := yX7_took) (wd := wsX7_took) (rm := ({ frames := 2, cells := 0, slots := 0, locals := 43 } : Room)) (av := [.ref h0, .int v_c]) (wc := [(h0, .inr (7, [.long 0, .ref m0, .int 0, .ref m1, .ref m2, .ref m3, .ref m4, .ref m5, .ref m6, .ref m7, .ref m8, .ref m9, .ref m10, .ref m11, .int 0, .int 0, .int 0, .int 0, .int 0, .int 0, .ref m12, .ref m13, .ref m14, .ref m15, .ref m16, .ref m17, .ref m18, .ref m19, .int 0])), (m1, .inl (cI, 2, .inl zf))]) (cc := cX7_took) (maxL := 2) (ret := (some .int)) (Qc := fun _ A => va_Qi (S := Unit) (fun (r : Int32) (_ : Unit) => r = -1) (Aft D (fun (u : Unit) => []) A) A) (by decide) rfl (Nat.le_of_ble_eq_true rfl) ?_
  intro p e s m below meth c A H locs ⟨hx, hb, hr, hml, hown, hts, hlk, hnm⟩ hK hP hD hS hA ls hl
  have hl : lv_has ls 2 [(0, .ref h0), (1, .int v_c)] := hl
  have hown : s.vm.findClass RX7 = some m.cls := hown
  refine lv_aload_n hx hb dX7_took_0 rfl (lv_at hl 0 rfl) ?_
  refine lv_iload_n hx hb dX7_took_1 rfl (lv_at hl 1 rfl) ?_
  refine be_i (free := va_A [(h0, .inr (7, [.long 0, .ref m0, .int 0, .ref m1, .ref m2, .ref m3, .ref m4, .ref m5, .ref m6, .ref m7, .ref m8, .ref m9, .ref m10, .ref m11, .int 0, .int 0, .int 0, .int 0, .int 0, .int 0, .ref m12, .ref m13, .ref m14, .ref m15, .ref m16, .ref m17, .ref m18, .ref m19, .int 0])), (m1, .inl (cI, 2, .inl zf))] H.size) (wc := [(h0, .inr (7, [.long 0, .ref m0, .int 0, .ref m1, .ref m2, .ref m3, .ref m4, .ref m5, .ref m6, .ref m7, .ref m8, .ref m9, .ref m10, .ref m11, .int 0, .int 0, .int 0, .int 0, .int 0, .int 0, .ref m12, .ref m13, .ref m14, .ref m15, .ref m16, .ref m17, .ref m18, .ref m19, .int 0])), (m1, .inl (cI, 2, .inl zf))]) (wr := []) (ru_V (As := [.int v_c]) (rest := []) ⟨hx, hb, hml, hown, hts⟩ (c_M_isCoin l D cI cB cZ cN h0 m0 m1 m2 m3 m4 m5 m6 m7 m8 m9 m10 m11 m12 m13 m14 m15 m16 m17 m18 m19 v_c H.size) gX7_took_X7_isCoin rfl ⟨rfl, by decide, by decide, (show Option.map (fun d => d.parameters.length) (parseMethodDescriptor yX7_isCoin.desc) = some 1 by decide +kernel)⟩ ⟨Nat.le_of_ble_eq_true rfl, Nat.le_of_ble_eq_true rfl⟩ hK hP hD 7 0 rfl rfl [0, 1] (by decide) rfl hl.1 rfl (Nat.le_of_ble_eq_true rfl) dX7_took_2 ⟨Nat.le_of_ble_eq_true rfl, Nat.le_of_ble_eq_true rfl⟩) hP hD hS hA [0, 1] [] rfl rfl (by decide) (by decide) (fun r2 u1 H locs w3 hP hD hS => ?_)
  have hP : va_P D vwCl [(h0, .inr (7, [.long 0, .ref m0, .int 0, .ref m1, .ref m2, .ref m3, .ref m4, .ref m5, .ref m6, .ref m7, .ref m8, .ref m9, .ref m10, .ref m11, .int 0, .int 0, .int 0, .int 0, .int 0, .int 0, .ref m12, .ref m13, .ref m14, .ref m15, .ref m16, .ref m17, .ref m18, .ref m19, .int 0])), (m1, .inl (cI, 2, .inl zf))] H := hP
  have hD : va_D A [(h0, .inr (7, [.long 0, .ref m0, .int 0, .ref m1, .ref m2, .ref m3, .ref m4, .ref m5, .ref m6, .ref m7, .ref m8, .ref m9, .ref m10, .ref m11, .int 0, .int 0, .int 0, .int 0, .int 0, .int 0, .ref m12, .ref m13, .ref m14, .ref m15, .ref m16, .ref m17, .ref m18, .ref m19, .int 0])), (m1, .inl (cI, 2, .inl zf))] := hD
  obtain rfl : r2 = 0 := w3
  refine lv_if_ne (tgt := 10) hx hb dX7_took_5 (by decide) (fun h4 => absurd (by decide) h4) (fun h4 => ?_)
  refine lv_iconst (v := -1) hx hb dX7_took_8 (by decide) ?_
  exact en_i hx hb hr hlk hP hD hS () [] (by decide) rfl (Nat.le_of_ble_eq_true rfl) (Nat.le_of_ble_eq_true rfl) dX7_took_9 rfl
theorem dX7_undo_0 : decode cX7_undo 0 = .ok (.aload_n 0, 1) := by decide +kernel
theorem dX7_undo_1 : decode cX7_undo 1 = .ok (.getfield 47, 3) := by decide +kernel
theorem in_X7_undo_7 : ∀ w ∈ wsX70, w ∈ wsX7_undo := fun w h => List.mem_cons_of_mem _ (List.mem_append_right _ h)
theorem dX7_undo_4 : decode cX7_undo 4 = .ok (.bipush 36, 2) := by decide +kernel
theorem dX7_undo_6 : decode cX7_undo 6 = .ok (.iaload, 1) := by decide +kernel
theorem dX7_undo_7 : decode cX7_undo 7 = .ok (.ifCond .ne 6, 3) := by decide +kernel
theorem dX7_undo_10 : decode cX7_undo 10 = .ok (.bipush (-2), 2) := by decide +kernel
theorem dX7_undo_12 : decode cX7_undo 12 = .ok (.ireturn, 1) := by decide +kernel
set_option maxHeartbeats 4000000 in
set_option maxRecDepth 100000 in
theorem c_M_undo (l : Launch) (D : va_G) (cI cB cZ cN : ClassId) (h0 : Nat) (m0 : Nat) (m1 : Nat) (m2 : Nat) (m3 : Nat) (m4 : Nat) (m5 : Nat) (m6 : Nat) (m7 : Nat) (m8 : Nat) (m9 : Nat) (m10 : Nat) (m11 : Nat) (m12 : Nat) (m13 : Nat) (m14 : Nat) (m15 : Nat) (m16 : Nat) (m17 : Nat) (m18 : Nat) (m19 : Nat)  : Ci (S := Unit) l D cI cB cZ cN yX7_undo wsX7_undo ({ frames := 0, cells := 0, slots := 0, locals := 0 } : Room) [.ref h0] [(h0, .inr (7, [.long 0, .ref m0, .int 0, .ref m1, .ref m2, .ref m3, .ref m4, .ref m5, .ref m6, .ref m7, .ref m8, .ref m9, .ref m10, .ref m11, .int 0, .int 0, .int 0, .int 0, .int 0, .int 0, .ref m12, .ref m13, .ref m14, .ref m15, .ref m16, .ref m17, .ref m18, .ref m19, .int 0])), (m12, .inl (cI, 1191, .inl zf))] (fun (r : Int32) (_ : Unit) => r = -2) (fun u => []) := by
  refine bx_of (D := D) (cI := cI) (cB := cB) (cZ := cZ) (cN := cN) (y := yX7_undo) (wd := wsX7_undo) (rm := ({ frames := 0, cells := 0, slots := 0, locals := 0 } : Room)) (av := [.ref h0]) (wc := [(h0, .inr (7, [.long 0, .ref m0, .int 0, .ref m1, .ref m2, .ref m3, .ref m4, .ref m5, .ref m6, .ref m7, .ref m8, .ref m9, .ref m10, .ref m11, .int 0, .int 0, .int 0, .int 0, .int 0, .int 0, .ref m12, .ref m13, .ref m14, .ref m15, .ref m16, .ref m17, .ref m18, .ref m19, .int 0])), (m12, .inl (cI, 1191, .inl zf))]) (cc := cX7_undo) (maxL := 2) (ret := (some .int)) (Qc := fun _ A => va_Qi (S := Unit) (fun (r : Int32) (_ : Unit) => r = -2) (Aft D (fun (u : Unit) => []) A) A) (by decide) rfl (Nat.le_of_ble_eq_true rfl) ?_
  intro p e s m below meth c A H locs ⟨hx, hb, hr, hml, hown, hts, hlk, hnm⟩ hK hP hD hS hA ls hl
  have hl : lv_has ls 2 [(0, .ref h0)] := hl
  have hown : s.vm.findClass RX7 = some m.cls := hown
  refine lv_aload_n hx hb dX7_undo_0 rfl (lv_at hl 0 rfl) ?_
  refine va_get (D := D) (ci := 7) (v := .ref m12) (C := RX7) (T := TX7) (N := 29) hx hb hts in_X7_undo_7 hown hK.1 hP 0 rfl rfl 20 (by decide) (hts (.fieldLink RX7 47 "ChildCoinsModel" "now" "[I") (List.mem_of_getElem? (i := 1) rfl)) (fun _ h9 => h9) rfl dX7_undo_1 ?_
  refine lv_bipush (v := 36) hx hb dX7_undo_4 (by decide) ?_
  refine va_iald hx hb hK.1 hP 1 0 rfl rfl (vp_in_nI (n := 36) (N := 1191) (by decide) (by decide)) dX7_undo_6 ?_
  refine set_i (y := 0) rfl ?_
  refine lv_if_ne (tgt := 13) hx hb dX7_undo_7 (by decide) (fun h1 => absurd (by decide) h1) (fun h1 => ?_)
  refine lv_bipush (v := -2) hx hb dX7_undo_10 (by decide) ?_
  exact en_i hx hb hr hlk hP hD hS () [] (by decide) rfl (Nat.le_of_ble_eq_true rfl) (Nat.le_of_ble_eq_true rfl) dX7_undo_12 rfl
theorem dX7_now_0 : decode cX7_now 0 = .ok (.iconst 0, 1) := by decide +kernel
theorem dX7_now_1 : decode cX7_now 1 = .ok (.istore_n 2, 1) := by decide +kernel
theorem dX7_now_2 : decode cX7_now 2 = .ok (.iload_n 1, 1) := by decide +kernel
theorem dX7_now_3 : decode cX7_now 3 = .ok (.tableswitch 161 0 3 #[29, 37, 88, 116], 29) := by decide +kernel
theorem dX7_now_32 : decode cX7_now 32 = .ok (.aload_n 0, 1) := by decide +kernel
theorem dX7_now_33 : decode cX7_now 33 = .ok (.getfield 47, 3) := by decide +kernel
theorem in_X7_now_7 : ∀ w ∈ wsX70, w ∈ wsX7_now := fun w h => List.mem_cons_of_mem _ (List.mem_append_right _ h)
theorem dX7_now_36 : decode cX7_now 36 = .ok (.bipush 35, 2) := by decide +kernel
theorem dX7_now_38 : decode cX7_now 38 = .ok (.iaload, 1) := by decide +kernel
theorem dX7_now_39 : decode cX7_now 39 = .ok (.ireturn, 1) := by decide +kernel
theorem dX7_now_40 : decode cX7_now 40 = .ok (.iconst 0, 1) := by decide +kernel
theorem dX7_now_41 : decode cX7_now 41 = .ok (.istore_n 3, 1) := by decide +kernel
theorem dX7_now_42 : decode cX7_now 42 = .ok (.iload_n 3, 1) := by decide +kernel
theorem dX7_now_43 : decode cX7_now 43 = .ok (.aload_n 0, 1) := by decide +kernel
theorem dX7_now_44 : decode cX7_now 44 = .ok (.getfield 32, 3) := by decide +kernel
theorem dX7_now_47 : decode cX7_now 47 = .ok (.iconst 0, 1) := by decide +kernel
theorem dX7_now_48 : decode cX7_now 48 = .ok (.iaload, 1) := by decide +kernel
theorem dX7_now_49 : decode cX7_now 49 = .ok (.if_icmp .ge 40, 3) := by decide +kernel
theorem dX7_now_89 : decode cX7_now 89 = .ok (.iload_n 2, 1) := by decide +kernel
theorem dX7_now_90 : decode cX7_now 90 = .ok (.ireturn, 1) := by decide +kernel
theorem dX7_now_91 : decode cX7_now 91 = .ok (.iconst 0, 1) := by decide +kernel
theorem dX7_now_92 : decode cX7_now 92 = .ok (.istore_n 3, 1) := by decide +kernel
theorem dX7_now_93 : decode cX7_now 93 = .ok (.iload_n 3, 1) := by decide +kernel
theorem dX7_now_94 : decode cX7_now 94 = .ok (.aload_n 0, 1) := by decide +kernel
theorem dX7_now_95 : decode cX7_now 95 = .ok (.getfield 23, 3) := by decide +kernel
theorem dX7_now_98 : decode cX7_now 98 = .ok (.iconst 0, 1) := by decide +kernel
theorem dX7_now_99 : decode cX7_now 99 = .ok (.iaload, 1) := by decide +kernel
theorem dX7_now_100 : decode cX7_now 100 = .ok (.if_icmp .ge 17, 3) := by decide +kernel
theorem dX7_now_117 : decode cX7_now 117 = .ok (.iload_n 2, 1) := by decide +kernel
theorem dX7_now_118 : decode cX7_now 118 = .ok (.ireturn, 1) := by decide +kernel
theorem dX7_now_119 : decode cX7_now 119 = .ok (.iconst 0, 1) := by decide +kernel
theorem dX7_now_120 : decode cX7_now 120 = .ok (.istore_n 3, 1) := by decide +kernel
theorem dX7_now_121 : decode cX7_now 121 = .ok (.iload_n 3, 1) := by decide +kernel
theorem dX7_now_122 : decode cX7_now 122 = .ok (.aload_n 0, 1) := by decide +kernel
theorem dX7_now_123 : decode cX7_now 123 = .ok (.getfield 32, 3) := by decide +kernel
theorem dX7_now_126 : decode cX7_now 126 = .ok (.iconst 0, 1) := by decide +kernel
theorem dX7_now_127 : decode cX7_now 127 = .ok (.iaload, 1) := by decide +kernel
theorem dX7_now_128 : decode cX7_now 128 = .ok (.if_icmp .ge 34, 3) := by decide +kernel
theorem dX7_now_162 : decode cX7_now 162 = .ok (.iload_n 2, 1) := by decide +kernel
theorem dX7_now_163 : decode cX7_now 163 = .ok (.ireturn, 1) := by decide +kernel
theorem dX7_now_164 : decode cX7_now 164 = .ok (.iconst (-1), 1) := by decide +kernel
theorem dX7_now_165 : decode cX7_now 165 = .ok (.ireturn, 1) := by decide +kernel
set_option maxHeartbeats 4000000 in
set_option maxRecDepth 100000 in
theorem c_M_now (l : Launch) (D : va_G) (cI cB cZ cN : ClassId) (h0 : Nat) (m0 : Nat) (m1 : Nat) (m2 : Nat) (m3 : Nat) (m4 : Nat) (m5 : Nat) (m6 : Nat) (m7 : Nat) (m8 : Nat) (m9 : Nat) (m10 : Nat) (m11 : Nat) (m12 : Nat) (m13 : Nat) (m14 : Nat) (m15 : Nat) (m16 : Nat) (m17 : Nat) (m18 : Nat) (m19 : Nat) (v_c : Int32)  : Ci (S := Unit) l D cI cB cZ cN yX7_now wsX7_now ({ frames := 0, cells := 0, slots := 0, locals := 0 } : Room) [.ref h0, .int v_c] [(h0, .inr (7, [.long 0, .ref m0, .int 0, .ref m1, .ref m2, .ref m3, .ref m4, .ref m5, .ref m6, .ref m7, .ref m8, .ref m9, .ref m10, .ref m11, .int 0, .int 0, .int 0, .int 0, .int 0, .int 0, .ref m12, .ref m13, .ref m14, .ref m15, .ref m16, .ref m17, .ref m18, .ref m19, .int 0])), (m12, .inl (cI, 1191, .inl zf)), (m7, .inl (cI, 2, .inl zf)), (m4, .inl (cI, 2, .inl zf))] (fun (r : Int32) (_ : Unit) => r = nwA v_c) (fun u => []) := by
  refine bx_of (D := D) (cI := cI) (cB := cB) (cZ := cZ) (cN := cN) (y := yX7_now) (wd := wsX7_now) (rm := ({ frames := 0, cells := 0, slots := 0, locals := 0 } : Room)) (av := [.ref h0, .int v_c]) (wc := [(h0, .inr (7, [.long 0, .ref m0, .int 0, .ref m1, .ref m2, .ref m3, .ref m4, .ref m5, .ref m6, .ref m7, .ref m8, .ref m9, .ref m10, .ref m11, .int 0, .int 0, .int 0, .int 0, .int 0, .int 0, .ref m12, .ref m13, .ref m14, .ref m15, .ref m16, .ref m17, .ref m18, .ref m19, .int 0])), (m12, .inl (cI, 1191, .inl zf)), (m7, .inl (cI, 2, .inl zf)), (m4, .inl (cI, 2, .inl zf))]) (cc := cX7_now) (maxL := 4) (ret := (some .int)) (Qc := fun _ A => va_Qi (S := Unit) (fun (r : Int32) (_ : Unit) => r = nwA v_c) (Aft D (fun (u : Unit) => []) A) A) (by decide) rfl (Nat.le_of_ble_eq_true rfl) ?_
  intro p e s m below meth c A H locs ⟨hx, hb, hr, hml, hown, hts, hlk, hnm⟩ hK hP hD hS hA ls hl
  have hl : lv_has ls 4 [(0, .ref h0), (1, .int v_c)] := hl
  have hown : s.vm.findClass RX7 = some m.cls := hown
  refine lv_iconst (v := 0) hx hb dX7_now_0 (by decide) ?_
  refine lv_istore_n (lv' := [(2, .int 0), (0, .ref h0), (1, .int v_c)]) hx hb dX7_now_1 rfl hl (by decide) rfl (fun ls hl => ?_)
  refine lv_iload_n hx hb dX7_now_2 rfl (lv_at hl 2 rfl) ?_
  rcases sw3 v_c with rfl | rfl | rfl | rfl | h1
  · refine lv_tableIn (tgt := 32) (off := 29) hx hb dX7_now_3 (by decide) (by decide) (by decide) (by decide) ?_
    refine lv_aload_n hx hb dX7_now_32 rfl (lv_at hl 1 rfl) ?_
    refine va_get (D := D) (ci := 7) (v := .ref m12) (C := RX7) (T := TX7) (N := 29) hx hb hts in_X7_now_7 hown hK.1 hP 0 rfl rfl 20 (by decide) (hts (.fieldLink RX7 47 "ChildCoinsModel" "now" "[I") (List.mem_of_getElem? (i := 1) rfl)) (fun _ h9 => h9) rfl dX7_now_33 ?_
    refine lv_bipush (v := 35) hx hb dX7_now_36 (by decide) ?_
    refine va_iald hx hb hK.1 hP 1 0 rfl rfl (vp_in_nI (n := 35) (N := 1191) (by decide) (by decide)) dX7_now_38 ?_
    refine set_i (y := 0) rfl ?_
    exact en_i hx hb hr hlk hP hD hS () [] (by decide) rfl (Nat.le_of_ble_eq_true rfl) (Nat.le_of_ble_eq_true rfl) dX7_now_39 (by decide)
  · refine lv_tableIn (tgt := 40) (off := 37) hx hb dX7_now_3 (by decide) (by decide) (by decide) (by decide) ?_
    refine lv_iconst (v := 0) hx hb dX7_now_40 (by decide) ?_
    refine lv_istore_n (lv' := [(3, .int 0), (2, .int 0), (0, .ref h0), (1, .int 1)]) hx hb dX7_now_41 rfl hl (by decide) rfl (fun ls hl => ?_)
    refine lv_iload_n hx hb dX7_now_42 rfl (lv_at hl 0 rfl) ?_
    refine lv_aload_n hx hb dX7_now_43 rfl (lv_at hl 2 rfl) ?_
    refine va_get (D := D) (ci := 7) (v := .ref m7) (C := RX7) (T := TX7) (N := 29) hx hb hts in_X7_now_7 hown hK.1 hP 0 rfl rfl 9 (by decide) (hts (.fieldLink RX7 32 "ChildCoinsModel" "debts" "[I") (List.mem_of_getElem? (i := 2) rfl)) (fun _ h9 => h9) rfl dX7_now_44 ?_
    refine lv_iconst (v := 0) hx hb dX7_now_47 (by decide) ?_
    refine va_iald hx hb hK.1 hP 2 0 rfl rfl (vp_in_nI (n := 0) (N := 2) (by decide) (by decide)) dX7_now_48 ?_
    refine set_i (y := 0) rfl ?_
    refine lv_icmp_ge (tgt := 89) hx hb dX7_now_49 (by decide) (fun h2 => ?_) (fun h2 => absurd (by decide) h2)
    refine lv_iload_n hx hb dX7_now_89 rfl (lv_at hl 1 rfl) ?_
    exact en_i hx hb hr hlk hP hD hS () [] (by decide) rfl (Nat.le_of_ble_eq_true rfl) (Nat.le_of_ble_eq_true rfl) dX7_now_90 (by decide)
  · refine lv_tableIn (tgt := 91) (off := 88) hx hb dX7_now_3 (by decide) (by decide) (by decide) (by decide) ?_
    refine lv_iconst (v := 0) hx hb dX7_now_91 (by decide) ?_
    refine lv_istore_n (lv' := [(3, .int 0), (2, .int 0), (0, .ref h0), (1, .int 2)]) hx hb dX7_now_92 rfl hl (by decide) rfl (fun ls hl => ?_)
    refine lv_iload_n hx hb dX7_now_93 rfl (lv_at hl 0 rfl) ?_
    refine lv_aload_n hx hb dX7_now_94 rfl (lv_at hl 2 rfl) ?_
    refine va_get (D := D) (ci := 7) (v := .ref m4) (C := RX7) (T := TX7) (N := 29) hx hb hts in_X7_now_7 hown hK.1 hP 0 rfl rfl 6 (by decide) (hts (.fieldLink RX7 23 "ChildCoinsModel" "people" "[I") (List.mem_of_getElem? (i := 3) rfl)) (fun _ h9 => h9) rfl dX7_now_95 ?_
    refine lv_iconst (v := 0) hx hb dX7_now_98 (by decide) ?_
    refine va_iald hx hb hK.1 hP 3 0 rfl rfl (vp_in_nI (n := 0) (N := 2) (by decide) (by decide)) dX7_now_99 ?_
    refine set_i (y := 0) rfl ?_
    refine lv_icmp_ge (tgt := 117) hx hb dX7_now_100 (by decide) (fun h3 => ?_) (fun h3 => absurd (by decide) h3)
    refine lv_iload_n hx hb dX7_now_117 rfl (lv_at hl 1 rfl) ?_
    exact en_i hx hb hr hlk hP hD hS () [] (by decide) rfl (Nat.le_of_ble_eq_true rfl) (Nat.le_of_ble_eq_true rfl) dX7_now_118 (by decide)
  · refine lv_tableIn (tgt := 119) (off := 116) hx hb dX7_now_3 (by decide) (by decide) (by decide) (by decide) ?_
    refine lv_iconst (v := 0) hx hb dX7_now_119 (by decide) ?_
    refine lv_istore_n (lv' := [(3, .int 0), (2, .int 0), (0, .ref h0), (1, .int 3)]) hx hb dX7_now_120 rfl hl (by decide) rfl (fun ls hl => ?_)
    refine lv_iload_n hx hb dX7_now_121 rfl (lv_at hl 0 rfl) ?_
    refine lv_aload_n hx hb dX7_now_122 rfl (lv_at hl 2 rfl) ?_
    refine va_get (D := D) (ci := 7) (v := .ref m7) (C := RX7) (T := TX7) (N := 29) hx hb hts in_X7_now_7 hown hK.1 hP 0 rfl rfl 9 (by decide) (hts (.fieldLink RX7 32 "ChildCoinsModel" "debts" "[I") (List.mem_of_getElem? (i := 2) rfl)) (fun _ h9 => h9) rfl dX7_now_123 ?_
    refine lv_iconst (v := 0) hx hb dX7_now_126 (by decide) ?_
    refine va_iald hx hb hK.1 hP 2 0 rfl rfl (vp_in_nI (n := 0) (N := 2) (by decide) (by decide)) dX7_now_127 ?_
    refine set_i (y := 0) rfl ?_
    refine lv_icmp_ge (tgt := 162) hx hb dX7_now_128 (by decide) (fun h4 => ?_) (fun h4 => absurd (by decide) h4)
    refine lv_iload_n hx hb dX7_now_162 rfl (lv_at hl 1 rfl) ?_
    exact en_i hx hb hr hlk hP hD hS () [] (by decide) rfl (Nat.le_of_ble_eq_true rfl) (Nat.le_of_ble_eq_true rfl) dX7_now_163 (by decide)
  · refine lv_tableOut (tgt := 164) hx hb dX7_now_3 h1 (by decide) ?_
    refine lv_iconst (v := -1) hx hb dX7_now_164 (by decide) ?_
    exact en_i hx hb hr hlk hP hD hS () [] (by decide) rfl (Nat.le_of_ble_eq_true rfl) (Nat.le_of_ble_eq_true rfl) dX7_now_165 (if_pos (out_lo (hi := 3) rfl h1)).symm
theorem dX7_findRow_0 : decode cX7_findRow 0 = .ok (.aload_n 0, 1) := by decide +kernel
theorem dX7_findRow_1 : decode cX7_findRow 1 = .ok (.getfield 47, 3) := by decide +kernel
theorem in_X7_findRow_7 : ∀ w ∈ wsX70, w ∈ wsX7_findRow := fun w h => List.mem_cons_of_mem _ (List.mem_append_right _ h)
theorem dX7_findRow_4 : decode cX7_findRow 4 = .ok (.bipush 35, 2) := by decide +kernel
theorem dX7_findRow_6 : decode cX7_findRow 6 = .ok (.iaload, 1) := by decide +kernel
theorem dX7_findRow_7 : decode cX7_findRow 7 = .ok (.invokestatic 195, 3) := by decide +kernel
set_option maxRecDepth 20000 in
theorem ggX7_findRow_X7_manyOf : GoodIn wsX7_findRow wsX7_manyOf := goodIn_r _ [5] (by decide +kernel) (by decide +kernel)
theorem dX7_findRow_10 : decode cX7_findRow 10 = .ok (.istore_n 1, 1) := by decide +kernel
theorem dX7_findRow_11 : decode cX7_findRow 11 = .ok (.iload_n 1, 1) := by decide +kernel
theorem dX7_findRow_12 : decode cX7_findRow 12 = .ok (.ifCond .le 60, 3) := by decide +kernel
theorem dX7_findRow_72 : decode cX7_findRow 72 = .ok (.iconst 0, 1) := by decide +kernel
theorem dX7_findRow_73 : decode cX7_findRow 73 = .ok (.ireturn, 1) := by decide +kernel
set_option maxHeartbeats 4000000 in
set_option maxRecDepth 100000 in
theorem c_M_findRow (l : Launch) (D : va_G) (cI cB cZ cN : ClassId) (h0 : Nat) (m0 : Nat) (m1 : Nat) (m2 : Nat) (m3 : Nat) (m4 : Nat) (m5 : Nat) (m6 : Nat) (m7 : Nat) (m8 : Nat) (m9 : Nat) (m10 : Nat) (m11 : Nat) (m12 : Nat) (m13 : Nat) (m14 : Nat) (m15 : Nat) (m16 : Nat) (m17 : Nat) (m18 : Nat) (m19 : Nat)  : Ci (S := Unit) l D cI cB cZ cN yX7_findRow wsX7_findRow ({ frames := 1, cells := 0, slots := 0, locals := 22 } : Room) [.ref h0] [(h0, .inr (7, [.long 0, .ref m0, .int 0, .ref m1, .ref m2, .ref m3, .ref m4, .ref m5, .ref m6, .ref m7, .ref m8, .ref m9, .ref m10, .ref m11, .int 0, .int 0, .int 0, .int 0, .int 0, .int 0, .ref m12, .ref m13, .ref m14, .ref m15, .ref m16, .ref m17, .ref m18, .ref m19, .int 0])), (m12, .inl (cI, 1191, .inl zf))] (fun (r : Int32) (_ : Unit) => r = 0) (fun u => [(h0, .inr (7, [.long 0, .ref m0, .int 0, .ref m1, .ref m2, .ref m3, .ref m4, .ref m5, .ref m6, .ref m7, .ref m8, .ref m9, .ref m10, .ref m11, .int 0, .int 0, .int 0, .int 0, .int 0, .int 0, .ref m12, .ref m13, .ref m14, .ref m15, .ref m16, .ref m17, .ref m18, .ref m19, .int 0])), (m12, .inl (cI, 1191, .inl zf))]) := by
  refine bx_of (D := D) (cI := cI) (cB := cB) (cZ := cZ) (cN := cN) (y := yX7_findRow) (wd := wsX7_findRow) (rm := ({ frames := 1, cells := 0, slots := 0, locals := 22 } : Room)) (av := [.ref h0]) (wc := [(h0, .inr (7, [.long 0, .ref m0, .int 0, .ref m1, .ref m2, .ref m3, .ref m4, .ref m5, .ref m6, .ref m7, .ref m8, .ref m9, .ref m10, .ref m11, .int 0, .int 0, .int 0, .int 0, .int 0, .int 0, .ref m12, .ref m13, .ref m14, .ref m15, .ref m16, .ref m17, .ref m18, .ref m19, .int 0])), (m12, .inl (cI, 1191, .inl zf))]) (cc := cX7_findRow) (maxL := 4) (ret := (some .int)) (Qc := fun _ A => va_Qi (S := Unit) (fun (r : Int32) (_ : Unit) => r = 0) (Aft D (fun (u : Unit) => [(h0, .inr (7, [.long 0, .ref m0, .int 0, .ref m1, .ref m2, .ref m3, .ref m4, .ref m5, .ref m6, .ref m7, .ref m8, .ref m9, .ref m10, .ref m11, .int 0, .int 0, .int 0, .int 0, .int 0, .int 0, .ref m12, .ref m13, .ref m14, .ref m15, .ref m16, .ref m17, .ref m18, .ref m19, .int 0])), (m12, .inl (cI, 1191, .inl zf))]) A) A) (by decide) rfl (Nat.le_of_ble_eq_true rfl) ?_
  intro p e s m below meth c A H locs ⟨hx, hb, hr, hml, hown, hts, hlk, hnm⟩ hK hP hD hS hA ls hl
  have hl : lv_has ls 4 [(0, .ref h0)] := hl
  have hown : s.vm.findClass RX7 = some m.cls := hown
  refine lv_aload_n hx hb dX7_findRow_0 rfl (lv_at hl 0 rfl) ?_
  refine va_get (D := D) (ci := 7) (v := .ref m12) (C := RX7) (T := TX7) (N := 29) hx hb hts in_X7_findRow_7 hown hK.1 hP 0 rfl rfl 20 (by decide) (hts (.fieldLink RX7 47 "ChildCoinsModel" "now" "[I") (List.mem_of_getElem? (i := 1) rfl)) (fun _ h9 => h9) rfl dX7_findRow_1 ?_
  refine lv_bipush (v := 35) hx hb dX7_findRow_4 (by decide) ?_
  refine va_iald hx hb hK.1 hP 1 0 rfl rfl (vp_in_nI (n := 35) (N := 1191) (by decide) (by decide)) dX7_findRow_6 ?_
  refine set_i (y := 0) rfl ?_
  refine be_i (free := va_A [] H.size) (wc := []) (wr := [(h0, .inr (7, [.long 0, .ref m0, .int 0, .ref m1, .ref m2, .ref m3, .ref m4, .ref m5, .ref m6, .ref m7, .ref m8, .ref m9, .ref m10, .ref m11, .int 0, .int 0, .int 0, .int 0, .int 0, .int 0, .ref m12, .ref m13, .ref m14, .ref m15, .ref m16, .ref m17, .ref m18, .ref m19, .int 0])), (m12, .inl (cI, 1191, .inl zf))]) (ru_S (As := [.int 0]) (rest := []) ⟨hx, hb, hml, hown, hts⟩ (c_M_many0 l D cI cB cZ cN H.size) ggX7_findRow_X7_manyOf rfl (hts (.initialized RX7) (List.mem_of_getElem? (i := 4) rfl)) (hts (.methodLink RX7 195 yX7_manyOf) (List.mem_of_getElem? (i := 2) rfl)) (hts (.static yX7_manyOf) (List.mem_of_getElem? (i := 3) rfl)) ⟨by decide, by decide, (show Option.map (fun d => d.parameters.length) (parseMethodDescriptor yX7_manyOf.desc) = some 1 by decide +kernel)⟩ ⟨Nat.le_of_ble_eq_true rfl, Nat.le_of_ble_eq_true rfl⟩ hK hP hD [] (by decide) rfl hl.1 rfl (Nat.le_of_ble_eq_true rfl) dX7_findRow_7 ⟨Nat.le_of_ble_eq_true rfl, Nat.le_of_ble_eq_true rfl⟩) hP hD hS hA [] [0, 1] rfl rfl (by decide) (by decide) (fun r2 u1 H locs w3 hP hD hS => ?_)
  have hP : va_P D vwCl [(h0, .inr (7, [.long 0, .ref m0, .int 0, .ref m1, .ref m2, .ref m3, .ref m4, .ref m5, .ref m6, .ref m7, .ref m8, .ref m9, .ref m10, .ref m11, .int 0, .int 0, .int 0, .int 0, .int 0, .int 0, .ref m12, .ref m13, .ref m14, .ref m15, .ref m16, .ref m17, .ref m18, .ref m19, .int 0])), (m12, .inl (cI, 1191, .inl zf))] H := hP
  have hD : va_D A [(h0, .inr (7, [.long 0, .ref m0, .int 0, .ref m1, .ref m2, .ref m3, .ref m4, .ref m5, .ref m6, .ref m7, .ref m8, .ref m9, .ref m10, .ref m11, .int 0, .int 0, .int 0, .int 0, .int 0, .int 0, .ref m12, .ref m13, .ref m14, .ref m15, .ref m16, .ref m17, .ref m18, .ref m19, .int 0])), (m12, .inl (cI, 1191, .inl zf))] := hD
  obtain rfl : r2 = 0 := w3
  refine lv_istore_n (lv' := [(1, .int 0), (0, .ref h0)]) hx hb dX7_findRow_10 rfl hl (by decide) rfl (fun ls hl => ?_)
  refine lv_iload_n hx hb dX7_findRow_11 rfl (lv_at hl 0 rfl) ?_
  refine lv_if_le (tgt := 72) hx hb dX7_findRow_12 (by decide) (fun h4 => ?_) (fun h4 => absurd (by decide) h4)
  refine lv_iconst (v := 0) hx hb dX7_findRow_72 (by decide) ?_
  exact en_i hx hb hr hlk hP hD hS () [0, 1] (by decide) rfl (Nat.le_of_ble_eq_true rfl) (Nat.le_of_ble_eq_true rfl) dX7_findRow_73 rfl
theorem dX7_order_0 : decode cX7_order 0 = .ok (.iload_n 1, 1) := by decide +kernel
theorem dX7_order_1 : decode cX7_order 1 = .ok (.iconst (-1), 1) := by decide +kernel
theorem dX7_order_2 : decode cX7_order 2 = .ok (.iconst 4, 1) := by decide +kernel
theorem dX7_order_3 : decode cX7_order 3 = .ok (.invokestatic 78, 3) := by decide +kernel
set_option maxRecDepth 20000 in
theorem ggX7_order_X7_in : GoodIn wsX7_order wsX7_in := goodIn_r _ [5] (by decide +kernel) (by decide +kernel)
theorem dX7_order_6 : decode cX7_order 6 = .ok (.ifCond .ne 5, 3) := by decide +kernel
theorem dX7_order_11 : decode cX7_order 11 = .ok (.aload_n 0, 1) := by decide +kernel
theorem dX7_order_12 : decode cX7_order 12 = .ok (.invokevirtual 204, 3) := by decide +kernel
set_option maxRecDepth 20000 in
theorem ggX7_order_X7_findRow : GoodIn wsX7_order wsX7_findRow := goodIn_r _ [9, 10, 11, 12, 4, 13, 14, 15, 16, 17, 1, 18, 19, 20, 21, 22, 23, 24, 25, 26, 27, 28, 29, 30, 31, 32, 33, 34, 35, 36, 37, 38, 39, 40, 41, 42, 43, 44, 45, 46, 47, 48, 49, 50, 51, 52, 53, 54, 55, 56, 57, 58, 2, 3, 5, 59, 60, 61, 62, 63, 64, 65, 66, 67, 68, 69, 70, 71, 72, 73, 74, 75, 76, 77, 78, 79, 80, 81, 82, 83, 84, 85, 86, 87, 88, 89, 90, 91, 92, 93, 94, 95, 96, 97] (by decide +kernel) (by decide +kernel)
set_option maxRecDepth 20000 in
theorem gX7_order_X7_findRow : GoodIn wsX7_order (wsV RX7 204 RX7 yX7_findRow wsX7_findRow) := goodIn_app (goodIn_of _ (by decide +kernel)) ggX7_order_X7_findRow
theorem dX7_order_15 : decode cX7_order 15 = .ok (.istore_n 2, 1) := by decide +kernel
theorem dX7_order_16 : decode cX7_order 16 = .ok (.iload_n 1, 1) := by decide +kernel
theorem dX7_order_17 : decode cX7_order 17 = .ok (.iconst (-1), 1) := by decide +kernel
theorem dX7_order_18 : decode cX7_order 18 = .ok (.if_icmp .ne 7, 3) := by decide +kernel
theorem dX7_order_25 : decode cX7_order 25 = .ok (.iload_n 1, 1) := by decide +kernel
theorem dX7_order_26 : decode cX7_order 26 = .ok (.iload_n 2, 1) := by decide +kernel
theorem dX7_order_27 : decode cX7_order 27 = .ok (.if_icmp .ge 12, 3) := by decide +kernel
theorem dX7_order_39 : decode cX7_order 39 = .ok (.bipush (-9), 2) := by decide +kernel
theorem dX7_order_41 : decode cX7_order 41 = .ok (.ireturn, 1) := by decide +kernel
theorem dX7_order_21 : decode cX7_order 21 = .ok (.iload_n 2, 1) := by decide +kernel
theorem dX7_order_22 : decode cX7_order 22 = .ok (.goto 19, 3) := by decide +kernel
theorem dX7_order_9 : decode cX7_order 9 = .ok (.iconst (-1), 1) := by decide +kernel
theorem dX7_order_10 : decode cX7_order 10 = .ok (.ireturn, 1) := by decide +kernel
set_option maxHeartbeats 4000000 in
set_option maxRecDepth 100000 in
theorem c_M_order (l : Launch) (D : va_G) (cI cB cZ cN : ClassId) (h0 : Nat) (m0 : Nat) (m1 : Nat) (m2 : Nat) (m3 : Nat) (m4 : Nat) (m5 : Nat) (m6 : Nat) (m7 : Nat) (m8 : Nat) (m9 : Nat) (m10 : Nat) (m11 : Nat) (m12 : Nat) (m13 : Nat) (m14 : Nat) (m15 : Nat) (m16 : Nat) (m17 : Nat) (m18 : Nat) (m19 : Nat) (v_c : Int32)  : Ci (S := Unit) l D cI cB cZ cN yX7_order wsX7_order ({ frames := 2, cells := 0, slots := 0, locals := 45 } : Room) [.ref h0, .int v_c] [(h0, .inr (7, [.long 0, .ref m0, .int 0, .ref m1, .ref m2, .ref m3, .ref m4, .ref m5, .ref m6, .ref m7, .ref m8, .ref m9, .ref m10, .ref m11, .int 0, .int 0, .int 0, .int 0, .int 0, .int 0, .ref m12, .ref m13, .ref m14, .ref m15, .ref m16, .ref m17, .ref m18, .ref m19, .int 0])), (m12, .inl (cI, 1191, .inl zf))] (fun (r : Int32) (_ : Unit) => r = orA v_c) (fun u => []) := by
  refine bx_of (D := D) (cI := cI) (cB := cB) (cZ := cZ) (cN := cN) (y := yX7_order) (wd := wsX7_order) (rm := ({ frames := 2, cells := 0, slots := 0, locals := 45 } : Room)) (av := [.ref h0, .int v_c]) (wc := [(h0, .inr (7, [.long 0, .ref m0, .int 0, .ref m1, .ref m2, .ref m3, .ref m4, .ref m5, .ref m6, .ref m7, .ref m8, .ref m9, .ref m10, .ref m11, .int 0, .int 0, .int 0, .int 0, .int 0, .int 0, .ref m12, .ref m13, .ref m14, .ref m15, .ref m16, .ref m17, .ref m18, .ref m19, .int 0])), (m12, .inl (cI, 1191, .inl zf))]) (cc := cX7_order) (maxL := 3) (ret := (some .int)) (Qc := fun _ A => va_Qi (S := Unit) (fun (r : Int32) (_ : Unit) => r = orA v_c) (Aft D (fun (u : Unit) => []) A) A) (by decide) rfl (Nat.le_of_ble_eq_true rfl) ?_
  intro p e s m below meth c A H locs ⟨hx, hb, hr, hml, hown, hts, hlk, hnm⟩ hK hP hD hS hA ls hl
  have hl : lv_has ls 3 [(0, .ref h0), (1, .int v_c)] := hl
  have hown : s.vm.findClass RX7 = some m.cls := hown
  refine lv_iload_n hx hb dX7_order_0 rfl (lv_at hl 1 rfl) ?_
  refine lv_iconst (v := -1) hx hb dX7_order_1 (by decide) ?_
  refine lv_iconst (v := 4) hx hb dX7_order_2 (by decide) ?_
  refine be_i (free := va_A [] H.size) (wc := []) (wr := [(h0, .inr (7, [.long 0, .ref m0, .int 0, .ref m1, .ref m2, .ref m3, .ref m4, .ref m5, .ref m6, .ref m7, .ref m8, .ref m9, .ref m10, .ref m11, .int 0, .int 0, .int 0, .int 0, .int 0, .int 0, .ref m12, .ref m13, .ref m14, .ref m15, .ref m16, .ref m17, .ref m18, .ref m19, .int 0])), (m12, .inl (cI, 1191, .inl zf))]) (ru_S (As := [.int v_c, .int (-1), .int 4]) (rest := []) ⟨hx, hb, hml, hown, hts⟩ (c_M_in l D cI cB cZ cN v_c (-1) 4 H.size) ggX7_order_X7_in rfl (hts (.initialized RX7) (List.mem_of_getElem? (i := 4) rfl)) (hts (.methodLink RX7 78 yX7_in) (List.mem_of_getElem? (i := 2) rfl)) (hts (.static yX7_in) (List.mem_of_getElem? (i := 3) rfl)) ⟨by decide, by decide, (show Option.map (fun d => d.parameters.length) (parseMethodDescriptor yX7_in.desc) = some 3 by decide +kernel)⟩ ⟨Nat.le_of_ble_eq_true rfl, Nat.le_of_ble_eq_true rfl⟩ hK hP hD [] (by decide) rfl hl.1 rfl (Nat.le_of_ble_eq_true rfl) dX7_order_3 ⟨Nat.le_of_ble_eq_true rfl, Nat.le_of_ble_eq_true rfl⟩) hP hD hS hA [] [0, 1] rfl rfl (by decide) (by decide) (fun r2 u1 H locs w3 hP hD hS => ?_)
  have hP : va_P D vwCl [(h0, .inr (7, [.long 0, .ref m0, .int 0, .ref m1, .ref m2, .ref m3, .ref m4, .ref m5, .ref m6, .ref m7, .ref m8, .ref m9, .ref m10, .ref m11, .int 0, .int 0, .int 0, .int 0, .int 0, .int 0, .ref m12, .ref m13, .ref m14, .ref m15, .ref m16, .ref m17, .ref m18, .ref m19, .int 0])), (m12, .inl (cI, 1191, .inl zf))] H := hP
  have hD : va_D A [(h0, .inr (7, [.long 0, .ref m0, .int 0, .ref m1, .ref m2, .ref m3, .ref m4, .ref m5, .ref m6, .ref m7, .ref m8, .ref m9, .ref m10, .ref m11, .int 0, .int 0, .int 0, .int 0, .int 0, .int 0, .ref m12, .ref m13, .ref m14, .ref m15, .ref m16, .ref m17, .ref m18, .ref m19, .int 0])), (m12, .inl (cI, 1191, .inl zf))] := hD
  obtain rfl : r2 = inz v_c (-1) 4 := w3
  refine lv_if_ne (tgt := 11) hx hb dX7_order_6 (by decide) (fun h4 => ?_) (fun h4 => ?_)
  · skip
    refine lv_aload_n hx hb dX7_order_11 rfl (lv_at hl 0 rfl) ?_
    refine be_i (free := va_A [(h0, .inr (7, [.long 0, .ref m0, .int 0, .ref m1, .ref m2, .ref m3, .ref m4, .ref m5, .ref m6, .ref m7, .ref m8, .ref m9, .ref m10, .ref m11, .int 0, .int 0, .int 0, .int 0, .int 0, .int 0, .ref m12, .ref m13, .ref m14, .ref m15, .ref m16, .ref m17, .ref m18, .ref m19, .int 0])), (m12, .inl (cI, 1191, .inl zf))] H.size) (wc := [(h0, .inr (7, [.long 0, .ref m0, .int 0, .ref m1, .ref m2, .ref m3, .ref m4, .ref m5, .ref m6, .ref m7, .ref m8, .ref m9, .ref m10, .ref m11, .int 0, .int 0, .int 0, .int 0, .int 0, .int 0, .ref m12, .ref m13, .ref m14, .ref m15, .ref m16, .ref m17, .ref m18, .ref m19, .int 0])), (m12, .inl (cI, 1191, .inl zf))]) (wr := []) (ru_V (As := []) (rest := []) ⟨hx, hb, hml, hown, hts⟩ (c_M_findRow l D cI cB cZ cN h0 m0 m1 m2 m3 m4 m5 m6 m7 m8 m9 m10 m11 m12 m13 m14 m15 m16 m17 m18 m19 H.size) gX7_order_X7_findRow rfl ⟨rfl, by decide, by decide, (show Option.map (fun d => d.parameters.length) (parseMethodDescriptor yX7_findRow.desc) = some 0 by decide +kernel)⟩ ⟨Nat.le_of_ble_eq_true rfl, Nat.le_of_ble_eq_true rfl⟩ hK hP hD 7 0 rfl rfl [0, 1] (by decide) rfl hl.1 rfl (Nat.le_of_ble_eq_true rfl) dX7_order_12 ⟨Nat.le_of_ble_eq_true rfl, Nat.le_of_ble_eq_true rfl⟩) hP hD hS hA [0, 1] [] rfl rfl (by decide) (by decide) (fun r6 u5 H locs w7 hP hD hS => ?_)
    have hP : va_P D vwCl [(h0, .inr (7, [.long 0, .ref m0, .int 0, .ref m1, .ref m2, .ref m3, .ref m4, .ref m5, .ref m6, .ref m7, .ref m8, .ref m9, .ref m10, .ref m11, .int 0, .int 0, .int 0, .int 0, .int 0, .int 0, .ref m12, .ref m13, .ref m14, .ref m15, .ref m16, .ref m17, .ref m18, .ref m19, .int 0])), (m12, .inl (cI, 1191, .inl zf))] H := hP
    have hD : va_D A [(h0, .inr (7, [.long 0, .ref m0, .int 0, .ref m1, .ref m2, .ref m3, .ref m4, .ref m5, .ref m6, .ref m7, .ref m8, .ref m9, .ref m10, .ref m11, .int 0, .int 0, .int 0, .int 0, .int 0, .int 0, .ref m12, .ref m13, .ref m14, .ref m15, .ref m16, .ref m17, .ref m18, .ref m19, .int 0])), (m12, .inl (cI, 1191, .inl zf))] := hD
    obtain rfl : r6 = 0 := w7
    refine lv_istore_n (lv' := [(2, .int 0), (0, .ref h0), (1, .int v_c)]) hx hb dX7_order_15 rfl hl (by decide) rfl (fun ls hl => ?_)
    refine lv_iload_n hx hb dX7_order_16 rfl (lv_at hl 2 rfl) ?_
    refine lv_iconst (v := -1) hx hb dX7_order_17 (by decide) ?_
    refine lv_icmp_ne (tgt := 25) hx hb dX7_order_18 (by decide) (fun h8 => ?_) (fun h8 => ?_)
    · skip
      refine lv_iload_n hx hb dX7_order_25 rfl (lv_at hl 2 rfl) ?_
      refine lv_iload_n hx hb dX7_order_26 rfl (lv_at hl 0 rfl) ?_
      refine lv_icmp_ge (tgt := 39) hx hb dX7_order_27 (by decide) (fun h9 => ?_) (fun h9 => absurd (ic_3 h4 h8) h9)
      refine lv_bipush (v := -9) hx hb dX7_order_39 (by decide) ?_
      exact en_i hx hb hr hlk hP hD hS () [] (by decide) rfl (Nat.le_of_ble_eq_true rfl) (Nat.le_of_ble_eq_true rfl) dX7_order_41 (by unfold orA; rw [if_neg h4, if_neg h8])
    · skip
      refine lv_iload_n hx hb dX7_order_21 rfl (lv_at hl 0 rfl) ?_
      refine lv_goto (tgt := 41) hx hb dX7_order_22 (by decide) ?_
      exact en_i hx hb hr hlk hP hD hS () [] (by decide) rfl (Nat.le_of_ble_eq_true rfl) (Nat.le_of_ble_eq_true rfl) dX7_order_41 (by unfold orA; rw [if_neg h4, if_pos h8])
  · skip
    refine lv_iconst (v := -1) hx hb dX7_order_9 (by decide) ?_
    exact en_i hx hb hr hlk hP hD hS () [] (by decide) rfl (Nat.le_of_ble_eq_true rfl) (Nat.le_of_ble_eq_true rfl) dX7_order_10 (if_pos h4).symm
theorem dX7_forget_0 : decode cX7_forget 0 = .ok (.aload_n 0, 1) := by decide +kernel
theorem dX7_forget_1 : decode cX7_forget 1 = .ok (.getfield 120, 3) := by decide +kernel
theorem in_X7_forget_7 : ∀ w ∈ wsX70, w ∈ wsX7_forget := fun w h => List.mem_cons_of_mem _ (List.mem_append_right _ h)
theorem dX7_forget_4 : decode cX7_forget 4 = .ok (.istore_n 1, 1) := by decide +kernel
theorem dX7_forget_5 : decode cX7_forget 5 = .ok (.aload_n 0, 1) := by decide +kernel
theorem dX7_forget_6 : decode cX7_forget 6 = .ok (.iconst 0, 1) := by decide +kernel
theorem dX7_forget_7 : decode cX7_forget 7 = .ok (.putfield 120, 3) := by decide +kernel
theorem dX7_forget_10 : decode cX7_forget 10 = .ok (.iload_n 1, 1) := by decide +kernel
theorem dX7_forget_11 : decode cX7_forget 11 = .ok (.ireturn, 1) := by decide +kernel
set_option maxHeartbeats 4000000 in
set_option maxRecDepth 100000 in
theorem c_M_forget (l : Launch) (D : va_G) (cI cB cZ cN : ClassId) (h0 : Nat) (m0 : Nat) (m1 : Nat) (m2 : Nat) (m3 : Nat) (m4 : Nat) (m5 : Nat) (m6 : Nat) (m7 : Nat) (m8 : Nat) (m9 : Nat) (m10 : Nat) (m11 : Nat) (m12 : Nat) (m13 : Nat) (m14 : Nat) (m15 : Nat) (m16 : Nat) (m17 : Nat) (m18 : Nat) (m19 : Nat)  : Ci (S := Unit) l D cI cB cZ cN yX7_forget wsX7_forget ({ frames := 0, cells := 0, slots := 0, locals := 0 } : Room) [.ref h0] [(h0, .inr (7, [.long 0, .ref m0, .int 0, .ref m1, .ref m2, .ref m3, .ref m4, .ref m5, .ref m6, .ref m7, .ref m8, .ref m9, .ref m10, .ref m11, .int 0, .int 0, .int 0, .int 0, .int 0, .int 0, .ref m12, .ref m13, .ref m14, .ref m15, .ref m16, .ref m17, .ref m18, .ref m19, .int 0]))] (fun (r : Int32) (_ : Unit) => r = 0) (fun u => []) := by
  refine bx_of (D := D) (cI := cI) (cB := cB) (cZ := cZ) (cN := cN) (y := yX7_forget) (wd := wsX7_forget) (rm := ({ frames := 0, cells := 0, slots := 0, locals := 0 } : Room)) (av := [.ref h0]) (wc := [(h0, .inr (7, [.long 0, .ref m0, .int 0, .ref m1, .ref m2, .ref m3, .ref m4, .ref m5, .ref m6, .ref m7, .ref m8, .ref m9, .ref m10, .ref m11, .int 0, .int 0, .int 0, .int 0, .int 0, .int 0, .ref m12, .ref m13, .ref m14, .ref m15, .ref m16, .ref m17, .ref m18, .ref m19, .int 0]))]) (cc := cX7_forget) (maxL := 2) (ret := (some .int)) (Qc := fun _ A => va_Qi (S := Unit) (fun (r : Int32) (_ : Unit) => r = 0) (Aft D (fun (u : Unit) => []) A) A) (by decide) rfl (Nat.le_of_ble_eq_true rfl) ?_
  intro p e s m below meth c A H locs ⟨hx, hb, hr, hml, hown, hts, hlk, hnm⟩ hK hP hD hS hA ls hl
  have hl : lv_has ls 2 [(0, .ref h0)] := hl
  have hown : s.vm.findClass RX7 = some m.cls := hown
  refine lv_aload_n hx hb dX7_forget_0 rfl (lv_at hl 0 rfl) ?_
  refine va_get (D := D) (ci := 7) (v := .int 0) (C := RX7) (T := TX7) (N := 29) hx hb hts in_X7_forget_7 hown hK.1 hP 0 rfl rfl 28 (by decide) (hts (.fieldLink RX7 120 "ChildCoinsModel" "told" "I") (List.mem_of_getElem? (i := 1) rfl)) (fun _ h9 => h9) rfl dX7_forget_1 ?_
  refine lv_istore_n (lv' := [(1, .int 0), (0, .ref h0)]) hx hb dX7_forget_4 rfl hl (by decide) rfl (fun ls hl => ?_)
  refine lv_aload_n hx hb dX7_forget_5 rfl (lv_at hl 1 rfl) ?_
  refine lv_iconst (v := 0) hx hb dX7_forget_6 (by decide) ?_
  refine va_put (D := D) (ci := 7) (v := .int 0) (ty := tyX7 28) (C := RX7) (T := TX7) (N := 29) hx hb hts in_X7_forget_7 tyX7 tyX7_ok nmX7 hown hK.1 hP hD hS 0 rfl rfl 28 (by decide) (hts (.fieldLink RX7 120 "ChildCoinsModel" "told" "I") (List.mem_of_getElem? (i := 1) rfl)) (fun _ h9 => h9) rfl (tyX7_ok 28 (by decide)) rfl rfl (Nat.le_of_ble_eq_true rfl) dX7_forget_7 (fun H locs hP hD hS => ?_)
  have hP : va_P D vwCl [(h0, .inr (7, [.long 0, .ref m0, .int 0, .ref m1, .ref m2, .ref m3, .ref m4, .ref m5, .ref m6, .ref m7, .ref m8, .ref m9, .ref m10, .ref m11, .int 0, .int 0, .int 0, .int 0, .int 0, .int 0, .ref m12, .ref m13, .ref m14, .ref m15, .ref m16, .ref m17, .ref m18, .ref m19, .int 0]))] H := hP
  have hD : va_D A [(h0, .inr (7, [.long 0, .ref m0, .int 0, .ref m1, .ref m2, .ref m3, .ref m4, .ref m5, .ref m6, .ref m7, .ref m8, .ref m9, .ref m10, .ref m11, .int 0, .int 0, .int 0, .int 0, .int 0, .int 0, .ref m12, .ref m13, .ref m14, .ref m15, .ref m16, .ref m17, .ref m18, .ref m19, .int 0]))] := hD
  refine lv_iload_n hx hb dX7_forget_10 rfl (lv_at hl 0 rfl) ?_
  exact en_i hx hb hr hlk hP hD hS () [] (by decide) rfl (Nat.le_of_ble_eq_true rfl) (Nat.le_of_ble_eq_true rfl) dX7_forget_11 rfl
theorem dX7_mark_0 : decode cX7_mark 0 = .ok (.iload_n 1, 1) := by decide +kernel
theorem dX7_mark_1 : decode cX7_mark 1 = .ok (.iconst 0, 1) := by decide +kernel
theorem dX7_mark_2 : decode cX7_mark 2 = .ok (.iconst 5, 1) := by decide +kernel
theorem dX7_mark_3 : decode cX7_mark 3 = .ok (.invokestatic 78, 3) := by decide +kernel
set_option maxRecDepth 20000 in
theorem ggX7_mark_X7_in : GoodIn wsX7_mark wsX7_in := goodIn_r _ [14] (by decide +kernel) (by decide +kernel)
theorem dX7_mark_6 : decode cX7_mark 6 = .ok (.ifCond .eq 11, 3) := by decide +kernel
theorem dX7_mark_17 : decode cX7_mark 17 = .ok (.ldc 207, 2) := by decide +kernel
theorem dX7_mark_19 : decode cX7_mark 19 = .ok (.ireturn, 1) := by decide +kernel
theorem dX7_mark_9 : decode cX7_mark 9 = .ok (.aload_n 0, 1) := by decide +kernel
theorem dX7_mark_10 : decode cX7_mark 10 = .ok (.iload_n 2, 1) := by decide +kernel
theorem dX7_mark_11 : decode cX7_mark 11 = .ok (.invokevirtual 142, 3) := by decide +kernel
set_option maxRecDepth 20000 in
theorem ggX7_mark_X7_isCoin : GoodIn wsX7_mark wsX7_isCoin := goodIn_r _ [18, 19, 11, 12, 13, 14, 42, 43, 44, 45, 46, 47, 48, 49, 50, 51, 52, 53, 54, 55, 56, 57, 58, 59, 60, 61, 62, 63, 64, 65, 66, 67, 68, 69, 70] (by decide +kernel) (by decide +kernel)
set_option maxRecDepth 20000 in
theorem gX7_mark_X7_isCoin : GoodIn wsX7_mark (wsV RX7 142 RX7 yX7_isCoin wsX7_isCoin) := goodIn_app (goodIn_of _ (by decide +kernel)) ggX7_mark_X7_isCoin
theorem dX7_mark_14 : decode cX7_mark 14 = .ok (.ifCond .ne 6, 3) := by decide +kernel
set_option maxHeartbeats 4000000 in
set_option maxRecDepth 100000 in
theorem c_M_mark (l : Launch) (D : va_G) (cI cB cZ cN : ClassId) (h0 : Nat) (m0 : Nat) (m1 : Nat) (m2 : Nat) (m3 : Nat) (m4 : Nat) (m5 : Nat) (m6 : Nat) (m7 : Nat) (m8 : Nat) (m9 : Nat) (m10 : Nat) (m11 : Nat) (m12 : Nat) (m13 : Nat) (m14 : Nat) (m15 : Nat) (m16 : Nat) (m17 : Nat) (m18 : Nat) (m19 : Nat) (v_c : Int32) (v_w : Int32)  : Ci (S := Unit) l D cI cB cZ cN yX7_mark wsX7_mark ({ frames := 2, cells := 0, slots := 0, locals := 43 } : Room) [.ref h0, .int v_c, .int v_w] [(h0, .inr (7, [.long 0, .ref m0, .int 0, .ref m1, .ref m2, .ref m3, .ref m4, .ref m5, .ref m6, .ref m7, .ref m8, .ref m9, .ref m10, .ref m11, .int 0, .int 0, .int 0, .int 0, .int 0, .int 0, .ref m12, .ref m13, .ref m14, .ref m15, .ref m16, .ref m17, .ref m18, .ref m19, .int 0])), (m1, .inl (cI, 2, .inl zf))] (fun (r : Int32) (_ : Unit) => r = -1000000) (fun u => []) := by
  refine bx_of (D := D) (cI := cI) (cB := cB) (cZ := cZ) (cN := cN) (y := yX7_mark) (wd := wsX7_mark) (rm := ({ frames := 2, cells := 0, slots := 0, locals := 43 } : Room)) (av := [.ref h0, .int v_c, .int v_w]) (wc := [(h0, .inr (7, [.long 0, .ref m0, .int 0, .ref m1, .ref m2, .ref m3, .ref m4, .ref m5, .ref m6, .ref m7, .ref m8, .ref m9, .ref m10, .ref m11, .int 0, .int 0, .int 0, .int 0, .int 0, .int 0, .ref m12, .ref m13, .ref m14, .ref m15, .ref m16, .ref m17, .ref m18, .ref m19, .int 0])), (m1, .inl (cI, 2, .inl zf))]) (cc := cX7_mark) (maxL := 5) (ret := (some .int)) (Qc := fun _ A => va_Qi (S := Unit) (fun (r : Int32) (_ : Unit) => r = -1000000) (Aft D (fun (u : Unit) => []) A) A) (by decide) rfl (Nat.le_of_ble_eq_true rfl) ?_
  intro p e s m below meth c A H locs ⟨hx, hb, hr, hml, hown, hts, hlk, hnm⟩ hK hP hD hS hA ls hl
  have hl : lv_has ls 5 [(0, .ref h0), (1, .int v_c), (2, .int v_w)] := hl
  have hown : s.vm.findClass RX7 = some m.cls := hown
  refine lv_iload_n hx hb dX7_mark_0 rfl (lv_at hl 1 rfl) ?_
  refine lv_iconst (v := 0) hx hb dX7_mark_1 (by decide) ?_
  refine lv_iconst (v := 5) hx hb dX7_mark_2 (by decide) ?_
  refine be_i (free := va_A [] H.size) (wc := []) (wr := [(h0, .inr (7, [.long 0, .ref m0, .int 0, .ref m1, .ref m2, .ref m3, .ref m4, .ref m5, .ref m6, .ref m7, .ref m8, .ref m9, .ref m10, .ref m11, .int 0, .int 0, .int 0, .int 0, .int 0, .int 0, .ref m12, .ref m13, .ref m14, .ref m15, .ref m16, .ref m17, .ref m18, .ref m19, .int 0])), (m1, .inl (cI, 2, .inl zf))]) (ru_S (As := [.int v_c, .int 0, .int 5]) (rest := []) ⟨hx, hb, hml, hown, hts⟩ (c_M_in l D cI cB cZ cN v_c 0 5 H.size) ggX7_mark_X7_in rfl (hts (.initialized RX7) (List.mem_of_getElem? (i := 13) rfl)) (hts (.methodLink RX7 78 yX7_in) (List.mem_of_getElem? (i := 11) rfl)) (hts (.static yX7_in) (List.mem_of_getElem? (i := 12) rfl)) ⟨by decide, by decide, (show Option.map (fun d => d.parameters.length) (parseMethodDescriptor yX7_in.desc) = some 3 by decide +kernel)⟩ ⟨Nat.le_of_ble_eq_true rfl, Nat.le_of_ble_eq_true rfl⟩ hK hP hD [] (by decide) rfl hl.1 rfl (Nat.le_of_ble_eq_true rfl) dX7_mark_3 ⟨Nat.le_of_ble_eq_true rfl, Nat.le_of_ble_eq_true rfl⟩) hP hD hS hA [] [0, 1] rfl rfl (by decide) (by decide) (fun r2 u1 H locs w3 hP hD hS => ?_)
  have hP : va_P D vwCl [(h0, .inr (7, [.long 0, .ref m0, .int 0, .ref m1, .ref m2, .ref m3, .ref m4, .ref m5, .ref m6, .ref m7, .ref m8, .ref m9, .ref m10, .ref m11, .int 0, .int 0, .int 0, .int 0, .int 0, .int 0, .ref m12, .ref m13, .ref m14, .ref m15, .ref m16, .ref m17, .ref m18, .ref m19, .int 0])), (m1, .inl (cI, 2, .inl zf))] H := hP
  have hD : va_D A [(h0, .inr (7, [.long 0, .ref m0, .int 0, .ref m1, .ref m2, .ref m3, .ref m4, .ref m5, .ref m6, .ref m7, .ref m8, .ref m9, .ref m10, .ref m11, .int 0, .int 0, .int 0, .int 0, .int 0, .int 0, .ref m12, .ref m13, .ref m14, .ref m15, .ref m16, .ref m17, .ref m18, .ref m19, .int 0])), (m1, .inl (cI, 2, .inl zf))] := hD
  obtain rfl : r2 = inz v_c 0 5 := w3
  refine lv_if_eq (tgt := 17) hx hb dX7_mark_6 (by decide) (fun h4 => ?_) (fun h4 => ?_)
  · skip
    refine lv_ldc (v := -1000000) hx hb hown (hts (.constant RX7 207 (-1000000)) (List.mem_of_getElem? (i := 1) rfl)) dX7_mark_17 ?_
    exact en_i hx hb hr hlk hP hD hS () [] (by decide) rfl (Nat.le_of_ble_eq_true rfl) (Nat.le_of_ble_eq_true rfl) dX7_mark_19 rfl
  · skip
    refine lv_aload_n hx hb dX7_mark_9 rfl (lv_at hl 0 rfl) ?_
    refine lv_iload_n hx hb dX7_mark_10 rfl (lv_at hl 2 rfl) ?_
    refine be_i (free := va_A [(h0, .inr (7, [.long 0, .ref m0, .int 0, .ref m1, .ref m2, .ref m3, .ref m4, .ref m5, .ref m6, .ref m7, .ref m8, .ref m9, .ref m10, .ref m11, .int 0, .int 0, .int 0, .int 0, .int 0, .int 0, .ref m12, .ref m13, .ref m14, .ref m15, .ref m16, .ref m17, .ref m18, .ref m19, .int 0])), (m1, .inl (cI, 2, .inl zf))] H.size) (wc := [(h0, .inr (7, [.long 0, .ref m0, .int 0, .ref m1, .ref m2, .ref m3, .ref m4, .ref m5, .ref m6, .ref m7, .ref m8, .ref m9, .ref m10, .ref m11, .int 0, .int 0, .int 0, .int 0, .int 0, .int 0, .ref m12, .ref m13, .ref m14, .ref m15, .ref m16, .ref m17, .ref m18, .ref m19, .int 0])), (m1, .inl (cI, 2, .inl zf))]) (wr := []) (ru_V (As := [.int v_w]) (rest := []) ⟨hx, hb, hml, hown, hts⟩ (c_M_isCoin l D cI cB cZ cN h0 m0 m1 m2 m3 m4 m5 m6 m7 m8 m9 m10 m11 m12 m13 m14 m15 m16 m17 m18 m19 v_w H.size) gX7_mark_X7_isCoin rfl ⟨rfl, by decide, by decide, (show Option.map (fun d => d.parameters.length) (parseMethodDescriptor yX7_isCoin.desc) = some 1 by decide +kernel)⟩ ⟨Nat.le_of_ble_eq_true rfl, Nat.le_of_ble_eq_true rfl⟩ hK hP hD 7 0 rfl rfl [0, 1] (by decide) rfl hl.1 rfl (Nat.le_of_ble_eq_true rfl) dX7_mark_11 ⟨Nat.le_of_ble_eq_true rfl, Nat.le_of_ble_eq_true rfl⟩) hP hD hS hA [0, 1] [] rfl rfl (by decide) (by decide) (fun r6 u5 H locs w7 hP hD hS => ?_)
    have hP : va_P D vwCl [(h0, .inr (7, [.long 0, .ref m0, .int 0, .ref m1, .ref m2, .ref m3, .ref m4, .ref m5, .ref m6, .ref m7, .ref m8, .ref m9, .ref m10, .ref m11, .int 0, .int 0, .int 0, .int 0, .int 0, .int 0, .ref m12, .ref m13, .ref m14, .ref m15, .ref m16, .ref m17, .ref m18, .ref m19, .int 0])), (m1, .inl (cI, 2, .inl zf))] H := hP
    have hD : va_D A [(h0, .inr (7, [.long 0, .ref m0, .int 0, .ref m1, .ref m2, .ref m3, .ref m4, .ref m5, .ref m6, .ref m7, .ref m8, .ref m9, .ref m10, .ref m11, .int 0, .int 0, .int 0, .int 0, .int 0, .int 0, .ref m12, .ref m13, .ref m14, .ref m15, .ref m16, .ref m17, .ref m18, .ref m19, .int 0])), (m1, .inl (cI, 2, .inl zf))] := hD
    obtain rfl : r6 = 0 := w7
    refine lv_if_ne (tgt := 20) hx hb dX7_mark_14 (by decide) (fun h8 => absurd (by decide) h8) (fun h8 => ?_)
    refine lv_ldc (v := -1000000) hx hb hown (hts (.constant RX7 207 (-1000000)) (List.mem_of_getElem? (i := 1) rfl)) dX7_mark_17 ?_
    exact en_i hx hb hr hlk hP hD hS () [] (by decide) rfl (Nat.le_of_ble_eq_true rfl) (Nat.le_of_ble_eq_true rfl) dX7_mark_19 rfl
theorem dX7_keep_0 : decode cX7_keep 0 = .ok (.iload_n 1, 1) := by decide +kernel
theorem dX7_keep_1 : decode cX7_keep 1 = .ok (.iconst 0, 1) := by decide +kernel
theorem dX7_keep_2 : decode cX7_keep 2 = .ok (.iconst 1, 1) := by decide +kernel
theorem dX7_keep_3 : decode cX7_keep 3 = .ok (.invokestatic 78, 3) := by decide +kernel
set_option maxRecDepth 20000 in
theorem ggX7_keep_X7_in : GoodIn wsX7_keep wsX7_in := goodIn_r _ [6] (by decide +kernel) (by decide +kernel)
theorem dX7_keep_6 : decode cX7_keep 6 = .ok (.ifCond .ne 5, 3) := by decide +kernel
theorem dX7_keep_11 : decode cX7_keep 11 = .ok (.iconst 0, 1) := by decide +kernel
theorem dX7_keep_12 : decode cX7_keep 12 = .ok (.istore_n 2, 1) := by decide +kernel
theorem dX7_keep_13 : decode cX7_keep 13 = .ok (.iload_n 2, 1) := by decide +kernel
theorem dX7_keep_14 : decode cX7_keep 14 = .ok (.sipush 397, 3) := by decide +kernel
theorem dX7_keep_17 : decode cX7_keep 17 = .ok (.if_icmp .ge 29, 3) := by decide +kernel
theorem dX7_keep_46 : decode cX7_keep 46 = .ok (.aload_n 0, 1) := by decide +kernel
theorem dX7_keep_47 : decode cX7_keep 47 = .ok (.getfield 50, 3) := by decide +kernel
theorem in_X7_keep_7 : ∀ w ∈ wsX70, w ∈ wsX7_keep := fun w h => List.mem_cons_of_mem _ (List.mem_append_right _ h)
theorem dX7_keep_50 : decode cX7_keep 50 = .ok (.iload_n 1, 1) := by decide +kernel
theorem dX7_keep_51 : decode cX7_keep 51 = .ok (.iconst 1, 1) := by decide +kernel
theorem dX7_keep_52 : decode cX7_keep 52 = .ok (.bastore, 1) := by decide +kernel
theorem dX7_keep_53 : decode cX7_keep 53 = .ok (.aload_n 0, 1) := by decide +kernel
theorem dX7_keep_54 : decode cX7_keep 54 = .ok (.getfield 47, 3) := by decide +kernel
theorem dX7_keep_57 : decode cX7_keep 57 = .ok (.bipush 35, 2) := by decide +kernel
theorem dX7_keep_59 : decode cX7_keep 59 = .ok (.iaload, 1) := by decide +kernel
theorem dX7_keep_60 : decode cX7_keep 60 = .ok (.invokestatic 195, 3) := by decide +kernel
set_option maxRecDepth 20000 in
theorem ggX7_keep_X7_manyOf : GoodIn wsX7_keep wsX7_manyOf := goodIn_r _ [9] (by decide +kernel) (by decide +kernel)
theorem dX7_keep_63 : decode cX7_keep 63 = .ok (.ireturn, 1) := by decide +kernel
theorem dX7_keep_20 : decode cX7_keep 20 = .ok (.aload_n 0, 1) := by decide +kernel
theorem dX7_keep_21 : decode cX7_keep 21 = .ok (.getfield 47, 3) := by decide +kernel
theorem dX7_keep_24 : decode cX7_keep 24 = .ok (.sipush 397, 3) := by decide +kernel
theorem dX7_keep_27 : decode cX7_keep 27 = .ok (.iconst 1, 1) := by decide +kernel
theorem dX7_keep_28 : decode cX7_keep 28 = .ok (.iload_n 1, 1) := by decide +kernel
theorem dX7_keep_29 : decode cX7_keep 29 = .ok (.iadd, 1) := by decide +kernel
theorem dX7_keep_30 : decode cX7_keep 30 = .ok (.imul, 1) := by decide +kernel
theorem dX7_keep_31 : decode cX7_keep 31 = .ok (.iload_n 2, 1) := by decide +kernel
theorem dX7_keep_32 : decode cX7_keep 32 = .ok (.iadd, 1) := by decide +kernel
theorem dX7_keep_33 : decode cX7_keep 33 = .ok (.aload_n 0, 1) := by decide +kernel
theorem dX7_keep_34 : decode cX7_keep 34 = .ok (.getfield 47, 3) := by decide +kernel
theorem dX7_keep_37 : decode cX7_keep 37 = .ok (.iload_n 2, 1) := by decide +kernel
theorem dX7_keep_38 : decode cX7_keep 38 = .ok (.iaload, 1) := by decide +kernel
theorem dX7_keep_39 : decode cX7_keep 39 = .ok (.iastore, 1) := by decide +kernel
theorem dX7_keep_40 : decode cX7_keep 40 = .ok (.iinc 2 1, 3) := by decide +kernel
theorem dX7_keep_43 : decode cX7_keep 43 = .ok (.goto (-30), 3) := by decide +kernel
theorem dX7_keep_9 : decode cX7_keep 9 = .ok (.iconst (-1), 1) := by decide +kernel
theorem dX7_keep_10 : decode cX7_keep 10 = .ok (.ireturn, 1) := by decide +kernel
set_option maxHeartbeats 4000000 in
set_option maxRecDepth 100000 in
theorem c_M_keep (l : Launch) (D : va_G) (cI cB cZ cN : ClassId) (h0 : Nat) (m0 : Nat) (m1 : Nat) (m2 : Nat) (m3 : Nat) (m4 : Nat) (m5 : Nat) (m6 : Nat) (m7 : Nat) (m8 : Nat) (m9 : Nat) (m10 : Nat) (m11 : Nat) (m12 : Nat) (m13 : Nat) (m14 : Nat) (m15 : Nat) (m16 : Nat) (m17 : Nat) (m18 : Nat) (m19 : Nat) (v_c : Int32)  : Ci (S := Unit) l D cI cB cZ cN yX7_keep wsX7_keep ({ frames := 1, cells := 0, slots := 0, locals := 22 } : Room) [.ref h0, .int v_c] [(h0, .inr (7, [.long 0, .ref m0, .int 0, .ref m1, .ref m2, .ref m3, .ref m4, .ref m5, .ref m6, .ref m7, .ref m8, .ref m9, .ref m10, .ref m11, .int 0, .int 0, .int 0, .int 0, .int 0, .int 0, .ref m12, .ref m13, .ref m14, .ref m15, .ref m16, .ref m17, .ref m18, .ref m19, .int 0])), (m12, .inl (cI, 1191, .inl zf)), (m13, .inl (cZ, 2, .inl zf))] (fun (r : Int32) (_ : Unit) => r = kpA v_c) (fun u => []) := by
  refine bx_of (D := D) (cI := cI) (cB := cB) (cZ := cZ) (cN := cN) (y := yX7_keep) (wd := wsX7_keep) (rm := ({ frames := 1, cells := 0, slots := 0, locals := 22 } : Room)) (av := [.ref h0, .int v_c]) (wc := [(h0, .inr (7, [.long 0, .ref m0, .int 0, .ref m1, .ref m2, .ref m3, .ref m4, .ref m5, .ref m6, .ref m7, .ref m8, .ref m9, .ref m10, .ref m11, .int 0, .int 0, .int 0, .int 0, .int 0, .int 0, .ref m12, .ref m13, .ref m14, .ref m15, .ref m16, .ref m17, .ref m18, .ref m19, .int 0])), (m12, .inl (cI, 1191, .inl zf)), (m13, .inl (cZ, 2, .inl zf))]) (cc := cX7_keep) (maxL := 3) (ret := (some .int)) (Qc := fun _ A => va_Qi (S := Unit) (fun (r : Int32) (_ : Unit) => r = kpA v_c) (Aft D (fun (u : Unit) => []) A) A) (by decide) rfl (Nat.le_of_ble_eq_true rfl) ?_
  intro p e s m below meth c A H locs ⟨hx, hb, hr, hml, hown, hts, hlk, hnm⟩ hK hP hD hS hA ls hl
  have hl : lv_has ls 3 [(0, .ref h0), (1, .int v_c)] := hl
  have hown : s.vm.findClass RX7 = some m.cls := hown
  refine lv_iload_n hx hb dX7_keep_0 rfl (lv_at hl 1 rfl) ?_
  refine lv_iconst (v := 0) hx hb dX7_keep_1 (by decide) ?_
  refine lv_iconst (v := 1) hx hb dX7_keep_2 (by decide) ?_
  refine be_i (free := va_A [] H.size) (wc := []) (wr := [(h0, .inr (7, [.long 0, .ref m0, .int 0, .ref m1, .ref m2, .ref m3, .ref m4, .ref m5, .ref m6, .ref m7, .ref m8, .ref m9, .ref m10, .ref m11, .int 0, .int 0, .int 0, .int 0, .int 0, .int 0, .ref m12, .ref m13, .ref m14, .ref m15, .ref m16, .ref m17, .ref m18, .ref m19, .int 0])), (m12, .inl (cI, 1191, .inl zf)), (m13, .inl (cZ, 2, .inl zf))]) (ru_S (As := [.int v_c, .int 0, .int 1]) (rest := []) ⟨hx, hb, hml, hown, hts⟩ (c_M_in l D cI cB cZ cN v_c 0 1 H.size) ggX7_keep_X7_in rfl (hts (.initialized RX7) (List.mem_of_getElem? (i := 5) rfl)) (hts (.methodLink RX7 78 yX7_in) (List.mem_of_getElem? (i := 3) rfl)) (hts (.static yX7_in) (List.mem_of_getElem? (i := 4) rfl)) ⟨by decide, by decide, (show Option.map (fun d => d.parameters.length) (parseMethodDescriptor yX7_in.desc) = some 3 by decide +kernel)⟩ ⟨Nat.le_of_ble_eq_true rfl, Nat.le_of_ble_eq_true rfl⟩ hK hP hD [] (by decide) rfl hl.1 rfl (Nat.le_of_ble_eq_true rfl) dX7_keep_3 ⟨Nat.le_of_ble_eq_true rfl, Nat.le_of_ble_eq_true rfl⟩) hP hD hS hA [] [0, 1, 2] rfl rfl (by decide) (by decide) (fun r2 u1 H locs w3 hP hD hS => ?_)
  have hP : va_P D vwCl [(h0, .inr (7, [.long 0, .ref m0, .int 0, .ref m1, .ref m2, .ref m3, .ref m4, .ref m5, .ref m6, .ref m7, .ref m8, .ref m9, .ref m10, .ref m11, .int 0, .int 0, .int 0, .int 0, .int 0, .int 0, .ref m12, .ref m13, .ref m14, .ref m15, .ref m16, .ref m17, .ref m18, .ref m19, .int 0])), (m12, .inl (cI, 1191, .inl zf)), (m13, .inl (cZ, 2, .inl zf))] H := hP
  have hD : va_D A [(h0, .inr (7, [.long 0, .ref m0, .int 0, .ref m1, .ref m2, .ref m3, .ref m4, .ref m5, .ref m6, .ref m7, .ref m8, .ref m9, .ref m10, .ref m11, .int 0, .int 0, .int 0, .int 0, .int 0, .int 0, .ref m12, .ref m13, .ref m14, .ref m15, .ref m16, .ref m17, .ref m18, .ref m19, .int 0])), (m12, .inl (cI, 1191, .inl zf)), (m13, .inl (cZ, 2, .inl zf))] := hD
  obtain rfl : r2 = inz v_c 0 1 := w3
  refine lv_if_ne (tgt := 11) hx hb dX7_keep_6 (by decide) (fun h4 => ?_) (fun h4 => ?_)
  · skip
    rcases ic_4 h4 with rfl | rfl
    · skip
      refine lv_iconst (v := 0) hx hb dX7_keep_11 (by decide) ?_
      refine lv_istore_n (lv' := [(2, .int 0), (0, .ref h0), (1, .int 0)]) hx hb dX7_keep_12 rfl hl (by decide) rfl (fun ls hl => ?_)
      refine loopW (D := D) (A := A) (fun i => [(h0, .inr (7, [.long 0, .ref m0, .int 0, .ref m1, .ref m2, .ref m3, .ref m4, .ref m5, .ref m6, .ref m7, .ref m8, .ref m9, .ref m10, .ref m11, .int 0, .int 0, .int 0, .int 0, .int 0, .int 0, .ref m12, .ref m13, .ref m14, .ref m15, .ref m16, .ref m17, .ref m18, .ref m19, .int 0])), (m12, .inl (cI, 1191, .inl zf)), (m13, .inl (cZ, 2, .inl zf))]) (fun i => [(0, .ref h0), (1, .int 0), (2, .int (nI i))]) 13 3 397 0 (Nat.le_of_ble_eq_true rfl) ?_ ?_ _ _ ls hP hD hS (lv_sub hl [1, 2, 0] rfl)
      · intro H locs ls hP hD hS hl
        have hP : va_P D vwCl [(h0, .inr (7, [.long 0, .ref m0, .int 0, .ref m1, .ref m2, .ref m3, .ref m4, .ref m5, .ref m6, .ref m7, .ref m8, .ref m9, .ref m10, .ref m11, .int 0, .int 0, .int 0, .int 0, .int 0, .int 0, .ref m12, .ref m13, .ref m14, .ref m15, .ref m16, .ref m17, .ref m18, .ref m19, .int 0])), (m12, .inl (cI, 1191, .inl zf)), (m13, .inl (cZ, 2, .inl zf))] H := hP
        have hD : va_D A [(h0, .inr (7, [.long 0, .ref m0, .int 0, .ref m1, .ref m2, .ref m3, .ref m4, .ref m5, .ref m6, .ref m7, .ref m8, .ref m9, .ref m10, .ref m11, .int 0, .int 0, .int 0, .int 0, .int 0, .int 0, .ref m12, .ref m13, .ref m14, .ref m15, .ref m16, .ref m17, .ref m18, .ref m19, .int 0])), (m12, .inl (cI, 1191, .inl zf)), (m13, .inl (cZ, 2, .inl zf))] := hD
        have hl : lv_has ls 3 [(0, .ref h0), (1, .int 0), (2, .int 397)] := hl
        refine lv_iload_n hx hb dX7_keep_13 rfl (lv_at hl 2 rfl) ?_
        refine lv_sipush (v := 397) hx hb dX7_keep_14 (by decide) ?_
        refine lv_icmp_ge (tgt := 46) hx hb dX7_keep_17 (by decide) (fun h5 => ?_) (fun h5 => absurd (by decide) h5)
        refine lv_aload_n hx hb dX7_keep_46 rfl (lv_at hl 0 rfl) ?_
        refine va_get (D := D) (ci := 7) (v := .ref m13) (C := RX7) (T := TX7) (N := 29) hx hb hts in_X7_keep_7 hown hK.1 hP 0 rfl rfl 21 (by decide) (hts (.fieldLink RX7 50 "ChildCoinsModel" "isKept" "[Z") (List.mem_of_getElem? (i := 2) rfl)) (fun _ h9 => h9) rfl dX7_keep_47 ?_
        refine lv_iload_n hx hb dX7_keep_50 rfl (lv_at hl 1 rfl) ?_
        refine lv_iconst (v := 1) hx hb dX7_keep_51 (by decide) ?_
        refine va_zast hx hb hK.1 hP hD hS 2 2 rfl rfl (vp_in_nI (n := 0) (N := 2) (by decide) (by decide)) dX7_keep_52 (fun H locs hP hD hS => ?_)
        have hP : va_P D vwCl [(h0, .inr (7, [.long 0, .ref m0, .int 0, .ref m1, .ref m2, .ref m3, .ref m4, .ref m5, .ref m6, .ref m7, .ref m8, .ref m9, .ref m10, .ref m11, .int 0, .int 0, .int 0, .int 0, .int 0, .int 0, .ref m12, .ref m13, .ref m14, .ref m15, .ref m16, .ref m17, .ref m18, .ref m19, .int 0])), (m12, .inl (cI, 1191, .inl zf)), (m13, .inl (cZ, 2, .inl (upd zf 0 1)))] H := hP
        have hD : va_D A [(h0, .inr (7, [.long 0, .ref m0, .int 0, .ref m1, .ref m2, .ref m3, .ref m4, .ref m5, .ref m6, .ref m7, .ref m8, .ref m9, .ref m10, .ref m11, .int 0, .int 0, .int 0, .int 0, .int 0, .int 0, .ref m12, .ref m13, .ref m14, .ref m15, .ref m16, .ref m17, .ref m18, .ref m19, .int 0])), (m12, .inl (cI, 1191, .inl zf)), (m13, .inl (cZ, 2, .inl (upd zf 0 1)))] := hD
        refine lv_aload_n hx hb dX7_keep_53 rfl (lv_at hl 0 rfl) ?_
        refine va_get (D := D) (ci := 7) (v := .ref m12) (C := RX7) (T := TX7) (N := 29) hx hb hts in_X7_keep_7 hown hK.1 hP 0 rfl rfl 20 (by decide) (hts (.fieldLink RX7 47 "ChildCoinsModel" "now" "[I") (List.mem_of_getElem? (i := 1) rfl)) (fun _ h9 => h9) rfl dX7_keep_54 ?_
        refine lv_bipush (v := 35) hx hb dX7_keep_57 (by decide) ?_
        refine va_iald hx hb hK.1 hP 1 0 rfl rfl (vp_in_nI (n := 35) (N := 1191) (by decide) (by decide)) dX7_keep_59 ?_
        refine set_i (y := 0) rfl ?_
        refine be_i (free := va_A [] H.size) (wc := []) (wr := [(h0, .inr (7, [.long 0, .ref m0, .int 0, .ref m1, .ref m2, .ref m3, .ref m4, .ref m5, .ref m6, .ref m7, .ref m8, .ref m9, .ref m10, .ref m11, .int 0, .int 0, .int 0, .int 0, .int 0, .int 0, .ref m12, .ref m13, .ref m14, .ref m15, .ref m16, .ref m17, .ref m18, .ref m19, .int 0])), (m12, .inl (cI, 1191, .inl zf)), (m13, .inl (cZ, 2, .inl (upd zf 0 1)))]) (ru_S (As := [.int 0]) (rest := []) ⟨hx, hb, hml, hown, hts⟩ (c_M_many0 l D cI cB cZ cN H.size) ggX7_keep_X7_manyOf rfl (hts (.initialized RX7) (List.mem_of_getElem? (i := 5) rfl)) (hts (.methodLink RX7 195 yX7_manyOf) (List.mem_of_getElem? (i := 7) rfl)) (hts (.static yX7_manyOf) (List.mem_of_getElem? (i := 8) rfl)) ⟨by decide, by decide, (show Option.map (fun d => d.parameters.length) (parseMethodDescriptor yX7_manyOf.desc) = some 1 by decide +kernel)⟩ ⟨Nat.le_of_ble_eq_true rfl, Nat.le_of_ble_eq_true rfl⟩ hK hP hD [] (by decide) rfl hl.1 rfl (Nat.le_of_ble_eq_true rfl) dX7_keep_60 ⟨Nat.le_of_ble_eq_true rfl, Nat.le_of_ble_eq_true rfl⟩) hP hD hS hA [] [0, 1, 2] rfl rfl (by decide) (by decide) (fun r7 u6 H locs w8 hP hD hS => ?_)
        have hP : va_P D vwCl [(h0, .inr (7, [.long 0, .ref m0, .int 0, .ref m1, .ref m2, .ref m3, .ref m4, .ref m5, .ref m6, .ref m7, .ref m8, .ref m9, .ref m10, .ref m11, .int 0, .int 0, .int 0, .int 0, .int 0, .int 0, .ref m12, .ref m13, .ref m14, .ref m15, .ref m16, .ref m17, .ref m18, .ref m19, .int 0])), (m12, .inl (cI, 1191, .inl zf)), (m13, .inl (cZ, 2, .inl (upd zf 0 1)))] H := hP
        have hD : va_D A [(h0, .inr (7, [.long 0, .ref m0, .int 0, .ref m1, .ref m2, .ref m3, .ref m4, .ref m5, .ref m6, .ref m7, .ref m8, .ref m9, .ref m10, .ref m11, .int 0, .int 0, .int 0, .int 0, .int 0, .int 0, .ref m12, .ref m13, .ref m14, .ref m15, .ref m16, .ref m17, .ref m18, .ref m19, .int 0])), (m12, .inl (cI, 1191, .inl zf)), (m13, .inl (cZ, 2, .inl (upd zf 0 1)))] := hD
        obtain rfl : r7 = 0 := w8
        exact en_i hx hb hr hlk hP hD hS () [] (by decide) rfl (Nat.le_of_ble_eq_true rfl) (Nat.le_of_ble_eq_true rfl) dX7_keep_63 (by decide)
      · intro i hi0 hi ih H locs ls hP hD hS hl
        have hP : va_P D vwCl [(h0, .inr (7, [.long 0, .ref m0, .int 0, .ref m1, .ref m2, .ref m3, .ref m4, .ref m5, .ref m6, .ref m7, .ref m8, .ref m9, .ref m10, .ref m11, .int 0, .int 0, .int 0, .int 0, .int 0, .int 0, .ref m12, .ref m13, .ref m14, .ref m15, .ref m16, .ref m17, .ref m18, .ref m19, .int 0])), (m12, .inl (cI, 1191, .inl zf)), (m13, .inl (cZ, 2, .inl zf))] H := hP
        have hD : va_D A [(h0, .inr (7, [.long 0, .ref m0, .int 0, .ref m1, .ref m2, .ref m3, .ref m4, .ref m5, .ref m6, .ref m7, .ref m8, .ref m9, .ref m10, .ref m11, .int 0, .int 0, .int 0, .int 0, .int 0, .int 0, .ref m12, .ref m13, .ref m14, .ref m15, .ref m16, .ref m17, .ref m18, .ref m19, .int 0])), (m12, .inl (cI, 1191, .inl zf)), (m13, .inl (cZ, 2, .inl zf))] := hD
        have hl : lv_has ls 3 [(0, .ref h0), (1, .int 0), (2, .int (nI i))] := hl
        refine lv_iload_n hx hb dX7_keep_13 rfl (lv_at hl 2 rfl) ?_
        refine lv_sipush (v := 397) hx hb dX7_keep_14 (by decide) ?_
        refine lv_icmp_ge (tgt := 46) hx hb dX7_keep_17 (by decide) (fun h9 => absurd h9 (fun q => absurd ((nI_leI (a := 397) (b := i) (by omega) (by omega)).mp q) (by omega))) (fun h9 => ?_)
        refine lv_aload_n hx hb dX7_keep_20 rfl (lv_at hl 0 rfl) ?_
        refine va_get (D := D) (ci := 7) (v := .ref m12) (C := RX7) (T := TX7) (N := 29) hx hb hts in_X7_keep_7 hown hK.1 hP 0 rfl rfl 20 (by decide) (hts (.fieldLink RX7 47 "ChildCoinsModel" "now" "[I") (List.mem_of_getElem? (i := 1) rfl)) (fun _ h9 => h9) rfl dX7_keep_21 ?_
        refine lv_sipush (v := 397) hx hb dX7_keep_24 (by decide) ?_
        refine lv_iconst (v := 1) hx hb dX7_keep_27 (by decide) ?_
        refine lv_iload_n hx hb dX7_keep_28 rfl (lv_at hl 1 rfl) ?_
        refine lv_iadd hx hb dX7_keep_29 ?_
        refine set_i (y := 1) (by decide) ?_
        refine lv_imul hx hb dX7_keep_30 ?_
        refine set_i (y := 397) (by decide) ?_
        refine lv_iload_n hx hb dX7_keep_31 rfl (lv_at hl 2 rfl) ?_
        refine lv_iadd hx hb dX7_keep_32 ?_
        refine set_i (y := nI (397 + i)) (nI_add 397 i) ?_
        refine lv_aload_n hx hb dX7_keep_33 rfl (lv_at hl 0 rfl) ?_
        refine va_get (D := D) (ci := 7) (v := .ref m12) (C := RX7) (T := TX7) (N := 29) hx hb hts in_X7_keep_7 hown hK.1 hP 0 rfl rfl 20 (by decide) (hts (.fieldLink RX7 47 "ChildCoinsModel" "now" "[I") (List.mem_of_getElem? (i := 1) rfl)) (fun _ h9 => h9) rfl dX7_keep_34 ?_
        refine lv_iload_n hx hb dX7_keep_37 rfl (lv_at hl 2 rfl) ?_
        refine va_iald hx hb hK.1 hP 1 0 rfl rfl (vp_in_nI (n := i) (N := 1191) (by omega) (by decide)) dX7_keep_38 ?_
        refine set_i (y := 0) rfl ?_
        refine va_iast hx hb hK.1 hP hD hS 1 0 rfl rfl (vp_in_nI (n := 397 + i) (N := 1191) (by omega) (by decide)) dX7_keep_39 (fun H locs hP hD hS => ?_)
        have hP : va_P D vwCl [(h0, .inr (7, [.long 0, .ref m0, .int 0, .ref m1, .ref m2, .ref m3, .ref m4, .ref m5, .ref m6, .ref m7, .ref m8, .ref m9, .ref m10, .ref m11, .int 0, .int 0, .int 0, .int 0, .int 0, .int 0, .ref m12, .ref m13, .ref m14, .ref m15, .ref m16, .ref m17, .ref m18, .ref m19, .int 0])), (m12, .inl (cI, 1191, .inl (upd zf (nI (397 + i)).toNatClampNeg 0))), (m13, .inl (cZ, 2, .inl zf))] H := hP
        have hD : va_D A [(h0, .inr (7, [.long 0, .ref m0, .int 0, .ref m1, .ref m2, .ref m3, .ref m4, .ref m5, .ref m6, .ref m7, .ref m8, .ref m9, .ref m10, .ref m11, .int 0, .int 0, .int 0, .int 0, .int 0, .int 0, .ref m12, .ref m13, .ref m14, .ref m15, .ref m16, .ref m17, .ref m18, .ref m19, .int 0])), (m12, .inl (cI, 1191, .inl (upd zf (nI (397 + i)).toNatClampNeg 0))), (m13, .inl (cZ, 2, .inl zf))] := hD
        rw [upz] at hP hD
        refine lv_iinc (v := nI (i + 1)) (lv' := [(2, .int (nI (i + 1))), (0, .ref h0), (1, .int 0)]) hx hb dX7_keep_40 hl (k := 2) rfl (nI_1 i) (by decide) rfl (fun ls hl => ?_)
        refine lv_goto (tgt := 13) hx hb dX7_keep_43 (by decide) ?_
        exact ih _ _ _ hP hD hS (lv_sub hl [1, 2, 0] rfl)
    · skip
      refine lv_iconst (v := 0) hx hb dX7_keep_11 (by decide) ?_
      refine lv_istore_n (lv' := [(2, .int 0), (0, .ref h0), (1, .int 1)]) hx hb dX7_keep_12 rfl hl (by decide) rfl (fun ls hl => ?_)
      refine loopW (D := D) (A := A) (fun i => [(h0, .inr (7, [.long 0, .ref m0, .int 0, .ref m1, .ref m2, .ref m3, .ref m4, .ref m5, .ref m6, .ref m7, .ref m8, .ref m9, .ref m10, .ref m11, .int 0, .int 0, .int 0, .int 0, .int 0, .int 0, .ref m12, .ref m13, .ref m14, .ref m15, .ref m16, .ref m17, .ref m18, .ref m19, .int 0])), (m12, .inl (cI, 1191, .inl zf)), (m13, .inl (cZ, 2, .inl zf))]) (fun i => [(0, .ref h0), (1, .int 1), (2, .int (nI i))]) 13 3 397 0 (Nat.le_of_ble_eq_true rfl) ?_ ?_ _ _ ls hP hD hS (lv_sub hl [1, 2, 0] rfl)
      · intro H locs ls hP hD hS hl
        have hP : va_P D vwCl [(h0, .inr (7, [.long 0, .ref m0, .int 0, .ref m1, .ref m2, .ref m3, .ref m4, .ref m5, .ref m6, .ref m7, .ref m8, .ref m9, .ref m10, .ref m11, .int 0, .int 0, .int 0, .int 0, .int 0, .int 0, .ref m12, .ref m13, .ref m14, .ref m15, .ref m16, .ref m17, .ref m18, .ref m19, .int 0])), (m12, .inl (cI, 1191, .inl zf)), (m13, .inl (cZ, 2, .inl zf))] H := hP
        have hD : va_D A [(h0, .inr (7, [.long 0, .ref m0, .int 0, .ref m1, .ref m2, .ref m3, .ref m4, .ref m5, .ref m6, .ref m7, .ref m8, .ref m9, .ref m10, .ref m11, .int 0, .int 0, .int 0, .int 0, .int 0, .int 0, .ref m12, .ref m13, .ref m14, .ref m15, .ref m16, .ref m17, .ref m18, .ref m19, .int 0])), (m12, .inl (cI, 1191, .inl zf)), (m13, .inl (cZ, 2, .inl zf))] := hD
        have hl : lv_has ls 3 [(0, .ref h0), (1, .int 1), (2, .int 397)] := hl
        refine lv_iload_n hx hb dX7_keep_13 rfl (lv_at hl 2 rfl) ?_
        refine lv_sipush (v := 397) hx hb dX7_keep_14 (by decide) ?_
        refine lv_icmp_ge (tgt := 46) hx hb dX7_keep_17 (by decide) (fun h10 => ?_) (fun h10 => absurd (by decide) h10)
        refine lv_aload_n hx hb dX7_keep_46 rfl (lv_at hl 0 rfl) ?_
        refine va_get (D := D) (ci := 7) (v := .ref m13) (C := RX7) (T := TX7) (N := 29) hx hb hts in_X7_keep_7 hown hK.1 hP 0 rfl rfl 21 (by decide) (hts (.fieldLink RX7 50 "ChildCoinsModel" "isKept" "[Z") (List.mem_of_getElem? (i := 2) rfl)) (fun _ h9 => h9) rfl dX7_keep_47 ?_
        refine lv_iload_n hx hb dX7_keep_50 rfl (lv_at hl 1 rfl) ?_
        refine lv_iconst (v := 1) hx hb dX7_keep_51 (by decide) ?_
        refine va_zast hx hb hK.1 hP hD hS 2 2 rfl rfl (vp_in_nI (n := 1) (N := 2) (by decide) (by decide)) dX7_keep_52 (fun H locs hP hD hS => ?_)
        have hP : va_P D vwCl [(h0, .inr (7, [.long 0, .ref m0, .int 0, .ref m1, .ref m2, .ref m3, .ref m4, .ref m5, .ref m6, .ref m7, .ref m8, .ref m9, .ref m10, .ref m11, .int 0, .int 0, .int 0, .int 0, .int 0, .int 0, .ref m12, .ref m13, .ref m14, .ref m15, .ref m16, .ref m17, .ref m18, .ref m19, .int 0])), (m12, .inl (cI, 1191, .inl zf)), (m13, .inl (cZ, 2, .inl (upd zf 1 1)))] H := hP
        have hD : va_D A [(h0, .inr (7, [.long 0, .ref m0, .int 0, .ref m1, .ref m2, .ref m3, .ref m4, .ref m5, .ref m6, .ref m7, .ref m8, .ref m9, .ref m10, .ref m11, .int 0, .int 0, .int 0, .int 0, .int 0, .int 0, .ref m12, .ref m13, .ref m14, .ref m15, .ref m16, .ref m17, .ref m18, .ref m19, .int 0])), (m12, .inl (cI, 1191, .inl zf)), (m13, .inl (cZ, 2, .inl (upd zf 1 1)))] := hD
        refine lv_aload_n hx hb dX7_keep_53 rfl (lv_at hl 0 rfl) ?_
        refine va_get (D := D) (ci := 7) (v := .ref m12) (C := RX7) (T := TX7) (N := 29) hx hb hts in_X7_keep_7 hown hK.1 hP 0 rfl rfl 20 (by decide) (hts (.fieldLink RX7 47 "ChildCoinsModel" "now" "[I") (List.mem_of_getElem? (i := 1) rfl)) (fun _ h9 => h9) rfl dX7_keep_54 ?_
        refine lv_bipush (v := 35) hx hb dX7_keep_57 (by decide) ?_
        refine va_iald hx hb hK.1 hP 1 0 rfl rfl (vp_in_nI (n := 35) (N := 1191) (by decide) (by decide)) dX7_keep_59 ?_
        refine set_i (y := 0) rfl ?_
        refine be_i (free := va_A [] H.size) (wc := []) (wr := [(h0, .inr (7, [.long 0, .ref m0, .int 0, .ref m1, .ref m2, .ref m3, .ref m4, .ref m5, .ref m6, .ref m7, .ref m8, .ref m9, .ref m10, .ref m11, .int 0, .int 0, .int 0, .int 0, .int 0, .int 0, .ref m12, .ref m13, .ref m14, .ref m15, .ref m16, .ref m17, .ref m18, .ref m19, .int 0])), (m12, .inl (cI, 1191, .inl zf)), (m13, .inl (cZ, 2, .inl (upd zf 1 1)))]) (ru_S (As := [.int 0]) (rest := []) ⟨hx, hb, hml, hown, hts⟩ (c_M_many0 l D cI cB cZ cN H.size) ggX7_keep_X7_manyOf rfl (hts (.initialized RX7) (List.mem_of_getElem? (i := 5) rfl)) (hts (.methodLink RX7 195 yX7_manyOf) (List.mem_of_getElem? (i := 7) rfl)) (hts (.static yX7_manyOf) (List.mem_of_getElem? (i := 8) rfl)) ⟨by decide, by decide, (show Option.map (fun d => d.parameters.length) (parseMethodDescriptor yX7_manyOf.desc) = some 1 by decide +kernel)⟩ ⟨Nat.le_of_ble_eq_true rfl, Nat.le_of_ble_eq_true rfl⟩ hK hP hD [] (by decide) rfl hl.1 rfl (Nat.le_of_ble_eq_true rfl) dX7_keep_60 ⟨Nat.le_of_ble_eq_true rfl, Nat.le_of_ble_eq_true rfl⟩) hP hD hS hA [] [0, 1, 2] rfl rfl (by decide) (by decide) (fun r12 u11 H locs w13 hP hD hS => ?_)
        have hP : va_P D vwCl [(h0, .inr (7, [.long 0, .ref m0, .int 0, .ref m1, .ref m2, .ref m3, .ref m4, .ref m5, .ref m6, .ref m7, .ref m8, .ref m9, .ref m10, .ref m11, .int 0, .int 0, .int 0, .int 0, .int 0, .int 0, .ref m12, .ref m13, .ref m14, .ref m15, .ref m16, .ref m17, .ref m18, .ref m19, .int 0])), (m12, .inl (cI, 1191, .inl zf)), (m13, .inl (cZ, 2, .inl (upd zf 1 1)))] H := hP
        have hD : va_D A [(h0, .inr (7, [.long 0, .ref m0, .int 0, .ref m1, .ref m2, .ref m3, .ref m4, .ref m5, .ref m6, .ref m7, .ref m8, .ref m9, .ref m10, .ref m11, .int 0, .int 0, .int 0, .int 0, .int 0, .int 0, .ref m12, .ref m13, .ref m14, .ref m15, .ref m16, .ref m17, .ref m18, .ref m19, .int 0])), (m12, .inl (cI, 1191, .inl zf)), (m13, .inl (cZ, 2, .inl (upd zf 1 1)))] := hD
        obtain rfl : r12 = 0 := w13
        exact en_i hx hb hr hlk hP hD hS () [] (by decide) rfl (Nat.le_of_ble_eq_true rfl) (Nat.le_of_ble_eq_true rfl) dX7_keep_63 (by decide)
      · intro i hi0 hi ih H locs ls hP hD hS hl
        have hP : va_P D vwCl [(h0, .inr (7, [.long 0, .ref m0, .int 0, .ref m1, .ref m2, .ref m3, .ref m4, .ref m5, .ref m6, .ref m7, .ref m8, .ref m9, .ref m10, .ref m11, .int 0, .int 0, .int 0, .int 0, .int 0, .int 0, .ref m12, .ref m13, .ref m14, .ref m15, .ref m16, .ref m17, .ref m18, .ref m19, .int 0])), (m12, .inl (cI, 1191, .inl zf)), (m13, .inl (cZ, 2, .inl zf))] H := hP
        have hD : va_D A [(h0, .inr (7, [.long 0, .ref m0, .int 0, .ref m1, .ref m2, .ref m3, .ref m4, .ref m5, .ref m6, .ref m7, .ref m8, .ref m9, .ref m10, .ref m11, .int 0, .int 0, .int 0, .int 0, .int 0, .int 0, .ref m12, .ref m13, .ref m14, .ref m15, .ref m16, .ref m17, .ref m18, .ref m19, .int 0])), (m12, .inl (cI, 1191, .inl zf)), (m13, .inl (cZ, 2, .inl zf))] := hD
        have hl : lv_has ls 3 [(0, .ref h0), (1, .int 1), (2, .int (nI i))] := hl
        refine lv_iload_n hx hb dX7_keep_13 rfl (lv_at hl 2 rfl) ?_
        refine lv_sipush (v := 397) hx hb dX7_keep_14 (by decide) ?_
        refine lv_icmp_ge (tgt := 46) hx hb dX7_keep_17 (by decide) (fun h14 => absurd h14 (fun q => absurd ((nI_leI (a := 397) (b := i) (by omega) (by omega)).mp q) (by omega))) (fun h14 => ?_)
        refine lv_aload_n hx hb dX7_keep_20 rfl (lv_at hl 0 rfl) ?_
        refine va_get (D := D) (ci := 7) (v := .ref m12) (C := RX7) (T := TX7) (N := 29) hx hb hts in_X7_keep_7 hown hK.1 hP 0 rfl rfl 20 (by decide) (hts (.fieldLink RX7 47 "ChildCoinsModel" "now" "[I") (List.mem_of_getElem? (i := 1) rfl)) (fun _ h9 => h9) rfl dX7_keep_21 ?_
        refine lv_sipush (v := 397) hx hb dX7_keep_24 (by decide) ?_
        refine lv_iconst (v := 1) hx hb dX7_keep_27 (by decide) ?_
        refine lv_iload_n hx hb dX7_keep_28 rfl (lv_at hl 1 rfl) ?_
        refine lv_iadd hx hb dX7_keep_29 ?_
        refine set_i (y := 2) (by decide) ?_
        refine lv_imul hx hb dX7_keep_30 ?_
        refine set_i (y := 794) (by decide) ?_
        refine lv_iload_n hx hb dX7_keep_31 rfl (lv_at hl 2 rfl) ?_
        refine lv_iadd hx hb dX7_keep_32 ?_
        refine set_i (y := nI (794 + i)) (nI_add 794 i) ?_
        refine lv_aload_n hx hb dX7_keep_33 rfl (lv_at hl 0 rfl) ?_
        refine va_get (D := D) (ci := 7) (v := .ref m12) (C := RX7) (T := TX7) (N := 29) hx hb hts in_X7_keep_7 hown hK.1 hP 0 rfl rfl 20 (by decide) (hts (.fieldLink RX7 47 "ChildCoinsModel" "now" "[I") (List.mem_of_getElem? (i := 1) rfl)) (fun _ h9 => h9) rfl dX7_keep_34 ?_
        refine lv_iload_n hx hb dX7_keep_37 rfl (lv_at hl 2 rfl) ?_
        refine va_iald hx hb hK.1 hP 1 0 rfl rfl (vp_in_nI (n := i) (N := 1191) (by omega) (by decide)) dX7_keep_38 ?_
        refine set_i (y := 0) rfl ?_
        refine va_iast hx hb hK.1 hP hD hS 1 0 rfl rfl (vp_in_nI (n := 794 + i) (N := 1191) (by omega) (by decide)) dX7_keep_39 (fun H locs hP hD hS => ?_)
        have hP : va_P D vwCl [(h0, .inr (7, [.long 0, .ref m0, .int 0, .ref m1, .ref m2, .ref m3, .ref m4, .ref m5, .ref m6, .ref m7, .ref m8, .ref m9, .ref m10, .ref m11, .int 0, .int 0, .int 0, .int 0, .int 0, .int 0, .ref m12, .ref m13, .ref m14, .ref m15, .ref m16, .ref m17, .ref m18, .ref m19, .int 0])), (m12, .inl (cI, 1191, .inl (upd zf (nI (794 + i)).toNatClampNeg 0))), (m13, .inl (cZ, 2, .inl zf))] H := hP
        have hD : va_D A [(h0, .inr (7, [.long 0, .ref m0, .int 0, .ref m1, .ref m2, .ref m3, .ref m4, .ref m5, .ref m6, .ref m7, .ref m8, .ref m9, .ref m10, .ref m11, .int 0, .int 0, .int 0, .int 0, .int 0, .int 0, .ref m12, .ref m13, .ref m14, .ref m15, .ref m16, .ref m17, .ref m18, .ref m19, .int 0])), (m12, .inl (cI, 1191, .inl (upd zf (nI (794 + i)).toNatClampNeg 0))), (m13, .inl (cZ, 2, .inl zf))] := hD
        rw [upz] at hP hD
        refine lv_iinc (v := nI (i + 1)) (lv' := [(2, .int (nI (i + 1))), (0, .ref h0), (1, .int 1)]) hx hb dX7_keep_40 hl (k := 2) rfl (nI_1 i) (by decide) rfl (fun ls hl => ?_)
        refine lv_goto (tgt := 13) hx hb dX7_keep_43 (by decide) ?_
        exact ih _ _ _ hP hD hS (lv_sub hl [1, 2, 0] rfl)
  · skip
    refine lv_iconst (v := -1) hx hb dX7_keep_9 (by decide) ?_
    exact en_i hx hb hr hlk hP hD hS () [] (by decide) rfl (Nat.le_of_ble_eq_true rfl) (Nat.le_of_ble_eq_true rfl) dX7_keep_10 (if_pos h4).symm
theorem dX7_back_0 : decode cX7_back 0 = .ok (.iload_n 1, 1) := by decide +kernel
theorem dX7_back_1 : decode cX7_back 1 = .ok (.iconst 0, 1) := by decide +kernel
theorem dX7_back_2 : decode cX7_back 2 = .ok (.iconst 1, 1) := by decide +kernel
theorem dX7_back_3 : decode cX7_back 3 = .ok (.invokestatic 78, 3) := by decide +kernel
set_option maxRecDepth 20000 in
theorem ggX7_back_X7_in : GoodIn wsX7_back wsX7_in := goodIn_r _ [6] (by decide +kernel) (by decide +kernel)
theorem dX7_back_6 : decode cX7_back 6 = .ok (.ifCond .ne 5, 3) := by decide +kernel
theorem dX7_back_11 : decode cX7_back 11 = .ok (.aload_n 0, 1) := by decide +kernel
theorem dX7_back_12 : decode cX7_back 12 = .ok (.getfield 50, 3) := by decide +kernel
theorem in_X7_back_7 : ∀ w ∈ wsX70, w ∈ wsX7_back := fun w h => List.mem_cons_of_mem _ (List.mem_append_right _ h)
theorem dX7_back_15 : decode cX7_back 15 = .ok (.iload_n 1, 1) := by decide +kernel
theorem dX7_back_16 : decode cX7_back 16 = .ok (.baload, 1) := by decide +kernel
theorem dX7_back_17 : decode cX7_back 17 = .ok (.ifCond .ne 6, 3) := by decide +kernel
theorem dX7_back_20 : decode cX7_back 20 = .ok (.bipush (-2), 2) := by decide +kernel
theorem dX7_back_22 : decode cX7_back 22 = .ok (.ireturn, 1) := by decide +kernel
theorem dX7_back_9 : decode cX7_back 9 = .ok (.iconst (-1), 1) := by decide +kernel
theorem dX7_back_10 : decode cX7_back 10 = .ok (.ireturn, 1) := by decide +kernel
set_option maxHeartbeats 4000000 in
set_option maxRecDepth 100000 in
theorem c_M_back (l : Launch) (D : va_G) (cI cB cZ cN : ClassId) (h0 : Nat) (m0 : Nat) (m1 : Nat) (m2 : Nat) (m3 : Nat) (m4 : Nat) (m5 : Nat) (m6 : Nat) (m7 : Nat) (m8 : Nat) (m9 : Nat) (m10 : Nat) (m11 : Nat) (m12 : Nat) (m13 : Nat) (m14 : Nat) (m15 : Nat) (m16 : Nat) (m17 : Nat) (m18 : Nat) (m19 : Nat) (v_c : Int32)  : Ci (S := Unit) l D cI cB cZ cN yX7_back wsX7_back ({ frames := 1, cells := 0, slots := 0, locals := 22 } : Room) [.ref h0, .int v_c] [(h0, .inr (7, [.long 0, .ref m0, .int 0, .ref m1, .ref m2, .ref m3, .ref m4, .ref m5, .ref m6, .ref m7, .ref m8, .ref m9, .ref m10, .ref m11, .int 0, .int 0, .int 0, .int 0, .int 0, .int 0, .ref m12, .ref m13, .ref m14, .ref m15, .ref m16, .ref m17, .ref m18, .ref m19, .int 0])), (m12, .inl (cI, 1191, .inl zf)), (m13, .inl (cZ, 2, .inl zf))] (fun (r : Int32) (_ : Unit) => r = bkA v_c) (fun u => []) := by
  refine bx_of (D := D) (cI := cI) (cB := cB) (cZ := cZ) (cN := cN) (y := yX7_back) (wd := wsX7_back) (rm := ({ frames := 1, cells := 0, slots := 0, locals := 22 } : Room)) (av := [.ref h0, .int v_c]) (wc := [(h0, .inr (7, [.long 0, .ref m0, .int 0, .ref m1, .ref m2, .ref m3, .ref m4, .ref m5, .ref m6, .ref m7, .ref m8, .ref m9, .ref m10, .ref m11, .int 0, .int 0, .int 0, .int 0, .int 0, .int 0, .ref m12, .ref m13, .ref m14, .ref m15, .ref m16, .ref m17, .ref m18, .ref m19, .int 0])), (m12, .inl (cI, 1191, .inl zf)), (m13, .inl (cZ, 2, .inl zf))]) (cc := cX7_back) (maxL := 3) (ret := (some .int)) (Qc := fun _ A => va_Qi (S := Unit) (fun (r : Int32) (_ : Unit) => r = bkA v_c) (Aft D (fun (u : Unit) => []) A) A) (by decide) rfl (Nat.le_of_ble_eq_true rfl) ?_
  intro p e s m below meth c A H locs ⟨hx, hb, hr, hml, hown, hts, hlk, hnm⟩ hK hP hD hS hA ls hl
  have hl : lv_has ls 3 [(0, .ref h0), (1, .int v_c)] := hl
  have hown : s.vm.findClass RX7 = some m.cls := hown
  refine lv_iload_n hx hb dX7_back_0 rfl (lv_at hl 1 rfl) ?_
  refine lv_iconst (v := 0) hx hb dX7_back_1 (by decide) ?_
  refine lv_iconst (v := 1) hx hb dX7_back_2 (by decide) ?_
  refine be_i (free := va_A [] H.size) (wc := []) (wr := [(h0, .inr (7, [.long 0, .ref m0, .int 0, .ref m1, .ref m2, .ref m3, .ref m4, .ref m5, .ref m6, .ref m7, .ref m8, .ref m9, .ref m10, .ref m11, .int 0, .int 0, .int 0, .int 0, .int 0, .int 0, .ref m12, .ref m13, .ref m14, .ref m15, .ref m16, .ref m17, .ref m18, .ref m19, .int 0])), (m12, .inl (cI, 1191, .inl zf)), (m13, .inl (cZ, 2, .inl zf))]) (ru_S (As := [.int v_c, .int 0, .int 1]) (rest := []) ⟨hx, hb, hml, hown, hts⟩ (c_M_in l D cI cB cZ cN v_c 0 1 H.size) ggX7_back_X7_in rfl (hts (.initialized RX7) (List.mem_of_getElem? (i := 5) rfl)) (hts (.methodLink RX7 78 yX7_in) (List.mem_of_getElem? (i := 3) rfl)) (hts (.static yX7_in) (List.mem_of_getElem? (i := 4) rfl)) ⟨by decide, by decide, (show Option.map (fun d => d.parameters.length) (parseMethodDescriptor yX7_in.desc) = some 3 by decide +kernel)⟩ ⟨Nat.le_of_ble_eq_true rfl, Nat.le_of_ble_eq_true rfl⟩ hK hP hD [] (by decide) rfl hl.1 rfl (Nat.le_of_ble_eq_true rfl) dX7_back_3 ⟨Nat.le_of_ble_eq_true rfl, Nat.le_of_ble_eq_true rfl⟩) hP hD hS hA [] [0, 1, 2] rfl rfl (by decide) (by decide) (fun r2 u1 H locs w3 hP hD hS => ?_)
  have hP : va_P D vwCl [(h0, .inr (7, [.long 0, .ref m0, .int 0, .ref m1, .ref m2, .ref m3, .ref m4, .ref m5, .ref m6, .ref m7, .ref m8, .ref m9, .ref m10, .ref m11, .int 0, .int 0, .int 0, .int 0, .int 0, .int 0, .ref m12, .ref m13, .ref m14, .ref m15, .ref m16, .ref m17, .ref m18, .ref m19, .int 0])), (m12, .inl (cI, 1191, .inl zf)), (m13, .inl (cZ, 2, .inl zf))] H := hP
  have hD : va_D A [(h0, .inr (7, [.long 0, .ref m0, .int 0, .ref m1, .ref m2, .ref m3, .ref m4, .ref m5, .ref m6, .ref m7, .ref m8, .ref m9, .ref m10, .ref m11, .int 0, .int 0, .int 0, .int 0, .int 0, .int 0, .ref m12, .ref m13, .ref m14, .ref m15, .ref m16, .ref m17, .ref m18, .ref m19, .int 0])), (m12, .inl (cI, 1191, .inl zf)), (m13, .inl (cZ, 2, .inl zf))] := hD
  obtain rfl : r2 = inz v_c 0 1 := w3
  refine lv_if_ne (tgt := 11) hx hb dX7_back_6 (by decide) (fun h4 => ?_) (fun h4 => ?_)
  · skip
    rcases ic_4 h4 with rfl | rfl
    · skip
      refine lv_aload_n hx hb dX7_back_11 rfl (lv_at hl 0 rfl) ?_
      refine va_get (D := D) (ci := 7) (v := .ref m13) (C := RX7) (T := TX7) (N := 29) hx hb hts in_X7_back_7 hown hK.1 hP 0 rfl rfl 21 (by decide) (hts (.fieldLink RX7 50 "ChildCoinsModel" "isKept" "[Z") (List.mem_of_getElem? (i := 1) rfl)) (fun _ h9 => h9) rfl dX7_back_12 ?_
      refine lv_iload_n hx hb dX7_back_15 rfl (lv_at hl 1 rfl) ?_
      refine va_zald hx hb hK.1 hP 2 2 rfl rfl (vp_in_nI (n := 0) (N := 2) (by decide) (by decide)) dX7_back_16 ?_
      refine set_i (y := 0) rfl ?_
      refine lv_if_ne (tgt := 23) hx hb dX7_back_17 (by decide) (fun h5 => absurd (by decide) h5) (fun h5 => ?_)
      refine lv_bipush (v := -2) hx hb dX7_back_20 (by decide) ?_
      exact en_i hx hb hr hlk hP hD hS () [] (by decide) rfl (Nat.le_of_ble_eq_true rfl) (Nat.le_of_ble_eq_true rfl) dX7_back_22 (by decide)
    · skip
      refine lv_aload_n hx hb dX7_back_11 rfl (lv_at hl 0 rfl) ?_
      refine va_get (D := D) (ci := 7) (v := .ref m13) (C := RX7) (T := TX7) (N := 29) hx hb hts in_X7_back_7 hown hK.1 hP 0 rfl rfl 21 (by decide) (hts (.fieldLink RX7 50 "ChildCoinsModel" "isKept" "[Z") (List.mem_of_getElem? (i := 1) rfl)) (fun _ h9 => h9) rfl dX7_back_12 ?_
      refine lv_iload_n hx hb dX7_back_15 rfl (lv_at hl 1 rfl) ?_
      refine va_zald hx hb hK.1 hP 2 2 rfl rfl (vp_in_nI (n := 1) (N := 2) (by decide) (by decide)) dX7_back_16 ?_
      refine set_i (y := 0) rfl ?_
      refine lv_if_ne (tgt := 23) hx hb dX7_back_17 (by decide) (fun h6 => absurd (by decide) h6) (fun h6 => ?_)
      refine lv_bipush (v := -2) hx hb dX7_back_20 (by decide) ?_
      exact en_i hx hb hr hlk hP hD hS () [] (by decide) rfl (Nat.le_of_ble_eq_true rfl) (Nat.le_of_ble_eq_true rfl) dX7_back_22 (by decide)
  · skip
    refine lv_iconst (v := -1) hx hb dX7_back_9 (by decide) ?_
    exact en_i hx hb hr hlk hP hD hS () [] (by decide) rfl (Nat.le_of_ble_eq_true rfl) (Nat.le_of_ble_eq_true rfl) dX7_back_10 (if_pos h4).symm
theorem dX7_count_0 : decode cX7_count 0 = .ok (.iload_n 1, 1) := by decide +kernel
theorem dX7_count_1 : decode cX7_count 1 = .ok (.tableswitch 89 0 6 #[43, 50, 57, 64, 71, 76, 84], 43) := by decide +kernel
theorem dX7_count_44 : decode cX7_count 44 = .ok (.aload_n 0, 1) := by decide +kernel
theorem dX7_count_45 : decode cX7_count 45 = .ok (.getfield 13, 3) := by decide +kernel
theorem in_X7_count_7 : ∀ w ∈ wsX70, w ∈ wsX7_count := fun w h => List.mem_cons_of_mem _ (List.mem_append_right _ h)
theorem dX7_count_48 : decode cX7_count 48 = .ok (.iconst 0, 1) := by decide +kernel
theorem dX7_count_49 : decode cX7_count 49 = .ok (.iaload, 1) := by decide +kernel
theorem dX7_count_50 : decode cX7_count 50 = .ok (.ireturn, 1) := by decide +kernel
theorem dX7_count_51 : decode cX7_count 51 = .ok (.aload_n 0, 1) := by decide +kernel
theorem dX7_count_52 : decode cX7_count 52 = .ok (.getfield 23, 3) := by decide +kernel
theorem dX7_count_55 : decode cX7_count 55 = .ok (.iconst 0, 1) := by decide +kernel
theorem dX7_count_56 : decode cX7_count 56 = .ok (.iaload, 1) := by decide +kernel
theorem dX7_count_57 : decode cX7_count 57 = .ok (.ireturn, 1) := by decide +kernel
theorem dX7_count_58 : decode cX7_count 58 = .ok (.aload_n 0, 1) := by decide +kernel
theorem dX7_count_59 : decode cX7_count 59 = .ok (.getfield 32, 3) := by decide +kernel
theorem dX7_count_62 : decode cX7_count 62 = .ok (.iconst 0, 1) := by decide +kernel
theorem dX7_count_63 : decode cX7_count 63 = .ok (.iaload, 1) := by decide +kernel
theorem dX7_count_64 : decode cX7_count 64 = .ok (.ireturn, 1) := by decide +kernel
theorem dX7_count_65 : decode cX7_count 65 = .ok (.aload_n 0, 1) := by decide +kernel
theorem dX7_count_66 : decode cX7_count 66 = .ok (.getfield 44, 3) := by decide +kernel
theorem dX7_count_69 : decode cX7_count 69 = .ok (.iconst 0, 1) := by decide +kernel
theorem dX7_count_70 : decode cX7_count 70 = .ok (.iaload, 1) := by decide +kernel
theorem dX7_count_71 : decode cX7_count 71 = .ok (.ireturn, 1) := by decide +kernel
theorem dX7_count_72 : decode cX7_count 72 = .ok (.aload_n 0, 1) := by decide +kernel
theorem dX7_count_73 : decode cX7_count 73 = .ok (.getfield 120, 3) := by decide +kernel
theorem dX7_count_76 : decode cX7_count 76 = .ok (.ireturn, 1) := by decide +kernel
theorem dX7_count_77 : decode cX7_count 77 = .ok (.aload_n 0, 1) := by decide +kernel
theorem dX7_count_78 : decode cX7_count 78 = .ok (.getfield 47, 3) := by decide +kernel
theorem dX7_count_81 : decode cX7_count 81 = .ok (.bipush 36, 2) := by decide +kernel
theorem dX7_count_83 : decode cX7_count 83 = .ok (.iaload, 1) := by decide +kernel
theorem dX7_count_84 : decode cX7_count 84 = .ok (.ireturn, 1) := by decide +kernel
theorem dX7_count_85 : decode cX7_count 85 = .ok (.aload_n 0, 1) := by decide +kernel
theorem dX7_count_86 : decode cX7_count 86 = .ok (.getfield 82, 3) := by decide +kernel
theorem dX7_count_89 : decode cX7_count 89 = .ok (.ireturn, 1) := by decide +kernel
theorem dX7_count_90 : decode cX7_count 90 = .ok (.iconst (-1), 1) := by decide +kernel
theorem dX7_count_91 : decode cX7_count 91 = .ok (.ireturn, 1) := by decide +kernel
set_option maxHeartbeats 4000000 in
set_option maxRecDepth 100000 in
theorem c_M_count (l : Launch) (D : va_G) (cI cB cZ cN : ClassId) (h0 : Nat) (m0 : Nat) (m1 : Nat) (m2 : Nat) (m3 : Nat) (m4 : Nat) (m5 : Nat) (m6 : Nat) (m7 : Nat) (m8 : Nat) (m9 : Nat) (m10 : Nat) (m11 : Nat) (m12 : Nat) (m13 : Nat) (m14 : Nat) (m15 : Nat) (m16 : Nat) (m17 : Nat) (m18 : Nat) (m19 : Nat) (v_c : Int32)  : Ci (S := Unit) l D cI cB cZ cN yX7_count wsX7_count ({ frames := 0, cells := 0, slots := 0, locals := 0 } : Room) [.ref h0, .int v_c] [(h0, .inr (7, [.long 0, .ref m0, .int 0, .ref m1, .ref m2, .ref m3, .ref m4, .ref m5, .ref m6, .ref m7, .ref m8, .ref m9, .ref m10, .ref m11, .int 0, .int 0, .int 0, .int 0, .int 0, .int 0, .ref m12, .ref m13, .ref m14, .ref m15, .ref m16, .ref m17, .ref m18, .ref m19, .int 0])), (m1, .inl (cI, 2, .inl zf)), (m4, .inl (cI, 2, .inl zf)), (m7, .inl (cI, 2, .inl zf)), (m11, .inl (cI, 2, .inl spn)), (m12, .inl (cI, 1191, .inl zf))] (fun (r : Int32) (_ : Unit) => r = ctA v_c) (fun u => []) := by
  refine bx_of (D := D) (cI := cI) (cB := cB) (cZ := cZ) (cN := cN) (y := yX7_count) (wd := wsX7_count) (rm := ({ frames := 0, cells := 0, slots := 0, locals := 0 } : Room)) (av := [.ref h0, .int v_c]) (wc := [(h0, .inr (7, [.long 0, .ref m0, .int 0, .ref m1, .ref m2, .ref m3, .ref m4, .ref m5, .ref m6, .ref m7, .ref m8, .ref m9, .ref m10, .ref m11, .int 0, .int 0, .int 0, .int 0, .int 0, .int 0, .ref m12, .ref m13, .ref m14, .ref m15, .ref m16, .ref m17, .ref m18, .ref m19, .int 0])), (m1, .inl (cI, 2, .inl zf)), (m4, .inl (cI, 2, .inl zf)), (m7, .inl (cI, 2, .inl zf)), (m11, .inl (cI, 2, .inl spn)), (m12, .inl (cI, 1191, .inl zf))]) (cc := cX7_count) (maxL := 2) (ret := (some .int)) (Qc := fun _ A => va_Qi (S := Unit) (fun (r : Int32) (_ : Unit) => r = ctA v_c) (Aft D (fun (u : Unit) => []) A) A) (by decide) rfl (Nat.le_of_ble_eq_true rfl) ?_
  intro p e s m below meth c A H locs ⟨hx, hb, hr, hml, hown, hts, hlk, hnm⟩ hK hP hD hS hA ls hl
  have hl : lv_has ls 2 [(0, .ref h0), (1, .int v_c)] := hl
  have hown : s.vm.findClass RX7 = some m.cls := hown
  refine lv_iload_n hx hb dX7_count_0 rfl (lv_at hl 1 rfl) ?_
  rcases sw6 v_c with rfl | rfl | rfl | rfl | rfl | rfl | rfl | h1
  · refine lv_tableIn (tgt := 44) (off := 43) hx hb dX7_count_1 (by decide) (by decide) (by decide) (by decide) ?_
    refine lv_aload_n hx hb dX7_count_44 rfl (lv_at hl 0 rfl) ?_
    refine va_get (D := D) (ci := 7) (v := .ref m1) (C := RX7) (T := TX7) (N := 29) hx hb hts in_X7_count_7 hown hK.1 hP 0 rfl rfl 3 (by decide) (hts (.fieldLink RX7 13 "ChildCoinsModel" "coins" "[I") (List.mem_of_getElem? (i := 1) rfl)) (fun _ h9 => h9) rfl dX7_count_45 ?_
    refine lv_iconst (v := 0) hx hb dX7_count_48 (by decide) ?_
    refine va_iald hx hb hK.1 hP 1 0 rfl rfl (vp_in_nI (n := 0) (N := 2) (by decide) (by decide)) dX7_count_49 ?_
    refine set_i (y := 0) rfl ?_
    exact en_i hx hb hr hlk hP hD hS () [] (by decide) rfl (Nat.le_of_ble_eq_true rfl) (Nat.le_of_ble_eq_true rfl) dX7_count_50 (by decide)
  · refine lv_tableIn (tgt := 51) (off := 50) hx hb dX7_count_1 (by decide) (by decide) (by decide) (by decide) ?_
    refine lv_aload_n hx hb dX7_count_51 rfl (lv_at hl 0 rfl) ?_
    refine va_get (D := D) (ci := 7) (v := .ref m4) (C := RX7) (T := TX7) (N := 29) hx hb hts in_X7_count_7 hown hK.1 hP 0 rfl rfl 6 (by decide) (hts (.fieldLink RX7 23 "ChildCoinsModel" "people" "[I") (List.mem_of_getElem? (i := 2) rfl)) (fun _ h9 => h9) rfl dX7_count_52 ?_
    refine lv_iconst (v := 0) hx hb dX7_count_55 (by decide) ?_
    refine va_iald hx hb hK.1 hP 2 0 rfl rfl (vp_in_nI (n := 0) (N := 2) (by decide) (by decide)) dX7_count_56 ?_
    refine set_i (y := 0) rfl ?_
    exact en_i hx hb hr hlk hP hD hS () [] (by decide) rfl (Nat.le_of_ble_eq_true rfl) (Nat.le_of_ble_eq_true rfl) dX7_count_57 (by decide)
  · refine lv_tableIn (tgt := 58) (off := 57) hx hb dX7_count_1 (by decide) (by decide) (by decide) (by decide) ?_
    refine lv_aload_n hx hb dX7_count_58 rfl (lv_at hl 0 rfl) ?_
    refine va_get (D := D) (ci := 7) (v := .ref m7) (C := RX7) (T := TX7) (N := 29) hx hb hts in_X7_count_7 hown hK.1 hP 0 rfl rfl 9 (by decide) (hts (.fieldLink RX7 32 "ChildCoinsModel" "debts" "[I") (List.mem_of_getElem? (i := 3) rfl)) (fun _ h9 => h9) rfl dX7_count_59 ?_
    refine lv_iconst (v := 0) hx hb dX7_count_62 (by decide) ?_
    refine va_iald hx hb hK.1 hP 3 0 rfl rfl (vp_in_nI (n := 0) (N := 2) (by decide) (by decide)) dX7_count_63 ?_
    refine set_i (y := 0) rfl ?_
    exact en_i hx hb hr hlk hP hD hS () [] (by decide) rfl (Nat.le_of_ble_eq_true rfl) (Nat.le_of_ble_eq_true rfl) dX7_count_64 (by decide)
  · refine lv_tableIn (tgt := 65) (off := 64) hx hb dX7_count_1 (by decide) (by decide) (by decide) (by decide) ?_
    refine lv_aload_n hx hb dX7_count_65 rfl (lv_at hl 0 rfl) ?_
    refine va_get (D := D) (ci := 7) (v := .ref m11) (C := RX7) (T := TX7) (N := 29) hx hb hts in_X7_count_7 hown hK.1 hP 0 rfl rfl 13 (by decide) (hts (.fieldLink RX7 44 "ChildCoinsModel" "span" "[I") (List.mem_of_getElem? (i := 4) rfl)) (fun _ h9 => h9) rfl dX7_count_66 ?_
    refine lv_iconst (v := 0) hx hb dX7_count_69 (by decide) ?_
    refine va_iald hx hb hK.1 hP 4 0 rfl rfl (vp_in_nI (n := 0) (N := 2) (by decide) (by decide)) dX7_count_70 ?_
    refine set_i (y := 9) rfl ?_
    exact en_i hx hb hr hlk hP hD hS () [] (by decide) rfl (Nat.le_of_ble_eq_true rfl) (Nat.le_of_ble_eq_true rfl) dX7_count_71 (by decide)
  · refine lv_tableIn (tgt := 72) (off := 71) hx hb dX7_count_1 (by decide) (by decide) (by decide) (by decide) ?_
    refine lv_aload_n hx hb dX7_count_72 rfl (lv_at hl 0 rfl) ?_
    refine va_get (D := D) (ci := 7) (v := .int 0) (C := RX7) (T := TX7) (N := 29) hx hb hts in_X7_count_7 hown hK.1 hP 0 rfl rfl 28 (by decide) (hts (.fieldLink RX7 120 "ChildCoinsModel" "told" "I") (List.mem_of_getElem? (i := 5) rfl)) (fun _ h9 => h9) rfl dX7_count_73 ?_
    exact en_i hx hb hr hlk hP hD hS () [] (by decide) rfl (Nat.le_of_ble_eq_true rfl) (Nat.le_of_ble_eq_true rfl) dX7_count_76 (by decide)
  · refine lv_tableIn (tgt := 77) (off := 76) hx hb dX7_count_1 (by decide) (by decide) (by decide) (by decide) ?_
    refine lv_aload_n hx hb dX7_count_77 rfl (lv_at hl 0 rfl) ?_
    refine va_get (D := D) (ci := 7) (v := .ref m12) (C := RX7) (T := TX7) (N := 29) hx hb hts in_X7_count_7 hown hK.1 hP 0 rfl rfl 20 (by decide) (hts (.fieldLink RX7 47 "ChildCoinsModel" "now" "[I") (List.mem_of_getElem? (i := 6) rfl)) (fun _ h9 => h9) rfl dX7_count_78 ?_
    refine lv_bipush (v := 36) hx hb dX7_count_81 (by decide) ?_
    refine va_iald hx hb hK.1 hP 5 0 rfl rfl (vp_in_nI (n := 36) (N := 1191) (by decide) (by decide)) dX7_count_83 ?_
    refine set_i (y := 0) rfl ?_
    exact en_i hx hb hr hlk hP hD hS () [] (by decide) rfl (Nat.le_of_ble_eq_true rfl) (Nat.le_of_ble_eq_true rfl) dX7_count_84 (by decide)
  · refine lv_tableIn (tgt := 85) (off := 84) hx hb dX7_count_1 (by decide) (by decide) (by decide) (by decide) ?_
    refine lv_aload_n hx hb dX7_count_85 rfl (lv_at hl 0 rfl) ?_
    refine va_get (D := D) (ci := 7) (v := .int 0) (C := RX7) (T := TX7) (N := 29) hx hb hts in_X7_count_7 hown hK.1 hP 0 rfl rfl 2 (by decide) (hts (.fieldLink RX7 82 "ChildCoinsModel" "typed" "I") (List.mem_of_getElem? (i := 7) rfl)) (fun _ h9 => h9) rfl dX7_count_86 ?_
    exact en_i hx hb hr hlk hP hD hS () [] (by decide) rfl (Nat.le_of_ble_eq_true rfl) (Nat.le_of_ble_eq_true rfl) dX7_count_89 (by decide)
  · refine lv_tableOut (tgt := 90) hx hb dX7_count_1 h1 (by decide) ?_
    refine lv_iconst (v := -1) hx hb dX7_count_90 (by decide) ?_
    exact en_i hx hb hr hlk hP hD hS () [] (by decide) rfl (Nat.le_of_ble_eq_true rfl) (Nat.le_of_ble_eq_true rfl) dX7_count_91 (if_pos (out_lo (hi := 6) rfl h1)).symm
theorem dX7_trace_0 : decode cX7_trace 0 = .ok (.aload_n 0, 1) := by decide +kernel
theorem dX7_trace_1 : decode cX7_trace 1 = .ok (.getfield 208, 3) := by decide +kernel
theorem in_X7_trace_7 : ∀ w ∈ wsX70, w ∈ wsX7_trace := fun w h => List.mem_cons_of_mem _ (List.mem_append_right _ h)
theorem dX7_trace_4 : decode cX7_trace 4 = .ok (.lreturn, 1) := by decide +kernel
set_option maxHeartbeats 4000000 in
set_option maxRecDepth 100000 in
theorem c_M_trace (l : Launch) (D : va_G) (cI cB cZ cN : ClassId) (h0 : Nat) (m0 : Nat) (m1 : Nat) (m2 : Nat) (m3 : Nat) (m4 : Nat) (m5 : Nat) (m6 : Nat) (m7 : Nat) (m8 : Nat) (m9 : Nat) (m10 : Nat) (m11 : Nat) (m12 : Nat) (m13 : Nat) (m14 : Nat) (m15 : Nat) (m16 : Nat) (m17 : Nat) (m18 : Nat) (m19 : Nat)  : Cj (S := Unit) l D cI cB cZ cN yX7_trace wsX7_trace ({ frames := 0, cells := 0, slots := 0, locals := 0 } : Room) [.ref h0] [(h0, .inr (7, [.long 0, .ref m0, .int 0, .ref m1, .ref m2, .ref m3, .ref m4, .ref m5, .ref m6, .ref m7, .ref m8, .ref m9, .ref m10, .ref m11, .int 0, .int 0, .int 0, .int 0, .int 0, .int 0, .ref m12, .ref m13, .ref m14, .ref m15, .ref m16, .ref m17, .ref m18, .ref m19, .int 0]))] (fun (r : Int64) (_ : Unit) => r = 0) (fun u => []) := by
  refine bx_of (D := D) (cI := cI) (cB := cB) (cZ := cZ) (cN := cN) (y := yX7_trace) (wd := wsX7_trace) (rm := ({ frames := 0, cells := 0, slots := 0, locals := 0 } : Room)) (av := [.ref h0]) (wc := [(h0, .inr (7, [.long 0, .ref m0, .int 0, .ref m1, .ref m2, .ref m3, .ref m4, .ref m5, .ref m6, .ref m7, .ref m8, .ref m9, .ref m10, .ref m11, .int 0, .int 0, .int 0, .int 0, .int 0, .int 0, .ref m12, .ref m13, .ref m14, .ref m15, .ref m16, .ref m17, .ref m18, .ref m19, .int 0]))]) (cc := cX7_trace) (maxL := 1) (ret := (some .long)) (Qc := fun _ A => va_Ql (S := Unit) (fun (r : Int64) (_ : Unit) => r = 0) (Aft D (fun (u : Unit) => []) A) A) (by decide) rfl (Nat.le_of_ble_eq_true rfl) ?_
  intro p e s m below meth c A H locs ⟨hx, hb, hr, hml, hown, hts, hlk, hnm⟩ hK hP hD hS hA ls hl
  have hl : lv_has ls 1 [(0, .ref h0)] := hl
  have hown : s.vm.findClass RX7 = some m.cls := hown
  refine lv_aload_n hx hb dX7_trace_0 rfl (lv_at hl 0 rfl) ?_
  refine va_get (D := D) (ci := 7) (v := .long 0) (C := RX7) (T := TX7) (N := 29) hx hb hts in_X7_trace_7 hown hK.1 hP 0 rfl rfl 0 (by decide) (hts (.fieldLink RX7 208 "ChildCoinsModel" "trace" "J") (List.mem_of_getElem? (i := 1) rfl)) (fun _ h9 => h9) rfl dX7_trace_1 ?_
  exact en_j hx hb hr hlk hP hD hS () [] (by decide) rfl (Nat.le_of_ble_eq_true rfl) (Nat.le_of_ble_eq_true rfl) dX7_trace_4 rfl
