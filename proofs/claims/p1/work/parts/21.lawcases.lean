theorem dL_law_156 : decode cL_law 156 = .ok (.aload_n 1, 1) := by decide +kernel
theorem dL_law_157 : decode cL_law 157 = .ok (.aload_n 0, 1) := by decide +kernel
theorem dL_law_158 : decode cL_law 158 = .ok (.iload_n 3, 1) := by decide +kernel
theorem dL_law_159 : decode cL_law 159 = .ok (.iconst 1, 1) := by decide +kernel
theorem dL_law_160 : decode cL_law 160 = .ok (.iadd, 1) := by decide +kernel
theorem dL_law_161 : decode cL_law 161 = .ok (.iaload, 1) := by decide +kernel
theorem dL_law_162 : decode cL_law 162 = .ok (.invokevirtual 13, 3) := by decide +kernel
set_option maxRecDepth 20000 in
theorem ggL_law_X6_type : GoodIn wsL_law wsX6_type := goodIn_r _ [136, 14, 13, 739, 740, 741, 742, 743, 744, 745, 746, 747, 748, 749, 750, 751, 752] (by decide +kernel) (by decide +kernel)
set_option maxRecDepth 20000 in
theorem gL_law_X6_type : GoodIn wsL_law (wsV RL 13 RX6 yX6_type wsX6_type) := goodIn_app (goodIn_of _ (by decide +kernel)) ggL_law_X6_type
theorem dL_law_165 : decode cL_law 165 = .ok (.aload_n 2, 1) := by decide +kernel
theorem dL_law_166 : decode cL_law 166 = .ok (.aload_n 0, 1) := by decide +kernel
theorem dL_law_167 : decode cL_law 167 = .ok (.iload_n 3, 1) := by decide +kernel
theorem dL_law_168 : decode cL_law 168 = .ok (.iconst 1, 1) := by decide +kernel
theorem dL_law_169 : decode cL_law 169 = .ok (.iadd, 1) := by decide +kernel
theorem dL_law_170 : decode cL_law 170 = .ok (.iaload, 1) := by decide +kernel
theorem dL_law_171 : decode cL_law 171 = .ok (.invokevirtual 17, 3) := by decide +kernel
set_option maxRecDepth 20000 in
theorem ggL_law_X7_type : GoodIn wsL_law wsX7_type := goodIn_r _ [140, 141, 102, 142, 143, 5, 144, 753, 754, 755, 756, 757, 758, 759, 760, 761, 762, 763, 764, 765, 766, 767, 768, 769, 770, 771, 772, 773, 774, 775, 776, 777, 778, 779, 780, 781] (by decide +kernel) (by decide +kernel)
set_option maxRecDepth 20000 in
theorem gL_law_X7_type : GoodIn wsL_law (wsV RL 17 RX7 yX7_type wsX7_type) := goodIn_app (goodIn_of _ (by decide +kernel)) ggL_law_X7_type
theorem dL_law_174 : decode cL_law 174 = .ok (.if_icmp .eq 694, 3) := by decide +kernel
set_option maxHeartbeats 4000000 in
set_option maxRecDepth 100000 in
theorem law_0 {p : Program} {l : Launch} {e : Env} {s : State} {m : MethodId} {below : List Frame} {meth : Method} {c : Code} {D : va_G} {cI cB cZ cN : ClassId} {A : Nat → Prop} {b : Nat} {xs : Nat → Int32} {H : Heap} {locs : List Loc} {ls : Array Slot} {h0 x0 x1 x3 x11 x19 x22 x29 x33 x36 x42 y0 m0 m1 m2 m3 m4 m5 m6 m7 m8 m9 m10 m11 m12 m13 m14 m15 m16 m17 m18 m19 : Nat} (C0 : lw_At p s m meth c b 5 xs) (hK : KN D cI cB cZ cN s) (hA : ∀ q : Nat, s.heap.size ≤ q → A q) (hAf : ∀ q : Nat, A q → s.heap.size ≤ q) (hP : va_P D vwCl [(h0, .inr (6, [.ref x0, .int 0, .ref x1, .ref x3, .ref x11, .ref x19, .ref x22, .int 0, .ref x29, .ref x33, .ref x36, .ref x42, .int 0, .long 0])), (x0, .inl (cI, 180, .inl zf)), (y0, .inr (7, [.long 0, .ref m0, .int 0, .ref m1, .ref m2, .ref m3, .ref m4, .ref m5, .ref m6, .ref m7, .ref m8, .ref m9, .ref m10, .ref m11, .int 0, .int 0, .int 0, .int 0, .int 0, .int 0, .ref m12, .ref m13, .ref m14, .ref m15, .ref m16, .ref m17, .ref m18, .ref m19, .int 0])), (m0, .inl (cB, 180, .inl zf))] H) (hD : va_D A [(h0, .inr (6, [.ref x0, .int 0, .ref x1, .ref x3, .ref x11, .ref x19, .ref x22, .int 0, .ref x29, .ref x33, .ref x36, .ref x42, .int 0, .long 0])), (x0, .inl (cI, 180, .inl zf)), (y0, .inr (7, [.long 0, .ref m0, .int 0, .ref m1, .ref m2, .ref m3, .ref m4, .ref m5, .ref m6, .ref m7, .ref m8, .ref m9, .ref m10, .ref m11, .int 0, .int 0, .int 0, .int 0, .int 0, .int 0, .ref m12, .ref m13, .ref m14, .ref m15, .ref m16, .ref m17, .ref m18, .ref m19, .int 0])), (m0, .inl (cB, 180, .inl zf))]) (hS : va_S A s.heap H locs) (hl : lv_has ls 4 [(3, .int 0), (2, .ref y0), (1, .ref h0), (0, .ref b)]) : W p l e room_1 s m #[Value.ref b] below meth c H locs 65 4410 (lw_Z below #[Value.ref b] s) (F0 m 156 ls []) := by
  obtain ⟨hx, hb, hr, hml, hown, hts, hX, hbl, hlk, hgv⟩ := id C0
  have hown : s.vm.findClass RL = some m.cls := hown
  have hbA : ¬ A b := fun q => absurd (hAf b q) (Nat.not_le.mpr hbl)
  refine lv_aload_n hx hb dL_law_156 rfl (lv_at hl 2 rfl) ?_
  refine lv_aload_n hx hb dL_law_157 rfl (lv_at hl 3 rfl) ?_
  refine lv_iload_n hx hb dL_law_158 rfl (lv_at hl 0 rfl) ?_
  refine lv_iconst (v := 1) hx hb dL_law_159 (by decide) ?_
  refine lv_iadd hx hb dL_law_160 ?_
  refine set_i (y := 1) (by decide) ?_
  refine va_sld hx hb hX hbl hbA hS (vp_in_nI (n := 1) (N := 5) (by decide) (by decide)) dL_law_161 ?_
  refine set_i (y := xs 1) rfl ?_
  refine be_i (free := va_A [(h0, .inr (6, [.ref x0, .int 0, .ref x1, .ref x3, .ref x11, .ref x19, .ref x22, .int 0, .ref x29, .ref x33, .ref x36, .ref x42, .int 0, .long 0])), (x0, .inl (cI, 180, .inl zf))] H.size) (wc := [(h0, .inr (6, [.ref x0, .int 0, .ref x1, .ref x3, .ref x11, .ref x19, .ref x22, .int 0, .ref x29, .ref x33, .ref x36, .ref x42, .int 0, .long 0])), (x0, .inl (cI, 180, .inl zf))]) (wr := [(y0, .inr (7, [.long 0, .ref m0, .int 0, .ref m1, .ref m2, .ref m3, .ref m4, .ref m5, .ref m6, .ref m7, .ref m8, .ref m9, .ref m10, .ref m11, .int 0, .int 0, .int 0, .int 0, .int 0, .int 0, .ref m12, .ref m13, .ref m14, .ref m15, .ref m16, .ref m17, .ref m18, .ref m19, .int 0])), (m0, .inl (cB, 180, .inl zf))]) (ru_V (As := [.int (xs 1)]) (rest := []) ⟨hx, hb, hml, hown, hts⟩ (c_X_type l D cI cB cZ cN h0 x0 x1 x3 x11 x19 x22 x29 x33 x36 x42 (xs 1) H.size) (gtr gL_law_X6_type) rfl ⟨rfl, by decide, by decide, (show Option.map (fun d => d.parameters.length) (parseMethodDescriptor yX6_type.desc) = some 1 by decide +kernel)⟩ ⟨Nat.le_of_ble_eq_true rfl, Nat.le_of_ble_eq_true rfl⟩ hK hP hD 6 0 rfl rfl [0, 1] (by decide) rfl hl.1 rfl (Nat.le_of_ble_eq_true rfl) dL_law_162 ⟨Nat.le_of_ble_eq_true rfl, Nat.le_of_ble_eq_true rfl⟩) hP hD hS hA [0, 1] [2, 3] rfl rfl (by decide) (by decide) (fun r2 u1 H locs w3 hP hD hS => ?_)
  have hP : va_P D vwCl [(y0, .inr (7, [.long 0, .ref m0, .int 0, .ref m1, .ref m2, .ref m3, .ref m4, .ref m5, .ref m6, .ref m7, .ref m8, .ref m9, .ref m10, .ref m11, .int 0, .int 0, .int 0, .int 0, .int 0, .int 0, .ref m12, .ref m13, .ref m14, .ref m15, .ref m16, .ref m17, .ref m18, .ref m19, .int 0])), (m0, .inl (cB, 180, .inl zf))] H := hP
  have hD : va_D A [(y0, .inr (7, [.long 0, .ref m0, .int 0, .ref m1, .ref m2, .ref m3, .ref m4, .ref m5, .ref m6, .ref m7, .ref m8, .ref m9, .ref m10, .ref m11, .int 0, .int 0, .int 0, .int 0, .int 0, .int 0, .ref m12, .ref m13, .ref m14, .ref m15, .ref m16, .ref m17, .ref m18, .ref m19, .int 0])), (m0, .inl (cB, 180, .inl zf))] := hD
  obtain rfl : r2 = tpA (xs 1) := w3
  refine lv_aload_n hx hb dL_law_165 rfl (lv_at hl 1 rfl) ?_
  refine lv_aload_n hx hb dL_law_166 rfl (lv_at hl 3 rfl) ?_
  refine lv_iload_n hx hb dL_law_167 rfl (lv_at hl 0 rfl) ?_
  refine lv_iconst (v := 1) hx hb dL_law_168 (by decide) ?_
  refine lv_iadd hx hb dL_law_169 ?_
  refine set_i (y := 1) (by decide) ?_
  refine va_sld hx hb hX hbl hbA hS (vp_in_nI (n := 1) (N := 5) (by decide) (by decide)) dL_law_170 ?_
  refine set_i (y := xs 1) rfl ?_
  refine be_i (free := va_A [(y0, .inr (7, [.long 0, .ref m0, .int 0, .ref m1, .ref m2, .ref m3, .ref m4, .ref m5, .ref m6, .ref m7, .ref m8, .ref m9, .ref m10, .ref m11, .int 0, .int 0, .int 0, .int 0, .int 0, .int 0, .ref m12, .ref m13, .ref m14, .ref m15, .ref m16, .ref m17, .ref m18, .ref m19, .int 0])), (m0, .inl (cB, 180, .inl zf))] H.size) (wc := [(y0, .inr (7, [.long 0, .ref m0, .int 0, .ref m1, .ref m2, .ref m3, .ref m4, .ref m5, .ref m6, .ref m7, .ref m8, .ref m9, .ref m10, .ref m11, .int 0, .int 0, .int 0, .int 0, .int 0, .int 0, .ref m12, .ref m13, .ref m14, .ref m15, .ref m16, .ref m17, .ref m18, .ref m19, .int 0])), (m0, .inl (cB, 180, .inl zf))]) (wr := []) (ru_V (As := [.int (xs 1)]) (rest := [.int (tpA (xs 1))]) ⟨hx, hb, hml, hown, hts⟩ (c_M_type l D cI cB cZ cN y0 m0 m1 m2 m3 m4 m5 m6 m7 m8 m9 m10 m11 m12 m13 m14 m15 m16 m17 m18 m19 (xs 1) H.size) (gtr gL_law_X7_type) rfl ⟨rfl, by decide, by decide, (show Option.map (fun d => d.parameters.length) (parseMethodDescriptor yX7_type.desc) = some 1 by decide +kernel)⟩ ⟨Nat.le_of_ble_eq_true rfl, Nat.le_of_ble_eq_true rfl⟩ hK hP hD 7 0 rfl rfl [0, 1] (by decide) rfl hl.1 rfl (Nat.le_of_ble_eq_true rfl) dL_law_171 ⟨Nat.le_of_ble_eq_true rfl, Nat.le_of_ble_eq_true rfl⟩) hP hD hS hA [0, 1] [] rfl rfl (by decide) (by decide) (fun r5 u4 H locs w6 hP hD hS => ?_)
  have hP : va_P D vwCl [] H := hP
  have hD : va_D A [] := hD
  obtain rfl : r5 = tpA (xs 1) := w6
  refine lv_icmp_eq (tgt := 868) hx hb dL_law_174 (by decide) (fun h7 => ?_) (fun h7 => absurd (rfl) h7)
  exact law_tail C0 hAf hS (lv_sub hl [3, 0] rfl) (Nat.le_of_ble_eq_true rfl) (Nat.le_of_ble_eq_true rfl)
theorem dL_law_179 : decode cL_law 179 = .ok (.aload_n 1, 1) := by decide +kernel
theorem dL_law_180 : decode cL_law 180 = .ok (.invokevirtual 18, 3) := by decide +kernel
set_option maxRecDepth 20000 in
theorem ggL_law_X6_clear : GoodIn wsL_law wsX6_clear := goodIn_r _ [148, 14, 739, 740, 741, 742, 743, 744, 745, 746, 747, 748, 749, 750, 751, 752] (by decide +kernel) (by decide +kernel)
set_option maxRecDepth 20000 in
theorem gL_law_X6_clear : GoodIn wsL_law (wsV RL 18 RX6 yX6_clear wsX6_clear) := goodIn_app (goodIn_of _ (by decide +kernel)) ggL_law_X6_clear
theorem dL_law_183 : decode cL_law 183 = .ok (.aload_n 2, 1) := by decide +kernel
theorem dL_law_184 : decode cL_law 184 = .ok (.invokevirtual 22, 3) := by decide +kernel
set_option maxRecDepth 20000 in
theorem ggL_law_X7_clear : GoodIn wsL_law wsX7_clear := goodIn_r _ [152, 141, 753, 754, 755, 756, 757, 758, 759, 760, 761, 762, 763, 764, 765, 766, 767, 768, 769, 770, 771, 772, 773, 774, 775, 776, 777, 778, 779, 780, 781] (by decide +kernel) (by decide +kernel)
set_option maxRecDepth 20000 in
theorem gL_law_X7_clear : GoodIn wsL_law (wsV RL 22 RX7 yX7_clear wsX7_clear) := goodIn_app (goodIn_of _ (by decide +kernel)) ggL_law_X7_clear
theorem dL_law_187 : decode cL_law 187 = .ok (.if_icmp .eq 681, 3) := by decide +kernel
set_option maxHeartbeats 4000000 in
set_option maxRecDepth 100000 in
theorem law_1 {p : Program} {l : Launch} {e : Env} {s : State} {m : MethodId} {below : List Frame} {meth : Method} {c : Code} {D : va_G} {cI cB cZ cN : ClassId} {A : Nat → Prop} {b : Nat} {xs : Nat → Int32} {H : Heap} {locs : List Loc} {ls : Array Slot} {h0 x0 x1 x3 x11 x19 x22 x29 x33 x36 x42 y0 m0 m1 m2 m3 m4 m5 m6 m7 m8 m9 m10 m11 m12 m13 m14 m15 m16 m17 m18 m19 : Nat} (C0 : lw_At p s m meth c b 5 xs) (hK : KN D cI cB cZ cN s) (hA : ∀ q : Nat, s.heap.size ≤ q → A q) (hAf : ∀ q : Nat, A q → s.heap.size ≤ q) (hP : va_P D vwCl [(h0, .inr (6, [.ref x0, .int 0, .ref x1, .ref x3, .ref x11, .ref x19, .ref x22, .int 0, .ref x29, .ref x33, .ref x36, .ref x42, .int 0, .long 0])), (y0, .inr (7, [.long 0, .ref m0, .int 0, .ref m1, .ref m2, .ref m3, .ref m4, .ref m5, .ref m6, .ref m7, .ref m8, .ref m9, .ref m10, .ref m11, .int 0, .int 0, .int 0, .int 0, .int 0, .int 0, .ref m12, .ref m13, .ref m14, .ref m15, .ref m16, .ref m17, .ref m18, .ref m19, .int 0]))] H) (hD : va_D A [(h0, .inr (6, [.ref x0, .int 0, .ref x1, .ref x3, .ref x11, .ref x19, .ref x22, .int 0, .ref x29, .ref x33, .ref x36, .ref x42, .int 0, .long 0])), (y0, .inr (7, [.long 0, .ref m0, .int 0, .ref m1, .ref m2, .ref m3, .ref m4, .ref m5, .ref m6, .ref m7, .ref m8, .ref m9, .ref m10, .ref m11, .int 0, .int 0, .int 0, .int 0, .int 0, .int 0, .ref m12, .ref m13, .ref m14, .ref m15, .ref m16, .ref m17, .ref m18, .ref m19, .int 0]))]) (hS : va_S A s.heap H locs) (hl : lv_has ls 4 [(3, .int 0), (2, .ref y0), (1, .ref h0), (0, .ref b)]) : W p l e room_1 s m #[Value.ref b] below meth c H locs 65 4410 (lw_Z below #[Value.ref b] s) (F0 m 179 ls []) := by
  obtain ⟨hx, hb, hr, hml, hown, hts, hX, hbl, hlk, hgv⟩ := id C0
  have hown : s.vm.findClass RL = some m.cls := hown
  have hbA : ¬ A b := fun q => absurd (hAf b q) (Nat.not_le.mpr hbl)
  refine lv_aload_n hx hb dL_law_179 rfl (lv_at hl 2 rfl) ?_
  refine be_i (free := va_A [(h0, .inr (6, [.ref x0, .int 0, .ref x1, .ref x3, .ref x11, .ref x19, .ref x22, .int 0, .ref x29, .ref x33, .ref x36, .ref x42, .int 0, .long 0]))] H.size) (wc := [(h0, .inr (6, [.ref x0, .int 0, .ref x1, .ref x3, .ref x11, .ref x19, .ref x22, .int 0, .ref x29, .ref x33, .ref x36, .ref x42, .int 0, .long 0]))]) (wr := [(y0, .inr (7, [.long 0, .ref m0, .int 0, .ref m1, .ref m2, .ref m3, .ref m4, .ref m5, .ref m6, .ref m7, .ref m8, .ref m9, .ref m10, .ref m11, .int 0, .int 0, .int 0, .int 0, .int 0, .int 0, .ref m12, .ref m13, .ref m14, .ref m15, .ref m16, .ref m17, .ref m18, .ref m19, .int 0]))]) (ru_V (As := []) (rest := []) ⟨hx, hb, hml, hown, hts⟩ (c_X_clear l D cI cB cZ cN h0 x0 x1 x3 x11 x19 x22 x29 x33 x36 x42 H.size) (gtr gL_law_X6_clear) rfl ⟨rfl, by decide, by decide, (show Option.map (fun d => d.parameters.length) (parseMethodDescriptor yX6_clear.desc) = some 0 by decide +kernel)⟩ ⟨Nat.le_of_ble_eq_true rfl, Nat.le_of_ble_eq_true rfl⟩ hK hP hD 6 0 rfl rfl [0] (by decide) rfl hl.1 rfl (Nat.le_of_ble_eq_true rfl) dL_law_180 ⟨Nat.le_of_ble_eq_true rfl, Nat.le_of_ble_eq_true rfl⟩) hP hD hS hA [0] [1] rfl rfl (by decide) (by decide) (fun r2 u1 H locs w3 hP hD hS => ?_)
  have hP : va_P D vwCl [(y0, .inr (7, [.long 0, .ref m0, .int 0, .ref m1, .ref m2, .ref m3, .ref m4, .ref m5, .ref m6, .ref m7, .ref m8, .ref m9, .ref m10, .ref m11, .int 0, .int 0, .int 0, .int 0, .int 0, .int 0, .ref m12, .ref m13, .ref m14, .ref m15, .ref m16, .ref m17, .ref m18, .ref m19, .int 0]))] H := hP
  have hD : va_D A [(y0, .inr (7, [.long 0, .ref m0, .int 0, .ref m1, .ref m2, .ref m3, .ref m4, .ref m5, .ref m6, .ref m7, .ref m8, .ref m9, .ref m10, .ref m11, .int 0, .int 0, .int 0, .int 0, .int 0, .int 0, .ref m12, .ref m13, .ref m14, .ref m15, .ref m16, .ref m17, .ref m18, .ref m19, .int 0]))] := hD
  obtain rfl : r2 = 0 := w3
  refine lv_aload_n hx hb dL_law_183 rfl (lv_at hl 1 rfl) ?_
  refine be_i (free := va_A [(y0, .inr (7, [.long 0, .ref m0, .int 0, .ref m1, .ref m2, .ref m3, .ref m4, .ref m5, .ref m6, .ref m7, .ref m8, .ref m9, .ref m10, .ref m11, .int 0, .int 0, .int 0, .int 0, .int 0, .int 0, .ref m12, .ref m13, .ref m14, .ref m15, .ref m16, .ref m17, .ref m18, .ref m19, .int 0]))] H.size) (wc := [(y0, .inr (7, [.long 0, .ref m0, .int 0, .ref m1, .ref m2, .ref m3, .ref m4, .ref m5, .ref m6, .ref m7, .ref m8, .ref m9, .ref m10, .ref m11, .int 0, .int 0, .int 0, .int 0, .int 0, .int 0, .ref m12, .ref m13, .ref m14, .ref m15, .ref m16, .ref m17, .ref m18, .ref m19, .int 0]))]) (wr := []) (ru_V (As := []) (rest := [.int 0]) ⟨hx, hb, hml, hown, hts⟩ (c_M_clear l D cI cB cZ cN y0 m0 m1 m2 m3 m4 m5 m6 m7 m8 m9 m10 m11 m12 m13 m14 m15 m16 m17 m18 m19 H.size) (gtr gL_law_X7_clear) rfl ⟨rfl, by decide, by decide, (show Option.map (fun d => d.parameters.length) (parseMethodDescriptor yX7_clear.desc) = some 0 by decide +kernel)⟩ ⟨Nat.le_of_ble_eq_true rfl, Nat.le_of_ble_eq_true rfl⟩ hK hP hD 7 0 rfl rfl [0] (by decide) rfl hl.1 rfl (Nat.le_of_ble_eq_true rfl) dL_law_184 ⟨Nat.le_of_ble_eq_true rfl, Nat.le_of_ble_eq_true rfl⟩) hP hD hS hA [0] [] rfl rfl (by decide) (by decide) (fun r5 u4 H locs w6 hP hD hS => ?_)
  have hP : va_P D vwCl [] H := hP
  have hD : va_D A [] := hD
  obtain rfl : r5 = 0 := w6
  refine lv_icmp_eq (tgt := 868) hx hb dL_law_187 (by decide) (fun h7 => ?_) (fun h7 => absurd (by decide) h7)
  exact law_tail C0 hAf hS (lv_sub hl [3, 0] rfl) (Nat.le_of_ble_eq_true rfl) (Nat.le_of_ble_eq_true rfl)
theorem dL_law_192 : decode cL_law 192 = .ok (.aload_n 1, 1) := by decide +kernel
theorem dL_law_193 : decode cL_law 193 = .ok (.invokevirtual 23, 3) := by decide +kernel
set_option maxRecDepth 20000 in
theorem ggL_law_X6_land : GoodIn wsL_law wsX6_land := goodIn_r _ [156, 18, 13, 14, 23, 22, 27, 29, 43, 157, 17, 158, 159, 48, 160, 161, 162, 163, 49, 50, 52, 51, 164, 21, 165, 166, 57, 60, 63, 67, 68, 62, 167, 168, 169, 170, 53, 171, 172, 173, 174, 175, 176, 177, 178, 179, 180, 181, 182, 183, 184, 185, 186, 187, 188, 189, 190, 191, 192, 193, 194, 195, 196, 197, 198, 199, 200, 201, 202, 203, 204, 205, 206, 207, 208, 209, 210, 211, 212, 213, 214, 26, 215, 216, 72, 217, 218, 219, 220, 74, 739, 740, 741, 742, 743, 744, 745, 746, 747, 748, 749, 750, 751, 752, 782, 783, 784, 785, 786, 787, 788, 789, 790, 791, 792, 793, 794, 795, 796, 797, 798, 799, 800, 801, 802] (by decide +kernel) (by decide +kernel)
set_option maxRecDepth 20000 in
theorem gL_law_X6_land : GoodIn wsL_law (wsV RL 23 RX6 yX6_land wsX6_land) := goodIn_app (goodIn_of _ (by decide +kernel)) ggL_law_X6_land
theorem dL_law_196 : decode cL_law 196 = .ok (.aload_n 2, 1) := by decide +kernel
theorem dL_law_197 : decode cL_law 197 = .ok (.invokevirtual 26, 3) := by decide +kernel
set_option maxRecDepth 20000 in
theorem ggL_law_X7_land : GoodIn wsL_law wsX7_land := goodIn_r _ [224, 225, 226, 227, 141, 123, 124, 125, 5, 126, 103, 106, 109, 113, 127, 108, 228, 229, 230, 231, 232, 233, 234, 235, 236, 237, 102, 142, 143, 144, 238, 239, 240, 241, 242, 243, 244, 245, 246, 247, 248, 249, 104, 105, 107, 110, 111, 112, 250, 251, 252, 253, 128, 129, 130, 131, 114, 132, 116, 753, 754, 755, 756, 757, 758, 759, 760, 761, 762, 763, 764, 765, 766, 767, 768, 769, 770, 771, 772, 773, 774, 775, 776, 777, 778, 779, 780, 781] (by decide +kernel) (by decide +kernel)
set_option maxRecDepth 20000 in
theorem gL_law_X7_land : GoodIn wsL_law (wsV RL 26 RX7 yX7_land wsX7_land) := goodIn_app (goodIn_of _ (by decide +kernel)) ggL_law_X7_land
theorem dL_law_200 : decode cL_law 200 = .ok (.if_icmp .eq 668, 3) := by decide +kernel
set_option maxHeartbeats 4000000 in
set_option maxRecDepth 100000 in
theorem law_2 {p : Program} {l : Launch} {e : Env} {s : State} {m : MethodId} {below : List Frame} {meth : Method} {c : Code} {D : va_G} {cI cB cZ cN : ClassId} {A : Nat → Prop} {b : Nat} {xs : Nat → Int32} {H : Heap} {locs : List Loc} {ls : Array Slot} {h0 x0 x1 x3 x11 x19 x22 x29 x33 x36 x42 x2 x4 x5 x6 x7 x8 x9 x10 x12 x13 x14 x15 x16 x17 x18 x20 x21 y0 m0 m1 m2 m3 m4 m5 m6 m7 m8 m9 m10 m11 m12 m13 m14 m15 m16 m17 m18 m19 : Nat} (C0 : lw_At p s m meth c b 5 xs) (hK : KN D cI cB cZ cN s) (hA : ∀ q : Nat, s.heap.size ≤ q → A q) (hAf : ∀ q : Nat, A q → s.heap.size ≤ q) (hP : va_P D vwCl [(h0, .inr (6, [.ref x0, .int 0, .ref x1, .ref x3, .ref x11, .ref x19, .ref x22, .int 0, .ref x29, .ref x33, .ref x36, .ref x42, .int 0, .long 0])), (x0, .inl (cI, 180, .inl zf)), (x1, .inr (3, [.ref x2, .int 0, .int 0, .int 0, .int 0, .int 0])), (x3, .inr (0, [.int 0, .ref x4, .ref x5, .int 0, .ref x6, .ref x7, .int 0, .ref x8, .ref x9, .ref x10, .int 9, .int 0])), (x11, .inr (0, [.int 0, .ref x12, .ref x13, .int 0, .ref x14, .ref x15, .int 0, .ref x16, .ref x17, .ref x18, .int 9, .int 0])), (x15, .inl (cI, 30, .inl zf)), (x17, .inl (cI, 5, .inl zf)), (x19, .inr (1, [.ref x20, .ref x21, .int 0])), (x20, .inl (cI, 36, .inl zf)), (y0, .inr (7, [.long 0, .ref m0, .int 0, .ref m1, .ref m2, .ref m3, .ref m4, .ref m5, .ref m6, .ref m7, .ref m8, .ref m9, .ref m10, .ref m11, .int 0, .int 0, .int 0, .int 0, .int 0, .int 0, .ref m12, .ref m13, .ref m14, .ref m15, .ref m16, .ref m17, .ref m18, .ref m19, .int 0])), (m1, .inl (cI, 2, .inl zf)), (m2, .inl (cI, 12, .inl zf)), (m3, .inl (cI, 12, .inl zf)), (m4, .inl (cI, 2, .inl zf)), (m5, .inl (cI, 10, .inl zf)), (m6, .inl (cI, 30, .inl zf)), (m7, .inl (cI, 2, .inl zf)), (m8, .inl (cI, 10, .inl zf)), (m9, .inl (cI, 5, .inl zf)), (m10, .inl (cI, 10, .inl zf)), (m11, .inl (cI, 2, .inl spn)), (m12, .inl (cI, 1191, .inl zf)), (m13, .inl (cZ, 2, .inl zf))] H) (hD : va_D A [(h0, .inr (6, [.ref x0, .int 0, .ref x1, .ref x3, .ref x11, .ref x19, .ref x22, .int 0, .ref x29, .ref x33, .ref x36, .ref x42, .int 0, .long 0])), (x0, .inl (cI, 180, .inl zf)), (x1, .inr (3, [.ref x2, .int 0, .int 0, .int 0, .int 0, .int 0])), (x3, .inr (0, [.int 0, .ref x4, .ref x5, .int 0, .ref x6, .ref x7, .int 0, .ref x8, .ref x9, .ref x10, .int 9, .int 0])), (x11, .inr (0, [.int 0, .ref x12, .ref x13, .int 0, .ref x14, .ref x15, .int 0, .ref x16, .ref x17, .ref x18, .int 9, .int 0])), (x15, .inl (cI, 30, .inl zf)), (x17, .inl (cI, 5, .inl zf)), (x19, .inr (1, [.ref x20, .ref x21, .int 0])), (x20, .inl (cI, 36, .inl zf)), (y0, .inr (7, [.long 0, .ref m0, .int 0, .ref m1, .ref m2, .ref m3, .ref m4, .ref m5, .ref m6, .ref m7, .ref m8, .ref m9, .ref m10, .ref m11, .int 0, .int 0, .int 0, .int 0, .int 0, .int 0, .ref m12, .ref m13, .ref m14, .ref m15, .ref m16, .ref m17, .ref m18, .ref m19, .int 0])), (m1, .inl (cI, 2, .inl zf)), (m2, .inl (cI, 12, .inl zf)), (m3, .inl (cI, 12, .inl zf)), (m4, .inl (cI, 2, .inl zf)), (m5, .inl (cI, 10, .inl zf)), (m6, .inl (cI, 30, .inl zf)), (m7, .inl (cI, 2, .inl zf)), (m8, .inl (cI, 10, .inl zf)), (m9, .inl (cI, 5, .inl zf)), (m10, .inl (cI, 10, .inl zf)), (m11, .inl (cI, 2, .inl spn)), (m12, .inl (cI, 1191, .inl zf)), (m13, .inl (cZ, 2, .inl zf))]) (hS : va_S A s.heap H locs) (hl : lv_has ls 4 [(3, .int 0), (2, .ref y0), (1, .ref h0), (0, .ref b)]) : W p l e room_1 s m #[Value.ref b] below meth c H locs 65 4410 (lw_Z below #[Value.ref b] s) (F0 m 192 ls []) := by
  obtain ⟨hx, hb, hr, hml, hown, hts, hX, hbl, hlk, hgv⟩ := id C0
  have hown : s.vm.findClass RL = some m.cls := hown
  have hbA : ¬ A b := fun q => absurd (hAf b q) (Nat.not_le.mpr hbl)
  refine lv_aload_n hx hb dL_law_192 rfl (lv_at hl 2 rfl) ?_
  refine be_i (free := va_A [(h0, .inr (6, [.ref x0, .int 0, .ref x1, .ref x3, .ref x11, .ref x19, .ref x22, .int 0, .ref x29, .ref x33, .ref x36, .ref x42, .int 0, .long 0])), (x1, .inr (3, [.ref x2, .int 0, .int 0, .int 0, .int 0, .int 0])), (x0, .inl (cI, 180, .inl zf)), (x3, .inr (0, [.int 0, .ref x4, .ref x5, .int 0, .ref x6, .ref x7, .int 0, .ref x8, .ref x9, .ref x10, .int 9, .int 0])), (x11, .inr (0, [.int 0, .ref x12, .ref x13, .int 0, .ref x14, .ref x15, .int 0, .ref x16, .ref x17, .ref x18, .int 9, .int 0])), (x15, .inl (cI, 30, .inl zf)), (x17, .inl (cI, 5, .inl zf)), (x19, .inr (1, [.ref x20, .ref x21, .int 0])), (x20, .inl (cI, 36, .inl zf))] H.size) (wc := [(h0, .inr (6, [.ref x0, .int 0, .ref x1, .ref x3, .ref x11, .ref x19, .ref x22, .int 0, .ref x29, .ref x33, .ref x36, .ref x42, .int 0, .long 0])), (x1, .inr (3, [.ref x2, .int 0, .int 0, .int 0, .int 0, .int 0])), (x0, .inl (cI, 180, .inl zf)), (x3, .inr (0, [.int 0, .ref x4, .ref x5, .int 0, .ref x6, .ref x7, .int 0, .ref x8, .ref x9, .ref x10, .int 9, .int 0])), (x11, .inr (0, [.int 0, .ref x12, .ref x13, .int 0, .ref x14, .ref x15, .int 0, .ref x16, .ref x17, .ref x18, .int 9, .int 0])), (x15, .inl (cI, 30, .inl zf)), (x17, .inl (cI, 5, .inl zf)), (x19, .inr (1, [.ref x20, .ref x21, .int 0])), (x20, .inl (cI, 36, .inl zf))]) (wr := [(y0, .inr (7, [.long 0, .ref m0, .int 0, .ref m1, .ref m2, .ref m3, .ref m4, .ref m5, .ref m6, .ref m7, .ref m8, .ref m9, .ref m10, .ref m11, .int 0, .int 0, .int 0, .int 0, .int 0, .int 0, .ref m12, .ref m13, .ref m14, .ref m15, .ref m16, .ref m17, .ref m18, .ref m19, .int 0])), (m1, .inl (cI, 2, .inl zf)), (m2, .inl (cI, 12, .inl zf)), (m3, .inl (cI, 12, .inl zf)), (m4, .inl (cI, 2, .inl zf)), (m5, .inl (cI, 10, .inl zf)), (m6, .inl (cI, 30, .inl zf)), (m7, .inl (cI, 2, .inl zf)), (m8, .inl (cI, 10, .inl zf)), (m9, .inl (cI, 5, .inl zf)), (m10, .inl (cI, 10, .inl zf)), (m11, .inl (cI, 2, .inl spn)), (m12, .inl (cI, 1191, .inl zf)), (m13, .inl (cZ, 2, .inl zf))]) (ru_V (As := []) (rest := []) ⟨hx, hb, hml, hown, hts⟩ (c_X_land l D cI cB cZ cN h0 x0 x1 x3 x11 x19 x22 x29 x33 x36 x42 x2 x4 x5 x6 x7 x8 x9 x10 x12 x13 x14 x15 x16 x17 x18 x20 x21 H.size) (gtr gL_law_X6_land) rfl ⟨rfl, by decide, by decide, (show Option.map (fun d => d.parameters.length) (parseMethodDescriptor yX6_land.desc) = some 0 by decide +kernel)⟩ ⟨Nat.le_of_ble_eq_true rfl, Nat.le_of_ble_eq_true rfl⟩ hK hP hD 6 0 rfl rfl [0, 2, 1, 3, 4, 5, 6, 7, 8] (by decide) rfl hl.1 rfl (Nat.le_of_ble_eq_true rfl) dL_law_193 ⟨Nat.le_of_ble_eq_true rfl, Nat.le_of_ble_eq_true rfl⟩) hP hD hS hA [0, 2, 1, 3, 4, 5, 6, 7, 8] [9, 10, 11, 12, 13, 14, 15, 16, 17, 18, 19, 20, 21, 22] rfl rfl (by decide) (by decide) (fun r2 u1 H locs w3 hP hD hS => ?_)
  have hP : va_P D vwCl [(y0, .inr (7, [.long 0, .ref m0, .int 0, .ref m1, .ref m2, .ref m3, .ref m4, .ref m5, .ref m6, .ref m7, .ref m8, .ref m9, .ref m10, .ref m11, .int 0, .int 0, .int 0, .int 0, .int 0, .int 0, .ref m12, .ref m13, .ref m14, .ref m15, .ref m16, .ref m17, .ref m18, .ref m19, .int 0])), (m1, .inl (cI, 2, .inl zf)), (m2, .inl (cI, 12, .inl zf)), (m3, .inl (cI, 12, .inl zf)), (m4, .inl (cI, 2, .inl zf)), (m5, .inl (cI, 10, .inl zf)), (m6, .inl (cI, 30, .inl zf)), (m7, .inl (cI, 2, .inl zf)), (m8, .inl (cI, 10, .inl zf)), (m9, .inl (cI, 5, .inl zf)), (m10, .inl (cI, 10, .inl zf)), (m11, .inl (cI, 2, .inl spn)), (m12, .inl (cI, 1191, .inl zf)), (m13, .inl (cZ, 2, .inl zf))] H := hP
  have hD : va_D A [(y0, .inr (7, [.long 0, .ref m0, .int 0, .ref m1, .ref m2, .ref m3, .ref m4, .ref m5, .ref m6, .ref m7, .ref m8, .ref m9, .ref m10, .ref m11, .int 0, .int 0, .int 0, .int 0, .int 0, .int 0, .ref m12, .ref m13, .ref m14, .ref m15, .ref m16, .ref m17, .ref m18, .ref m19, .int 0])), (m1, .inl (cI, 2, .inl zf)), (m2, .inl (cI, 12, .inl zf)), (m3, .inl (cI, 12, .inl zf)), (m4, .inl (cI, 2, .inl zf)), (m5, .inl (cI, 10, .inl zf)), (m6, .inl (cI, 30, .inl zf)), (m7, .inl (cI, 2, .inl zf)), (m8, .inl (cI, 10, .inl zf)), (m9, .inl (cI, 5, .inl zf)), (m10, .inl (cI, 10, .inl zf)), (m11, .inl (cI, 2, .inl spn)), (m12, .inl (cI, 1191, .inl zf)), (m13, .inl (cZ, 2, .inl zf))] := hD
  obtain rfl : r2 = 0 := w3
  refine lv_aload_n hx hb dL_law_196 rfl (lv_at hl 1 rfl) ?_
  refine be_i (free := va_A [(y0, .inr (7, [.long 0, .ref m0, .int 0, .ref m1, .ref m2, .ref m3, .ref m4, .ref m5, .ref m6, .ref m7, .ref m8, .ref m9, .ref m10, .ref m11, .int 0, .int 0, .int 0, .int 0, .int 0, .int 0, .ref m12, .ref m13, .ref m14, .ref m15, .ref m16, .ref m17, .ref m18, .ref m19, .int 0])), (m1, .inl (cI, 2, .inl zf)), (m4, .inl (cI, 2, .inl zf)), (m7, .inl (cI, 2, .inl zf)), (m11, .inl (cI, 2, .inl spn)), (m2, .inl (cI, 12, .inl zf)), (m3, .inl (cI, 12, .inl zf)), (m5, .inl (cI, 10, .inl zf)), (m8, .inl (cI, 10, .inl zf)), (m10, .inl (cI, 10, .inl zf)), (m12, .inl (cI, 1191, .inl zf)), (m9, .inl (cI, 5, .inl zf)), (m6, .inl (cI, 30, .inl zf)), (m13, .inl (cZ, 2, .inl zf))] H.size) (wc := [(y0, .inr (7, [.long 0, .ref m0, .int 0, .ref m1, .ref m2, .ref m3, .ref m4, .ref m5, .ref m6, .ref m7, .ref m8, .ref m9, .ref m10, .ref m11, .int 0, .int 0, .int 0, .int 0, .int 0, .int 0, .ref m12, .ref m13, .ref m14, .ref m15, .ref m16, .ref m17, .ref m18, .ref m19, .int 0])), (m1, .inl (cI, 2, .inl zf)), (m4, .inl (cI, 2, .inl zf)), (m7, .inl (cI, 2, .inl zf)), (m11, .inl (cI, 2, .inl spn)), (m2, .inl (cI, 12, .inl zf)), (m3, .inl (cI, 12, .inl zf)), (m5, .inl (cI, 10, .inl zf)), (m8, .inl (cI, 10, .inl zf)), (m10, .inl (cI, 10, .inl zf)), (m12, .inl (cI, 1191, .inl zf)), (m9, .inl (cI, 5, .inl zf)), (m6, .inl (cI, 30, .inl zf)), (m13, .inl (cZ, 2, .inl zf))]) (wr := []) (ru_V (As := []) (rest := [.int 0]) ⟨hx, hb, hml, hown, hts⟩ (c_M_land l D cI cB cZ cN y0 m0 m1 m2 m3 m4 m5 m6 m7 m8 m9 m10 m11 m12 m13 m14 m15 m16 m17 m18 m19 H.size) (gtr gL_law_X7_land) rfl ⟨rfl, by decide, by decide, (show Option.map (fun d => d.parameters.length) (parseMethodDescriptor yX7_land.desc) = some 0 by decide +kernel)⟩ ⟨Nat.le_of_ble_eq_true rfl, Nat.le_of_ble_eq_true rfl⟩ hK hP hD 7 0 rfl rfl [0, 1, 4, 7, 11, 2, 3, 5, 8, 10, 12, 9, 6, 13] (by decide) rfl hl.1 rfl (Nat.le_of_ble_eq_true rfl) dL_law_197 ⟨Nat.le_of_ble_eq_true rfl, Nat.le_of_ble_eq_true rfl⟩) hP hD hS hA [0, 1, 4, 7, 11, 2, 3, 5, 8, 10, 12, 9, 6, 13] [] rfl rfl (by decide) (by decide) (fun r5 u4 H locs w6 hP hD hS => ?_)
  have hP : va_P D vwCl [] H := hP
  have hD : va_D A [] := hD
  obtain rfl : r5 = 0 := w6
  refine lv_icmp_eq (tgt := 868) hx hb dL_law_200 (by decide) (fun h7 => ?_) (fun h7 => absurd (by decide) h7)
  exact law_tail C0 hAf hS (lv_sub hl [3, 0] rfl) (Nat.le_of_ble_eq_true rfl) (Nat.le_of_ble_eq_true rfl)
theorem dL_law_205 : decode cL_law 205 = .ok (.aload_n 1, 1) := by decide +kernel
theorem dL_law_206 : decode cL_law 206 = .ok (.aload_n 0, 1) := by decide +kernel
theorem dL_law_207 : decode cL_law 207 = .ok (.iload_n 3, 1) := by decide +kernel
theorem dL_law_208 : decode cL_law 208 = .ok (.iconst 1, 1) := by decide +kernel
theorem dL_law_209 : decode cL_law 209 = .ok (.iadd, 1) := by decide +kernel
theorem dL_law_210 : decode cL_law 210 = .ok (.iaload, 1) := by decide +kernel
theorem dL_law_211 : decode cL_law 211 = .ok (.aload_n 0, 1) := by decide +kernel
theorem dL_law_212 : decode cL_law 212 = .ok (.iload_n 3, 1) := by decide +kernel
theorem dL_law_213 : decode cL_law 213 = .ok (.iconst 2, 1) := by decide +kernel
theorem dL_law_214 : decode cL_law 214 = .ok (.iadd, 1) := by decide +kernel
theorem dL_law_215 : decode cL_law 215 = .ok (.iaload, 1) := by decide +kernel
theorem dL_law_216 : decode cL_law 216 = .ok (.invokevirtual 27, 3) := by decide +kernel
set_option maxRecDepth 20000 in
theorem ggL_law_X6_coin : GoodIn wsL_law wsX6_coin := goodIn_r _ [257, 22, 27, 258, 21, 259, 260, 57, 261, 262, 263, 60, 264, 265, 266, 267, 61, 268, 269, 270, 271, 58, 67, 272, 26, 273, 274, 275, 276, 277, 278, 72, 739, 740, 741, 742, 743, 744, 745, 746, 747, 748, 749, 750, 751, 752, 788, 789, 790, 791, 792, 793, 794, 795, 796, 797, 798, 799, 800, 801, 802] (by decide +kernel) (by decide +kernel)
set_option maxRecDepth 20000 in
theorem gL_law_X6_coin : GoodIn wsL_law (wsV RL 27 RX6 yX6_coin wsX6_coin) := goodIn_app (goodIn_of _ (by decide +kernel)) ggL_law_X6_coin
theorem dL_law_219 : decode cL_law 219 = .ok (.aload_n 2, 1) := by decide +kernel
theorem dL_law_220 : decode cL_law 220 = .ok (.aload_n 0, 1) := by decide +kernel
theorem dL_law_221 : decode cL_law 221 = .ok (.iload_n 3, 1) := by decide +kernel
theorem dL_law_222 : decode cL_law 222 = .ok (.iconst 1, 1) := by decide +kernel
theorem dL_law_223 : decode cL_law 223 = .ok (.iadd, 1) := by decide +kernel
theorem dL_law_224 : decode cL_law 224 = .ok (.iaload, 1) := by decide +kernel
theorem dL_law_225 : decode cL_law 225 = .ok (.aload_n 0, 1) := by decide +kernel
theorem dL_law_226 : decode cL_law 226 = .ok (.iload_n 3, 1) := by decide +kernel
theorem dL_law_227 : decode cL_law 227 = .ok (.iconst 2, 1) := by decide +kernel
theorem dL_law_228 : decode cL_law 228 = .ok (.iadd, 1) := by decide +kernel
theorem dL_law_229 : decode cL_law 229 = .ok (.iaload, 1) := by decide +kernel
theorem dL_law_230 : decode cL_law 230 = .ok (.invokevirtual 31, 3) := by decide +kernel
set_option maxRecDepth 20000 in
theorem ggL_law_X7_coin : GoodIn wsL_law wsX7_coin := goodIn_r _ [282, 106, 104, 105, 283, 284, 285, 5, 286, 103, 142, 143, 144, 287, 288, 289, 290, 107, 291, 292, 293, 294, 113, 295, 296, 297, 298, 114, 753, 754, 755, 756, 757, 758, 759, 760, 761, 762, 763, 764, 765, 766, 767, 768, 769, 770, 771, 772, 773, 774, 775, 776, 777, 778, 779, 780, 781] (by decide +kernel) (by decide +kernel)
set_option maxRecDepth 20000 in
theorem gL_law_X7_coin : GoodIn wsL_law (wsV RL 31 RX7 yX7_coin wsX7_coin) := goodIn_app (goodIn_of _ (by decide +kernel)) ggL_law_X7_coin
theorem dL_law_233 : decode cL_law 233 = .ok (.if_icmp .eq 635, 3) := by decide +kernel
set_option maxHeartbeats 4000000 in
set_option maxRecDepth 100000 in
theorem law_3 {p : Program} {l : Launch} {e : Env} {s : State} {m : MethodId} {below : List Frame} {meth : Method} {c : Code} {D : va_G} {cI cB cZ cN : ClassId} {A : Nat → Prop} {b : Nat} {xs : Nat → Int32} {H : Heap} {locs : List Loc} {ls : Array Slot} {h0 x0 x1 x3 x11 x19 x22 x29 x33 x36 x42 x4 x5 x6 x7 x8 x9 x10 y0 m0 m1 m2 m3 m4 m5 m6 m7 m8 m9 m10 m11 m12 m13 m14 m15 m16 m17 m18 m19 : Nat} (C0 : lw_At p s m meth c b 5 xs) (hK : KN D cI cB cZ cN s) (hA : ∀ q : Nat, s.heap.size ≤ q → A q) (hAf : ∀ q : Nat, A q → s.heap.size ≤ q) (hP : va_P D vwCl [(h0, .inr (6, [.ref x0, .int 0, .ref x1, .ref x3, .ref x11, .ref x19, .ref x22, .int 0, .ref x29, .ref x33, .ref x36, .ref x42, .int 0, .long 0])), (x3, .inr (0, [.int 0, .ref x4, .ref x5, .int 0, .ref x6, .ref x7, .int 0, .ref x8, .ref x9, .ref x10, .int 9, .int 0])), (y0, .inr (7, [.long 0, .ref m0, .int 0, .ref m1, .ref m2, .ref m3, .ref m4, .ref m5, .ref m6, .ref m7, .ref m8, .ref m9, .ref m10, .ref m11, .int 0, .int 0, .int 0, .int 0, .int 0, .int 0, .ref m12, .ref m13, .ref m14, .ref m15, .ref m16, .ref m17, .ref m18, .ref m19, .int 0])), (m1, .inl (cI, 2, .inl zf))] H) (hD : va_D A [(h0, .inr (6, [.ref x0, .int 0, .ref x1, .ref x3, .ref x11, .ref x19, .ref x22, .int 0, .ref x29, .ref x33, .ref x36, .ref x42, .int 0, .long 0])), (x3, .inr (0, [.int 0, .ref x4, .ref x5, .int 0, .ref x6, .ref x7, .int 0, .ref x8, .ref x9, .ref x10, .int 9, .int 0])), (y0, .inr (7, [.long 0, .ref m0, .int 0, .ref m1, .ref m2, .ref m3, .ref m4, .ref m5, .ref m6, .ref m7, .ref m8, .ref m9, .ref m10, .ref m11, .int 0, .int 0, .int 0, .int 0, .int 0, .int 0, .ref m12, .ref m13, .ref m14, .ref m15, .ref m16, .ref m17, .ref m18, .ref m19, .int 0])), (m1, .inl (cI, 2, .inl zf))]) (hS : va_S A s.heap H locs) (hl : lv_has ls 4 [(3, .int 0), (2, .ref y0), (1, .ref h0), (0, .ref b)]) : W p l e room_1 s m #[Value.ref b] below meth c H locs 65 4410 (lw_Z below #[Value.ref b] s) (F0 m 205 ls []) := by
  obtain ⟨hx, hb, hr, hml, hown, hts, hX, hbl, hlk, hgv⟩ := id C0
  have hown : s.vm.findClass RL = some m.cls := hown
  have hbA : ¬ A b := fun q => absurd (hAf b q) (Nat.not_le.mpr hbl)
  refine lv_aload_n hx hb dL_law_205 rfl (lv_at hl 2 rfl) ?_
  refine lv_aload_n hx hb dL_law_206 rfl (lv_at hl 3 rfl) ?_
  refine lv_iload_n hx hb dL_law_207 rfl (lv_at hl 0 rfl) ?_
  refine lv_iconst (v := 1) hx hb dL_law_208 (by decide) ?_
  refine lv_iadd hx hb dL_law_209 ?_
  refine set_i (y := 1) (by decide) ?_
  refine va_sld hx hb hX hbl hbA hS (vp_in_nI (n := 1) (N := 5) (by decide) (by decide)) dL_law_210 ?_
  refine set_i (y := xs 1) rfl ?_
  refine lv_aload_n hx hb dL_law_211 rfl (lv_at hl 3 rfl) ?_
  refine lv_iload_n hx hb dL_law_212 rfl (lv_at hl 0 rfl) ?_
  refine lv_iconst (v := 2) hx hb dL_law_213 (by decide) ?_
  refine lv_iadd hx hb dL_law_214 ?_
  refine set_i (y := 2) (by decide) ?_
  refine va_sld hx hb hX hbl hbA hS (vp_in_nI (n := 2) (N := 5) (by decide) (by decide)) dL_law_215 ?_
  refine set_i (y := xs 2) rfl ?_
  refine be_i (free := va_A [(h0, .inr (6, [.ref x0, .int 0, .ref x1, .ref x3, .ref x11, .ref x19, .ref x22, .int 0, .ref x29, .ref x33, .ref x36, .ref x42, .int 0, .long 0])), (x3, .inr (0, [.int 0, .ref x4, .ref x5, .int 0, .ref x6, .ref x7, .int 0, .ref x8, .ref x9, .ref x10, .int 9, .int 0]))] H.size) (wc := [(h0, .inr (6, [.ref x0, .int 0, .ref x1, .ref x3, .ref x11, .ref x19, .ref x22, .int 0, .ref x29, .ref x33, .ref x36, .ref x42, .int 0, .long 0])), (x3, .inr (0, [.int 0, .ref x4, .ref x5, .int 0, .ref x6, .ref x7, .int 0, .ref x8, .ref x9, .ref x10, .int 9, .int 0]))]) (wr := [(y0, .inr (7, [.long 0, .ref m0, .int 0, .ref m1, .ref m2, .ref m3, .ref m4, .ref m5, .ref m6, .ref m7, .ref m8, .ref m9, .ref m10, .ref m11, .int 0, .int 0, .int 0, .int 0, .int 0, .int 0, .ref m12, .ref m13, .ref m14, .ref m15, .ref m16, .ref m17, .ref m18, .ref m19, .int 0])), (m1, .inl (cI, 2, .inl zf))]) (ru_V (As := [.int (xs 1), .int (xs 2)]) (rest := []) ⟨hx, hb, hml, hown, hts⟩ (c_X_coin l D cI cB cZ cN h0 x0 x1 x3 x11 x19 x22 x29 x33 x36 x42 x4 x5 x6 x7 x8 x9 x10 (xs 1) (xs 2) H.size) (gtr gL_law_X6_coin) rfl ⟨rfl, by decide, by decide, (show Option.map (fun d => d.parameters.length) (parseMethodDescriptor yX6_coin.desc) = some 2 by decide +kernel)⟩ ⟨Nat.le_of_ble_eq_true rfl, Nat.le_of_ble_eq_true rfl⟩ hK hP hD 6 0 rfl rfl [0, 1] (by decide) rfl hl.1 rfl (Nat.le_of_ble_eq_true rfl) dL_law_216 ⟨Nat.le_of_ble_eq_true rfl, Nat.le_of_ble_eq_true rfl⟩) hP hD hS hA [0, 1] [2, 3] rfl rfl (by decide) (by decide) (fun r2 u1 H locs w3 hP hD hS => ?_)
  have hP : va_P D vwCl [(y0, .inr (7, [.long 0, .ref m0, .int 0, .ref m1, .ref m2, .ref m3, .ref m4, .ref m5, .ref m6, .ref m7, .ref m8, .ref m9, .ref m10, .ref m11, .int 0, .int 0, .int 0, .int 0, .int 0, .int 0, .ref m12, .ref m13, .ref m14, .ref m15, .ref m16, .ref m17, .ref m18, .ref m19, .int 0])), (m1, .inl (cI, 2, .inl zf))] H := hP
  have hD : va_D A [(y0, .inr (7, [.long 0, .ref m0, .int 0, .ref m1, .ref m2, .ref m3, .ref m4, .ref m5, .ref m6, .ref m7, .ref m8, .ref m9, .ref m10, .ref m11, .int 0, .int 0, .int 0, .int 0, .int 0, .int 0, .ref m12, .ref m13, .ref m14, .ref m15, .ref m16, .ref m17, .ref m18, .ref m19, .int 0])), (m1, .inl (cI, 2, .inl zf))] := hD
  obtain rfl : r2 = -1 := w3
  refine lv_aload_n hx hb dL_law_219 rfl (lv_at hl 1 rfl) ?_
  refine lv_aload_n hx hb dL_law_220 rfl (lv_at hl 3 rfl) ?_
  refine lv_iload_n hx hb dL_law_221 rfl (lv_at hl 0 rfl) ?_
  refine lv_iconst (v := 1) hx hb dL_law_222 (by decide) ?_
  refine lv_iadd hx hb dL_law_223 ?_
  refine set_i (y := 1) (by decide) ?_
  refine va_sld hx hb hX hbl hbA hS (vp_in_nI (n := 1) (N := 5) (by decide) (by decide)) dL_law_224 ?_
  refine set_i (y := xs 1) rfl ?_
  refine lv_aload_n hx hb dL_law_225 rfl (lv_at hl 3 rfl) ?_
  refine lv_iload_n hx hb dL_law_226 rfl (lv_at hl 0 rfl) ?_
  refine lv_iconst (v := 2) hx hb dL_law_227 (by decide) ?_
  refine lv_iadd hx hb dL_law_228 ?_
  refine set_i (y := 2) (by decide) ?_
  refine va_sld hx hb hX hbl hbA hS (vp_in_nI (n := 2) (N := 5) (by decide) (by decide)) dL_law_229 ?_
  refine set_i (y := xs 2) rfl ?_
  refine be_i (free := va_A [(y0, .inr (7, [.long 0, .ref m0, .int 0, .ref m1, .ref m2, .ref m3, .ref m4, .ref m5, .ref m6, .ref m7, .ref m8, .ref m9, .ref m10, .ref m11, .int 0, .int 0, .int 0, .int 0, .int 0, .int 0, .ref m12, .ref m13, .ref m14, .ref m15, .ref m16, .ref m17, .ref m18, .ref m19, .int 0])), (m1, .inl (cI, 2, .inl zf))] H.size) (wc := [(y0, .inr (7, [.long 0, .ref m0, .int 0, .ref m1, .ref m2, .ref m3, .ref m4, .ref m5, .ref m6, .ref m7, .ref m8, .ref m9, .ref m10, .ref m11, .int 0, .int 0, .int 0, .int 0, .int 0, .int 0, .ref m12, .ref m13, .ref m14, .ref m15, .ref m16, .ref m17, .ref m18, .ref m19, .int 0])), (m1, .inl (cI, 2, .inl zf))]) (wr := []) (ru_V (As := [.int (xs 1), .int (xs 2)]) (rest := [.int (-1)]) ⟨hx, hb, hml, hown, hts⟩ (c_M_coin l D cI cB cZ cN y0 m0 m1 m2 m3 m4 m5 m6 m7 m8 m9 m10 m11 m12 m13 m14 m15 m16 m17 m18 m19 (xs 1) (xs 2) H.size) (gtr gL_law_X7_coin) rfl ⟨rfl, by decide, by decide, (show Option.map (fun d => d.parameters.length) (parseMethodDescriptor yX7_coin.desc) = some 2 by decide +kernel)⟩ ⟨Nat.le_of_ble_eq_true rfl, Nat.le_of_ble_eq_true rfl⟩ hK hP hD 7 0 rfl rfl [0, 1] (by decide) rfl hl.1 rfl (Nat.le_of_ble_eq_true rfl) dL_law_230 ⟨Nat.le_of_ble_eq_true rfl, Nat.le_of_ble_eq_true rfl⟩) hP hD hS hA [0, 1] [] rfl rfl (by decide) (by decide) (fun r5 u4 H locs w6 hP hD hS => ?_)
  have hP : va_P D vwCl [] H := hP
  have hD : va_D A [] := hD
  obtain rfl : r5 = -1 := w6
  refine lv_icmp_eq (tgt := 868) hx hb dL_law_233 (by decide) (fun h7 => ?_) (fun h7 => absurd (by decide) h7)
  exact law_tail C0 hAf hS (lv_sub hl [3, 0] rfl) (Nat.le_of_ble_eq_true rfl) (Nat.le_of_ble_eq_true rfl)
theorem dL_law_238 : decode cL_law 238 = .ok (.aload_n 1, 1) := by decide +kernel
theorem dL_law_239 : decode cL_law 239 = .ok (.aload_n 0, 1) := by decide +kernel
theorem dL_law_240 : decode cL_law 240 = .ok (.iload_n 3, 1) := by decide +kernel
theorem dL_law_241 : decode cL_law 241 = .ok (.iconst 1, 1) := by decide +kernel
theorem dL_law_242 : decode cL_law 242 = .ok (.iadd, 1) := by decide +kernel
theorem dL_law_243 : decode cL_law 243 = .ok (.iaload, 1) := by decide +kernel
theorem dL_law_244 : decode cL_law 244 = .ok (.aload_n 0, 1) := by decide +kernel
theorem dL_law_245 : decode cL_law 245 = .ok (.iload_n 3, 1) := by decide +kernel
theorem dL_law_246 : decode cL_law 246 = .ok (.iconst 2, 1) := by decide +kernel
theorem dL_law_247 : decode cL_law 247 = .ok (.iadd, 1) := by decide +kernel
theorem dL_law_248 : decode cL_law 248 = .ok (.iaload, 1) := by decide +kernel
theorem dL_law_249 : decode cL_law 249 = .ok (.invokevirtual 32, 3) := by decide +kernel
set_option maxRecDepth 20000 in
theorem ggL_law_X6_person : GoodIn wsL_law wsX6_person := goodIn_r _ [302, 22, 303, 21, 304, 305, 60, 306, 307, 308, 57, 264, 265, 266, 267, 61, 268, 269, 270, 271, 58, 67, 309, 310, 311, 2, 312, 27, 276, 26, 277, 278, 72, 313, 314, 315, 316, 272, 273, 274, 275, 739, 740, 741, 742, 743, 744, 745, 746, 747, 748, 749, 750, 751, 752, 788, 789, 790, 791, 792, 793, 794, 795, 796, 797, 798, 799, 800, 801, 802] (by decide +kernel) (by decide +kernel)
set_option maxRecDepth 20000 in
theorem gL_law_X6_person : GoodIn wsL_law (wsV RL 32 RX6 yX6_person wsX6_person) := goodIn_app (goodIn_of _ (by decide +kernel)) ggL_law_X6_person
theorem dL_law_252 : decode cL_law 252 = .ok (.aload_n 2, 1) := by decide +kernel
theorem dL_law_253 : decode cL_law 253 = .ok (.aload_n 0, 1) := by decide +kernel
theorem dL_law_254 : decode cL_law 254 = .ok (.iload_n 3, 1) := by decide +kernel
theorem dL_law_255 : decode cL_law 255 = .ok (.iconst 1, 1) := by decide +kernel
theorem dL_law_256 : decode cL_law 256 = .ok (.iadd, 1) := by decide +kernel
theorem dL_law_257 : decode cL_law 257 = .ok (.iaload, 1) := by decide +kernel
theorem dL_law_258 : decode cL_law 258 = .ok (.aload_n 0, 1) := by decide +kernel
theorem dL_law_259 : decode cL_law 259 = .ok (.iload_n 3, 1) := by decide +kernel
theorem dL_law_260 : decode cL_law 260 = .ok (.iconst 2, 1) := by decide +kernel
theorem dL_law_261 : decode cL_law 261 = .ok (.iadd, 1) := by decide +kernel
theorem dL_law_262 : decode cL_law 262 = .ok (.iaload, 1) := by decide +kernel
theorem dL_law_263 : decode cL_law 263 = .ok (.invokevirtual 35, 3) := by decide +kernel
set_option maxRecDepth 20000 in
theorem ggL_law_X7_person : GoodIn wsL_law wsX7_person := goodIn_r _ [320, 103, 107, 321, 322, 323, 5, 324, 106, 142, 143, 144, 287, 288, 289, 290, 291, 292, 293, 294, 104, 113, 325, 326, 327, 328, 114, 105, 329, 330, 331, 332, 295, 296, 297, 298, 753, 754, 755, 756, 757, 758, 759, 760, 761, 762, 763, 764, 765, 766, 767, 768, 769, 770, 771, 772, 773, 774, 775, 776, 777, 778, 779, 780, 781] (by decide +kernel) (by decide +kernel)
set_option maxRecDepth 20000 in
theorem gL_law_X7_person : GoodIn wsL_law (wsV RL 35 RX7 yX7_person wsX7_person) := goodIn_app (goodIn_of _ (by decide +kernel)) ggL_law_X7_person
theorem dL_law_266 : decode cL_law 266 = .ok (.if_icmp .eq 602, 3) := by decide +kernel
set_option maxHeartbeats 4000000 in
set_option maxRecDepth 100000 in
theorem law_4 {p : Program} {l : Launch} {e : Env} {s : State} {m : MethodId} {below : List Frame} {meth : Method} {c : Code} {D : va_G} {cI cB cZ cN : ClassId} {A : Nat → Prop} {b : Nat} {xs : Nat → Int32} {H : Heap} {locs : List Loc} {ls : Array Slot} {h0 x0 x1 x3 x11 x19 x22 x29 x33 x36 x42 x4 x5 x6 x7 x8 x9 x10 y0 m0 m1 m2 m3 m4 m5 m6 m7 m8 m9 m10 m11 m12 m13 m14 m15 m16 m17 m18 m19 : Nat} (C0 : lw_At p s m meth c b 5 xs) (hK : KN D cI cB cZ cN s) (hA : ∀ q : Nat, s.heap.size ≤ q → A q) (hAf : ∀ q : Nat, A q → s.heap.size ≤ q) (hP : va_P D vwCl [(h0, .inr (6, [.ref x0, .int 0, .ref x1, .ref x3, .ref x11, .ref x19, .ref x22, .int 0, .ref x29, .ref x33, .ref x36, .ref x42, .int 0, .long 0])), (x3, .inr (0, [.int 0, .ref x4, .ref x5, .int 0, .ref x6, .ref x7, .int 0, .ref x8, .ref x9, .ref x10, .int 9, .int 0])), (y0, .inr (7, [.long 0, .ref m0, .int 0, .ref m1, .ref m2, .ref m3, .ref m4, .ref m5, .ref m6, .ref m7, .ref m8, .ref m9, .ref m10, .ref m11, .int 0, .int 0, .int 0, .int 0, .int 0, .int 0, .ref m12, .ref m13, .ref m14, .ref m15, .ref m16, .ref m17, .ref m18, .ref m19, .int 0])), (m4, .inl (cI, 2, .inl zf))] H) (hD : va_D A [(h0, .inr (6, [.ref x0, .int 0, .ref x1, .ref x3, .ref x11, .ref x19, .ref x22, .int 0, .ref x29, .ref x33, .ref x36, .ref x42, .int 0, .long 0])), (x3, .inr (0, [.int 0, .ref x4, .ref x5, .int 0, .ref x6, .ref x7, .int 0, .ref x8, .ref x9, .ref x10, .int 9, .int 0])), (y0, .inr (7, [.long 0, .ref m0, .int 0, .ref m1, .ref m2, .ref m3, .ref m4, .ref m5, .ref m6, .ref m7, .ref m8, .ref m9, .ref m10, .ref m11, .int 0, .int 0, .int 0, .int 0, .int 0, .int 0, .ref m12, .ref m13, .ref m14, .ref m15, .ref m16, .ref m17, .ref m18, .ref m19, .int 0])), (m4, .inl (cI, 2, .inl zf))]) (hS : va_S A s.heap H locs) (hl : lv_has ls 4 [(3, .int 0), (2, .ref y0), (1, .ref h0), (0, .ref b)]) : W p l e room_1 s m #[Value.ref b] below meth c H locs 65 4410 (lw_Z below #[Value.ref b] s) (F0 m 238 ls []) := by
  obtain ⟨hx, hb, hr, hml, hown, hts, hX, hbl, hlk, hgv⟩ := id C0
  have hown : s.vm.findClass RL = some m.cls := hown
  have hbA : ¬ A b := fun q => absurd (hAf b q) (Nat.not_le.mpr hbl)
  refine lv_aload_n hx hb dL_law_238 rfl (lv_at hl 2 rfl) ?_
  refine lv_aload_n hx hb dL_law_239 rfl (lv_at hl 3 rfl) ?_
  refine lv_iload_n hx hb dL_law_240 rfl (lv_at hl 0 rfl) ?_
  refine lv_iconst (v := 1) hx hb dL_law_241 (by decide) ?_
  refine lv_iadd hx hb dL_law_242 ?_
  refine set_i (y := 1) (by decide) ?_
  refine va_sld hx hb hX hbl hbA hS (vp_in_nI (n := 1) (N := 5) (by decide) (by decide)) dL_law_243 ?_
  refine set_i (y := xs 1) rfl ?_
  refine lv_aload_n hx hb dL_law_244 rfl (lv_at hl 3 rfl) ?_
  refine lv_iload_n hx hb dL_law_245 rfl (lv_at hl 0 rfl) ?_
  refine lv_iconst (v := 2) hx hb dL_law_246 (by decide) ?_
  refine lv_iadd hx hb dL_law_247 ?_
  refine set_i (y := 2) (by decide) ?_
  refine va_sld hx hb hX hbl hbA hS (vp_in_nI (n := 2) (N := 5) (by decide) (by decide)) dL_law_248 ?_
  refine set_i (y := xs 2) rfl ?_
  refine be_i (free := va_A [(h0, .inr (6, [.ref x0, .int 0, .ref x1, .ref x3, .ref x11, .ref x19, .ref x22, .int 0, .ref x29, .ref x33, .ref x36, .ref x42, .int 0, .long 0])), (x3, .inr (0, [.int 0, .ref x4, .ref x5, .int 0, .ref x6, .ref x7, .int 0, .ref x8, .ref x9, .ref x10, .int 9, .int 0]))] H.size) (wc := [(h0, .inr (6, [.ref x0, .int 0, .ref x1, .ref x3, .ref x11, .ref x19, .ref x22, .int 0, .ref x29, .ref x33, .ref x36, .ref x42, .int 0, .long 0])), (x3, .inr (0, [.int 0, .ref x4, .ref x5, .int 0, .ref x6, .ref x7, .int 0, .ref x8, .ref x9, .ref x10, .int 9, .int 0]))]) (wr := [(y0, .inr (7, [.long 0, .ref m0, .int 0, .ref m1, .ref m2, .ref m3, .ref m4, .ref m5, .ref m6, .ref m7, .ref m8, .ref m9, .ref m10, .ref m11, .int 0, .int 0, .int 0, .int 0, .int 0, .int 0, .ref m12, .ref m13, .ref m14, .ref m15, .ref m16, .ref m17, .ref m18, .ref m19, .int 0])), (m4, .inl (cI, 2, .inl zf))]) (ru_V (As := [.int (xs 1), .int (xs 2)]) (rest := []) ⟨hx, hb, hml, hown, hts⟩ (c_X_person l D cI cB cZ cN h0 x0 x1 x3 x11 x19 x22 x29 x33 x36 x42 x4 x5 x6 x7 x8 x9 x10 (xs 1) (xs 2) H.size) (gtr gL_law_X6_person) rfl ⟨rfl, by decide, by decide, (show Option.map (fun d => d.parameters.length) (parseMethodDescriptor yX6_person.desc) = some 2 by decide +kernel)⟩ ⟨Nat.le_of_ble_eq_true rfl, Nat.le_of_ble_eq_true rfl⟩ hK hP hD 6 0 rfl rfl [0, 1] (by decide) rfl hl.1 rfl (Nat.le_of_ble_eq_true rfl) dL_law_249 ⟨Nat.le_of_ble_eq_true rfl, Nat.le_of_ble_eq_true rfl⟩) hP hD hS hA [0, 1] [2, 3] rfl rfl (by decide) (by decide) (fun r2 u1 H locs w3 hP hD hS => ?_)
  have hP : va_P D vwCl [(y0, .inr (7, [.long 0, .ref m0, .int 0, .ref m1, .ref m2, .ref m3, .ref m4, .ref m5, .ref m6, .ref m7, .ref m8, .ref m9, .ref m10, .ref m11, .int 0, .int 0, .int 0, .int 0, .int 0, .int 0, .ref m12, .ref m13, .ref m14, .ref m15, .ref m16, .ref m17, .ref m18, .ref m19, .int 0])), (m4, .inl (cI, 2, .inl zf))] H := hP
  have hD : va_D A [(y0, .inr (7, [.long 0, .ref m0, .int 0, .ref m1, .ref m2, .ref m3, .ref m4, .ref m5, .ref m6, .ref m7, .ref m8, .ref m9, .ref m10, .ref m11, .int 0, .int 0, .int 0, .int 0, .int 0, .int 0, .ref m12, .ref m13, .ref m14, .ref m15, .ref m16, .ref m17, .ref m18, .ref m19, .int 0])), (m4, .inl (cI, 2, .inl zf))] := hD
  obtain rfl : r2 = -1 := w3
  refine lv_aload_n hx hb dL_law_252 rfl (lv_at hl 1 rfl) ?_
  refine lv_aload_n hx hb dL_law_253 rfl (lv_at hl 3 rfl) ?_
  refine lv_iload_n hx hb dL_law_254 rfl (lv_at hl 0 rfl) ?_
  refine lv_iconst (v := 1) hx hb dL_law_255 (by decide) ?_
  refine lv_iadd hx hb dL_law_256 ?_
  refine set_i (y := 1) (by decide) ?_
  refine va_sld hx hb hX hbl hbA hS (vp_in_nI (n := 1) (N := 5) (by decide) (by decide)) dL_law_257 ?_
  refine set_i (y := xs 1) rfl ?_
  refine lv_aload_n hx hb dL_law_258 rfl (lv_at hl 3 rfl) ?_
  refine lv_iload_n hx hb dL_law_259 rfl (lv_at hl 0 rfl) ?_
  refine lv_iconst (v := 2) hx hb dL_law_260 (by decide) ?_
  refine lv_iadd hx hb dL_law_261 ?_
  refine set_i (y := 2) (by decide) ?_
  refine va_sld hx hb hX hbl hbA hS (vp_in_nI (n := 2) (N := 5) (by decide) (by decide)) dL_law_262 ?_
  refine set_i (y := xs 2) rfl ?_
  refine be_i (free := va_A [(y0, .inr (7, [.long 0, .ref m0, .int 0, .ref m1, .ref m2, .ref m3, .ref m4, .ref m5, .ref m6, .ref m7, .ref m8, .ref m9, .ref m10, .ref m11, .int 0, .int 0, .int 0, .int 0, .int 0, .int 0, .ref m12, .ref m13, .ref m14, .ref m15, .ref m16, .ref m17, .ref m18, .ref m19, .int 0])), (m4, .inl (cI, 2, .inl zf))] H.size) (wc := [(y0, .inr (7, [.long 0, .ref m0, .int 0, .ref m1, .ref m2, .ref m3, .ref m4, .ref m5, .ref m6, .ref m7, .ref m8, .ref m9, .ref m10, .ref m11, .int 0, .int 0, .int 0, .int 0, .int 0, .int 0, .ref m12, .ref m13, .ref m14, .ref m15, .ref m16, .ref m17, .ref m18, .ref m19, .int 0])), (m4, .inl (cI, 2, .inl zf))]) (wr := []) (ru_V (As := [.int (xs 1), .int (xs 2)]) (rest := [.int (-1)]) ⟨hx, hb, hml, hown, hts⟩ (c_M_person l D cI cB cZ cN y0 m0 m1 m2 m3 m4 m5 m6 m7 m8 m9 m10 m11 m12 m13 m14 m15 m16 m17 m18 m19 (xs 1) (xs 2) H.size) (gtr gL_law_X7_person) rfl ⟨rfl, by decide, by decide, (show Option.map (fun d => d.parameters.length) (parseMethodDescriptor yX7_person.desc) = some 2 by decide +kernel)⟩ ⟨Nat.le_of_ble_eq_true rfl, Nat.le_of_ble_eq_true rfl⟩ hK hP hD 7 0 rfl rfl [0, 1] (by decide) rfl hl.1 rfl (Nat.le_of_ble_eq_true rfl) dL_law_263 ⟨Nat.le_of_ble_eq_true rfl, Nat.le_of_ble_eq_true rfl⟩) hP hD hS hA [0, 1] [] rfl rfl (by decide) (by decide) (fun r5 u4 H locs w6 hP hD hS => ?_)
  have hP : va_P D vwCl [] H := hP
  have hD : va_D A [] := hD
  obtain rfl : r5 = -1 := w6
  refine lv_icmp_eq (tgt := 868) hx hb dL_law_266 (by decide) (fun h7 => ?_) (fun h7 => absurd (by decide) h7)
  exact law_tail C0 hAf hS (lv_sub hl [3, 0] rfl) (Nat.le_of_ble_eq_true rfl) (Nat.le_of_ble_eq_true rfl)
theorem dL_law_271 : decode cL_law 271 = .ok (.aload_n 1, 1) := by decide +kernel
theorem dL_law_272 : decode cL_law 272 = .ok (.aload_n 0, 1) := by decide +kernel
theorem dL_law_273 : decode cL_law 273 = .ok (.iload_n 3, 1) := by decide +kernel
theorem dL_law_274 : decode cL_law 274 = .ok (.iconst 1, 1) := by decide +kernel
theorem dL_law_275 : decode cL_law 275 = .ok (.iadd, 1) := by decide +kernel
theorem dL_law_276 : decode cL_law 276 = .ok (.iaload, 1) := by decide +kernel
theorem dL_law_277 : decode cL_law 277 = .ok (.aload_n 0, 1) := by decide +kernel
theorem dL_law_278 : decode cL_law 278 = .ok (.iload_n 3, 1) := by decide +kernel
theorem dL_law_279 : decode cL_law 279 = .ok (.iconst 2, 1) := by decide +kernel
theorem dL_law_280 : decode cL_law 280 = .ok (.iadd, 1) := by decide +kernel
theorem dL_law_281 : decode cL_law 281 = .ok (.iaload, 1) := by decide +kernel
theorem dL_law_282 : decode cL_law 282 = .ok (.invokevirtual 36, 3) := by decide +kernel
set_option maxRecDepth 20000 in
theorem ggL_law_X6_holds : GoodIn wsL_law wsX6_holds := goodIn_r _ [336, 22, 27, 303, 21, 304, 305, 60, 258, 259, 260, 57, 276, 26, 277, 278, 72, 739, 740, 741, 742, 743, 744, 745, 746, 747, 748, 749, 750, 751, 752, 788, 789, 790, 791, 792, 793, 794, 795, 796, 797, 798, 799, 800, 801, 802] (by decide +kernel) (by decide +kernel)
set_option maxRecDepth 20000 in
theorem gL_law_X6_holds : GoodIn wsL_law (wsV RL 36 RX6 yX6_holds wsX6_holds) := goodIn_app (goodIn_of _ (by decide +kernel)) ggL_law_X6_holds
theorem dL_law_285 : decode cL_law 285 = .ok (.aload_n 2, 1) := by decide +kernel
theorem dL_law_286 : decode cL_law 286 = .ok (.aload_n 0, 1) := by decide +kernel
theorem dL_law_287 : decode cL_law 287 = .ok (.iload_n 3, 1) := by decide +kernel
theorem dL_law_288 : decode cL_law 288 = .ok (.iconst 1, 1) := by decide +kernel
theorem dL_law_289 : decode cL_law 289 = .ok (.iadd, 1) := by decide +kernel
theorem dL_law_290 : decode cL_law 290 = .ok (.iaload, 1) := by decide +kernel
theorem dL_law_291 : decode cL_law 291 = .ok (.aload_n 0, 1) := by decide +kernel
theorem dL_law_292 : decode cL_law 292 = .ok (.iload_n 3, 1) := by decide +kernel
theorem dL_law_293 : decode cL_law 293 = .ok (.iconst 2, 1) := by decide +kernel
theorem dL_law_294 : decode cL_law 294 = .ok (.iadd, 1) := by decide +kernel
theorem dL_law_295 : decode cL_law 295 = .ok (.iaload, 1) := by decide +kernel
theorem dL_law_296 : decode cL_law 296 = .ok (.invokevirtual 39, 3) := by decide +kernel
set_option maxRecDepth 20000 in
theorem ggL_law_X7_holds : GoodIn wsL_law wsX7_holds := goodIn_r _ [340, 114, 321, 322, 323, 5, 324, 106, 142, 143, 144, 283, 284, 285, 286, 103, 753, 754, 755, 756, 757, 758, 759, 760, 761, 762, 763, 764, 765, 766, 767, 768, 769, 770, 771, 772, 773, 774, 775, 776, 777, 778, 779, 780, 781] (by decide +kernel) (by decide +kernel)
set_option maxRecDepth 20000 in
theorem gL_law_X7_holds : GoodIn wsL_law (wsV RL 39 RX7 yX7_holds wsX7_holds) := goodIn_app (goodIn_of _ (by decide +kernel)) ggL_law_X7_holds
theorem dL_law_299 : decode cL_law 299 = .ok (.if_icmp .eq 569, 3) := by decide +kernel
set_option maxHeartbeats 4000000 in
set_option maxRecDepth 100000 in
theorem law_5 {p : Program} {l : Launch} {e : Env} {s : State} {m : MethodId} {below : List Frame} {meth : Method} {c : Code} {D : va_G} {cI cB cZ cN : ClassId} {A : Nat → Prop} {b : Nat} {xs : Nat → Int32} {H : Heap} {locs : List Loc} {ls : Array Slot} {h0 x0 x1 x3 x11 x19 x22 x29 x33 x36 x42 x4 x5 x6 x7 x8 x9 x10 y0 m0 m1 m2 m3 m4 m5 m6 m7 m8 m9 m10 m11 m12 m13 m14 m15 m16 m17 m18 m19 : Nat} (C0 : lw_At p s m meth c b 5 xs) (hK : KN D cI cB cZ cN s) (hA : ∀ q : Nat, s.heap.size ≤ q → A q) (hAf : ∀ q : Nat, A q → s.heap.size ≤ q) (hP : va_P D vwCl [(h0, .inr (6, [.ref x0, .int 0, .ref x1, .ref x3, .ref x11, .ref x19, .ref x22, .int 0, .ref x29, .ref x33, .ref x36, .ref x42, .int 0, .long 0])), (x3, .inr (0, [.int 0, .ref x4, .ref x5, .int 0, .ref x6, .ref x7, .int 0, .ref x8, .ref x9, .ref x10, .int 9, .int 0])), (y0, .inr (7, [.long 0, .ref m0, .int 0, .ref m1, .ref m2, .ref m3, .ref m4, .ref m5, .ref m6, .ref m7, .ref m8, .ref m9, .ref m10, .ref m11, .int 0, .int 0, .int 0, .int 0, .int 0, .int 0, .ref m12, .ref m13, .ref m14, .ref m15, .ref m16, .ref m17, .ref m18, .ref m19, .int 0])), (m4, .inl (cI, 2, .inl zf))] H) (hD : va_D A [(h0, .inr (6, [.ref x0, .int 0, .ref x1, .ref x3, .ref x11, .ref x19, .ref x22, .int 0, .ref x29, .ref x33, .ref x36, .ref x42, .int 0, .long 0])), (x3, .inr (0, [.int 0, .ref x4, .ref x5, .int 0, .ref x6, .ref x7, .int 0, .ref x8, .ref x9, .ref x10, .int 9, .int 0])), (y0, .inr (7, [.long 0, .ref m0, .int 0, .ref m1, .ref m2, .ref m3, .ref m4, .ref m5, .ref m6, .ref m7, .ref m8, .ref m9, .ref m10, .ref m11, .int 0, .int 0, .int 0, .int 0, .int 0, .int 0, .ref m12, .ref m13, .ref m14, .ref m15, .ref m16, .ref m17, .ref m18, .ref m19, .int 0])), (m4, .inl (cI, 2, .inl zf))]) (hS : va_S A s.heap H locs) (hl : lv_has ls 4 [(3, .int 0), (2, .ref y0), (1, .ref h0), (0, .ref b)]) : W p l e room_1 s m #[Value.ref b] below meth c H locs 65 4410 (lw_Z below #[Value.ref b] s) (F0 m 271 ls []) := by
  obtain ⟨hx, hb, hr, hml, hown, hts, hX, hbl, hlk, hgv⟩ := id C0
  have hown : s.vm.findClass RL = some m.cls := hown
  have hbA : ¬ A b := fun q => absurd (hAf b q) (Nat.not_le.mpr hbl)
  refine lv_aload_n hx hb dL_law_271 rfl (lv_at hl 2 rfl) ?_
  refine lv_aload_n hx hb dL_law_272 rfl (lv_at hl 3 rfl) ?_
  refine lv_iload_n hx hb dL_law_273 rfl (lv_at hl 0 rfl) ?_
  refine lv_iconst (v := 1) hx hb dL_law_274 (by decide) ?_
  refine lv_iadd hx hb dL_law_275 ?_
  refine set_i (y := 1) (by decide) ?_
  refine va_sld hx hb hX hbl hbA hS (vp_in_nI (n := 1) (N := 5) (by decide) (by decide)) dL_law_276 ?_
  refine set_i (y := xs 1) rfl ?_
  refine lv_aload_n hx hb dL_law_277 rfl (lv_at hl 3 rfl) ?_
  refine lv_iload_n hx hb dL_law_278 rfl (lv_at hl 0 rfl) ?_
  refine lv_iconst (v := 2) hx hb dL_law_279 (by decide) ?_
  refine lv_iadd hx hb dL_law_280 ?_
  refine set_i (y := 2) (by decide) ?_
  refine va_sld hx hb hX hbl hbA hS (vp_in_nI (n := 2) (N := 5) (by decide) (by decide)) dL_law_281 ?_
  refine set_i (y := xs 2) rfl ?_
  refine be_i (free := va_A [(h0, .inr (6, [.ref x0, .int 0, .ref x1, .ref x3, .ref x11, .ref x19, .ref x22, .int 0, .ref x29, .ref x33, .ref x36, .ref x42, .int 0, .long 0])), (x3, .inr (0, [.int 0, .ref x4, .ref x5, .int 0, .ref x6, .ref x7, .int 0, .ref x8, .ref x9, .ref x10, .int 9, .int 0]))] H.size) (wc := [(h0, .inr (6, [.ref x0, .int 0, .ref x1, .ref x3, .ref x11, .ref x19, .ref x22, .int 0, .ref x29, .ref x33, .ref x36, .ref x42, .int 0, .long 0])), (x3, .inr (0, [.int 0, .ref x4, .ref x5, .int 0, .ref x6, .ref x7, .int 0, .ref x8, .ref x9, .ref x10, .int 9, .int 0]))]) (wr := [(y0, .inr (7, [.long 0, .ref m0, .int 0, .ref m1, .ref m2, .ref m3, .ref m4, .ref m5, .ref m6, .ref m7, .ref m8, .ref m9, .ref m10, .ref m11, .int 0, .int 0, .int 0, .int 0, .int 0, .int 0, .ref m12, .ref m13, .ref m14, .ref m15, .ref m16, .ref m17, .ref m18, .ref m19, .int 0])), (m4, .inl (cI, 2, .inl zf))]) (ru_V (As := [.int (xs 1), .int (xs 2)]) (rest := []) ⟨hx, hb, hml, hown, hts⟩ (c_X_holds l D cI cB cZ cN h0 x0 x1 x3 x11 x19 x22 x29 x33 x36 x42 x4 x5 x6 x7 x8 x9 x10 (xs 1) (xs 2) H.size) (gtr gL_law_X6_holds) rfl ⟨rfl, by decide, by decide, (show Option.map (fun d => d.parameters.length) (parseMethodDescriptor yX6_holds.desc) = some 2 by decide +kernel)⟩ ⟨Nat.le_of_ble_eq_true rfl, Nat.le_of_ble_eq_true rfl⟩ hK hP hD 6 0 rfl rfl [0, 1] (by decide) rfl hl.1 rfl (Nat.le_of_ble_eq_true rfl) dL_law_282 ⟨Nat.le_of_ble_eq_true rfl, Nat.le_of_ble_eq_true rfl⟩) hP hD hS hA [0, 1] [2, 3] rfl rfl (by decide) (by decide) (fun r2 u1 H locs w3 hP hD hS => ?_)
  have hP : va_P D vwCl [(y0, .inr (7, [.long 0, .ref m0, .int 0, .ref m1, .ref m2, .ref m3, .ref m4, .ref m5, .ref m6, .ref m7, .ref m8, .ref m9, .ref m10, .ref m11, .int 0, .int 0, .int 0, .int 0, .int 0, .int 0, .ref m12, .ref m13, .ref m14, .ref m15, .ref m16, .ref m17, .ref m18, .ref m19, .int 0])), (m4, .inl (cI, 2, .inl zf))] H := hP
  have hD : va_D A [(y0, .inr (7, [.long 0, .ref m0, .int 0, .ref m1, .ref m2, .ref m3, .ref m4, .ref m5, .ref m6, .ref m7, .ref m8, .ref m9, .ref m10, .ref m11, .int 0, .int 0, .int 0, .int 0, .int 0, .int 0, .ref m12, .ref m13, .ref m14, .ref m15, .ref m16, .ref m17, .ref m18, .ref m19, .int 0])), (m4, .inl (cI, 2, .inl zf))] := hD
  obtain rfl : r2 = -1 := w3
  refine lv_aload_n hx hb dL_law_285 rfl (lv_at hl 1 rfl) ?_
  refine lv_aload_n hx hb dL_law_286 rfl (lv_at hl 3 rfl) ?_
  refine lv_iload_n hx hb dL_law_287 rfl (lv_at hl 0 rfl) ?_
  refine lv_iconst (v := 1) hx hb dL_law_288 (by decide) ?_
  refine lv_iadd hx hb dL_law_289 ?_
  refine set_i (y := 1) (by decide) ?_
  refine va_sld hx hb hX hbl hbA hS (vp_in_nI (n := 1) (N := 5) (by decide) (by decide)) dL_law_290 ?_
  refine set_i (y := xs 1) rfl ?_
  refine lv_aload_n hx hb dL_law_291 rfl (lv_at hl 3 rfl) ?_
  refine lv_iload_n hx hb dL_law_292 rfl (lv_at hl 0 rfl) ?_
  refine lv_iconst (v := 2) hx hb dL_law_293 (by decide) ?_
  refine lv_iadd hx hb dL_law_294 ?_
  refine set_i (y := 2) (by decide) ?_
  refine va_sld hx hb hX hbl hbA hS (vp_in_nI (n := 2) (N := 5) (by decide) (by decide)) dL_law_295 ?_
  refine set_i (y := xs 2) rfl ?_
  refine be_i (free := va_A [(y0, .inr (7, [.long 0, .ref m0, .int 0, .ref m1, .ref m2, .ref m3, .ref m4, .ref m5, .ref m6, .ref m7, .ref m8, .ref m9, .ref m10, .ref m11, .int 0, .int 0, .int 0, .int 0, .int 0, .int 0, .ref m12, .ref m13, .ref m14, .ref m15, .ref m16, .ref m17, .ref m18, .ref m19, .int 0])), (m4, .inl (cI, 2, .inl zf))] H.size) (wc := [(y0, .inr (7, [.long 0, .ref m0, .int 0, .ref m1, .ref m2, .ref m3, .ref m4, .ref m5, .ref m6, .ref m7, .ref m8, .ref m9, .ref m10, .ref m11, .int 0, .int 0, .int 0, .int 0, .int 0, .int 0, .ref m12, .ref m13, .ref m14, .ref m15, .ref m16, .ref m17, .ref m18, .ref m19, .int 0])), (m4, .inl (cI, 2, .inl zf))]) (wr := []) (ru_V (As := [.int (xs 1), .int (xs 2)]) (rest := [.int (-1)]) ⟨hx, hb, hml, hown, hts⟩ (c_M_holds l D cI cB cZ cN y0 m0 m1 m2 m3 m4 m5 m6 m7 m8 m9 m10 m11 m12 m13 m14 m15 m16 m17 m18 m19 (xs 1) (xs 2) H.size) (gtr gL_law_X7_holds) rfl ⟨rfl, by decide, by decide, (show Option.map (fun d => d.parameters.length) (parseMethodDescriptor yX7_holds.desc) = some 2 by decide +kernel)⟩ ⟨Nat.le_of_ble_eq_true rfl, Nat.le_of_ble_eq_true rfl⟩ hK hP hD 7 0 rfl rfl [0, 1] (by decide) rfl hl.1 rfl (Nat.le_of_ble_eq_true rfl) dL_law_296 ⟨Nat.le_of_ble_eq_true rfl, Nat.le_of_ble_eq_true rfl⟩) hP hD hS hA [0, 1] [] rfl rfl (by decide) (by decide) (fun r5 u4 H locs w6 hP hD hS => ?_)
  have hP : va_P D vwCl [] H := hP
  have hD : va_D A [] := hD
  obtain rfl : r5 = -1 := w6
  refine lv_icmp_eq (tgt := 868) hx hb dL_law_299 (by decide) (fun h7 => ?_) (fun h7 => absurd (by decide) h7)
  exact law_tail C0 hAf hS (lv_sub hl [3, 0] rfl) (Nat.le_of_ble_eq_true rfl) (Nat.le_of_ble_eq_true rfl)
theorem dL_law_304 : decode cL_law 304 = .ok (.aload_n 1, 1) := by decide +kernel
theorem dL_law_305 : decode cL_law 305 = .ok (.aload_n 0, 1) := by decide +kernel
theorem dL_law_306 : decode cL_law 306 = .ok (.iload_n 3, 1) := by decide +kernel
theorem dL_law_307 : decode cL_law 307 = .ok (.iconst 1, 1) := by decide +kernel
theorem dL_law_308 : decode cL_law 308 = .ok (.iadd, 1) := by decide +kernel
theorem dL_law_309 : decode cL_law 309 = .ok (.iaload, 1) := by decide +kernel
theorem dL_law_310 : decode cL_law 310 = .ok (.aload_n 0, 1) := by decide +kernel
theorem dL_law_311 : decode cL_law 311 = .ok (.iload_n 3, 1) := by decide +kernel
theorem dL_law_312 : decode cL_law 312 = .ok (.iconst 2, 1) := by decide +kernel
theorem dL_law_313 : decode cL_law 313 = .ok (.iadd, 1) := by decide +kernel
theorem dL_law_314 : decode cL_law 314 = .ok (.iaload, 1) := by decide +kernel
theorem dL_law_315 : decode cL_law 315 = .ok (.invokevirtual 40, 3) := by decide +kernel
set_option maxRecDepth 20000 in
theorem ggL_law_X6_debt : GoodIn wsL_law wsX6_debt := goodIn_r _ [344, 22, 27, 33, 345, 21, 346, 347, 63, 348, 26, 349, 350, 72, 351, 352, 353, 354, 355, 356, 2, 357, 358, 32, 359, 360, 78, 79, 80, 81, 361, 265, 266, 267, 61, 268, 269, 270, 271, 58, 67, 276, 277, 278, 362, 363, 364, 365, 366, 367, 368, 369, 370, 371, 372, 373, 374, 375, 376, 377, 37, 378, 36, 379, 380, 87, 88, 86, 85, 272, 273, 274, 275, 381, 382, 383, 384, 385, 386, 387, 388, 389, 390, 391, 739, 740, 741, 742, 743, 744, 745, 746, 747, 748, 749, 750, 751, 752, 788, 789, 790, 791, 792, 793, 794, 795, 796, 797, 798, 799, 803, 804, 805, 806, 800, 801, 802, 807, 808, 809, 810] (by decide +kernel) (by decide +kernel)
set_option maxRecDepth 20000 in
theorem gL_law_X6_debt : GoodIn wsL_law (wsV RL 40 RX6 yX6_debt wsX6_debt) := goodIn_app (goodIn_of _ (by decide +kernel)) ggL_law_X6_debt
theorem dL_law_318 : decode cL_law 318 = .ok (.aload_n 2, 1) := by decide +kernel
theorem dL_law_319 : decode cL_law 319 = .ok (.aload_n 0, 1) := by decide +kernel
theorem dL_law_320 : decode cL_law 320 = .ok (.iload_n 3, 1) := by decide +kernel
theorem dL_law_321 : decode cL_law 321 = .ok (.iconst 1, 1) := by decide +kernel
theorem dL_law_322 : decode cL_law 322 = .ok (.iadd, 1) := by decide +kernel
theorem dL_law_323 : decode cL_law 323 = .ok (.iaload, 1) := by decide +kernel
theorem dL_law_324 : decode cL_law 324 = .ok (.aload_n 0, 1) := by decide +kernel
theorem dL_law_325 : decode cL_law 325 = .ok (.iload_n 3, 1) := by decide +kernel
theorem dL_law_326 : decode cL_law 326 = .ok (.iconst 2, 1) := by decide +kernel
theorem dL_law_327 : decode cL_law 327 = .ok (.iadd, 1) := by decide +kernel
theorem dL_law_328 : decode cL_law 328 = .ok (.iaload, 1) := by decide +kernel
theorem dL_law_329 : decode cL_law 329 = .ok (.invokevirtual 43, 3) := by decide +kernel
set_option maxRecDepth 20000 in
theorem ggL_law_X7_debt : GoodIn wsL_law wsX7_debt := goodIn_r _ [395, 110, 114, 112, 396, 397, 398, 5, 399, 109, 142, 143, 144, 400, 401, 402, 403, 404, 405, 406, 407, 408, 409, 410, 411, 118, 103, 287, 288, 289, 290, 107, 291, 292, 293, 294, 104, 113, 412, 413, 414, 415, 119, 105, 120, 416, 417, 418, 419, 420, 421, 422, 423, 295, 296, 297, 298, 106, 424, 425, 426, 427, 753, 754, 755, 756, 757, 758, 759, 760, 761, 762, 763, 764, 765, 766, 767, 768, 769, 770, 771, 772, 773, 774, 775, 776, 777, 778, 779, 780, 781] (by decide +kernel) (by decide +kernel)
set_option maxRecDepth 20000 in
theorem gL_law_X7_debt : GoodIn wsL_law (wsV RL 43 RX7 yX7_debt wsX7_debt) := goodIn_app (goodIn_of _ (by decide +kernel)) ggL_law_X7_debt
theorem dL_law_332 : decode cL_law 332 = .ok (.if_icmp .eq 536, 3) := by decide +kernel
set_option maxHeartbeats 4000000 in
set_option maxRecDepth 100000 in
theorem law_6 {p : Program} {l : Launch} {e : Env} {s : State} {m : MethodId} {below : List Frame} {meth : Method} {c : Code} {D : va_G} {cI cB cZ cN : ClassId} {A : Nat → Prop} {b : Nat} {xs : Nat → Int32} {H : Heap} {locs : List Loc} {ls : Array Slot} {h0 x0 x1 x3 x11 x19 x22 x29 x33 x36 x42 x4 x5 x6 x7 x8 x9 x10 y0 m0 m1 m2 m3 m4 m5 m6 m7 m8 m9 m10 m11 m12 m13 m14 m15 m16 m17 m18 m19 : Nat} (C0 : lw_At p s m meth c b 5 xs) (hK : KN D cI cB cZ cN s) (hA : ∀ q : Nat, s.heap.size ≤ q → A q) (hAf : ∀ q : Nat, A q → s.heap.size ≤ q) (hP : va_P D vwCl [(h0, .inr (6, [.ref x0, .int 0, .ref x1, .ref x3, .ref x11, .ref x19, .ref x22, .int 0, .ref x29, .ref x33, .ref x36, .ref x42, .int 0, .long 0])), (x3, .inr (0, [.int 0, .ref x4, .ref x5, .int 0, .ref x6, .ref x7, .int 0, .ref x8, .ref x9, .ref x10, .int 9, .int 0])), (y0, .inr (7, [.long 0, .ref m0, .int 0, .ref m1, .ref m2, .ref m3, .ref m4, .ref m5, .ref m6, .ref m7, .ref m8, .ref m9, .ref m10, .ref m11, .int 0, .int 0, .int 0, .int 0, .int 0, .int 0, .ref m12, .ref m13, .ref m14, .ref m15, .ref m16, .ref m17, .ref m18, .ref m19, .int 0])), (m7, .inl (cI, 2, .inl zf))] H) (hD : va_D A [(h0, .inr (6, [.ref x0, .int 0, .ref x1, .ref x3, .ref x11, .ref x19, .ref x22, .int 0, .ref x29, .ref x33, .ref x36, .ref x42, .int 0, .long 0])), (x3, .inr (0, [.int 0, .ref x4, .ref x5, .int 0, .ref x6, .ref x7, .int 0, .ref x8, .ref x9, .ref x10, .int 9, .int 0])), (y0, .inr (7, [.long 0, .ref m0, .int 0, .ref m1, .ref m2, .ref m3, .ref m4, .ref m5, .ref m6, .ref m7, .ref m8, .ref m9, .ref m10, .ref m11, .int 0, .int 0, .int 0, .int 0, .int 0, .int 0, .ref m12, .ref m13, .ref m14, .ref m15, .ref m16, .ref m17, .ref m18, .ref m19, .int 0])), (m7, .inl (cI, 2, .inl zf))]) (hS : va_S A s.heap H locs) (hl : lv_has ls 4 [(3, .int 0), (2, .ref y0), (1, .ref h0), (0, .ref b)]) : W p l e room_1 s m #[Value.ref b] below meth c H locs 65 4410 (lw_Z below #[Value.ref b] s) (F0 m 304 ls []) := by
  obtain ⟨hx, hb, hr, hml, hown, hts, hX, hbl, hlk, hgv⟩ := id C0
  have hown : s.vm.findClass RL = some m.cls := hown
  have hbA : ¬ A b := fun q => absurd (hAf b q) (Nat.not_le.mpr hbl)
  refine lv_aload_n hx hb dL_law_304 rfl (lv_at hl 2 rfl) ?_
  refine lv_aload_n hx hb dL_law_305 rfl (lv_at hl 3 rfl) ?_
  refine lv_iload_n hx hb dL_law_306 rfl (lv_at hl 0 rfl) ?_
  refine lv_iconst (v := 1) hx hb dL_law_307 (by decide) ?_
  refine lv_iadd hx hb dL_law_308 ?_
  refine set_i (y := 1) (by decide) ?_
  refine va_sld hx hb hX hbl hbA hS (vp_in_nI (n := 1) (N := 5) (by decide) (by decide)) dL_law_309 ?_
  refine set_i (y := xs 1) rfl ?_
  refine lv_aload_n hx hb dL_law_310 rfl (lv_at hl 3 rfl) ?_
  refine lv_iload_n hx hb dL_law_311 rfl (lv_at hl 0 rfl) ?_
  refine lv_iconst (v := 2) hx hb dL_law_312 (by decide) ?_
  refine lv_iadd hx hb dL_law_313 ?_
  refine set_i (y := 2) (by decide) ?_
  refine va_sld hx hb hX hbl hbA hS (vp_in_nI (n := 2) (N := 5) (by decide) (by decide)) dL_law_314 ?_
  refine set_i (y := xs 2) rfl ?_
  refine be_i (free := va_A [(h0, .inr (6, [.ref x0, .int 0, .ref x1, .ref x3, .ref x11, .ref x19, .ref x22, .int 0, .ref x29, .ref x33, .ref x36, .ref x42, .int 0, .long 0])), (x3, .inr (0, [.int 0, .ref x4, .ref x5, .int 0, .ref x6, .ref x7, .int 0, .ref x8, .ref x9, .ref x10, .int 9, .int 0]))] H.size) (wc := [(h0, .inr (6, [.ref x0, .int 0, .ref x1, .ref x3, .ref x11, .ref x19, .ref x22, .int 0, .ref x29, .ref x33, .ref x36, .ref x42, .int 0, .long 0])), (x3, .inr (0, [.int 0, .ref x4, .ref x5, .int 0, .ref x6, .ref x7, .int 0, .ref x8, .ref x9, .ref x10, .int 9, .int 0]))]) (wr := [(y0, .inr (7, [.long 0, .ref m0, .int 0, .ref m1, .ref m2, .ref m3, .ref m4, .ref m5, .ref m6, .ref m7, .ref m8, .ref m9, .ref m10, .ref m11, .int 0, .int 0, .int 0, .int 0, .int 0, .int 0, .ref m12, .ref m13, .ref m14, .ref m15, .ref m16, .ref m17, .ref m18, .ref m19, .int 0])), (m7, .inl (cI, 2, .inl zf))]) (ru_V (As := [.int (xs 1), .int (xs 2)]) (rest := []) ⟨hx, hb, hml, hown, hts⟩ (c_X_debt l D cI cB cZ cN h0 x0 x1 x3 x11 x19 x22 x29 x33 x36 x42 x4 x5 x6 x7 x8 x9 x10 (xs 1) (xs 2) H.size) (gtr gL_law_X6_debt) rfl ⟨rfl, by decide, by decide, (show Option.map (fun d => d.parameters.length) (parseMethodDescriptor yX6_debt.desc) = some 2 by decide +kernel)⟩ ⟨Nat.le_of_ble_eq_true rfl, Nat.le_of_ble_eq_true rfl⟩ hK hP hD 6 0 rfl rfl [0, 1] (by decide) rfl hl.1 rfl (Nat.le_of_ble_eq_true rfl) dL_law_315 ⟨Nat.le_of_ble_eq_true rfl, Nat.le_of_ble_eq_true rfl⟩) hP hD hS hA [0, 1] [2, 3] rfl rfl (by decide) (by decide) (fun r2 u1 H locs w3 hP hD hS => ?_)
  have hP : va_P D vwCl [(y0, .inr (7, [.long 0, .ref m0, .int 0, .ref m1, .ref m2, .ref m3, .ref m4, .ref m5, .ref m6, .ref m7, .ref m8, .ref m9, .ref m10, .ref m11, .int 0, .int 0, .int 0, .int 0, .int 0, .int 0, .ref m12, .ref m13, .ref m14, .ref m15, .ref m16, .ref m17, .ref m18, .ref m19, .int 0])), (m7, .inl (cI, 2, .inl zf))] H := hP
  have hD : va_D A [(y0, .inr (7, [.long 0, .ref m0, .int 0, .ref m1, .ref m2, .ref m3, .ref m4, .ref m5, .ref m6, .ref m7, .ref m8, .ref m9, .ref m10, .ref m11, .int 0, .int 0, .int 0, .int 0, .int 0, .int 0, .ref m12, .ref m13, .ref m14, .ref m15, .ref m16, .ref m17, .ref m18, .ref m19, .int 0])), (m7, .inl (cI, 2, .inl zf))] := hD
  obtain rfl : r2 = -1 := w3
  refine lv_aload_n hx hb dL_law_318 rfl (lv_at hl 1 rfl) ?_
  refine lv_aload_n hx hb dL_law_319 rfl (lv_at hl 3 rfl) ?_
  refine lv_iload_n hx hb dL_law_320 rfl (lv_at hl 0 rfl) ?_
  refine lv_iconst (v := 1) hx hb dL_law_321 (by decide) ?_
  refine lv_iadd hx hb dL_law_322 ?_
  refine set_i (y := 1) (by decide) ?_
  refine va_sld hx hb hX hbl hbA hS (vp_in_nI (n := 1) (N := 5) (by decide) (by decide)) dL_law_323 ?_
  refine set_i (y := xs 1) rfl ?_
  refine lv_aload_n hx hb dL_law_324 rfl (lv_at hl 3 rfl) ?_
  refine lv_iload_n hx hb dL_law_325 rfl (lv_at hl 0 rfl) ?_
  refine lv_iconst (v := 2) hx hb dL_law_326 (by decide) ?_
  refine lv_iadd hx hb dL_law_327 ?_
  refine set_i (y := 2) (by decide) ?_
  refine va_sld hx hb hX hbl hbA hS (vp_in_nI (n := 2) (N := 5) (by decide) (by decide)) dL_law_328 ?_
  refine set_i (y := xs 2) rfl ?_
  refine be_i (free := va_A [(y0, .inr (7, [.long 0, .ref m0, .int 0, .ref m1, .ref m2, .ref m3, .ref m4, .ref m5, .ref m6, .ref m7, .ref m8, .ref m9, .ref m10, .ref m11, .int 0, .int 0, .int 0, .int 0, .int 0, .int 0, .ref m12, .ref m13, .ref m14, .ref m15, .ref m16, .ref m17, .ref m18, .ref m19, .int 0])), (m7, .inl (cI, 2, .inl zf))] H.size) (wc := [(y0, .inr (7, [.long 0, .ref m0, .int 0, .ref m1, .ref m2, .ref m3, .ref m4, .ref m5, .ref m6, .ref m7, .ref m8, .ref m9, .ref m10, .ref m11, .int 0, .int 0, .int 0, .int 0, .int 0, .int 0, .ref m12, .ref m13, .ref m14, .ref m15, .ref m16, .ref m17, .ref m18, .ref m19, .int 0])), (m7, .inl (cI, 2, .inl zf))]) (wr := []) (ru_V (As := [.int (xs 1), .int (xs 2)]) (rest := [.int (-1)]) ⟨hx, hb, hml, hown, hts⟩ (c_M_debt l D cI cB cZ cN y0 m0 m1 m2 m3 m4 m5 m6 m7 m8 m9 m10 m11 m12 m13 m14 m15 m16 m17 m18 m19 (xs 1) (xs 2) H.size) (gtr gL_law_X7_debt) rfl ⟨rfl, by decide, by decide, (show Option.map (fun d => d.parameters.length) (parseMethodDescriptor yX7_debt.desc) = some 2 by decide +kernel)⟩ ⟨Nat.le_of_ble_eq_true rfl, Nat.le_of_ble_eq_true rfl⟩ hK hP hD 7 0 rfl rfl [0, 1] (by decide) rfl hl.1 rfl (Nat.le_of_ble_eq_true rfl) dL_law_329 ⟨Nat.le_of_ble_eq_true rfl, Nat.le_of_ble_eq_true rfl⟩) hP hD hS hA [0, 1] [] rfl rfl (by decide) (by decide) (fun r5 u4 H locs w6 hP hD hS => ?_)
  have hP : va_P D vwCl [] H := hP
  have hD : va_D A [] := hD
  obtain rfl : r5 = -1 := w6
  refine lv_icmp_eq (tgt := 868) hx hb dL_law_332 (by decide) (fun h7 => ?_) (fun h7 => absurd (by decide) h7)
  exact law_tail C0 hAf hS (lv_sub hl [3, 0] rfl) (Nat.le_of_ble_eq_true rfl) (Nat.le_of_ble_eq_true rfl)
theorem dL_law_337 : decode cL_law 337 = .ok (.aload_n 1, 1) := by decide +kernel
theorem dL_law_338 : decode cL_law 338 = .ok (.aload_n 0, 1) := by decide +kernel
theorem dL_law_339 : decode cL_law 339 = .ok (.iload_n 3, 1) := by decide +kernel
theorem dL_law_340 : decode cL_law 340 = .ok (.iconst 1, 1) := by decide +kernel
theorem dL_law_341 : decode cL_law 341 = .ok (.iadd, 1) := by decide +kernel
theorem dL_law_342 : decode cL_law 342 = .ok (.iaload, 1) := by decide +kernel
theorem dL_law_343 : decode cL_law 343 = .ok (.invokevirtual 44, 3) := by decide +kernel
set_option maxRecDepth 20000 in
theorem ggL_law_X6_pays : GoodIn wsL_law wsX6_pays := goodIn_r _ [431, 22, 27, 33, 345, 21, 346, 347, 63, 351, 26, 352, 353, 72, 348, 349, 350, 388, 32, 389, 390, 79, 391, 358, 359, 360, 78, 80, 81, 361, 265, 266, 267, 61, 268, 269, 270, 271, 58, 67, 276, 277, 278, 362, 363, 364, 365, 366, 367, 368, 369, 370, 371, 372, 373, 432, 433, 434, 74, 73, 217, 218, 219, 220, 435, 436, 437, 438, 439, 440, 441, 442, 739, 740, 741, 742, 743, 744, 745, 746, 747, 748, 749, 750, 751, 752, 788, 789, 790, 791, 792, 793, 794, 795, 796, 797, 798, 799, 803, 804, 805, 806, 800, 801, 802] (by decide +kernel) (by decide +kernel)
set_option maxRecDepth 20000 in
theorem gL_law_X6_pays : GoodIn wsL_law (wsV RL 44 RX6 yX6_pays wsX6_pays) := goodIn_app (goodIn_of _ (by decide +kernel)) ggL_law_X6_pays
theorem dL_law_346 : decode cL_law 346 = .ok (.aload_n 2, 1) := by decide +kernel
theorem dL_law_347 : decode cL_law 347 = .ok (.aload_n 0, 1) := by decide +kernel
theorem dL_law_348 : decode cL_law 348 = .ok (.iload_n 3, 1) := by decide +kernel
theorem dL_law_349 : decode cL_law 349 = .ok (.iconst 1, 1) := by decide +kernel
theorem dL_law_350 : decode cL_law 350 = .ok (.iadd, 1) := by decide +kernel
theorem dL_law_351 : decode cL_law 351 = .ok (.iaload, 1) := by decide +kernel
theorem dL_law_352 : decode cL_law 352 = .ok (.invokevirtual 47, 3) := by decide +kernel
set_option maxRecDepth 20000 in
theorem ggL_law_X7_pays : GoodIn wsL_law wsX7_pays := goodIn_r _ [446, 114, 120, 396, 397, 398, 5, 399, 109, 142, 143, 144, 447, 448, 449, 450, 400, 401, 402, 403, 404, 405, 406, 407, 110, 112, 408, 409, 410, 411, 118, 103, 287, 288, 289, 290, 107, 291, 292, 293, 294, 104, 113, 412, 413, 414, 415, 119, 105, 451, 452, 453, 454, 455, 456, 457, 458, 753, 754, 755, 756, 757, 758, 759, 760, 761, 762, 763, 764, 765, 766, 767, 768, 769, 770, 771, 772, 773, 774, 775, 776, 777, 778, 779, 780, 781] (by decide +kernel) (by decide +kernel)
set_option maxRecDepth 20000 in
theorem gL_law_X7_pays : GoodIn wsL_law (wsV RL 47 RX7 yX7_pays wsX7_pays) := goodIn_app (goodIn_of _ (by decide +kernel)) ggL_law_X7_pays
theorem dL_law_355 : decode cL_law 355 = .ok (.if_icmp .eq 513, 3) := by decide +kernel
set_option maxHeartbeats 4000000 in
set_option maxRecDepth 100000 in
theorem law_7 {p : Program} {l : Launch} {e : Env} {s : State} {m : MethodId} {below : List Frame} {meth : Method} {c : Code} {D : va_G} {cI cB cZ cN : ClassId} {A : Nat → Prop} {b : Nat} {xs : Nat → Int32} {H : Heap} {locs : List Loc} {ls : Array Slot} {h0 x0 x1 x3 x11 x19 x22 x29 x33 x36 x42 x4 x5 x6 x7 x8 x9 x10 y0 m0 m1 m2 m3 m4 m5 m6 m7 m8 m9 m10 m11 m12 m13 m14 m15 m16 m17 m18 m19 : Nat} (C0 : lw_At p s m meth c b 5 xs) (hK : KN D cI cB cZ cN s) (hA : ∀ q : Nat, s.heap.size ≤ q → A q) (hAf : ∀ q : Nat, A q → s.heap.size ≤ q) (hP : va_P D vwCl [(h0, .inr (6, [.ref x0, .int 0, .ref x1, .ref x3, .ref x11, .ref x19, .ref x22, .int 0, .ref x29, .ref x33, .ref x36, .ref x42, .int 0, .long 0])), (x3, .inr (0, [.int 0, .ref x4, .ref x5, .int 0, .ref x6, .ref x7, .int 0, .ref x8, .ref x9, .ref x10, .int 9, .int 0])), (y0, .inr (7, [.long 0, .ref m0, .int 0, .ref m1, .ref m2, .ref m3, .ref m4, .ref m5, .ref m6, .ref m7, .ref m8, .ref m9, .ref m10, .ref m11, .int 0, .int 0, .int 0, .int 0, .int 0, .int 0, .ref m12, .ref m13, .ref m14, .ref m15, .ref m16, .ref m17, .ref m18, .ref m19, .int 0])), (m7, .inl (cI, 2, .inl zf))] H) (hD : va_D A [(h0, .inr (6, [.ref x0, .int 0, .ref x1, .ref x3, .ref x11, .ref x19, .ref x22, .int 0, .ref x29, .ref x33, .ref x36, .ref x42, .int 0, .long 0])), (x3, .inr (0, [.int 0, .ref x4, .ref x5, .int 0, .ref x6, .ref x7, .int 0, .ref x8, .ref x9, .ref x10, .int 9, .int 0])), (y0, .inr (7, [.long 0, .ref m0, .int 0, .ref m1, .ref m2, .ref m3, .ref m4, .ref m5, .ref m6, .ref m7, .ref m8, .ref m9, .ref m10, .ref m11, .int 0, .int 0, .int 0, .int 0, .int 0, .int 0, .ref m12, .ref m13, .ref m14, .ref m15, .ref m16, .ref m17, .ref m18, .ref m19, .int 0])), (m7, .inl (cI, 2, .inl zf))]) (hS : va_S A s.heap H locs) (hl : lv_has ls 4 [(3, .int 0), (2, .ref y0), (1, .ref h0), (0, .ref b)]) : W p l e room_1 s m #[Value.ref b] below meth c H locs 65 4410 (lw_Z below #[Value.ref b] s) (F0 m 337 ls []) := by
  obtain ⟨hx, hb, hr, hml, hown, hts, hX, hbl, hlk, hgv⟩ := id C0
  have hown : s.vm.findClass RL = some m.cls := hown
  have hbA : ¬ A b := fun q => absurd (hAf b q) (Nat.not_le.mpr hbl)
  refine lv_aload_n hx hb dL_law_337 rfl (lv_at hl 2 rfl) ?_
  refine lv_aload_n hx hb dL_law_338 rfl (lv_at hl 3 rfl) ?_
  refine lv_iload_n hx hb dL_law_339 rfl (lv_at hl 0 rfl) ?_
  refine lv_iconst (v := 1) hx hb dL_law_340 (by decide) ?_
  refine lv_iadd hx hb dL_law_341 ?_
  refine set_i (y := 1) (by decide) ?_
  refine va_sld hx hb hX hbl hbA hS (vp_in_nI (n := 1) (N := 5) (by decide) (by decide)) dL_law_342 ?_
  refine set_i (y := xs 1) rfl ?_
  refine be_i (free := va_A [(h0, .inr (6, [.ref x0, .int 0, .ref x1, .ref x3, .ref x11, .ref x19, .ref x22, .int 0, .ref x29, .ref x33, .ref x36, .ref x42, .int 0, .long 0])), (x3, .inr (0, [.int 0, .ref x4, .ref x5, .int 0, .ref x6, .ref x7, .int 0, .ref x8, .ref x9, .ref x10, .int 9, .int 0]))] H.size) (wc := [(h0, .inr (6, [.ref x0, .int 0, .ref x1, .ref x3, .ref x11, .ref x19, .ref x22, .int 0, .ref x29, .ref x33, .ref x36, .ref x42, .int 0, .long 0])), (x3, .inr (0, [.int 0, .ref x4, .ref x5, .int 0, .ref x6, .ref x7, .int 0, .ref x8, .ref x9, .ref x10, .int 9, .int 0]))]) (wr := [(y0, .inr (7, [.long 0, .ref m0, .int 0, .ref m1, .ref m2, .ref m3, .ref m4, .ref m5, .ref m6, .ref m7, .ref m8, .ref m9, .ref m10, .ref m11, .int 0, .int 0, .int 0, .int 0, .int 0, .int 0, .ref m12, .ref m13, .ref m14, .ref m15, .ref m16, .ref m17, .ref m18, .ref m19, .int 0])), (m7, .inl (cI, 2, .inl zf))]) (ru_V (As := [.int (xs 1)]) (rest := []) ⟨hx, hb, hml, hown, hts⟩ (c_X_pays l D cI cB cZ cN h0 x0 x1 x3 x11 x19 x22 x29 x33 x36 x42 x4 x5 x6 x7 x8 x9 x10 (xs 1) H.size) (gtr gL_law_X6_pays) rfl ⟨rfl, by decide, by decide, (show Option.map (fun d => d.parameters.length) (parseMethodDescriptor yX6_pays.desc) = some 1 by decide +kernel)⟩ ⟨Nat.le_of_ble_eq_true rfl, Nat.le_of_ble_eq_true rfl⟩ hK hP hD 6 0 rfl rfl [0, 1] (by decide) rfl hl.1 rfl (Nat.le_of_ble_eq_true rfl) dL_law_343 ⟨Nat.le_of_ble_eq_true rfl, Nat.le_of_ble_eq_true rfl⟩) hP hD hS hA [0, 1] [2, 3] rfl rfl (by decide) (by decide) (fun r2 u1 H locs w3 hP hD hS => ?_)
  have hP : va_P D vwCl [(y0, .inr (7, [.long 0, .ref m0, .int 0, .ref m1, .ref m2, .ref m3, .ref m4, .ref m5, .ref m6, .ref m7, .ref m8, .ref m9, .ref m10, .ref m11, .int 0, .int 0, .int 0, .int 0, .int 0, .int 0, .ref m12, .ref m13, .ref m14, .ref m15, .ref m16, .ref m17, .ref m18, .ref m19, .int 0])), (m7, .inl (cI, 2, .inl zf))] H := hP
  have hD : va_D A [(y0, .inr (7, [.long 0, .ref m0, .int 0, .ref m1, .ref m2, .ref m3, .ref m4, .ref m5, .ref m6, .ref m7, .ref m8, .ref m9, .ref m10, .ref m11, .int 0, .int 0, .int 0, .int 0, .int 0, .int 0, .ref m12, .ref m13, .ref m14, .ref m15, .ref m16, .ref m17, .ref m18, .ref m19, .int 0])), (m7, .inl (cI, 2, .inl zf))] := hD
  obtain rfl : r2 = -1 := w3
  refine lv_aload_n hx hb dL_law_346 rfl (lv_at hl 1 rfl) ?_
  refine lv_aload_n hx hb dL_law_347 rfl (lv_at hl 3 rfl) ?_
  refine lv_iload_n hx hb dL_law_348 rfl (lv_at hl 0 rfl) ?_
  refine lv_iconst (v := 1) hx hb dL_law_349 (by decide) ?_
  refine lv_iadd hx hb dL_law_350 ?_
  refine set_i (y := 1) (by decide) ?_
  refine va_sld hx hb hX hbl hbA hS (vp_in_nI (n := 1) (N := 5) (by decide) (by decide)) dL_law_351 ?_
  refine set_i (y := xs 1) rfl ?_
  refine be_i (free := va_A [(y0, .inr (7, [.long 0, .ref m0, .int 0, .ref m1, .ref m2, .ref m3, .ref m4, .ref m5, .ref m6, .ref m7, .ref m8, .ref m9, .ref m10, .ref m11, .int 0, .int 0, .int 0, .int 0, .int 0, .int 0, .ref m12, .ref m13, .ref m14, .ref m15, .ref m16, .ref m17, .ref m18, .ref m19, .int 0])), (m7, .inl (cI, 2, .inl zf))] H.size) (wc := [(y0, .inr (7, [.long 0, .ref m0, .int 0, .ref m1, .ref m2, .ref m3, .ref m4, .ref m5, .ref m6, .ref m7, .ref m8, .ref m9, .ref m10, .ref m11, .int 0, .int 0, .int 0, .int 0, .int 0, .int 0, .ref m12, .ref m13, .ref m14, .ref m15, .ref m16, .ref m17, .ref m18, .ref m19, .int 0])), (m7, .inl (cI, 2, .inl zf))]) (wr := []) (ru_V (As := [.int (xs 1)]) (rest := [.int (-1)]) ⟨hx, hb, hml, hown, hts⟩ (c_M_pays l D cI cB cZ cN y0 m0 m1 m2 m3 m4 m5 m6 m7 m8 m9 m10 m11 m12 m13 m14 m15 m16 m17 m18 m19 (xs 1) H.size) (gtr gL_law_X7_pays) rfl ⟨rfl, by decide, by decide, (show Option.map (fun d => d.parameters.length) (parseMethodDescriptor yX7_pays.desc) = some 1 by decide +kernel)⟩ ⟨Nat.le_of_ble_eq_true rfl, Nat.le_of_ble_eq_true rfl⟩ hK hP hD 7 0 rfl rfl [0, 1] (by decide) rfl hl.1 rfl (Nat.le_of_ble_eq_true rfl) dL_law_352 ⟨Nat.le_of_ble_eq_true rfl, Nat.le_of_ble_eq_true rfl⟩) hP hD hS hA [0, 1] [] rfl rfl (by decide) (by decide) (fun r5 u4 H locs w6 hP hD hS => ?_)
  have hP : va_P D vwCl [] H := hP
  have hD : va_D A [] := hD
  obtain rfl : r5 = -1 := w6
  refine lv_icmp_eq (tgt := 868) hx hb dL_law_355 (by decide) (fun h7 => ?_) (fun h7 => absurd (by decide) h7)
  exact law_tail C0 hAf hS (lv_sub hl [3, 0] rfl) (Nat.le_of_ble_eq_true rfl) (Nat.le_of_ble_eq_true rfl)
theorem dL_law_360 : decode cL_law 360 = .ok (.aload_n 1, 1) := by decide +kernel
theorem dL_law_361 : decode cL_law 361 = .ok (.aload_n 0, 1) := by decide +kernel
theorem dL_law_362 : decode cL_law 362 = .ok (.iload_n 3, 1) := by decide +kernel
theorem dL_law_363 : decode cL_law 363 = .ok (.iconst 1, 1) := by decide +kernel
theorem dL_law_364 : decode cL_law 364 = .ok (.iadd, 1) := by decide +kernel
theorem dL_law_365 : decode cL_law 365 = .ok (.iaload, 1) := by decide +kernel
theorem dL_law_366 : decode cL_law 366 = .ok (.aload_n 0, 1) := by decide +kernel
theorem dL_law_367 : decode cL_law 367 = .ok (.iload_n 3, 1) := by decide +kernel
theorem dL_law_368 : decode cL_law 368 = .ok (.iconst 2, 1) := by decide +kernel
theorem dL_law_369 : decode cL_law 369 = .ok (.iadd, 1) := by decide +kernel
theorem dL_law_370 : decode cL_law 370 = .ok (.iaload, 1) := by decide +kernel
theorem dL_law_371 : decode cL_law 371 = .ok (.aload_n 0, 1) := by decide +kernel
theorem dL_law_372 : decode cL_law 372 = .ok (.iload_n 3, 1) := by decide +kernel
theorem dL_law_373 : decode cL_law 373 = .ok (.iconst 3, 1) := by decide +kernel
theorem dL_law_374 : decode cL_law 374 = .ok (.iadd, 1) := by decide +kernel
theorem dL_law_375 : decode cL_law 375 = .ok (.iaload, 1) := by decide +kernel
theorem dL_law_376 : decode cL_law 376 = .ok (.aload_n 0, 1) := by decide +kernel
theorem dL_law_377 : decode cL_law 377 = .ok (.iload_n 3, 1) := by decide +kernel
theorem dL_law_378 : decode cL_law 378 = .ok (.iconst 4, 1) := by decide +kernel
theorem dL_law_379 : decode cL_law 379 = .ok (.iadd, 1) := by decide +kernel
theorem dL_law_380 : decode cL_law 380 = .ok (.iaload, 1) := by decide +kernel
theorem dL_law_381 : decode cL_law 381 = .ok (.invokevirtual 48, 3) := by decide +kernel
set_option maxRecDepth 20000 in
theorem ggL_law_X6_trades : GoodIn wsL_law wsX6_trades := goodIn_r _ [462, 22, 27, 303, 21, 304, 305, 60, 258, 259, 260, 57, 276, 26, 277, 278, 72, 432, 433, 434, 74, 73, 217, 218, 219, 220, 440, 441, 442, 739, 740, 741, 742, 743, 744, 745, 746, 747, 748, 749, 750, 751, 752, 788, 789, 790, 791, 792, 793, 794, 795, 796, 797, 798, 799, 800, 801, 802] (by decide +kernel) (by decide +kernel)
set_option maxRecDepth 20000 in
theorem gL_law_X6_trades : GoodIn wsL_law (wsV RL 48 RX6 yX6_trades wsX6_trades) := goodIn_app (goodIn_of _ (by decide +kernel)) ggL_law_X6_trades
theorem dL_law_384 : decode cL_law 384 = .ok (.aload_n 2, 1) := by decide +kernel
theorem dL_law_385 : decode cL_law 385 = .ok (.aload_n 0, 1) := by decide +kernel
theorem dL_law_386 : decode cL_law 386 = .ok (.iload_n 3, 1) := by decide +kernel
theorem dL_law_387 : decode cL_law 387 = .ok (.iconst 1, 1) := by decide +kernel
theorem dL_law_388 : decode cL_law 388 = .ok (.iadd, 1) := by decide +kernel
theorem dL_law_389 : decode cL_law 389 = .ok (.iaload, 1) := by decide +kernel
theorem dL_law_390 : decode cL_law 390 = .ok (.aload_n 0, 1) := by decide +kernel
theorem dL_law_391 : decode cL_law 391 = .ok (.iload_n 3, 1) := by decide +kernel
theorem dL_law_392 : decode cL_law 392 = .ok (.iconst 2, 1) := by decide +kernel
theorem dL_law_393 : decode cL_law 393 = .ok (.iadd, 1) := by decide +kernel
theorem dL_law_394 : decode cL_law 394 = .ok (.iaload, 1) := by decide +kernel
theorem dL_law_395 : decode cL_law 395 = .ok (.aload_n 0, 1) := by decide +kernel
theorem dL_law_396 : decode cL_law 396 = .ok (.iload_n 3, 1) := by decide +kernel
theorem dL_law_397 : decode cL_law 397 = .ok (.iconst 3, 1) := by decide +kernel
theorem dL_law_398 : decode cL_law 398 = .ok (.iadd, 1) := by decide +kernel
theorem dL_law_399 : decode cL_law 399 = .ok (.iaload, 1) := by decide +kernel
theorem dL_law_400 : decode cL_law 400 = .ok (.aload_n 0, 1) := by decide +kernel
theorem dL_law_401 : decode cL_law 401 = .ok (.iload_n 3, 1) := by decide +kernel
theorem dL_law_402 : decode cL_law 402 = .ok (.iconst 4, 1) := by decide +kernel
theorem dL_law_403 : decode cL_law 403 = .ok (.iadd, 1) := by decide +kernel
theorem dL_law_404 : decode cL_law 404 = .ok (.iaload, 1) := by decide +kernel
theorem dL_law_405 : decode cL_law 405 = .ok (.invokevirtual 52, 3) := by decide +kernel
set_option maxRecDepth 20000 in
theorem ggL_law_X7_trades : GoodIn wsL_law wsX7_trades := goodIn_r _ [466, 114, 105, 321, 322, 323, 5, 324, 106, 142, 143, 144, 283, 284, 285, 286, 103, 451, 452, 453, 454, 753, 754, 755, 756, 757, 758, 759, 760, 761, 762, 763, 764, 765, 766, 767, 768, 769, 770, 771, 772, 773, 774, 775, 776, 777, 778, 779, 780, 781] (by decide +kernel) (by decide +kernel)
set_option maxRecDepth 20000 in
theorem gL_law_X7_trades : GoodIn wsL_law (wsV RL 52 RX7 yX7_trades wsX7_trades) := goodIn_app (goodIn_of _ (by decide +kernel)) ggL_law_X7_trades
theorem dL_law_408 : decode cL_law 408 = .ok (.if_icmp .eq 460, 3) := by decide +kernel
set_option maxHeartbeats 4000000 in
set_option maxRecDepth 100000 in
theorem law_8 {p : Program} {l : Launch} {e : Env} {s : State} {m : MethodId} {below : List Frame} {meth : Method} {c : Code} {D : va_G} {cI cB cZ cN : ClassId} {A : Nat → Prop} {b : Nat} {xs : Nat → Int32} {H : Heap} {locs : List Loc} {ls : Array Slot} {h0 x0 x1 x3 x11 x19 x22 x29 x33 x36 x42 x4 x5 x6 x7 x8 x9 x10 y0 m0 m1 m2 m3 m4 m5 m6 m7 m8 m9 m10 m11 m12 m13 m14 m15 m16 m17 m18 m19 : Nat} (C0 : lw_At p s m meth c b 5 xs) (hK : KN D cI cB cZ cN s) (hA : ∀ q : Nat, s.heap.size ≤ q → A q) (hAf : ∀ q : Nat, A q → s.heap.size ≤ q) (hP : va_P D vwCl [(h0, .inr (6, [.ref x0, .int 0, .ref x1, .ref x3, .ref x11, .ref x19, .ref x22, .int 0, .ref x29, .ref x33, .ref x36, .ref x42, .int 0, .long 0])), (x3, .inr (0, [.int 0, .ref x4, .ref x5, .int 0, .ref x6, .ref x7, .int 0, .ref x8, .ref x9, .ref x10, .int 9, .int 0])), (y0, .inr (7, [.long 0, .ref m0, .int 0, .ref m1, .ref m2, .ref m3, .ref m4, .ref m5, .ref m6, .ref m7, .ref m8, .ref m9, .ref m10, .ref m11, .int 0, .int 0, .int 0, .int 0, .int 0, .int 0, .ref m12, .ref m13, .ref m14, .ref m15, .ref m16, .ref m17, .ref m18, .ref m19, .int 0])), (m4, .inl (cI, 2, .inl zf))] H) (hD : va_D A [(h0, .inr (6, [.ref x0, .int 0, .ref x1, .ref x3, .ref x11, .ref x19, .ref x22, .int 0, .ref x29, .ref x33, .ref x36, .ref x42, .int 0, .long 0])), (x3, .inr (0, [.int 0, .ref x4, .ref x5, .int 0, .ref x6, .ref x7, .int 0, .ref x8, .ref x9, .ref x10, .int 9, .int 0])), (y0, .inr (7, [.long 0, .ref m0, .int 0, .ref m1, .ref m2, .ref m3, .ref m4, .ref m5, .ref m6, .ref m7, .ref m8, .ref m9, .ref m10, .ref m11, .int 0, .int 0, .int 0, .int 0, .int 0, .int 0, .ref m12, .ref m13, .ref m14, .ref m15, .ref m16, .ref m17, .ref m18, .ref m19, .int 0])), (m4, .inl (cI, 2, .inl zf))]) (hS : va_S A s.heap H locs) (hl : lv_has ls 4 [(3, .int 0), (2, .ref y0), (1, .ref h0), (0, .ref b)]) : W p l e room_1 s m #[Value.ref b] below meth c H locs 65 4410 (lw_Z below #[Value.ref b] s) (F0 m 360 ls []) := by
  obtain ⟨hx, hb, hr, hml, hown, hts, hX, hbl, hlk, hgv⟩ := id C0
  have hown : s.vm.findClass RL = some m.cls := hown
  have hbA : ¬ A b := fun q => absurd (hAf b q) (Nat.not_le.mpr hbl)
  refine lv_aload_n hx hb dL_law_360 rfl (lv_at hl 2 rfl) ?_
  refine lv_aload_n hx hb dL_law_361 rfl (lv_at hl 3 rfl) ?_
  refine lv_iload_n hx hb dL_law_362 rfl (lv_at hl 0 rfl) ?_
  refine lv_iconst (v := 1) hx hb dL_law_363 (by decide) ?_
  refine lv_iadd hx hb dL_law_364 ?_
  refine set_i (y := 1) (by decide) ?_
  refine va_sld hx hb hX hbl hbA hS (vp_in_nI (n := 1) (N := 5) (by decide) (by decide)) dL_law_365 ?_
  refine set_i (y := xs 1) rfl ?_
  refine lv_aload_n hx hb dL_law_366 rfl (lv_at hl 3 rfl) ?_
  refine lv_iload_n hx hb dL_law_367 rfl (lv_at hl 0 rfl) ?_
  refine lv_iconst (v := 2) hx hb dL_law_368 (by decide) ?_
  refine lv_iadd hx hb dL_law_369 ?_
  refine set_i (y := 2) (by decide) ?_
  refine va_sld hx hb hX hbl hbA hS (vp_in_nI (n := 2) (N := 5) (by decide) (by decide)) dL_law_370 ?_
  refine set_i (y := xs 2) rfl ?_
  refine lv_aload_n hx hb dL_law_371 rfl (lv_at hl 3 rfl) ?_
  refine lv_iload_n hx hb dL_law_372 rfl (lv_at hl 0 rfl) ?_
  refine lv_iconst (v := 3) hx hb dL_law_373 (by decide) ?_
  refine lv_iadd hx hb dL_law_374 ?_
  refine set_i (y := 3) (by decide) ?_
  refine va_sld hx hb hX hbl hbA hS (vp_in_nI (n := 3) (N := 5) (by decide) (by decide)) dL_law_375 ?_
  refine set_i (y := xs 3) rfl ?_
  refine lv_aload_n hx hb dL_law_376 rfl (lv_at hl 3 rfl) ?_
  refine lv_iload_n hx hb dL_law_377 rfl (lv_at hl 0 rfl) ?_
  refine lv_iconst (v := 4) hx hb dL_law_378 (by decide) ?_
  refine lv_iadd hx hb dL_law_379 ?_
  refine set_i (y := 4) (by decide) ?_
  refine va_sld hx hb hX hbl hbA hS (vp_in_nI (n := 4) (N := 5) (by decide) (by decide)) dL_law_380 ?_
  refine set_i (y := xs 4) rfl ?_
  refine be_i (free := va_A [(h0, .inr (6, [.ref x0, .int 0, .ref x1, .ref x3, .ref x11, .ref x19, .ref x22, .int 0, .ref x29, .ref x33, .ref x36, .ref x42, .int 0, .long 0])), (x3, .inr (0, [.int 0, .ref x4, .ref x5, .int 0, .ref x6, .ref x7, .int 0, .ref x8, .ref x9, .ref x10, .int 9, .int 0]))] H.size) (wc := [(h0, .inr (6, [.ref x0, .int 0, .ref x1, .ref x3, .ref x11, .ref x19, .ref x22, .int 0, .ref x29, .ref x33, .ref x36, .ref x42, .int 0, .long 0])), (x3, .inr (0, [.int 0, .ref x4, .ref x5, .int 0, .ref x6, .ref x7, .int 0, .ref x8, .ref x9, .ref x10, .int 9, .int 0]))]) (wr := [(y0, .inr (7, [.long 0, .ref m0, .int 0, .ref m1, .ref m2, .ref m3, .ref m4, .ref m5, .ref m6, .ref m7, .ref m8, .ref m9, .ref m10, .ref m11, .int 0, .int 0, .int 0, .int 0, .int 0, .int 0, .ref m12, .ref m13, .ref m14, .ref m15, .ref m16, .ref m17, .ref m18, .ref m19, .int 0])), (m4, .inl (cI, 2, .inl zf))]) (ru_V (As := [.int (xs 1), .int (xs 2), .int (xs 3), .int (xs 4)]) (rest := []) ⟨hx, hb, hml, hown, hts⟩ (c_X_trades l D cI cB cZ cN h0 x0 x1 x3 x11 x19 x22 x29 x33 x36 x42 x4 x5 x6 x7 x8 x9 x10 (xs 1) (xs 2) (xs 3) (xs 4) H.size) (gtr gL_law_X6_trades) rfl ⟨rfl, by decide, by decide, (show Option.map (fun d => d.parameters.length) (parseMethodDescriptor yX6_trades.desc) = some 4 by decide +kernel)⟩ ⟨Nat.le_of_ble_eq_true rfl, Nat.le_of_ble_eq_true rfl⟩ hK hP hD 6 0 rfl rfl [0, 1] (by decide) rfl hl.1 rfl (Nat.le_of_ble_eq_true rfl) dL_law_381 ⟨Nat.le_of_ble_eq_true rfl, Nat.le_of_ble_eq_true rfl⟩) hP hD hS hA [0, 1] [2, 3] rfl rfl (by decide) (by decide) (fun r2 u1 H locs w3 hP hD hS => ?_)
  have hP : va_P D vwCl [(y0, .inr (7, [.long 0, .ref m0, .int 0, .ref m1, .ref m2, .ref m3, .ref m4, .ref m5, .ref m6, .ref m7, .ref m8, .ref m9, .ref m10, .ref m11, .int 0, .int 0, .int 0, .int 0, .int 0, .int 0, .ref m12, .ref m13, .ref m14, .ref m15, .ref m16, .ref m17, .ref m18, .ref m19, .int 0])), (m4, .inl (cI, 2, .inl zf))] H := hP
  have hD : va_D A [(y0, .inr (7, [.long 0, .ref m0, .int 0, .ref m1, .ref m2, .ref m3, .ref m4, .ref m5, .ref m6, .ref m7, .ref m8, .ref m9, .ref m10, .ref m11, .int 0, .int 0, .int 0, .int 0, .int 0, .int 0, .ref m12, .ref m13, .ref m14, .ref m15, .ref m16, .ref m17, .ref m18, .ref m19, .int 0])), (m4, .inl (cI, 2, .inl zf))] := hD
  obtain rfl : r2 = -1 := w3
  refine lv_aload_n hx hb dL_law_384 rfl (lv_at hl 1 rfl) ?_
  refine lv_aload_n hx hb dL_law_385 rfl (lv_at hl 3 rfl) ?_
  refine lv_iload_n hx hb dL_law_386 rfl (lv_at hl 0 rfl) ?_
  refine lv_iconst (v := 1) hx hb dL_law_387 (by decide) ?_
  refine lv_iadd hx hb dL_law_388 ?_
  refine set_i (y := 1) (by decide) ?_
  refine va_sld hx hb hX hbl hbA hS (vp_in_nI (n := 1) (N := 5) (by decide) (by decide)) dL_law_389 ?_
  refine set_i (y := xs 1) rfl ?_
  refine lv_aload_n hx hb dL_law_390 rfl (lv_at hl 3 rfl) ?_
  refine lv_iload_n hx hb dL_law_391 rfl (lv_at hl 0 rfl) ?_
  refine lv_iconst (v := 2) hx hb dL_law_392 (by decide) ?_
  refine lv_iadd hx hb dL_law_393 ?_
  refine set_i (y := 2) (by decide) ?_
  refine va_sld hx hb hX hbl hbA hS (vp_in_nI (n := 2) (N := 5) (by decide) (by decide)) dL_law_394 ?_
  refine set_i (y := xs 2) rfl ?_
  refine lv_aload_n hx hb dL_law_395 rfl (lv_at hl 3 rfl) ?_
  refine lv_iload_n hx hb dL_law_396 rfl (lv_at hl 0 rfl) ?_
  refine lv_iconst (v := 3) hx hb dL_law_397 (by decide) ?_
  refine lv_iadd hx hb dL_law_398 ?_
  refine set_i (y := 3) (by decide) ?_
  refine va_sld hx hb hX hbl hbA hS (vp_in_nI (n := 3) (N := 5) (by decide) (by decide)) dL_law_399 ?_
  refine set_i (y := xs 3) rfl ?_
  refine lv_aload_n hx hb dL_law_400 rfl (lv_at hl 3 rfl) ?_
  refine lv_iload_n hx hb dL_law_401 rfl (lv_at hl 0 rfl) ?_
  refine lv_iconst (v := 4) hx hb dL_law_402 (by decide) ?_
  refine lv_iadd hx hb dL_law_403 ?_
  refine set_i (y := 4) (by decide) ?_
  refine va_sld hx hb hX hbl hbA hS (vp_in_nI (n := 4) (N := 5) (by decide) (by decide)) dL_law_404 ?_
  refine set_i (y := xs 4) rfl ?_
  refine be_i (free := va_A [(y0, .inr (7, [.long 0, .ref m0, .int 0, .ref m1, .ref m2, .ref m3, .ref m4, .ref m5, .ref m6, .ref m7, .ref m8, .ref m9, .ref m10, .ref m11, .int 0, .int 0, .int 0, .int 0, .int 0, .int 0, .ref m12, .ref m13, .ref m14, .ref m15, .ref m16, .ref m17, .ref m18, .ref m19, .int 0])), (m4, .inl (cI, 2, .inl zf))] H.size) (wc := [(y0, .inr (7, [.long 0, .ref m0, .int 0, .ref m1, .ref m2, .ref m3, .ref m4, .ref m5, .ref m6, .ref m7, .ref m8, .ref m9, .ref m10, .ref m11, .int 0, .int 0, .int 0, .int 0, .int 0, .int 0, .ref m12, .ref m13, .ref m14, .ref m15, .ref m16, .ref m17, .ref m18, .ref m19, .int 0])), (m4, .inl (cI, 2, .inl zf))]) (wr := []) (ru_V (As := [.int (xs 1), .int (xs 2), .int (xs 3), .int (xs 4)]) (rest := [.int (-1)]) ⟨hx, hb, hml, hown, hts⟩ (c_M_trades l D cI cB cZ cN y0 m0 m1 m2 m3 m4 m5 m6 m7 m8 m9 m10 m11 m12 m13 m14 m15 m16 m17 m18 m19 (xs 1) (xs 2) (xs 3) (xs 4) H.size) (gtr gL_law_X7_trades) rfl ⟨rfl, by decide, by decide, (show Option.map (fun d => d.parameters.length) (parseMethodDescriptor yX7_trades.desc) = some 4 by decide +kernel)⟩ ⟨Nat.le_of_ble_eq_true rfl, Nat.le_of_ble_eq_true rfl⟩ hK hP hD 7 0 rfl rfl [0, 1] (by decide) rfl hl.1 rfl (Nat.le_of_ble_eq_true rfl) dL_law_405 ⟨Nat.le_of_ble_eq_true rfl, Nat.le_of_ble_eq_true rfl⟩) hP hD hS hA [0, 1] [] rfl rfl (by decide) (by decide) (fun r5 u4 H locs w6 hP hD hS => ?_)
  have hP : va_P D vwCl [] H := hP
  have hD : va_D A [] := hD
  obtain rfl : r5 = -1 := w6
  refine lv_icmp_eq (tgt := 868) hx hb dL_law_408 (by decide) (fun h7 => ?_) (fun h7 => absurd (by decide) h7)
  exact law_tail C0 hAf hS (lv_sub hl [3, 0] rfl) (Nat.le_of_ble_eq_true rfl) (Nat.le_of_ble_eq_true rfl)
theorem dL_law_413 : decode cL_law 413 = .ok (.aload_n 1, 1) := by decide +kernel
theorem dL_law_414 : decode cL_law 414 = .ok (.aload_n 0, 1) := by decide +kernel
theorem dL_law_415 : decode cL_law 415 = .ok (.iload_n 3, 1) := by decide +kernel
theorem dL_law_416 : decode cL_law 416 = .ok (.iconst 1, 1) := by decide +kernel
theorem dL_law_417 : decode cL_law 417 = .ok (.iadd, 1) := by decide +kernel
theorem dL_law_418 : decode cL_law 418 = .ok (.iaload, 1) := by decide +kernel
theorem dL_law_419 : decode cL_law 419 = .ok (.aload_n 0, 1) := by decide +kernel
theorem dL_law_420 : decode cL_law 420 = .ok (.iload_n 3, 1) := by decide +kernel
theorem dL_law_421 : decode cL_law 421 = .ok (.iconst 2, 1) := by decide +kernel
theorem dL_law_422 : decode cL_law 422 = .ok (.iadd, 1) := by decide +kernel
theorem dL_law_423 : decode cL_law 423 = .ok (.iaload, 1) := by decide +kernel
theorem dL_law_424 : decode cL_law 424 = .ok (.invokevirtual 53, 3) := by decide +kernel
set_option maxRecDepth 20000 in
theorem ggL_law_X6_loses : GoodIn wsL_law wsX6_loses := goodIn_r _ [470, 22, 27, 303, 21, 304, 305, 60, 258, 259, 260, 57, 276, 26, 277, 278, 72, 432, 433, 434, 74, 73, 217, 218, 219, 220, 440, 441, 442, 739, 740, 741, 742, 743, 744, 745, 746, 747, 748, 749, 750, 751, 752, 788, 789, 790, 791, 792, 793, 794, 795, 796, 797, 798, 799, 800, 801, 802] (by decide +kernel) (by decide +kernel)
set_option maxRecDepth 20000 in
theorem gL_law_X6_loses : GoodIn wsL_law (wsV RL 53 RX6 yX6_loses wsX6_loses) := goodIn_app (goodIn_of _ (by decide +kernel)) ggL_law_X6_loses
theorem dL_law_427 : decode cL_law 427 = .ok (.aload_n 2, 1) := by decide +kernel
theorem dL_law_428 : decode cL_law 428 = .ok (.aload_n 0, 1) := by decide +kernel
theorem dL_law_429 : decode cL_law 429 = .ok (.iload_n 3, 1) := by decide +kernel
theorem dL_law_430 : decode cL_law 430 = .ok (.iconst 1, 1) := by decide +kernel
theorem dL_law_431 : decode cL_law 431 = .ok (.iadd, 1) := by decide +kernel
theorem dL_law_432 : decode cL_law 432 = .ok (.iaload, 1) := by decide +kernel
theorem dL_law_433 : decode cL_law 433 = .ok (.aload_n 0, 1) := by decide +kernel
theorem dL_law_434 : decode cL_law 434 = .ok (.iload_n 3, 1) := by decide +kernel
theorem dL_law_435 : decode cL_law 435 = .ok (.iconst 2, 1) := by decide +kernel
theorem dL_law_436 : decode cL_law 436 = .ok (.iadd, 1) := by decide +kernel
theorem dL_law_437 : decode cL_law 437 = .ok (.iaload, 1) := by decide +kernel
theorem dL_law_438 : decode cL_law 438 = .ok (.invokevirtual 56, 3) := by decide +kernel
set_option maxRecDepth 20000 in
theorem ggL_law_X7_loses : GoodIn wsL_law wsX7_loses := goodIn_r _ [474, 114, 321, 322, 323, 5, 324, 106, 142, 143, 144, 283, 284, 285, 286, 103, 451, 452, 453, 454, 753, 754, 755, 756, 757, 758, 759, 760, 761, 762, 763, 764, 765, 766, 767, 768, 769, 770, 771, 772, 773, 774, 775, 776, 777, 778, 779, 780, 781] (by decide +kernel) (by decide +kernel)
set_option maxRecDepth 20000 in
theorem gL_law_X7_loses : GoodIn wsL_law (wsV RL 56 RX7 yX7_loses wsX7_loses) := goodIn_app (goodIn_of _ (by decide +kernel)) ggL_law_X7_loses
theorem dL_law_441 : decode cL_law 441 = .ok (.if_icmp .eq 427, 3) := by decide +kernel
set_option maxHeartbeats 4000000 in
set_option maxRecDepth 100000 in
theorem law_9 {p : Program} {l : Launch} {e : Env} {s : State} {m : MethodId} {below : List Frame} {meth : Method} {c : Code} {D : va_G} {cI cB cZ cN : ClassId} {A : Nat → Prop} {b : Nat} {xs : Nat → Int32} {H : Heap} {locs : List Loc} {ls : Array Slot} {h0 x0 x1 x3 x11 x19 x22 x29 x33 x36 x42 x4 x5 x6 x7 x8 x9 x10 y0 m0 m1 m2 m3 m4 m5 m6 m7 m8 m9 m10 m11 m12 m13 m14 m15 m16 m17 m18 m19 : Nat} (C0 : lw_At p s m meth c b 5 xs) (hK : KN D cI cB cZ cN s) (hA : ∀ q : Nat, s.heap.size ≤ q → A q) (hAf : ∀ q : Nat, A q → s.heap.size ≤ q) (hP : va_P D vwCl [(h0, .inr (6, [.ref x0, .int 0, .ref x1, .ref x3, .ref x11, .ref x19, .ref x22, .int 0, .ref x29, .ref x33, .ref x36, .ref x42, .int 0, .long 0])), (x3, .inr (0, [.int 0, .ref x4, .ref x5, .int 0, .ref x6, .ref x7, .int 0, .ref x8, .ref x9, .ref x10, .int 9, .int 0])), (y0, .inr (7, [.long 0, .ref m0, .int 0, .ref m1, .ref m2, .ref m3, .ref m4, .ref m5, .ref m6, .ref m7, .ref m8, .ref m9, .ref m10, .ref m11, .int 0, .int 0, .int 0, .int 0, .int 0, .int 0, .ref m12, .ref m13, .ref m14, .ref m15, .ref m16, .ref m17, .ref m18, .ref m19, .int 0])), (m4, .inl (cI, 2, .inl zf))] H) (hD : va_D A [(h0, .inr (6, [.ref x0, .int 0, .ref x1, .ref x3, .ref x11, .ref x19, .ref x22, .int 0, .ref x29, .ref x33, .ref x36, .ref x42, .int 0, .long 0])), (x3, .inr (0, [.int 0, .ref x4, .ref x5, .int 0, .ref x6, .ref x7, .int 0, .ref x8, .ref x9, .ref x10, .int 9, .int 0])), (y0, .inr (7, [.long 0, .ref m0, .int 0, .ref m1, .ref m2, .ref m3, .ref m4, .ref m5, .ref m6, .ref m7, .ref m8, .ref m9, .ref m10, .ref m11, .int 0, .int 0, .int 0, .int 0, .int 0, .int 0, .ref m12, .ref m13, .ref m14, .ref m15, .ref m16, .ref m17, .ref m18, .ref m19, .int 0])), (m4, .inl (cI, 2, .inl zf))]) (hS : va_S A s.heap H locs) (hl : lv_has ls 4 [(3, .int 0), (2, .ref y0), (1, .ref h0), (0, .ref b)]) : W p l e room_1 s m #[Value.ref b] below meth c H locs 65 4410 (lw_Z below #[Value.ref b] s) (F0 m 413 ls []) := by
  obtain ⟨hx, hb, hr, hml, hown, hts, hX, hbl, hlk, hgv⟩ := id C0
  have hown : s.vm.findClass RL = some m.cls := hown
  have hbA : ¬ A b := fun q => absurd (hAf b q) (Nat.not_le.mpr hbl)
  refine lv_aload_n hx hb dL_law_413 rfl (lv_at hl 2 rfl) ?_
  refine lv_aload_n hx hb dL_law_414 rfl (lv_at hl 3 rfl) ?_
  refine lv_iload_n hx hb dL_law_415 rfl (lv_at hl 0 rfl) ?_
  refine lv_iconst (v := 1) hx hb dL_law_416 (by decide) ?_
  refine lv_iadd hx hb dL_law_417 ?_
  refine set_i (y := 1) (by decide) ?_
  refine va_sld hx hb hX hbl hbA hS (vp_in_nI (n := 1) (N := 5) (by decide) (by decide)) dL_law_418 ?_
  refine set_i (y := xs 1) rfl ?_
  refine lv_aload_n hx hb dL_law_419 rfl (lv_at hl 3 rfl) ?_
  refine lv_iload_n hx hb dL_law_420 rfl (lv_at hl 0 rfl) ?_
  refine lv_iconst (v := 2) hx hb dL_law_421 (by decide) ?_
  refine lv_iadd hx hb dL_law_422 ?_
  refine set_i (y := 2) (by decide) ?_
  refine va_sld hx hb hX hbl hbA hS (vp_in_nI (n := 2) (N := 5) (by decide) (by decide)) dL_law_423 ?_
  refine set_i (y := xs 2) rfl ?_
  refine be_i (free := va_A [(h0, .inr (6, [.ref x0, .int 0, .ref x1, .ref x3, .ref x11, .ref x19, .ref x22, .int 0, .ref x29, .ref x33, .ref x36, .ref x42, .int 0, .long 0])), (x3, .inr (0, [.int 0, .ref x4, .ref x5, .int 0, .ref x6, .ref x7, .int 0, .ref x8, .ref x9, .ref x10, .int 9, .int 0]))] H.size) (wc := [(h0, .inr (6, [.ref x0, .int 0, .ref x1, .ref x3, .ref x11, .ref x19, .ref x22, .int 0, .ref x29, .ref x33, .ref x36, .ref x42, .int 0, .long 0])), (x3, .inr (0, [.int 0, .ref x4, .ref x5, .int 0, .ref x6, .ref x7, .int 0, .ref x8, .ref x9, .ref x10, .int 9, .int 0]))]) (wr := [(y0, .inr (7, [.long 0, .ref m0, .int 0, .ref m1, .ref m2, .ref m3, .ref m4, .ref m5, .ref m6, .ref m7, .ref m8, .ref m9, .ref m10, .ref m11, .int 0, .int 0, .int 0, .int 0, .int 0, .int 0, .ref m12, .ref m13, .ref m14, .ref m15, .ref m16, .ref m17, .ref m18, .ref m19, .int 0])), (m4, .inl (cI, 2, .inl zf))]) (ru_V (As := [.int (xs 1), .int (xs 2)]) (rest := []) ⟨hx, hb, hml, hown, hts⟩ (c_X_loses l D cI cB cZ cN h0 x0 x1 x3 x11 x19 x22 x29 x33 x36 x42 x4 x5 x6 x7 x8 x9 x10 (xs 1) (xs 2) H.size) (gtr gL_law_X6_loses) rfl ⟨rfl, by decide, by decide, (show Option.map (fun d => d.parameters.length) (parseMethodDescriptor yX6_loses.desc) = some 2 by decide +kernel)⟩ ⟨Nat.le_of_ble_eq_true rfl, Nat.le_of_ble_eq_true rfl⟩ hK hP hD 6 0 rfl rfl [0, 1] (by decide) rfl hl.1 rfl (Nat.le_of_ble_eq_true rfl) dL_law_424 ⟨Nat.le_of_ble_eq_true rfl, Nat.le_of_ble_eq_true rfl⟩) hP hD hS hA [0, 1] [2, 3] rfl rfl (by decide) (by decide) (fun r2 u1 H locs w3 hP hD hS => ?_)
  have hP : va_P D vwCl [(y0, .inr (7, [.long 0, .ref m0, .int 0, .ref m1, .ref m2, .ref m3, .ref m4, .ref m5, .ref m6, .ref m7, .ref m8, .ref m9, .ref m10, .ref m11, .int 0, .int 0, .int 0, .int 0, .int 0, .int 0, .ref m12, .ref m13, .ref m14, .ref m15, .ref m16, .ref m17, .ref m18, .ref m19, .int 0])), (m4, .inl (cI, 2, .inl zf))] H := hP
  have hD : va_D A [(y0, .inr (7, [.long 0, .ref m0, .int 0, .ref m1, .ref m2, .ref m3, .ref m4, .ref m5, .ref m6, .ref m7, .ref m8, .ref m9, .ref m10, .ref m11, .int 0, .int 0, .int 0, .int 0, .int 0, .int 0, .ref m12, .ref m13, .ref m14, .ref m15, .ref m16, .ref m17, .ref m18, .ref m19, .int 0])), (m4, .inl (cI, 2, .inl zf))] := hD
  obtain rfl : r2 = -1 := w3
  refine lv_aload_n hx hb dL_law_427 rfl (lv_at hl 1 rfl) ?_
  refine lv_aload_n hx hb dL_law_428 rfl (lv_at hl 3 rfl) ?_
  refine lv_iload_n hx hb dL_law_429 rfl (lv_at hl 0 rfl) ?_
  refine lv_iconst (v := 1) hx hb dL_law_430 (by decide) ?_
  refine lv_iadd hx hb dL_law_431 ?_
  refine set_i (y := 1) (by decide) ?_
  refine va_sld hx hb hX hbl hbA hS (vp_in_nI (n := 1) (N := 5) (by decide) (by decide)) dL_law_432 ?_
  refine set_i (y := xs 1) rfl ?_
  refine lv_aload_n hx hb dL_law_433 rfl (lv_at hl 3 rfl) ?_
  refine lv_iload_n hx hb dL_law_434 rfl (lv_at hl 0 rfl) ?_
  refine lv_iconst (v := 2) hx hb dL_law_435 (by decide) ?_
  refine lv_iadd hx hb dL_law_436 ?_
  refine set_i (y := 2) (by decide) ?_
  refine va_sld hx hb hX hbl hbA hS (vp_in_nI (n := 2) (N := 5) (by decide) (by decide)) dL_law_437 ?_
  refine set_i (y := xs 2) rfl ?_
  refine be_i (free := va_A [(y0, .inr (7, [.long 0, .ref m0, .int 0, .ref m1, .ref m2, .ref m3, .ref m4, .ref m5, .ref m6, .ref m7, .ref m8, .ref m9, .ref m10, .ref m11, .int 0, .int 0, .int 0, .int 0, .int 0, .int 0, .ref m12, .ref m13, .ref m14, .ref m15, .ref m16, .ref m17, .ref m18, .ref m19, .int 0])), (m4, .inl (cI, 2, .inl zf))] H.size) (wc := [(y0, .inr (7, [.long 0, .ref m0, .int 0, .ref m1, .ref m2, .ref m3, .ref m4, .ref m5, .ref m6, .ref m7, .ref m8, .ref m9, .ref m10, .ref m11, .int 0, .int 0, .int 0, .int 0, .int 0, .int 0, .ref m12, .ref m13, .ref m14, .ref m15, .ref m16, .ref m17, .ref m18, .ref m19, .int 0])), (m4, .inl (cI, 2, .inl zf))]) (wr := []) (ru_V (As := [.int (xs 1), .int (xs 2)]) (rest := [.int (-1)]) ⟨hx, hb, hml, hown, hts⟩ (c_M_loses l D cI cB cZ cN y0 m0 m1 m2 m3 m4 m5 m6 m7 m8 m9 m10 m11 m12 m13 m14 m15 m16 m17 m18 m19 (xs 1) (xs 2) H.size) (gtr gL_law_X7_loses) rfl ⟨rfl, by decide, by decide, (show Option.map (fun d => d.parameters.length) (parseMethodDescriptor yX7_loses.desc) = some 2 by decide +kernel)⟩ ⟨Nat.le_of_ble_eq_true rfl, Nat.le_of_ble_eq_true rfl⟩ hK hP hD 7 0 rfl rfl [0, 1] (by decide) rfl hl.1 rfl (Nat.le_of_ble_eq_true rfl) dL_law_438 ⟨Nat.le_of_ble_eq_true rfl, Nat.le_of_ble_eq_true rfl⟩) hP hD hS hA [0, 1] [] rfl rfl (by decide) (by decide) (fun r5 u4 H locs w6 hP hD hS => ?_)
  have hP : va_P D vwCl [] H := hP
  have hD : va_D A [] := hD
  obtain rfl : r5 = -1 := w6
  refine lv_icmp_eq (tgt := 868) hx hb dL_law_441 (by decide) (fun h7 => ?_) (fun h7 => absurd (by decide) h7)
  exact law_tail C0 hAf hS (lv_sub hl [3, 0] rfl) (Nat.le_of_ble_eq_true rfl) (Nat.le_of_ble_eq_true rfl)
theorem dL_law_446 : decode cL_law 446 = .ok (.aload_n 1, 1) := by decide +kernel
theorem dL_law_447 : decode cL_law 447 = .ok (.aload_n 0, 1) := by decide +kernel
theorem dL_law_448 : decode cL_law 448 = .ok (.iload_n 3, 1) := by decide +kernel
theorem dL_law_449 : decode cL_law 449 = .ok (.iconst 1, 1) := by decide +kernel
theorem dL_law_450 : decode cL_law 450 = .ok (.iadd, 1) := by decide +kernel
theorem dL_law_451 : decode cL_law 451 = .ok (.iaload, 1) := by decide +kernel
theorem dL_law_452 : decode cL_law 452 = .ok (.aload_n 0, 1) := by decide +kernel
theorem dL_law_453 : decode cL_law 453 = .ok (.iload_n 3, 1) := by decide +kernel
theorem dL_law_454 : decode cL_law 454 = .ok (.iconst 2, 1) := by decide +kernel
theorem dL_law_455 : decode cL_law 455 = .ok (.iadd, 1) := by decide +kernel
theorem dL_law_456 : decode cL_law 456 = .ok (.iaload, 1) := by decide +kernel
theorem dL_law_457 : decode cL_law 457 = .ok (.invokevirtual 57, 3) := by decide +kernel
set_option maxRecDepth 20000 in
theorem ggL_law_X6_finds : GoodIn wsL_law wsX6_finds := goodIn_r _ [478, 22, 27, 303, 21, 304, 305, 60, 258, 259, 260, 57, 276, 26, 277, 278, 72, 432, 433, 434, 74, 73, 217, 218, 219, 220, 440, 441, 442, 739, 740, 741, 742, 743, 744, 745, 746, 747, 748, 749, 750, 751, 752, 788, 789, 790, 791, 792, 793, 794, 795, 796, 797, 798, 799, 800, 801, 802] (by decide +kernel) (by decide +kernel)
set_option maxRecDepth 20000 in
theorem gL_law_X6_finds : GoodIn wsL_law (wsV RL 57 RX6 yX6_finds wsX6_finds) := goodIn_app (goodIn_of _ (by decide +kernel)) ggL_law_X6_finds
theorem dL_law_460 : decode cL_law 460 = .ok (.aload_n 2, 1) := by decide +kernel
theorem dL_law_461 : decode cL_law 461 = .ok (.aload_n 0, 1) := by decide +kernel
theorem dL_law_462 : decode cL_law 462 = .ok (.iload_n 3, 1) := by decide +kernel
theorem dL_law_463 : decode cL_law 463 = .ok (.iconst 1, 1) := by decide +kernel
theorem dL_law_464 : decode cL_law 464 = .ok (.iadd, 1) := by decide +kernel
theorem dL_law_465 : decode cL_law 465 = .ok (.iaload, 1) := by decide +kernel
theorem dL_law_466 : decode cL_law 466 = .ok (.aload_n 0, 1) := by decide +kernel
theorem dL_law_467 : decode cL_law 467 = .ok (.iload_n 3, 1) := by decide +kernel
theorem dL_law_468 : decode cL_law 468 = .ok (.iconst 2, 1) := by decide +kernel
theorem dL_law_469 : decode cL_law 469 = .ok (.iadd, 1) := by decide +kernel
theorem dL_law_470 : decode cL_law 470 = .ok (.iaload, 1) := by decide +kernel
theorem dL_law_471 : decode cL_law 471 = .ok (.invokevirtual 60, 3) := by decide +kernel
set_option maxRecDepth 20000 in
theorem ggL_law_X7_finds : GoodIn wsL_law wsX7_finds := goodIn_r _ [482, 114, 321, 322, 323, 5, 324, 106, 142, 143, 144, 283, 284, 285, 286, 103, 451, 452, 453, 454, 753, 754, 755, 756, 757, 758, 759, 760, 761, 762, 763, 764, 765, 766, 767, 768, 769, 770, 771, 772, 773, 774, 775, 776, 777, 778, 779, 780, 781] (by decide +kernel) (by decide +kernel)
set_option maxRecDepth 20000 in
theorem gL_law_X7_finds : GoodIn wsL_law (wsV RL 60 RX7 yX7_finds wsX7_finds) := goodIn_app (goodIn_of _ (by decide +kernel)) ggL_law_X7_finds
theorem dL_law_474 : decode cL_law 474 = .ok (.if_icmp .eq 394, 3) := by decide +kernel
set_option maxHeartbeats 4000000 in
set_option maxRecDepth 100000 in
theorem law_10 {p : Program} {l : Launch} {e : Env} {s : State} {m : MethodId} {below : List Frame} {meth : Method} {c : Code} {D : va_G} {cI cB cZ cN : ClassId} {A : Nat → Prop} {b : Nat} {xs : Nat → Int32} {H : Heap} {locs : List Loc} {ls : Array Slot} {h0 x0 x1 x3 x11 x19 x22 x29 x33 x36 x42 x4 x5 x6 x7 x8 x9 x10 y0 m0 m1 m2 m3 m4 m5 m6 m7 m8 m9 m10 m11 m12 m13 m14 m15 m16 m17 m18 m19 : Nat} (C0 : lw_At p s m meth c b 5 xs) (hK : KN D cI cB cZ cN s) (hA : ∀ q : Nat, s.heap.size ≤ q → A q) (hAf : ∀ q : Nat, A q → s.heap.size ≤ q) (hP : va_P D vwCl [(h0, .inr (6, [.ref x0, .int 0, .ref x1, .ref x3, .ref x11, .ref x19, .ref x22, .int 0, .ref x29, .ref x33, .ref x36, .ref x42, .int 0, .long 0])), (x3, .inr (0, [.int 0, .ref x4, .ref x5, .int 0, .ref x6, .ref x7, .int 0, .ref x8, .ref x9, .ref x10, .int 9, .int 0])), (y0, .inr (7, [.long 0, .ref m0, .int 0, .ref m1, .ref m2, .ref m3, .ref m4, .ref m5, .ref m6, .ref m7, .ref m8, .ref m9, .ref m10, .ref m11, .int 0, .int 0, .int 0, .int 0, .int 0, .int 0, .ref m12, .ref m13, .ref m14, .ref m15, .ref m16, .ref m17, .ref m18, .ref m19, .int 0])), (m4, .inl (cI, 2, .inl zf))] H) (hD : va_D A [(h0, .inr (6, [.ref x0, .int 0, .ref x1, .ref x3, .ref x11, .ref x19, .ref x22, .int 0, .ref x29, .ref x33, .ref x36, .ref x42, .int 0, .long 0])), (x3, .inr (0, [.int 0, .ref x4, .ref x5, .int 0, .ref x6, .ref x7, .int 0, .ref x8, .ref x9, .ref x10, .int 9, .int 0])), (y0, .inr (7, [.long 0, .ref m0, .int 0, .ref m1, .ref m2, .ref m3, .ref m4, .ref m5, .ref m6, .ref m7, .ref m8, .ref m9, .ref m10, .ref m11, .int 0, .int 0, .int 0, .int 0, .int 0, .int 0, .ref m12, .ref m13, .ref m14, .ref m15, .ref m16, .ref m17, .ref m18, .ref m19, .int 0])), (m4, .inl (cI, 2, .inl zf))]) (hS : va_S A s.heap H locs) (hl : lv_has ls 4 [(3, .int 0), (2, .ref y0), (1, .ref h0), (0, .ref b)]) : W p l e room_1 s m #[Value.ref b] below meth c H locs 65 4410 (lw_Z below #[Value.ref b] s) (F0 m 446 ls []) := by
  obtain ⟨hx, hb, hr, hml, hown, hts, hX, hbl, hlk, hgv⟩ := id C0
  have hown : s.vm.findClass RL = some m.cls := hown
  have hbA : ¬ A b := fun q => absurd (hAf b q) (Nat.not_le.mpr hbl)
  refine lv_aload_n hx hb dL_law_446 rfl (lv_at hl 2 rfl) ?_
  refine lv_aload_n hx hb dL_law_447 rfl (lv_at hl 3 rfl) ?_
  refine lv_iload_n hx hb dL_law_448 rfl (lv_at hl 0 rfl) ?_
  refine lv_iconst (v := 1) hx hb dL_law_449 (by decide) ?_
  refine lv_iadd hx hb dL_law_450 ?_
  refine set_i (y := 1) (by decide) ?_
  refine va_sld hx hb hX hbl hbA hS (vp_in_nI (n := 1) (N := 5) (by decide) (by decide)) dL_law_451 ?_
  refine set_i (y := xs 1) rfl ?_
  refine lv_aload_n hx hb dL_law_452 rfl (lv_at hl 3 rfl) ?_
  refine lv_iload_n hx hb dL_law_453 rfl (lv_at hl 0 rfl) ?_
  refine lv_iconst (v := 2) hx hb dL_law_454 (by decide) ?_
  refine lv_iadd hx hb dL_law_455 ?_
  refine set_i (y := 2) (by decide) ?_
  refine va_sld hx hb hX hbl hbA hS (vp_in_nI (n := 2) (N := 5) (by decide) (by decide)) dL_law_456 ?_
  refine set_i (y := xs 2) rfl ?_
  refine be_i (free := va_A [(h0, .inr (6, [.ref x0, .int 0, .ref x1, .ref x3, .ref x11, .ref x19, .ref x22, .int 0, .ref x29, .ref x33, .ref x36, .ref x42, .int 0, .long 0])), (x3, .inr (0, [.int 0, .ref x4, .ref x5, .int 0, .ref x6, .ref x7, .int 0, .ref x8, .ref x9, .ref x10, .int 9, .int 0]))] H.size) (wc := [(h0, .inr (6, [.ref x0, .int 0, .ref x1, .ref x3, .ref x11, .ref x19, .ref x22, .int 0, .ref x29, .ref x33, .ref x36, .ref x42, .int 0, .long 0])), (x3, .inr (0, [.int 0, .ref x4, .ref x5, .int 0, .ref x6, .ref x7, .int 0, .ref x8, .ref x9, .ref x10, .int 9, .int 0]))]) (wr := [(y0, .inr (7, [.long 0, .ref m0, .int 0, .ref m1, .ref m2, .ref m3, .ref m4, .ref m5, .ref m6, .ref m7, .ref m8, .ref m9, .ref m10, .ref m11, .int 0, .int 0, .int 0, .int 0, .int 0, .int 0, .ref m12, .ref m13, .ref m14, .ref m15, .ref m16, .ref m17, .ref m18, .ref m19, .int 0])), (m4, .inl (cI, 2, .inl zf))]) (ru_V (As := [.int (xs 1), .int (xs 2)]) (rest := []) ⟨hx, hb, hml, hown, hts⟩ (c_X_finds l D cI cB cZ cN h0 x0 x1 x3 x11 x19 x22 x29 x33 x36 x42 x4 x5 x6 x7 x8 x9 x10 (xs 1) (xs 2) H.size) (gtr gL_law_X6_finds) rfl ⟨rfl, by decide, by decide, (show Option.map (fun d => d.parameters.length) (parseMethodDescriptor yX6_finds.desc) = some 2 by decide +kernel)⟩ ⟨Nat.le_of_ble_eq_true rfl, Nat.le_of_ble_eq_true rfl⟩ hK hP hD 6 0 rfl rfl [0, 1] (by decide) rfl hl.1 rfl (Nat.le_of_ble_eq_true rfl) dL_law_457 ⟨Nat.le_of_ble_eq_true rfl, Nat.le_of_ble_eq_true rfl⟩) hP hD hS hA [0, 1] [2, 3] rfl rfl (by decide) (by decide) (fun r2 u1 H locs w3 hP hD hS => ?_)
  have hP : va_P D vwCl [(y0, .inr (7, [.long 0, .ref m0, .int 0, .ref m1, .ref m2, .ref m3, .ref m4, .ref m5, .ref m6, .ref m7, .ref m8, .ref m9, .ref m10, .ref m11, .int 0, .int 0, .int 0, .int 0, .int 0, .int 0, .ref m12, .ref m13, .ref m14, .ref m15, .ref m16, .ref m17, .ref m18, .ref m19, .int 0])), (m4, .inl (cI, 2, .inl zf))] H := hP
  have hD : va_D A [(y0, .inr (7, [.long 0, .ref m0, .int 0, .ref m1, .ref m2, .ref m3, .ref m4, .ref m5, .ref m6, .ref m7, .ref m8, .ref m9, .ref m10, .ref m11, .int 0, .int 0, .int 0, .int 0, .int 0, .int 0, .ref m12, .ref m13, .ref m14, .ref m15, .ref m16, .ref m17, .ref m18, .ref m19, .int 0])), (m4, .inl (cI, 2, .inl zf))] := hD
  obtain rfl : r2 = -1 := w3
  refine lv_aload_n hx hb dL_law_460 rfl (lv_at hl 1 rfl) ?_
  refine lv_aload_n hx hb dL_law_461 rfl (lv_at hl 3 rfl) ?_
  refine lv_iload_n hx hb dL_law_462 rfl (lv_at hl 0 rfl) ?_
  refine lv_iconst (v := 1) hx hb dL_law_463 (by decide) ?_
  refine lv_iadd hx hb dL_law_464 ?_
  refine set_i (y := 1) (by decide) ?_
  refine va_sld hx hb hX hbl hbA hS (vp_in_nI (n := 1) (N := 5) (by decide) (by decide)) dL_law_465 ?_
  refine set_i (y := xs 1) rfl ?_
  refine lv_aload_n hx hb dL_law_466 rfl (lv_at hl 3 rfl) ?_
  refine lv_iload_n hx hb dL_law_467 rfl (lv_at hl 0 rfl) ?_
  refine lv_iconst (v := 2) hx hb dL_law_468 (by decide) ?_
  refine lv_iadd hx hb dL_law_469 ?_
  refine set_i (y := 2) (by decide) ?_
  refine va_sld hx hb hX hbl hbA hS (vp_in_nI (n := 2) (N := 5) (by decide) (by decide)) dL_law_470 ?_
  refine set_i (y := xs 2) rfl ?_
  refine be_i (free := va_A [(y0, .inr (7, [.long 0, .ref m0, .int 0, .ref m1, .ref m2, .ref m3, .ref m4, .ref m5, .ref m6, .ref m7, .ref m8, .ref m9, .ref m10, .ref m11, .int 0, .int 0, .int 0, .int 0, .int 0, .int 0, .ref m12, .ref m13, .ref m14, .ref m15, .ref m16, .ref m17, .ref m18, .ref m19, .int 0])), (m4, .inl (cI, 2, .inl zf))] H.size) (wc := [(y0, .inr (7, [.long 0, .ref m0, .int 0, .ref m1, .ref m2, .ref m3, .ref m4, .ref m5, .ref m6, .ref m7, .ref m8, .ref m9, .ref m10, .ref m11, .int 0, .int 0, .int 0, .int 0, .int 0, .int 0, .ref m12, .ref m13, .ref m14, .ref m15, .ref m16, .ref m17, .ref m18, .ref m19, .int 0])), (m4, .inl (cI, 2, .inl zf))]) (wr := []) (ru_V (As := [.int (xs 1), .int (xs 2)]) (rest := [.int (-1)]) ⟨hx, hb, hml, hown, hts⟩ (c_M_finds l D cI cB cZ cN y0 m0 m1 m2 m3 m4 m5 m6 m7 m8 m9 m10 m11 m12 m13 m14 m15 m16 m17 m18 m19 (xs 1) (xs 2) H.size) (gtr gL_law_X7_finds) rfl ⟨rfl, by decide, by decide, (show Option.map (fun d => d.parameters.length) (parseMethodDescriptor yX7_finds.desc) = some 2 by decide +kernel)⟩ ⟨Nat.le_of_ble_eq_true rfl, Nat.le_of_ble_eq_true rfl⟩ hK hP hD 7 0 rfl rfl [0, 1] (by decide) rfl hl.1 rfl (Nat.le_of_ble_eq_true rfl) dL_law_471 ⟨Nat.le_of_ble_eq_true rfl, Nat.le_of_ble_eq_true rfl⟩) hP hD hS hA [0, 1] [] rfl rfl (by decide) (by decide) (fun r5 u4 H locs w6 hP hD hS => ?_)
  have hP : va_P D vwCl [] H := hP
  have hD : va_D A [] := hD
  obtain rfl : r5 = -1 := w6
  refine lv_icmp_eq (tgt := 868) hx hb dL_law_474 (by decide) (fun h7 => ?_) (fun h7 => absurd (by decide) h7)
  exact law_tail C0 hAf hS (lv_sub hl [3, 0] rfl) (Nat.le_of_ble_eq_true rfl) (Nat.le_of_ble_eq_true rfl)
theorem dL_law_479 : decode cL_law 479 = .ok (.aload_n 1, 1) := by decide +kernel
theorem dL_law_480 : decode cL_law 480 = .ok (.aload_n 0, 1) := by decide +kernel
theorem dL_law_481 : decode cL_law 481 = .ok (.iload_n 3, 1) := by decide +kernel
theorem dL_law_482 : decode cL_law 482 = .ok (.iconst 1, 1) := by decide +kernel
theorem dL_law_483 : decode cL_law 483 = .ok (.iadd, 1) := by decide +kernel
theorem dL_law_484 : decode cL_law 484 = .ok (.iaload, 1) := by decide +kernel
theorem dL_law_485 : decode cL_law 485 = .ok (.aload_n 0, 1) := by decide +kernel
theorem dL_law_486 : decode cL_law 486 = .ok (.iload_n 3, 1) := by decide +kernel
theorem dL_law_487 : decode cL_law 487 = .ok (.iconst 2, 1) := by decide +kernel
theorem dL_law_488 : decode cL_law 488 = .ok (.iadd, 1) := by decide +kernel
theorem dL_law_489 : decode cL_law 489 = .ok (.iaload, 1) := by decide +kernel
theorem dL_law_490 : decode cL_law 490 = .ok (.invokevirtual 61, 3) := by decide +kernel
set_option maxRecDepth 20000 in
theorem ggL_law_X6_passes : GoodIn wsL_law wsX6_passes := goodIn_r _ [486, 22, 27, 345, 21, 346, 347, 63, 303, 304, 305, 60, 348, 26, 349, 350, 72, 351, 352, 353, 432, 433, 434, 74, 73, 217, 218, 219, 220, 487, 488, 489, 739, 740, 741, 742, 743, 744, 745, 746, 747, 748, 749, 750, 751, 752, 788, 789, 790, 791, 792, 793, 794, 795, 796, 797, 798, 799, 800, 801, 802] (by decide +kernel) (by decide +kernel)
set_option maxRecDepth 20000 in
theorem gL_law_X6_passes : GoodIn wsL_law (wsV RL 61 RX6 yX6_passes wsX6_passes) := goodIn_app (goodIn_of _ (by decide +kernel)) ggL_law_X6_passes
theorem dL_law_493 : decode cL_law 493 = .ok (.aload_n 2, 1) := by decide +kernel
theorem dL_law_494 : decode cL_law 494 = .ok (.aload_n 0, 1) := by decide +kernel
theorem dL_law_495 : decode cL_law 495 = .ok (.iload_n 3, 1) := by decide +kernel
theorem dL_law_496 : decode cL_law 496 = .ok (.iconst 1, 1) := by decide +kernel
theorem dL_law_497 : decode cL_law 497 = .ok (.iadd, 1) := by decide +kernel
theorem dL_law_498 : decode cL_law 498 = .ok (.iaload, 1) := by decide +kernel
theorem dL_law_499 : decode cL_law 499 = .ok (.aload_n 0, 1) := by decide +kernel
theorem dL_law_500 : decode cL_law 500 = .ok (.iload_n 3, 1) := by decide +kernel
theorem dL_law_501 : decode cL_law 501 = .ok (.iconst 2, 1) := by decide +kernel
theorem dL_law_502 : decode cL_law 502 = .ok (.iadd, 1) := by decide +kernel
theorem dL_law_503 : decode cL_law 503 = .ok (.iaload, 1) := by decide +kernel
theorem dL_law_504 : decode cL_law 504 = .ok (.invokevirtual 64, 3) := by decide +kernel
set_option maxRecDepth 20000 in
theorem ggL_law_X7_passes : GoodIn wsL_law wsX7_passes := goodIn_r _ [493, 114, 110, 396, 397, 398, 5, 399, 109, 142, 143, 144, 321, 322, 323, 324, 106, 400, 401, 402, 403, 451, 452, 453, 454, 753, 754, 755, 756, 757, 758, 759, 760, 761, 762, 763, 764, 765, 766, 767, 768, 769, 770, 771, 772, 773, 774, 775, 776, 777, 778, 779, 780, 781] (by decide +kernel) (by decide +kernel)
set_option maxRecDepth 20000 in
theorem gL_law_X7_passes : GoodIn wsL_law (wsV RL 64 RX7 yX7_passes wsX7_passes) := goodIn_app (goodIn_of _ (by decide +kernel)) ggL_law_X7_passes
theorem dL_law_507 : decode cL_law 507 = .ok (.if_icmp .eq 361, 3) := by decide +kernel
set_option maxHeartbeats 4000000 in
set_option maxRecDepth 100000 in
theorem law_11 {p : Program} {l : Launch} {e : Env} {s : State} {m : MethodId} {below : List Frame} {meth : Method} {c : Code} {D : va_G} {cI cB cZ cN : ClassId} {A : Nat → Prop} {b : Nat} {xs : Nat → Int32} {H : Heap} {locs : List Loc} {ls : Array Slot} {h0 x0 x1 x3 x11 x19 x22 x29 x33 x36 x42 x4 x5 x6 x7 x8 x9 x10 y0 m0 m1 m2 m3 m4 m5 m6 m7 m8 m9 m10 m11 m12 m13 m14 m15 m16 m17 m18 m19 : Nat} (C0 : lw_At p s m meth c b 5 xs) (hK : KN D cI cB cZ cN s) (hA : ∀ q : Nat, s.heap.size ≤ q → A q) (hAf : ∀ q : Nat, A q → s.heap.size ≤ q) (hP : va_P D vwCl [(h0, .inr (6, [.ref x0, .int 0, .ref x1, .ref x3, .ref x11, .ref x19, .ref x22, .int 0, .ref x29, .ref x33, .ref x36, .ref x42, .int 0, .long 0])), (x3, .inr (0, [.int 0, .ref x4, .ref x5, .int 0, .ref x6, .ref x7, .int 0, .ref x8, .ref x9, .ref x10, .int 9, .int 0])), (y0, .inr (7, [.long 0, .ref m0, .int 0, .ref m1, .ref m2, .ref m3, .ref m4, .ref m5, .ref m6, .ref m7, .ref m8, .ref m9, .ref m10, .ref m11, .int 0, .int 0, .int 0, .int 0, .int 0, .int 0, .ref m12, .ref m13, .ref m14, .ref m15, .ref m16, .ref m17, .ref m18, .ref m19, .int 0])), (m7, .inl (cI, 2, .inl zf))] H) (hD : va_D A [(h0, .inr (6, [.ref x0, .int 0, .ref x1, .ref x3, .ref x11, .ref x19, .ref x22, .int 0, .ref x29, .ref x33, .ref x36, .ref x42, .int 0, .long 0])), (x3, .inr (0, [.int 0, .ref x4, .ref x5, .int 0, .ref x6, .ref x7, .int 0, .ref x8, .ref x9, .ref x10, .int 9, .int 0])), (y0, .inr (7, [.long 0, .ref m0, .int 0, .ref m1, .ref m2, .ref m3, .ref m4, .ref m5, .ref m6, .ref m7, .ref m8, .ref m9, .ref m10, .ref m11, .int 0, .int 0, .int 0, .int 0, .int 0, .int 0, .ref m12, .ref m13, .ref m14, .ref m15, .ref m16, .ref m17, .ref m18, .ref m19, .int 0])), (m7, .inl (cI, 2, .inl zf))]) (hS : va_S A s.heap H locs) (hl : lv_has ls 4 [(3, .int 0), (2, .ref y0), (1, .ref h0), (0, .ref b)]) : W p l e room_1 s m #[Value.ref b] below meth c H locs 65 4410 (lw_Z below #[Value.ref b] s) (F0 m 479 ls []) := by
  obtain ⟨hx, hb, hr, hml, hown, hts, hX, hbl, hlk, hgv⟩ := id C0
  have hown : s.vm.findClass RL = some m.cls := hown
  have hbA : ¬ A b := fun q => absurd (hAf b q) (Nat.not_le.mpr hbl)
  refine lv_aload_n hx hb dL_law_479 rfl (lv_at hl 2 rfl) ?_
  refine lv_aload_n hx hb dL_law_480 rfl (lv_at hl 3 rfl) ?_
  refine lv_iload_n hx hb dL_law_481 rfl (lv_at hl 0 rfl) ?_
  refine lv_iconst (v := 1) hx hb dL_law_482 (by decide) ?_
  refine lv_iadd hx hb dL_law_483 ?_
  refine set_i (y := 1) (by decide) ?_
  refine va_sld hx hb hX hbl hbA hS (vp_in_nI (n := 1) (N := 5) (by decide) (by decide)) dL_law_484 ?_
  refine set_i (y := xs 1) rfl ?_
  refine lv_aload_n hx hb dL_law_485 rfl (lv_at hl 3 rfl) ?_
  refine lv_iload_n hx hb dL_law_486 rfl (lv_at hl 0 rfl) ?_
  refine lv_iconst (v := 2) hx hb dL_law_487 (by decide) ?_
  refine lv_iadd hx hb dL_law_488 ?_
  refine set_i (y := 2) (by decide) ?_
  refine va_sld hx hb hX hbl hbA hS (vp_in_nI (n := 2) (N := 5) (by decide) (by decide)) dL_law_489 ?_
  refine set_i (y := xs 2) rfl ?_
  refine be_i (free := va_A [(h0, .inr (6, [.ref x0, .int 0, .ref x1, .ref x3, .ref x11, .ref x19, .ref x22, .int 0, .ref x29, .ref x33, .ref x36, .ref x42, .int 0, .long 0])), (x3, .inr (0, [.int 0, .ref x4, .ref x5, .int 0, .ref x6, .ref x7, .int 0, .ref x8, .ref x9, .ref x10, .int 9, .int 0]))] H.size) (wc := [(h0, .inr (6, [.ref x0, .int 0, .ref x1, .ref x3, .ref x11, .ref x19, .ref x22, .int 0, .ref x29, .ref x33, .ref x36, .ref x42, .int 0, .long 0])), (x3, .inr (0, [.int 0, .ref x4, .ref x5, .int 0, .ref x6, .ref x7, .int 0, .ref x8, .ref x9, .ref x10, .int 9, .int 0]))]) (wr := [(y0, .inr (7, [.long 0, .ref m0, .int 0, .ref m1, .ref m2, .ref m3, .ref m4, .ref m5, .ref m6, .ref m7, .ref m8, .ref m9, .ref m10, .ref m11, .int 0, .int 0, .int 0, .int 0, .int 0, .int 0, .ref m12, .ref m13, .ref m14, .ref m15, .ref m16, .ref m17, .ref m18, .ref m19, .int 0])), (m7, .inl (cI, 2, .inl zf))]) (ru_V (As := [.int (xs 1), .int (xs 2)]) (rest := []) ⟨hx, hb, hml, hown, hts⟩ (c_X_passes l D cI cB cZ cN h0 x0 x1 x3 x11 x19 x22 x29 x33 x36 x42 x4 x5 x6 x7 x8 x9 x10 (xs 1) (xs 2) H.size) (gtr gL_law_X6_passes) rfl ⟨rfl, by decide, by decide, (show Option.map (fun d => d.parameters.length) (parseMethodDescriptor yX6_passes.desc) = some 2 by decide +kernel)⟩ ⟨Nat.le_of_ble_eq_true rfl, Nat.le_of_ble_eq_true rfl⟩ hK hP hD 6 0 rfl rfl [0, 1] (by decide) rfl hl.1 rfl (Nat.le_of_ble_eq_true rfl) dL_law_490 ⟨Nat.le_of_ble_eq_true rfl, Nat.le_of_ble_eq_true rfl⟩) hP hD hS hA [0, 1] [2, 3] rfl rfl (by decide) (by decide) (fun r2 u1 H locs w3 hP hD hS => ?_)
  have hP : va_P D vwCl [(y0, .inr (7, [.long 0, .ref m0, .int 0, .ref m1, .ref m2, .ref m3, .ref m4, .ref m5, .ref m6, .ref m7, .ref m8, .ref m9, .ref m10, .ref m11, .int 0, .int 0, .int 0, .int 0, .int 0, .int 0, .ref m12, .ref m13, .ref m14, .ref m15, .ref m16, .ref m17, .ref m18, .ref m19, .int 0])), (m7, .inl (cI, 2, .inl zf))] H := hP
  have hD : va_D A [(y0, .inr (7, [.long 0, .ref m0, .int 0, .ref m1, .ref m2, .ref m3, .ref m4, .ref m5, .ref m6, .ref m7, .ref m8, .ref m9, .ref m10, .ref m11, .int 0, .int 0, .int 0, .int 0, .int 0, .int 0, .ref m12, .ref m13, .ref m14, .ref m15, .ref m16, .ref m17, .ref m18, .ref m19, .int 0])), (m7, .inl (cI, 2, .inl zf))] := hD
  obtain rfl : r2 = -1 := w3
  refine lv_aload_n hx hb dL_law_493 rfl (lv_at hl 1 rfl) ?_
  refine lv_aload_n hx hb dL_law_494 rfl (lv_at hl 3 rfl) ?_
  refine lv_iload_n hx hb dL_law_495 rfl (lv_at hl 0 rfl) ?_
  refine lv_iconst (v := 1) hx hb dL_law_496 (by decide) ?_
  refine lv_iadd hx hb dL_law_497 ?_
  refine set_i (y := 1) (by decide) ?_
  refine va_sld hx hb hX hbl hbA hS (vp_in_nI (n := 1) (N := 5) (by decide) (by decide)) dL_law_498 ?_
  refine set_i (y := xs 1) rfl ?_
  refine lv_aload_n hx hb dL_law_499 rfl (lv_at hl 3 rfl) ?_
  refine lv_iload_n hx hb dL_law_500 rfl (lv_at hl 0 rfl) ?_
  refine lv_iconst (v := 2) hx hb dL_law_501 (by decide) ?_
  refine lv_iadd hx hb dL_law_502 ?_
  refine set_i (y := 2) (by decide) ?_
  refine va_sld hx hb hX hbl hbA hS (vp_in_nI (n := 2) (N := 5) (by decide) (by decide)) dL_law_503 ?_
  refine set_i (y := xs 2) rfl ?_
  refine be_i (free := va_A [(y0, .inr (7, [.long 0, .ref m0, .int 0, .ref m1, .ref m2, .ref m3, .ref m4, .ref m5, .ref m6, .ref m7, .ref m8, .ref m9, .ref m10, .ref m11, .int 0, .int 0, .int 0, .int 0, .int 0, .int 0, .ref m12, .ref m13, .ref m14, .ref m15, .ref m16, .ref m17, .ref m18, .ref m19, .int 0])), (m7, .inl (cI, 2, .inl zf))] H.size) (wc := [(y0, .inr (7, [.long 0, .ref m0, .int 0, .ref m1, .ref m2, .ref m3, .ref m4, .ref m5, .ref m6, .ref m7, .ref m8, .ref m9, .ref m10, .ref m11, .int 0, .int 0, .int 0, .int 0, .int 0, .int 0, .ref m12, .ref m13, .ref m14, .ref m15, .ref m16, .ref m17, .ref m18, .ref m19, .int 0])), (m7, .inl (cI, 2, .inl zf))]) (wr := []) (ru_V (As := [.int (xs 1), .int (xs 2)]) (rest := [.int (-1)]) ⟨hx, hb, hml, hown, hts⟩ (c_M_passes l D cI cB cZ cN y0 m0 m1 m2 m3 m4 m5 m6 m7 m8 m9 m10 m11 m12 m13 m14 m15 m16 m17 m18 m19 (xs 1) (xs 2) H.size) (gtr gL_law_X7_passes) rfl ⟨rfl, by decide, by decide, (show Option.map (fun d => d.parameters.length) (parseMethodDescriptor yX7_passes.desc) = some 2 by decide +kernel)⟩ ⟨Nat.le_of_ble_eq_true rfl, Nat.le_of_ble_eq_true rfl⟩ hK hP hD 7 0 rfl rfl [0, 1] (by decide) rfl hl.1 rfl (Nat.le_of_ble_eq_true rfl) dL_law_504 ⟨Nat.le_of_ble_eq_true rfl, Nat.le_of_ble_eq_true rfl⟩) hP hD hS hA [0, 1] [] rfl rfl (by decide) (by decide) (fun r5 u4 H locs w6 hP hD hS => ?_)
  have hP : va_P D vwCl [] H := hP
  have hD : va_D A [] := hD
  obtain rfl : r5 = -1 := w6
  refine lv_icmp_eq (tgt := 868) hx hb dL_law_507 (by decide) (fun h7 => ?_) (fun h7 => absurd (by decide) h7)
  exact law_tail C0 hAf hS (lv_sub hl [3, 0] rfl) (Nat.le_of_ble_eq_true rfl) (Nat.le_of_ble_eq_true rfl)
theorem dL_law_512 : decode cL_law 512 = .ok (.aload_n 1, 1) := by decide +kernel
theorem dL_law_513 : decode cL_law 513 = .ok (.invokevirtual 65, 3) := by decide +kernel
set_option maxRecDepth 20000 in
theorem ggL_law_X6_undo : GoodIn wsL_law wsX6_undo := goodIn_r _ [497, 27, 498, 26, 499, 500, 74, 73, 72, 217, 218, 219, 220, 739, 740, 741, 742, 743, 744, 745, 746, 747, 748, 749, 750, 751, 752, 800, 801, 802] (by decide +kernel) (by decide +kernel)
set_option maxRecDepth 20000 in
theorem gL_law_X6_undo : GoodIn wsL_law (wsV RL 65 RX6 yX6_undo wsX6_undo) := goodIn_app (goodIn_of _ (by decide +kernel)) ggL_law_X6_undo
theorem dL_law_516 : decode cL_law 516 = .ok (.aload_n 2, 1) := by decide +kernel
theorem dL_law_517 : decode cL_law 517 = .ok (.invokevirtual 68, 3) := by decide +kernel
set_option maxRecDepth 20000 in
theorem ggL_law_X7_undo : GoodIn wsL_law wsX7_undo := goodIn_r _ [504, 114, 753, 754, 755, 756, 757, 758, 759, 760, 761, 762, 763, 764, 765, 766, 767, 768, 769, 770, 771, 772, 773, 774, 775, 776, 777, 778, 779, 780, 781] (by decide +kernel) (by decide +kernel)
set_option maxRecDepth 20000 in
theorem gL_law_X7_undo : GoodIn wsL_law (wsV RL 68 RX7 yX7_undo wsX7_undo) := goodIn_app (goodIn_of _ (by decide +kernel)) ggL_law_X7_undo
theorem dL_law_520 : decode cL_law 520 = .ok (.if_icmp .eq 348, 3) := by decide +kernel
set_option maxHeartbeats 4000000 in
set_option maxRecDepth 100000 in
theorem law_12 {p : Program} {l : Launch} {e : Env} {s : State} {m : MethodId} {below : List Frame} {meth : Method} {c : Code} {D : va_G} {cI cB cZ cN : ClassId} {A : Nat → Prop} {b : Nat} {xs : Nat → Int32} {H : Heap} {locs : List Loc} {ls : Array Slot} {h0 x0 x1 x3 x11 x19 x22 x29 x33 x36 x42 x20 x21 y0 m0 m1 m2 m3 m4 m5 m6 m7 m8 m9 m10 m11 m12 m13 m14 m15 m16 m17 m18 m19 : Nat} (C0 : lw_At p s m meth c b 5 xs) (hK : KN D cI cB cZ cN s) (hA : ∀ q : Nat, s.heap.size ≤ q → A q) (hAf : ∀ q : Nat, A q → s.heap.size ≤ q) (hP : va_P D vwCl [(h0, .inr (6, [.ref x0, .int 0, .ref x1, .ref x3, .ref x11, .ref x19, .ref x22, .int 0, .ref x29, .ref x33, .ref x36, .ref x42, .int 0, .long 0])), (x19, .inr (1, [.ref x20, .ref x21, .int 0])), (y0, .inr (7, [.long 0, .ref m0, .int 0, .ref m1, .ref m2, .ref m3, .ref m4, .ref m5, .ref m6, .ref m7, .ref m8, .ref m9, .ref m10, .ref m11, .int 0, .int 0, .int 0, .int 0, .int 0, .int 0, .ref m12, .ref m13, .ref m14, .ref m15, .ref m16, .ref m17, .ref m18, .ref m19, .int 0])), (m12, .inl (cI, 1191, .inl zf))] H) (hD : va_D A [(h0, .inr (6, [.ref x0, .int 0, .ref x1, .ref x3, .ref x11, .ref x19, .ref x22, .int 0, .ref x29, .ref x33, .ref x36, .ref x42, .int 0, .long 0])), (x19, .inr (1, [.ref x20, .ref x21, .int 0])), (y0, .inr (7, [.long 0, .ref m0, .int 0, .ref m1, .ref m2, .ref m3, .ref m4, .ref m5, .ref m6, .ref m7, .ref m8, .ref m9, .ref m10, .ref m11, .int 0, .int 0, .int 0, .int 0, .int 0, .int 0, .ref m12, .ref m13, .ref m14, .ref m15, .ref m16, .ref m17, .ref m18, .ref m19, .int 0])), (m12, .inl (cI, 1191, .inl zf))]) (hS : va_S A s.heap H locs) (hl : lv_has ls 4 [(3, .int 0), (2, .ref y0), (1, .ref h0), (0, .ref b)]) : W p l e room_1 s m #[Value.ref b] below meth c H locs 65 4410 (lw_Z below #[Value.ref b] s) (F0 m 512 ls []) := by
  obtain ⟨hx, hb, hr, hml, hown, hts, hX, hbl, hlk, hgv⟩ := id C0
  have hown : s.vm.findClass RL = some m.cls := hown
  have hbA : ¬ A b := fun q => absurd (hAf b q) (Nat.not_le.mpr hbl)
  refine lv_aload_n hx hb dL_law_512 rfl (lv_at hl 2 rfl) ?_
  refine be_i (free := va_A [(h0, .inr (6, [.ref x0, .int 0, .ref x1, .ref x3, .ref x11, .ref x19, .ref x22, .int 0, .ref x29, .ref x33, .ref x36, .ref x42, .int 0, .long 0])), (x19, .inr (1, [.ref x20, .ref x21, .int 0]))] H.size) (wc := [(h0, .inr (6, [.ref x0, .int 0, .ref x1, .ref x3, .ref x11, .ref x19, .ref x22, .int 0, .ref x29, .ref x33, .ref x36, .ref x42, .int 0, .long 0])), (x19, .inr (1, [.ref x20, .ref x21, .int 0]))]) (wr := [(y0, .inr (7, [.long 0, .ref m0, .int 0, .ref m1, .ref m2, .ref m3, .ref m4, .ref m5, .ref m6, .ref m7, .ref m8, .ref m9, .ref m10, .ref m11, .int 0, .int 0, .int 0, .int 0, .int 0, .int 0, .ref m12, .ref m13, .ref m14, .ref m15, .ref m16, .ref m17, .ref m18, .ref m19, .int 0])), (m12, .inl (cI, 1191, .inl zf))]) (ru_V (As := []) (rest := []) ⟨hx, hb, hml, hown, hts⟩ (c_X_undo l D cI cB cZ cN h0 x0 x1 x3 x11 x19 x22 x29 x33 x36 x42 x20 x21 H.size) (gtr gL_law_X6_undo) rfl ⟨rfl, by decide, by decide, (show Option.map (fun d => d.parameters.length) (parseMethodDescriptor yX6_undo.desc) = some 0 by decide +kernel)⟩ ⟨Nat.le_of_ble_eq_true rfl, Nat.le_of_ble_eq_true rfl⟩ hK hP hD 6 0 rfl rfl [0, 1] (by decide) rfl hl.1 rfl (Nat.le_of_ble_eq_true rfl) dL_law_513 ⟨Nat.le_of_ble_eq_true rfl, Nat.le_of_ble_eq_true rfl⟩) hP hD hS hA [0, 1] [2, 3] rfl rfl (by decide) (by decide) (fun r2 u1 H locs w3 hP hD hS => ?_)
  have hP : va_P D vwCl [(y0, .inr (7, [.long 0, .ref m0, .int 0, .ref m1, .ref m2, .ref m3, .ref m4, .ref m5, .ref m6, .ref m7, .ref m8, .ref m9, .ref m10, .ref m11, .int 0, .int 0, .int 0, .int 0, .int 0, .int 0, .ref m12, .ref m13, .ref m14, .ref m15, .ref m16, .ref m17, .ref m18, .ref m19, .int 0])), (m12, .inl (cI, 1191, .inl zf))] H := hP
  have hD : va_D A [(y0, .inr (7, [.long 0, .ref m0, .int 0, .ref m1, .ref m2, .ref m3, .ref m4, .ref m5, .ref m6, .ref m7, .ref m8, .ref m9, .ref m10, .ref m11, .int 0, .int 0, .int 0, .int 0, .int 0, .int 0, .ref m12, .ref m13, .ref m14, .ref m15, .ref m16, .ref m17, .ref m18, .ref m19, .int 0])), (m12, .inl (cI, 1191, .inl zf))] := hD
  obtain rfl : r2 = -2 := w3
  refine lv_aload_n hx hb dL_law_516 rfl (lv_at hl 1 rfl) ?_
  refine be_i (free := va_A [(y0, .inr (7, [.long 0, .ref m0, .int 0, .ref m1, .ref m2, .ref m3, .ref m4, .ref m5, .ref m6, .ref m7, .ref m8, .ref m9, .ref m10, .ref m11, .int 0, .int 0, .int 0, .int 0, .int 0, .int 0, .ref m12, .ref m13, .ref m14, .ref m15, .ref m16, .ref m17, .ref m18, .ref m19, .int 0])), (m12, .inl (cI, 1191, .inl zf))] H.size) (wc := [(y0, .inr (7, [.long 0, .ref m0, .int 0, .ref m1, .ref m2, .ref m3, .ref m4, .ref m5, .ref m6, .ref m7, .ref m8, .ref m9, .ref m10, .ref m11, .int 0, .int 0, .int 0, .int 0, .int 0, .int 0, .ref m12, .ref m13, .ref m14, .ref m15, .ref m16, .ref m17, .ref m18, .ref m19, .int 0])), (m12, .inl (cI, 1191, .inl zf))]) (wr := []) (ru_V (As := []) (rest := [.int (-2)]) ⟨hx, hb, hml, hown, hts⟩ (c_M_undo l D cI cB cZ cN y0 m0 m1 m2 m3 m4 m5 m6 m7 m8 m9 m10 m11 m12 m13 m14 m15 m16 m17 m18 m19 H.size) (gtr gL_law_X7_undo) rfl ⟨rfl, by decide, by decide, (show Option.map (fun d => d.parameters.length) (parseMethodDescriptor yX7_undo.desc) = some 0 by decide +kernel)⟩ ⟨Nat.le_of_ble_eq_true rfl, Nat.le_of_ble_eq_true rfl⟩ hK hP hD 7 0 rfl rfl [0, 1] (by decide) rfl hl.1 rfl (Nat.le_of_ble_eq_true rfl) dL_law_517 ⟨Nat.le_of_ble_eq_true rfl, Nat.le_of_ble_eq_true rfl⟩) hP hD hS hA [0, 1] [] rfl rfl (by decide) (by decide) (fun r5 u4 H locs w6 hP hD hS => ?_)
  have hP : va_P D vwCl [] H := hP
  have hD : va_D A [] := hD
  obtain rfl : r5 = -2 := w6
  refine lv_icmp_eq (tgt := 868) hx hb dL_law_520 (by decide) (fun h7 => ?_) (fun h7 => absurd (by decide) h7)
  exact law_tail C0 hAf hS (lv_sub hl [3, 0] rfl) (Nat.le_of_ble_eq_true rfl) (Nat.le_of_ble_eq_true rfl)
theorem dL_law_525 : decode cL_law 525 = .ok (.aload_n 1, 1) := by decide +kernel
theorem dL_law_526 : decode cL_law 526 = .ok (.aload_n 0, 1) := by decide +kernel
theorem dL_law_527 : decode cL_law 527 = .ok (.iload_n 3, 1) := by decide +kernel
theorem dL_law_528 : decode cL_law 528 = .ok (.iconst 1, 1) := by decide +kernel
theorem dL_law_529 : decode cL_law 529 = .ok (.iadd, 1) := by decide +kernel
theorem dL_law_530 : decode cL_law 530 = .ok (.iaload, 1) := by decide +kernel
theorem dL_law_531 : decode cL_law 531 = .ok (.invokevirtual 69, 3) := by decide +kernel
set_option maxRecDepth 20000 in
theorem ggL_law_X6_now : GoodIn wsL_law wsX6_now := goodIn_r _ [508, 27, 509, 26, 510, 511, 72, 512, 513, 514, 2, 515, 22, 351, 352, 353, 374, 375, 376, 377, 37, 378, 36, 379, 380, 87, 88, 86, 85, 348, 349, 350, 265, 21, 266, 267, 61, 268, 269, 270, 271, 58, 67, 272, 273, 274, 275, 276, 277, 278, 381, 382, 383, 516, 517, 518, 519, 309, 310, 311, 312, 520, 521, 522, 523, 739, 740, 741, 742, 743, 744, 745, 746, 747, 748, 749, 750, 751, 752, 800, 801, 802, 788, 789, 790, 791, 792, 793, 794, 795, 796, 797, 798, 799, 807, 808, 809, 810] (by decide +kernel) (by decide +kernel)
set_option maxRecDepth 20000 in
theorem gL_law_X6_now : GoodIn wsL_law (wsV RL 69 RX6 yX6_now wsX6_now) := goodIn_app (goodIn_of _ (by decide +kernel)) ggL_law_X6_now
theorem dL_law_534 : decode cL_law 534 = .ok (.aload_n 2, 1) := by decide +kernel
theorem dL_law_535 : decode cL_law 535 = .ok (.aload_n 0, 1) := by decide +kernel
theorem dL_law_536 : decode cL_law 536 = .ok (.iload_n 3, 1) := by decide +kernel
theorem dL_law_537 : decode cL_law 537 = .ok (.iconst 1, 1) := by decide +kernel
theorem dL_law_538 : decode cL_law 538 = .ok (.iadd, 1) := by decide +kernel
theorem dL_law_539 : decode cL_law 539 = .ok (.iaload, 1) := by decide +kernel
theorem dL_law_540 : decode cL_law 540 = .ok (.invokevirtual 72, 3) := by decide +kernel
set_option maxRecDepth 20000 in
theorem ggL_law_X7_now : GoodIn wsL_law wsX7_now := goodIn_r _ [527, 114, 109, 106, 112, 400, 401, 402, 5, 403, 416, 417, 418, 419, 420, 421, 422, 423, 103, 118, 287, 288, 289, 290, 107, 291, 292, 293, 294, 104, 113, 142, 143, 144, 295, 296, 297, 298, 412, 413, 414, 415, 119, 105, 120, 325, 326, 327, 328, 753, 754, 755, 756, 757, 758, 759, 760, 761, 762, 763, 764, 765, 766, 767, 768, 769, 770, 771, 772, 773, 774, 775, 776, 777, 778, 779, 780, 781] (by decide +kernel) (by decide +kernel)
set_option maxRecDepth 20000 in
theorem gL_law_X7_now : GoodIn wsL_law (wsV RL 72 RX7 yX7_now wsX7_now) := goodIn_app (goodIn_of _ (by decide +kernel)) ggL_law_X7_now
theorem dL_law_543 : decode cL_law 543 = .ok (.if_icmp .eq 325, 3) := by decide +kernel
set_option maxHeartbeats 4000000 in
set_option maxRecDepth 100000 in
theorem law_13 {p : Program} {l : Launch} {e : Env} {s : State} {m : MethodId} {below : List Frame} {meth : Method} {c : Code} {D : va_G} {cI cB cZ cN : ClassId} {A : Nat → Prop} {b : Nat} {xs : Nat → Int32} {H : Heap} {locs : List Loc} {ls : Array Slot} {h0 x0 x1 x3 x11 x19 x22 x29 x33 x36 x42 x4 x5 x6 x7 x8 x9 x10 x20 x21 y0 m0 m1 m2 m3 m4 m5 m6 m7 m8 m9 m10 m11 m12 m13 m14 m15 m16 m17 m18 m19 : Nat} (C0 : lw_At p s m meth c b 5 xs) (hK : KN D cI cB cZ cN s) (hA : ∀ q : Nat, s.heap.size ≤ q → A q) (hAf : ∀ q : Nat, A q → s.heap.size ≤ q) (hP : va_P D vwCl [(h0, .inr (6, [.ref x0, .int 0, .ref x1, .ref x3, .ref x11, .ref x19, .ref x22, .int 0, .ref x29, .ref x33, .ref x36, .ref x42, .int 0, .long 0])), (x3, .inr (0, [.int 0, .ref x4, .ref x5, .int 0, .ref x6, .ref x7, .int 0, .ref x8, .ref x9, .ref x10, .int 9, .int 0])), (x19, .inr (1, [.ref x20, .ref x21, .int 0])), (x20, .inl (cI, 36, .inl zf)), (y0, .inr (7, [.long 0, .ref m0, .int 0, .ref m1, .ref m2, .ref m3, .ref m4, .ref m5, .ref m6, .ref m7, .ref m8, .ref m9, .ref m10, .ref m11, .int 0, .int 0, .int 0, .int 0, .int 0, .int 0, .ref m12, .ref m13, .ref m14, .ref m15, .ref m16, .ref m17, .ref m18, .ref m19, .int 0])), (m4, .inl (cI, 2, .inl zf)), (m7, .inl (cI, 2, .inl zf)), (m12, .inl (cI, 1191, .inl zf))] H) (hD : va_D A [(h0, .inr (6, [.ref x0, .int 0, .ref x1, .ref x3, .ref x11, .ref x19, .ref x22, .int 0, .ref x29, .ref x33, .ref x36, .ref x42, .int 0, .long 0])), (x3, .inr (0, [.int 0, .ref x4, .ref x5, .int 0, .ref x6, .ref x7, .int 0, .ref x8, .ref x9, .ref x10, .int 9, .int 0])), (x19, .inr (1, [.ref x20, .ref x21, .int 0])), (x20, .inl (cI, 36, .inl zf)), (y0, .inr (7, [.long 0, .ref m0, .int 0, .ref m1, .ref m2, .ref m3, .ref m4, .ref m5, .ref m6, .ref m7, .ref m8, .ref m9, .ref m10, .ref m11, .int 0, .int 0, .int 0, .int 0, .int 0, .int 0, .ref m12, .ref m13, .ref m14, .ref m15, .ref m16, .ref m17, .ref m18, .ref m19, .int 0])), (m4, .inl (cI, 2, .inl zf)), (m7, .inl (cI, 2, .inl zf)), (m12, .inl (cI, 1191, .inl zf))]) (hS : va_S A s.heap H locs) (hl : lv_has ls 4 [(3, .int 0), (2, .ref y0), (1, .ref h0), (0, .ref b)]) : W p l e room_1 s m #[Value.ref b] below meth c H locs 65 4410 (lw_Z below #[Value.ref b] s) (F0 m 525 ls []) := by
  obtain ⟨hx, hb, hr, hml, hown, hts, hX, hbl, hlk, hgv⟩ := id C0
  have hown : s.vm.findClass RL = some m.cls := hown
  have hbA : ¬ A b := fun q => absurd (hAf b q) (Nat.not_le.mpr hbl)
  refine lv_aload_n hx hb dL_law_525 rfl (lv_at hl 2 rfl) ?_
  refine lv_aload_n hx hb dL_law_526 rfl (lv_at hl 3 rfl) ?_
  refine lv_iload_n hx hb dL_law_527 rfl (lv_at hl 0 rfl) ?_
  refine lv_iconst (v := 1) hx hb dL_law_528 (by decide) ?_
  refine lv_iadd hx hb dL_law_529 ?_
  refine set_i (y := 1) (by decide) ?_
  refine va_sld hx hb hX hbl hbA hS (vp_in_nI (n := 1) (N := 5) (by decide) (by decide)) dL_law_530 ?_
  refine set_i (y := xs 1) rfl ?_
  refine be_i (free := va_A [(h0, .inr (6, [.ref x0, .int 0, .ref x1, .ref x3, .ref x11, .ref x19, .ref x22, .int 0, .ref x29, .ref x33, .ref x36, .ref x42, .int 0, .long 0])), (x3, .inr (0, [.int 0, .ref x4, .ref x5, .int 0, .ref x6, .ref x7, .int 0, .ref x8, .ref x9, .ref x10, .int 9, .int 0])), (x19, .inr (1, [.ref x20, .ref x21, .int 0])), (x20, .inl (cI, 36, .inl zf))] H.size) (wc := [(h0, .inr (6, [.ref x0, .int 0, .ref x1, .ref x3, .ref x11, .ref x19, .ref x22, .int 0, .ref x29, .ref x33, .ref x36, .ref x42, .int 0, .long 0])), (x3, .inr (0, [.int 0, .ref x4, .ref x5, .int 0, .ref x6, .ref x7, .int 0, .ref x8, .ref x9, .ref x10, .int 9, .int 0])), (x19, .inr (1, [.ref x20, .ref x21, .int 0])), (x20, .inl (cI, 36, .inl zf))]) (wr := [(y0, .inr (7, [.long 0, .ref m0, .int 0, .ref m1, .ref m2, .ref m3, .ref m4, .ref m5, .ref m6, .ref m7, .ref m8, .ref m9, .ref m10, .ref m11, .int 0, .int 0, .int 0, .int 0, .int 0, .int 0, .ref m12, .ref m13, .ref m14, .ref m15, .ref m16, .ref m17, .ref m18, .ref m19, .int 0])), (m4, .inl (cI, 2, .inl zf)), (m7, .inl (cI, 2, .inl zf)), (m12, .inl (cI, 1191, .inl zf))]) (ru_V (As := [.int (xs 1)]) (rest := []) ⟨hx, hb, hml, hown, hts⟩ (c_X_now l D cI cB cZ cN h0 x0 x1 x3 x11 x19 x22 x29 x33 x36 x42 x4 x5 x6 x7 x8 x9 x10 x20 x21 (xs 1) H.size) (gtr gL_law_X6_now) rfl ⟨rfl, by decide, by decide, (show Option.map (fun d => d.parameters.length) (parseMethodDescriptor yX6_now.desc) = some 1 by decide +kernel)⟩ ⟨Nat.le_of_ble_eq_true rfl, Nat.le_of_ble_eq_true rfl⟩ hK hP hD 6 0 rfl rfl [0, 1, 2, 3] (by decide) rfl hl.1 rfl (Nat.le_of_ble_eq_true rfl) dL_law_531 ⟨Nat.le_of_ble_eq_true rfl, Nat.le_of_ble_eq_true rfl⟩) hP hD hS hA [0, 1, 2, 3] [4, 5, 6, 7] rfl rfl (by decide) (by decide) (fun r2 u1 H locs w3 hP hD hS => ?_)
  have hP : va_P D vwCl [(y0, .inr (7, [.long 0, .ref m0, .int 0, .ref m1, .ref m2, .ref m3, .ref m4, .ref m5, .ref m6, .ref m7, .ref m8, .ref m9, .ref m10, .ref m11, .int 0, .int 0, .int 0, .int 0, .int 0, .int 0, .ref m12, .ref m13, .ref m14, .ref m15, .ref m16, .ref m17, .ref m18, .ref m19, .int 0])), (m4, .inl (cI, 2, .inl zf)), (m7, .inl (cI, 2, .inl zf)), (m12, .inl (cI, 1191, .inl zf))] H := hP
  have hD : va_D A [(y0, .inr (7, [.long 0, .ref m0, .int 0, .ref m1, .ref m2, .ref m3, .ref m4, .ref m5, .ref m6, .ref m7, .ref m8, .ref m9, .ref m10, .ref m11, .int 0, .int 0, .int 0, .int 0, .int 0, .int 0, .ref m12, .ref m13, .ref m14, .ref m15, .ref m16, .ref m17, .ref m18, .ref m19, .int 0])), (m4, .inl (cI, 2, .inl zf)), (m7, .inl (cI, 2, .inl zf)), (m12, .inl (cI, 1191, .inl zf))] := hD
  obtain rfl : r2 = nwA (xs 1) := w3
  refine lv_aload_n hx hb dL_law_534 rfl (lv_at hl 1 rfl) ?_
  refine lv_aload_n hx hb dL_law_535 rfl (lv_at hl 3 rfl) ?_
  refine lv_iload_n hx hb dL_law_536 rfl (lv_at hl 0 rfl) ?_
  refine lv_iconst (v := 1) hx hb dL_law_537 (by decide) ?_
  refine lv_iadd hx hb dL_law_538 ?_
  refine set_i (y := 1) (by decide) ?_
  refine va_sld hx hb hX hbl hbA hS (vp_in_nI (n := 1) (N := 5) (by decide) (by decide)) dL_law_539 ?_
  refine set_i (y := xs 1) rfl ?_
  refine be_i (free := va_A [(y0, .inr (7, [.long 0, .ref m0, .int 0, .ref m1, .ref m2, .ref m3, .ref m4, .ref m5, .ref m6, .ref m7, .ref m8, .ref m9, .ref m10, .ref m11, .int 0, .int 0, .int 0, .int 0, .int 0, .int 0, .ref m12, .ref m13, .ref m14, .ref m15, .ref m16, .ref m17, .ref m18, .ref m19, .int 0])), (m12, .inl (cI, 1191, .inl zf)), (m7, .inl (cI, 2, .inl zf)), (m4, .inl (cI, 2, .inl zf))] H.size) (wc := [(y0, .inr (7, [.long 0, .ref m0, .int 0, .ref m1, .ref m2, .ref m3, .ref m4, .ref m5, .ref m6, .ref m7, .ref m8, .ref m9, .ref m10, .ref m11, .int 0, .int 0, .int 0, .int 0, .int 0, .int 0, .ref m12, .ref m13, .ref m14, .ref m15, .ref m16, .ref m17, .ref m18, .ref m19, .int 0])), (m12, .inl (cI, 1191, .inl zf)), (m7, .inl (cI, 2, .inl zf)), (m4, .inl (cI, 2, .inl zf))]) (wr := []) (ru_V (As := [.int (xs 1)]) (rest := [.int (nwA (xs 1))]) ⟨hx, hb, hml, hown, hts⟩ (c_M_now l D cI cB cZ cN y0 m0 m1 m2 m3 m4 m5 m6 m7 m8 m9 m10 m11 m12 m13 m14 m15 m16 m17 m18 m19 (xs 1) H.size) (gtr gL_law_X7_now) rfl ⟨rfl, by decide, by decide, (show Option.map (fun d => d.parameters.length) (parseMethodDescriptor yX7_now.desc) = some 1 by decide +kernel)⟩ ⟨Nat.le_of_ble_eq_true rfl, Nat.le_of_ble_eq_true rfl⟩ hK hP hD 7 0 rfl rfl [0, 3, 2, 1] (by decide) rfl hl.1 rfl (Nat.le_of_ble_eq_true rfl) dL_law_540 ⟨Nat.le_of_ble_eq_true rfl, Nat.le_of_ble_eq_true rfl⟩) hP hD hS hA [0, 3, 2, 1] [] rfl rfl (by decide) (by decide) (fun r5 u4 H locs w6 hP hD hS => ?_)
  have hP : va_P D vwCl [] H := hP
  have hD : va_D A [] := hD
  obtain rfl : r5 = nwA (xs 1) := w6
  refine lv_icmp_eq (tgt := 868) hx hb dL_law_543 (by decide) (fun h7 => ?_) (fun h7 => absurd (rfl) h7)
  exact law_tail C0 hAf hS (lv_sub hl [3, 0] rfl) (Nat.le_of_ble_eq_true rfl) (Nat.le_of_ble_eq_true rfl)
theorem dL_law_548 : decode cL_law 548 = .ok (.aload_n 1, 1) := by decide +kernel
theorem dL_law_549 : decode cL_law 549 = .ok (.aload_n 0, 1) := by decide +kernel
theorem dL_law_550 : decode cL_law 550 = .ok (.iload_n 3, 1) := by decide +kernel
theorem dL_law_551 : decode cL_law 551 = .ok (.iconst 1, 1) := by decide +kernel
theorem dL_law_552 : decode cL_law 552 = .ok (.iadd, 1) := by decide +kernel
theorem dL_law_553 : decode cL_law 553 = .ok (.iaload, 1) := by decide +kernel
theorem dL_law_554 : decode cL_law 554 = .ok (.aload_n 0, 1) := by decide +kernel
theorem dL_law_555 : decode cL_law 555 = .ok (.iload_n 3, 1) := by decide +kernel
theorem dL_law_556 : decode cL_law 556 = .ok (.iconst 2, 1) := by decide +kernel
theorem dL_law_557 : decode cL_law 557 = .ok (.iadd, 1) := by decide +kernel
theorem dL_law_558 : decode cL_law 558 = .ok (.iaload, 1) := by decide +kernel
theorem dL_law_559 : decode cL_law 559 = .ok (.invokevirtual 73, 3) := by decide +kernel
set_option maxRecDepth 20000 in
theorem ggL_law_X6_pieces : GoodIn wsL_law wsX6_pieces := goodIn_r _ [531, 22, 33, 345, 21, 346, 347, 63, 258, 259, 260, 57, 354, 355, 356, 2, 357, 27, 348, 26, 349, 350, 72, 358, 32, 359, 360, 78, 79, 80, 81, 361, 265, 266, 267, 61, 268, 269, 270, 271, 58, 67, 276, 277, 278, 362, 363, 364, 365, 366, 367, 368, 369, 370, 371, 372, 373, 739, 740, 741, 742, 743, 744, 745, 746, 747, 748, 749, 750, 751, 752, 803, 804, 805, 806, 788, 789, 790, 791, 792, 793, 794, 795, 796, 797, 798, 799, 800, 801, 802] (by decide +kernel) (by decide +kernel)
set_option maxRecDepth 20000 in
theorem gL_law_X6_pieces : GoodIn wsL_law (wsV RL 73 RX6 yX6_pieces wsX6_pieces) := goodIn_app (goodIn_of _ (by decide +kernel)) ggL_law_X6_pieces
theorem dL_law_562 : decode cL_law 562 = .ok (.aload_n 2, 1) := by decide +kernel
theorem dL_law_563 : decode cL_law 563 = .ok (.aload_n 0, 1) := by decide +kernel
theorem dL_law_564 : decode cL_law 564 = .ok (.iload_n 3, 1) := by decide +kernel
theorem dL_law_565 : decode cL_law 565 = .ok (.iconst 1, 1) := by decide +kernel
theorem dL_law_566 : decode cL_law 566 = .ok (.iadd, 1) := by decide +kernel
theorem dL_law_567 : decode cL_law 567 = .ok (.iaload, 1) := by decide +kernel
theorem dL_law_568 : decode cL_law 568 = .ok (.aload_n 0, 1) := by decide +kernel
theorem dL_law_569 : decode cL_law 569 = .ok (.iload_n 3, 1) := by decide +kernel
theorem dL_law_570 : decode cL_law 570 = .ok (.iconst 2, 1) := by decide +kernel
theorem dL_law_571 : decode cL_law 571 = .ok (.iadd, 1) := by decide +kernel
theorem dL_law_572 : decode cL_law 572 = .ok (.iaload, 1) := by decide +kernel
theorem dL_law_573 : decode cL_law 573 = .ok (.invokevirtual 76, 3) := by decide +kernel
set_option maxRecDepth 20000 in
theorem ggL_law_X7_pieces : GoodIn wsL_law wsX7_pieces := goodIn_r _ [535, 114, 120, 396, 397, 398, 5, 399, 109, 142, 143, 144, 283, 284, 285, 286, 103, 404, 405, 406, 407, 110, 112, 408, 409, 410, 411, 118, 287, 288, 289, 290, 107, 291, 292, 293, 294, 104, 113, 412, 413, 414, 415, 119, 105, 753, 754, 755, 756, 757, 758, 759, 760, 761, 762, 763, 764, 765, 766, 767, 768, 769, 770, 771, 772, 773, 774, 775, 776, 777, 778, 779, 780, 781] (by decide +kernel) (by decide +kernel)
set_option maxRecDepth 20000 in
theorem gL_law_X7_pieces : GoodIn wsL_law (wsV RL 76 RX7 yX7_pieces wsX7_pieces) := goodIn_app (goodIn_of _ (by decide +kernel)) ggL_law_X7_pieces
theorem dL_law_576 : decode cL_law 576 = .ok (.if_icmp .eq 292, 3) := by decide +kernel
set_option maxHeartbeats 4000000 in
set_option maxRecDepth 100000 in
theorem law_14 {p : Program} {l : Launch} {e : Env} {s : State} {m : MethodId} {below : List Frame} {meth : Method} {c : Code} {D : va_G} {cI cB cZ cN : ClassId} {A : Nat → Prop} {b : Nat} {xs : Nat → Int32} {H : Heap} {locs : List Loc} {ls : Array Slot} {h0 x0 x1 x3 x11 x19 x22 x29 x33 x36 x42 x4 x5 x6 x7 x8 x9 x10 y0 m0 m1 m2 m3 m4 m5 m6 m7 m8 m9 m10 m11 m12 m13 m14 m15 m16 m17 m18 m19 : Nat} (C0 : lw_At p s m meth c b 5 xs) (hK : KN D cI cB cZ cN s) (hA : ∀ q : Nat, s.heap.size ≤ q → A q) (hAf : ∀ q : Nat, A q → s.heap.size ≤ q) (hP : va_P D vwCl [(h0, .inr (6, [.ref x0, .int 0, .ref x1, .ref x3, .ref x11, .ref x19, .ref x22, .int 0, .ref x29, .ref x33, .ref x36, .ref x42, .int 0, .long 0])), (x3, .inr (0, [.int 0, .ref x4, .ref x5, .int 0, .ref x6, .ref x7, .int 0, .ref x8, .ref x9, .ref x10, .int 9, .int 0])), (y0, .inr (7, [.long 0, .ref m0, .int 0, .ref m1, .ref m2, .ref m3, .ref m4, .ref m5, .ref m6, .ref m7, .ref m8, .ref m9, .ref m10, .ref m11, .int 0, .int 0, .int 0, .int 0, .int 0, .int 0, .ref m12, .ref m13, .ref m14, .ref m15, .ref m16, .ref m17, .ref m18, .ref m19, .int 0])), (m7, .inl (cI, 2, .inl zf))] H) (hD : va_D A [(h0, .inr (6, [.ref x0, .int 0, .ref x1, .ref x3, .ref x11, .ref x19, .ref x22, .int 0, .ref x29, .ref x33, .ref x36, .ref x42, .int 0, .long 0])), (x3, .inr (0, [.int 0, .ref x4, .ref x5, .int 0, .ref x6, .ref x7, .int 0, .ref x8, .ref x9, .ref x10, .int 9, .int 0])), (y0, .inr (7, [.long 0, .ref m0, .int 0, .ref m1, .ref m2, .ref m3, .ref m4, .ref m5, .ref m6, .ref m7, .ref m8, .ref m9, .ref m10, .ref m11, .int 0, .int 0, .int 0, .int 0, .int 0, .int 0, .ref m12, .ref m13, .ref m14, .ref m15, .ref m16, .ref m17, .ref m18, .ref m19, .int 0])), (m7, .inl (cI, 2, .inl zf))]) (hS : va_S A s.heap H locs) (hl : lv_has ls 4 [(3, .int 0), (2, .ref y0), (1, .ref h0), (0, .ref b)]) : W p l e room_1 s m #[Value.ref b] below meth c H locs 65 4410 (lw_Z below #[Value.ref b] s) (F0 m 548 ls []) := by
  obtain ⟨hx, hb, hr, hml, hown, hts, hX, hbl, hlk, hgv⟩ := id C0
  have hown : s.vm.findClass RL = some m.cls := hown
  have hbA : ¬ A b := fun q => absurd (hAf b q) (Nat.not_le.mpr hbl)
  refine lv_aload_n hx hb dL_law_548 rfl (lv_at hl 2 rfl) ?_
  refine lv_aload_n hx hb dL_law_549 rfl (lv_at hl 3 rfl) ?_
  refine lv_iload_n hx hb dL_law_550 rfl (lv_at hl 0 rfl) ?_
  refine lv_iconst (v := 1) hx hb dL_law_551 (by decide) ?_
  refine lv_iadd hx hb dL_law_552 ?_
  refine set_i (y := 1) (by decide) ?_
  refine va_sld hx hb hX hbl hbA hS (vp_in_nI (n := 1) (N := 5) (by decide) (by decide)) dL_law_553 ?_
  refine set_i (y := xs 1) rfl ?_
  refine lv_aload_n hx hb dL_law_554 rfl (lv_at hl 3 rfl) ?_
  refine lv_iload_n hx hb dL_law_555 rfl (lv_at hl 0 rfl) ?_
  refine lv_iconst (v := 2) hx hb dL_law_556 (by decide) ?_
  refine lv_iadd hx hb dL_law_557 ?_
  refine set_i (y := 2) (by decide) ?_
  refine va_sld hx hb hX hbl hbA hS (vp_in_nI (n := 2) (N := 5) (by decide) (by decide)) dL_law_558 ?_
  refine set_i (y := xs 2) rfl ?_
  refine be_i (free := va_A [(h0, .inr (6, [.ref x0, .int 0, .ref x1, .ref x3, .ref x11, .ref x19, .ref x22, .int 0, .ref x29, .ref x33, .ref x36, .ref x42, .int 0, .long 0])), (x3, .inr (0, [.int 0, .ref x4, .ref x5, .int 0, .ref x6, .ref x7, .int 0, .ref x8, .ref x9, .ref x10, .int 9, .int 0]))] H.size) (wc := [(h0, .inr (6, [.ref x0, .int 0, .ref x1, .ref x3, .ref x11, .ref x19, .ref x22, .int 0, .ref x29, .ref x33, .ref x36, .ref x42, .int 0, .long 0])), (x3, .inr (0, [.int 0, .ref x4, .ref x5, .int 0, .ref x6, .ref x7, .int 0, .ref x8, .ref x9, .ref x10, .int 9, .int 0]))]) (wr := [(y0, .inr (7, [.long 0, .ref m0, .int 0, .ref m1, .ref m2, .ref m3, .ref m4, .ref m5, .ref m6, .ref m7, .ref m8, .ref m9, .ref m10, .ref m11, .int 0, .int 0, .int 0, .int 0, .int 0, .int 0, .ref m12, .ref m13, .ref m14, .ref m15, .ref m16, .ref m17, .ref m18, .ref m19, .int 0])), (m7, .inl (cI, 2, .inl zf))]) (ru_V (As := [.int (xs 1), .int (xs 2)]) (rest := []) ⟨hx, hb, hml, hown, hts⟩ (c_X_pieces l D cI cB cZ cN h0 x0 x1 x3 x11 x19 x22 x29 x33 x36 x42 x4 x5 x6 x7 x8 x9 x10 (xs 1) (xs 2) H.size) (gtr gL_law_X6_pieces) rfl ⟨rfl, by decide, by decide, (show Option.map (fun d => d.parameters.length) (parseMethodDescriptor yX6_pieces.desc) = some 2 by decide +kernel)⟩ ⟨Nat.le_of_ble_eq_true rfl, Nat.le_of_ble_eq_true rfl⟩ hK hP hD 6 0 rfl rfl [0, 1] (by decide) rfl hl.1 rfl (Nat.le_of_ble_eq_true rfl) dL_law_559 ⟨Nat.le_of_ble_eq_true rfl, Nat.le_of_ble_eq_true rfl⟩) hP hD hS hA [0, 1] [2, 3] rfl rfl (by decide) (by decide) (fun r2 u1 H locs w3 hP hD hS => ?_)
  have hP : va_P D vwCl [(y0, .inr (7, [.long 0, .ref m0, .int 0, .ref m1, .ref m2, .ref m3, .ref m4, .ref m5, .ref m6, .ref m7, .ref m8, .ref m9, .ref m10, .ref m11, .int 0, .int 0, .int 0, .int 0, .int 0, .int 0, .ref m12, .ref m13, .ref m14, .ref m15, .ref m16, .ref m17, .ref m18, .ref m19, .int 0])), (m7, .inl (cI, 2, .inl zf))] H := hP
  have hD : va_D A [(y0, .inr (7, [.long 0, .ref m0, .int 0, .ref m1, .ref m2, .ref m3, .ref m4, .ref m5, .ref m6, .ref m7, .ref m8, .ref m9, .ref m10, .ref m11, .int 0, .int 0, .int 0, .int 0, .int 0, .int 0, .ref m12, .ref m13, .ref m14, .ref m15, .ref m16, .ref m17, .ref m18, .ref m19, .int 0])), (m7, .inl (cI, 2, .inl zf))] := hD
  obtain rfl : r2 = -1 := w3
  refine lv_aload_n hx hb dL_law_562 rfl (lv_at hl 1 rfl) ?_
  refine lv_aload_n hx hb dL_law_563 rfl (lv_at hl 3 rfl) ?_
  refine lv_iload_n hx hb dL_law_564 rfl (lv_at hl 0 rfl) ?_
  refine lv_iconst (v := 1) hx hb dL_law_565 (by decide) ?_
  refine lv_iadd hx hb dL_law_566 ?_
  refine set_i (y := 1) (by decide) ?_
  refine va_sld hx hb hX hbl hbA hS (vp_in_nI (n := 1) (N := 5) (by decide) (by decide)) dL_law_567 ?_
  refine set_i (y := xs 1) rfl ?_
  refine lv_aload_n hx hb dL_law_568 rfl (lv_at hl 3 rfl) ?_
  refine lv_iload_n hx hb dL_law_569 rfl (lv_at hl 0 rfl) ?_
  refine lv_iconst (v := 2) hx hb dL_law_570 (by decide) ?_
  refine lv_iadd hx hb dL_law_571 ?_
  refine set_i (y := 2) (by decide) ?_
  refine va_sld hx hb hX hbl hbA hS (vp_in_nI (n := 2) (N := 5) (by decide) (by decide)) dL_law_572 ?_
  refine set_i (y := xs 2) rfl ?_
  refine be_i (free := va_A [(y0, .inr (7, [.long 0, .ref m0, .int 0, .ref m1, .ref m2, .ref m3, .ref m4, .ref m5, .ref m6, .ref m7, .ref m8, .ref m9, .ref m10, .ref m11, .int 0, .int 0, .int 0, .int 0, .int 0, .int 0, .ref m12, .ref m13, .ref m14, .ref m15, .ref m16, .ref m17, .ref m18, .ref m19, .int 0])), (m7, .inl (cI, 2, .inl zf))] H.size) (wc := [(y0, .inr (7, [.long 0, .ref m0, .int 0, .ref m1, .ref m2, .ref m3, .ref m4, .ref m5, .ref m6, .ref m7, .ref m8, .ref m9, .ref m10, .ref m11, .int 0, .int 0, .int 0, .int 0, .int 0, .int 0, .ref m12, .ref m13, .ref m14, .ref m15, .ref m16, .ref m17, .ref m18, .ref m19, .int 0])), (m7, .inl (cI, 2, .inl zf))]) (wr := []) (ru_V (As := [.int (xs 1), .int (xs 2)]) (rest := [.int (-1)]) ⟨hx, hb, hml, hown, hts⟩ (c_M_pieces l D cI cB cZ cN y0 m0 m1 m2 m3 m4 m5 m6 m7 m8 m9 m10 m11 m12 m13 m14 m15 m16 m17 m18 m19 (xs 1) (xs 2) H.size) (gtr gL_law_X7_pieces) rfl ⟨rfl, by decide, by decide, (show Option.map (fun d => d.parameters.length) (parseMethodDescriptor yX7_pieces.desc) = some 2 by decide +kernel)⟩ ⟨Nat.le_of_ble_eq_true rfl, Nat.le_of_ble_eq_true rfl⟩ hK hP hD 7 0 rfl rfl [0, 1] (by decide) rfl hl.1 rfl (Nat.le_of_ble_eq_true rfl) dL_law_573 ⟨Nat.le_of_ble_eq_true rfl, Nat.le_of_ble_eq_true rfl⟩) hP hD hS hA [0, 1] [] rfl rfl (by decide) (by decide) (fun r5 u4 H locs w6 hP hD hS => ?_)
  have hP : va_P D vwCl [] H := hP
  have hD : va_D A [] := hD
  obtain rfl : r5 = -1 := w6
  refine lv_icmp_eq (tgt := 868) hx hb dL_law_576 (by decide) (fun h7 => ?_) (fun h7 => absurd (by decide) h7)
  exact law_tail C0 hAf hS (lv_sub hl [3, 0] rfl) (Nat.le_of_ble_eq_true rfl) (Nat.le_of_ble_eq_true rfl)
theorem dL_law_581 : decode cL_law 581 = .ok (.aload_n 1, 1) := by decide +kernel
theorem dL_law_582 : decode cL_law 582 = .ok (.aload_n 0, 1) := by decide +kernel
theorem dL_law_583 : decode cL_law 583 = .ok (.iload_n 3, 1) := by decide +kernel
theorem dL_law_584 : decode cL_law 584 = .ok (.iconst 1, 1) := by decide +kernel
theorem dL_law_585 : decode cL_law 585 = .ok (.iadd, 1) := by decide +kernel
theorem dL_law_586 : decode cL_law 586 = .ok (.iaload, 1) := by decide +kernel
theorem dL_law_587 : decode cL_law 587 = .ok (.invokevirtual 77, 3) := by decide +kernel
set_option maxRecDepth 20000 in
theorem ggL_law_X6_order : GoodIn wsL_law wsX6_order := goodIn_r _ [539, 41, 22, 27, 33, 540, 40, 541, 542, 93, 96, 543, 26, 544, 545, 72, 217, 218, 219, 220, 74, 546, 547, 548, 94, 549, 550, 551, 552, 95, 553, 509, 510, 511, 554, 555, 556, 557, 558, 559, 560, 351, 352, 353, 348, 349, 350, 388, 32, 389, 390, 79, 391, 358, 359, 360, 78, 80, 81, 361, 265, 21, 266, 267, 61, 268, 269, 270, 271, 58, 67, 276, 277, 278, 362, 363, 364, 365, 366, 367, 368, 369, 370, 371, 372, 373, 432, 433, 434, 73, 435, 436, 437, 438, 439, 440, 441, 442, 498, 499, 500, 739, 740, 741, 742, 743, 744, 745, 746, 747, 748, 749, 750, 751, 752, 811, 812, 813, 814, 800, 801, 802, 788, 789, 790, 791, 792, 793, 794, 795, 796, 797, 798, 799, 803, 804, 805, 806] (by decide +kernel) (by decide +kernel)
set_option maxRecDepth 20000 in
theorem gL_law_X6_order : GoodIn wsL_law (wsV RL 77 RX6 yX6_order wsX6_order) := goodIn_app (goodIn_of _ (by decide +kernel)) ggL_law_X6_order
theorem dL_law_590 : decode cL_law 590 = .ok (.aload_n 2, 1) := by decide +kernel
theorem dL_law_591 : decode cL_law 591 = .ok (.aload_n 0, 1) := by decide +kernel
theorem dL_law_592 : decode cL_law 592 = .ok (.iload_n 3, 1) := by decide +kernel
theorem dL_law_593 : decode cL_law 593 = .ok (.iconst 1, 1) := by decide +kernel
theorem dL_law_594 : decode cL_law 594 = .ok (.iadd, 1) := by decide +kernel
theorem dL_law_595 : decode cL_law 595 = .ok (.iaload, 1) := by decide +kernel
theorem dL_law_596 : decode cL_law 596 = .ok (.invokevirtual 80, 3) := by decide +kernel
set_option maxRecDepth 20000 in
theorem ggL_law_X7_order : GoodIn wsL_law wsX7_order := goodIn_r _ [564, 121, 142, 143, 5, 144, 565, 566, 567, 568, 114, 569, 570, 571, 572, 573, 574, 575, 400, 401, 402, 403, 576, 577, 578, 579, 117, 580, 581, 582, 583, 447, 448, 449, 450, 120, 404, 405, 406, 407, 110, 112, 408, 409, 410, 411, 118, 103, 287, 288, 289, 290, 107, 291, 292, 293, 294, 104, 113, 412, 413, 414, 415, 119, 105, 455, 456, 457, 458, 753, 754, 755, 756, 757, 758, 759, 760, 761, 762, 763, 764, 765, 766, 767, 768, 769, 770, 771, 772, 773, 774, 775, 776, 777, 778, 779, 780, 781] (by decide +kernel) (by decide +kernel)
set_option maxRecDepth 20000 in
theorem gL_law_X7_order : GoodIn wsL_law (wsV RL 80 RX7 yX7_order wsX7_order) := goodIn_app (goodIn_of _ (by decide +kernel)) ggL_law_X7_order
theorem dL_law_599 : decode cL_law 599 = .ok (.if_icmp .eq 269, 3) := by decide +kernel
set_option maxHeartbeats 4000000 in
set_option maxRecDepth 100000 in
theorem law_15 {p : Program} {l : Launch} {e : Env} {s : State} {m : MethodId} {below : List Frame} {meth : Method} {c : Code} {D : va_G} {cI cB cZ cN : ClassId} {A : Nat → Prop} {b : Nat} {xs : Nat → Int32} {H : Heap} {locs : List Loc} {ls : Array Slot} {h0 x0 x1 x3 x11 x19 x22 x29 x33 x36 x42 x4 x5 x6 x7 x8 x9 x10 x20 x21 x37 x38 x39 x40 x41 y0 m0 m1 m2 m3 m4 m5 m6 m7 m8 m9 m10 m11 m12 m13 m14 m15 m16 m17 m18 m19 : Nat} (C0 : lw_At p s m meth c b 5 xs) (hK : KN D cI cB cZ cN s) (hA : ∀ q : Nat, s.heap.size ≤ q → A q) (hAf : ∀ q : Nat, A q → s.heap.size ≤ q) (hP : va_P D vwCl [(h0, .inr (6, [.ref x0, .int 0, .ref x1, .ref x3, .ref x11, .ref x19, .ref x22, .int 0, .ref x29, .ref x33, .ref x36, .ref x42, .int 0, .long 0])), (x3, .inr (0, [.int 0, .ref x4, .ref x5, .int 0, .ref x6, .ref x7, .int 0, .ref x8, .ref x9, .ref x10, .int 9, .int 0])), (x19, .inr (1, [.ref x20, .ref x21, .int 0])), (x20, .inl (cI, 36, .inl zf)), (x36, .inr (4, [.ref x37, .ref x38, .ref x39, .int 0])), (x37, .inr (1, [.ref x40, .ref x41, .int 0])), (x40, .inl (cI, 36, .inl zf)), (y0, .inr (7, [.long 0, .ref m0, .int 0, .ref m1, .ref m2, .ref m3, .ref m4, .ref m5, .ref m6, .ref m7, .ref m8, .ref m9, .ref m10, .ref m11, .int 0, .int 0, .int 0, .int 0, .int 0, .int 0, .ref m12, .ref m13, .ref m14, .ref m15, .ref m16, .ref m17, .ref m18, .ref m19, .int 0])), (m12, .inl (cI, 1191, .inl zf))] H) (hD : va_D A [(h0, .inr (6, [.ref x0, .int 0, .ref x1, .ref x3, .ref x11, .ref x19, .ref x22, .int 0, .ref x29, .ref x33, .ref x36, .ref x42, .int 0, .long 0])), (x3, .inr (0, [.int 0, .ref x4, .ref x5, .int 0, .ref x6, .ref x7, .int 0, .ref x8, .ref x9, .ref x10, .int 9, .int 0])), (x19, .inr (1, [.ref x20, .ref x21, .int 0])), (x20, .inl (cI, 36, .inl zf)), (x36, .inr (4, [.ref x37, .ref x38, .ref x39, .int 0])), (x37, .inr (1, [.ref x40, .ref x41, .int 0])), (x40, .inl (cI, 36, .inl zf)), (y0, .inr (7, [.long 0, .ref m0, .int 0, .ref m1, .ref m2, .ref m3, .ref m4, .ref m5, .ref m6, .ref m7, .ref m8, .ref m9, .ref m10, .ref m11, .int 0, .int 0, .int 0, .int 0, .int 0, .int 0, .ref m12, .ref m13, .ref m14, .ref m15, .ref m16, .ref m17, .ref m18, .ref m19, .int 0])), (m12, .inl (cI, 1191, .inl zf))]) (hS : va_S A s.heap H locs) (hl : lv_has ls 4 [(3, .int 0), (2, .ref y0), (1, .ref h0), (0, .ref b)]) : W p l e room_1 s m #[Value.ref b] below meth c H locs 65 4410 (lw_Z below #[Value.ref b] s) (F0 m 581 ls []) := by
  obtain ⟨hx, hb, hr, hml, hown, hts, hX, hbl, hlk, hgv⟩ := id C0
  have hown : s.vm.findClass RL = some m.cls := hown
  have hbA : ¬ A b := fun q => absurd (hAf b q) (Nat.not_le.mpr hbl)
  refine lv_aload_n hx hb dL_law_581 rfl (lv_at hl 2 rfl) ?_
  refine lv_aload_n hx hb dL_law_582 rfl (lv_at hl 3 rfl) ?_
  refine lv_iload_n hx hb dL_law_583 rfl (lv_at hl 0 rfl) ?_
  refine lv_iconst (v := 1) hx hb dL_law_584 (by decide) ?_
  refine lv_iadd hx hb dL_law_585 ?_
  refine set_i (y := 1) (by decide) ?_
  refine va_sld hx hb hX hbl hbA hS (vp_in_nI (n := 1) (N := 5) (by decide) (by decide)) dL_law_586 ?_
  refine set_i (y := xs 1) rfl ?_
  refine be_i (free := va_A [(h0, .inr (6, [.ref x0, .int 0, .ref x1, .ref x3, .ref x11, .ref x19, .ref x22, .int 0, .ref x29, .ref x33, .ref x36, .ref x42, .int 0, .long 0])), (x36, .inr (4, [.ref x37, .ref x38, .ref x39, .int 0])), (x37, .inr (1, [.ref x40, .ref x41, .int 0])), (x40, .inl (cI, 36, .inl zf)), (x19, .inr (1, [.ref x20, .ref x21, .int 0])), (x20, .inl (cI, 36, .inl zf)), (x3, .inr (0, [.int 0, .ref x4, .ref x5, .int 0, .ref x6, .ref x7, .int 0, .ref x8, .ref x9, .ref x10, .int 9, .int 0]))] H.size) (wc := [(h0, .inr (6, [.ref x0, .int 0, .ref x1, .ref x3, .ref x11, .ref x19, .ref x22, .int 0, .ref x29, .ref x33, .ref x36, .ref x42, .int 0, .long 0])), (x36, .inr (4, [.ref x37, .ref x38, .ref x39, .int 0])), (x37, .inr (1, [.ref x40, .ref x41, .int 0])), (x40, .inl (cI, 36, .inl zf)), (x19, .inr (1, [.ref x20, .ref x21, .int 0])), (x20, .inl (cI, 36, .inl zf)), (x3, .inr (0, [.int 0, .ref x4, .ref x5, .int 0, .ref x6, .ref x7, .int 0, .ref x8, .ref x9, .ref x10, .int 9, .int 0]))]) (wr := [(y0, .inr (7, [.long 0, .ref m0, .int 0, .ref m1, .ref m2, .ref m3, .ref m4, .ref m5, .ref m6, .ref m7, .ref m8, .ref m9, .ref m10, .ref m11, .int 0, .int 0, .int 0, .int 0, .int 0, .int 0, .ref m12, .ref m13, .ref m14, .ref m15, .ref m16, .ref m17, .ref m18, .ref m19, .int 0])), (m12, .inl (cI, 1191, .inl zf))]) (ru_V (As := [.int (xs 1)]) (rest := []) ⟨hx, hb, hml, hown, hts⟩ (c_X_order l D cI cB cZ cN h0 x0 x1 x3 x11 x19 x22 x29 x33 x36 x42 x37 x38 x39 x40 x41 x20 x21 x4 x5 x6 x7 x8 x9 x10 (xs 1) H.size) (gtr gL_law_X6_order) rfl ⟨rfl, by decide, by decide, (show Option.map (fun d => d.parameters.length) (parseMethodDescriptor yX6_order.desc) = some 1 by decide +kernel)⟩ ⟨Nat.le_of_ble_eq_true rfl, Nat.le_of_ble_eq_true rfl⟩ hK hP hD 6 0 rfl rfl [0, 4, 5, 6, 2, 3, 1] (by decide) rfl hl.1 rfl (Nat.le_of_ble_eq_true rfl) dL_law_587 ⟨Nat.le_of_ble_eq_true rfl, Nat.le_of_ble_eq_true rfl⟩) hP hD hS hA [0, 4, 5, 6, 2, 3, 1] [7, 8] rfl rfl (by decide) (by decide) (fun r2 u1 H locs w3 hP hD hS => ?_)
  have hP : va_P D vwCl [(y0, .inr (7, [.long 0, .ref m0, .int 0, .ref m1, .ref m2, .ref m3, .ref m4, .ref m5, .ref m6, .ref m7, .ref m8, .ref m9, .ref m10, .ref m11, .int 0, .int 0, .int 0, .int 0, .int 0, .int 0, .ref m12, .ref m13, .ref m14, .ref m15, .ref m16, .ref m17, .ref m18, .ref m19, .int 0])), (m12, .inl (cI, 1191, .inl zf))] H := hP
  have hD : va_D A [(y0, .inr (7, [.long 0, .ref m0, .int 0, .ref m1, .ref m2, .ref m3, .ref m4, .ref m5, .ref m6, .ref m7, .ref m8, .ref m9, .ref m10, .ref m11, .int 0, .int 0, .int 0, .int 0, .int 0, .int 0, .ref m12, .ref m13, .ref m14, .ref m15, .ref m16, .ref m17, .ref m18, .ref m19, .int 0])), (m12, .inl (cI, 1191, .inl zf))] := hD
  obtain rfl : r2 = orA (xs 1) := w3
  refine lv_aload_n hx hb dL_law_590 rfl (lv_at hl 1 rfl) ?_
  refine lv_aload_n hx hb dL_law_591 rfl (lv_at hl 3 rfl) ?_
  refine lv_iload_n hx hb dL_law_592 rfl (lv_at hl 0 rfl) ?_
  refine lv_iconst (v := 1) hx hb dL_law_593 (by decide) ?_
  refine lv_iadd hx hb dL_law_594 ?_
  refine set_i (y := 1) (by decide) ?_
  refine va_sld hx hb hX hbl hbA hS (vp_in_nI (n := 1) (N := 5) (by decide) (by decide)) dL_law_595 ?_
  refine set_i (y := xs 1) rfl ?_
  refine be_i (free := va_A [(y0, .inr (7, [.long 0, .ref m0, .int 0, .ref m1, .ref m2, .ref m3, .ref m4, .ref m5, .ref m6, .ref m7, .ref m8, .ref m9, .ref m10, .ref m11, .int 0, .int 0, .int 0, .int 0, .int 0, .int 0, .ref m12, .ref m13, .ref m14, .ref m15, .ref m16, .ref m17, .ref m18, .ref m19, .int 0])), (m12, .inl (cI, 1191, .inl zf))] H.size) (wc := [(y0, .inr (7, [.long 0, .ref m0, .int 0, .ref m1, .ref m2, .ref m3, .ref m4, .ref m5, .ref m6, .ref m7, .ref m8, .ref m9, .ref m10, .ref m11, .int 0, .int 0, .int 0, .int 0, .int 0, .int 0, .ref m12, .ref m13, .ref m14, .ref m15, .ref m16, .ref m17, .ref m18, .ref m19, .int 0])), (m12, .inl (cI, 1191, .inl zf))]) (wr := []) (ru_V (As := [.int (xs 1)]) (rest := [.int (orA (xs 1))]) ⟨hx, hb, hml, hown, hts⟩ (c_M_order l D cI cB cZ cN y0 m0 m1 m2 m3 m4 m5 m6 m7 m8 m9 m10 m11 m12 m13 m14 m15 m16 m17 m18 m19 (xs 1) H.size) (gtr gL_law_X7_order) rfl ⟨rfl, by decide, by decide, (show Option.map (fun d => d.parameters.length) (parseMethodDescriptor yX7_order.desc) = some 1 by decide +kernel)⟩ ⟨Nat.le_of_ble_eq_true rfl, Nat.le_of_ble_eq_true rfl⟩ hK hP hD 7 0 rfl rfl [0, 1] (by decide) rfl hl.1 rfl (Nat.le_of_ble_eq_true rfl) dL_law_596 ⟨Nat.le_of_ble_eq_true rfl, Nat.le_of_ble_eq_true rfl⟩) hP hD hS hA [0, 1] [] rfl rfl (by decide) (by decide) (fun r5 u4 H locs w6 hP hD hS => ?_)
  have hP : va_P D vwCl [] H := hP
  have hD : va_D A [] := hD
  obtain rfl : r5 = orA (xs 1) := w6
  refine lv_icmp_eq (tgt := 868) hx hb dL_law_599 (by decide) (fun h7 => ?_) (fun h7 => absurd (rfl) h7)
  exact law_tail C0 hAf hS (lv_sub hl [3, 0] rfl) (Nat.le_of_ble_eq_true rfl) (Nat.le_of_ble_eq_true rfl)
theorem dL_law_604 : decode cL_law 604 = .ok (.aload_n 1, 1) := by decide +kernel
theorem dL_law_605 : decode cL_law 605 = .ok (.aload_n 0, 1) := by decide +kernel
theorem dL_law_606 : decode cL_law 606 = .ok (.iload_n 3, 1) := by decide +kernel
theorem dL_law_607 : decode cL_law 607 = .ok (.iconst 1, 1) := by decide +kernel
theorem dL_law_608 : decode cL_law 608 = .ok (.iadd, 1) := by decide +kernel
theorem dL_law_609 : decode cL_law 609 = .ok (.iaload, 1) := by decide +kernel
theorem dL_law_610 : decode cL_law 610 = .ok (.invokevirtual 81, 3) := by decide +kernel
set_option maxRecDepth 20000 in
theorem ggL_law_X6_lender : GoodIn wsL_law wsX6_lender := goodIn_r _ [587, 22, 27, 303, 21, 304, 305, 60, 588, 26, 589, 590, 275, 276, 277, 278, 72, 313, 314, 315, 2, 316, 265, 266, 267, 61, 268, 269, 270, 271, 58, 67, 272, 273, 274, 739, 740, 741, 742, 743, 744, 745, 746, 747, 748, 749, 750, 751, 752, 788, 789, 790, 791, 792, 793, 794, 795, 796, 797, 798, 799, 800, 801, 802] (by decide +kernel) (by decide +kernel)
set_option maxRecDepth 20000 in
theorem gL_law_X6_lender : GoodIn wsL_law (wsV RL 81 RX6 yX6_lender wsX6_lender) := goodIn_app (goodIn_of _ (by decide +kernel)) ggL_law_X6_lender
theorem dL_law_613 : decode cL_law 613 = .ok (.aload_n 2, 1) := by decide +kernel
theorem dL_law_614 : decode cL_law 614 = .ok (.aload_n 0, 1) := by decide +kernel
theorem dL_law_615 : decode cL_law 615 = .ok (.iload_n 3, 1) := by decide +kernel
theorem dL_law_616 : decode cL_law 616 = .ok (.iconst 1, 1) := by decide +kernel
theorem dL_law_617 : decode cL_law 617 = .ok (.iadd, 1) := by decide +kernel
theorem dL_law_618 : decode cL_law 618 = .ok (.iaload, 1) := by decide +kernel
theorem dL_law_619 : decode cL_law 619 = .ok (.invokevirtual 84, 3) := by decide +kernel
set_option maxRecDepth 20000 in
theorem ggL_law_X7_lender : GoodIn wsL_law wsX7_lender := goodIn_r _ [594, 106, 321, 322, 323, 5, 324, 142, 143, 144, 325, 326, 327, 328, 103, 114, 105, 329, 330, 331, 332, 287, 288, 289, 290, 107, 291, 292, 293, 294, 104, 113, 295, 296, 297, 298, 753, 754, 755, 756, 757, 758, 759, 760, 761, 762, 763, 764, 765, 766, 767, 768, 769, 770, 771, 772, 773, 774, 775, 776, 777, 778, 779, 780, 781] (by decide +kernel) (by decide +kernel)
set_option maxRecDepth 20000 in
theorem gL_law_X7_lender : GoodIn wsL_law (wsV RL 84 RX7 yX7_lender wsX7_lender) := goodIn_app (goodIn_of _ (by decide +kernel)) ggL_law_X7_lender
theorem dL_law_622 : decode cL_law 622 = .ok (.if_icmp .eq 246, 3) := by decide +kernel
set_option maxHeartbeats 4000000 in
set_option maxRecDepth 100000 in
theorem law_16 {p : Program} {l : Launch} {e : Env} {s : State} {m : MethodId} {below : List Frame} {meth : Method} {c : Code} {D : va_G} {cI cB cZ cN : ClassId} {A : Nat → Prop} {b : Nat} {xs : Nat → Int32} {H : Heap} {locs : List Loc} {ls : Array Slot} {h0 x0 x1 x3 x11 x19 x22 x29 x33 x36 x42 x4 x5 x6 x7 x8 x9 x10 y0 m0 m1 m2 m3 m4 m5 m6 m7 m8 m9 m10 m11 m12 m13 m14 m15 m16 m17 m18 m19 : Nat} (C0 : lw_At p s m meth c b 5 xs) (hK : KN D cI cB cZ cN s) (hA : ∀ q : Nat, s.heap.size ≤ q → A q) (hAf : ∀ q : Nat, A q → s.heap.size ≤ q) (hP : va_P D vwCl [(h0, .inr (6, [.ref x0, .int 0, .ref x1, .ref x3, .ref x11, .ref x19, .ref x22, .int 0, .ref x29, .ref x33, .ref x36, .ref x42, .int 0, .long 0])), (x3, .inr (0, [.int 0, .ref x4, .ref x5, .int 0, .ref x6, .ref x7, .int 0, .ref x8, .ref x9, .ref x10, .int 9, .int 0])), (y0, .inr (7, [.long 0, .ref m0, .int 0, .ref m1, .ref m2, .ref m3, .ref m4, .ref m5, .ref m6, .ref m7, .ref m8, .ref m9, .ref m10, .ref m11, .int 0, .int 0, .int 0, .int 0, .int 0, .int 0, .ref m12, .ref m13, .ref m14, .ref m15, .ref m16, .ref m17, .ref m18, .ref m19, .int 0])), (m4, .inl (cI, 2, .inl zf))] H) (hD : va_D A [(h0, .inr (6, [.ref x0, .int 0, .ref x1, .ref x3, .ref x11, .ref x19, .ref x22, .int 0, .ref x29, .ref x33, .ref x36, .ref x42, .int 0, .long 0])), (x3, .inr (0, [.int 0, .ref x4, .ref x5, .int 0, .ref x6, .ref x7, .int 0, .ref x8, .ref x9, .ref x10, .int 9, .int 0])), (y0, .inr (7, [.long 0, .ref m0, .int 0, .ref m1, .ref m2, .ref m3, .ref m4, .ref m5, .ref m6, .ref m7, .ref m8, .ref m9, .ref m10, .ref m11, .int 0, .int 0, .int 0, .int 0, .int 0, .int 0, .ref m12, .ref m13, .ref m14, .ref m15, .ref m16, .ref m17, .ref m18, .ref m19, .int 0])), (m4, .inl (cI, 2, .inl zf))]) (hS : va_S A s.heap H locs) (hl : lv_has ls 4 [(3, .int 0), (2, .ref y0), (1, .ref h0), (0, .ref b)]) : W p l e room_1 s m #[Value.ref b] below meth c H locs 65 4410 (lw_Z below #[Value.ref b] s) (F0 m 604 ls []) := by
  obtain ⟨hx, hb, hr, hml, hown, hts, hX, hbl, hlk, hgv⟩ := id C0
  have hown : s.vm.findClass RL = some m.cls := hown
  have hbA : ¬ A b := fun q => absurd (hAf b q) (Nat.not_le.mpr hbl)
  refine lv_aload_n hx hb dL_law_604 rfl (lv_at hl 2 rfl) ?_
  refine lv_aload_n hx hb dL_law_605 rfl (lv_at hl 3 rfl) ?_
  refine lv_iload_n hx hb dL_law_606 rfl (lv_at hl 0 rfl) ?_
  refine lv_iconst (v := 1) hx hb dL_law_607 (by decide) ?_
  refine lv_iadd hx hb dL_law_608 ?_
  refine set_i (y := 1) (by decide) ?_
  refine va_sld hx hb hX hbl hbA hS (vp_in_nI (n := 1) (N := 5) (by decide) (by decide)) dL_law_609 ?_
  refine set_i (y := xs 1) rfl ?_
  refine be_i (free := va_A [(h0, .inr (6, [.ref x0, .int 0, .ref x1, .ref x3, .ref x11, .ref x19, .ref x22, .int 0, .ref x29, .ref x33, .ref x36, .ref x42, .int 0, .long 0])), (x3, .inr (0, [.int 0, .ref x4, .ref x5, .int 0, .ref x6, .ref x7, .int 0, .ref x8, .ref x9, .ref x10, .int 9, .int 0]))] H.size) (wc := [(h0, .inr (6, [.ref x0, .int 0, .ref x1, .ref x3, .ref x11, .ref x19, .ref x22, .int 0, .ref x29, .ref x33, .ref x36, .ref x42, .int 0, .long 0])), (x3, .inr (0, [.int 0, .ref x4, .ref x5, .int 0, .ref x6, .ref x7, .int 0, .ref x8, .ref x9, .ref x10, .int 9, .int 0]))]) (wr := [(y0, .inr (7, [.long 0, .ref m0, .int 0, .ref m1, .ref m2, .ref m3, .ref m4, .ref m5, .ref m6, .ref m7, .ref m8, .ref m9, .ref m10, .ref m11, .int 0, .int 0, .int 0, .int 0, .int 0, .int 0, .ref m12, .ref m13, .ref m14, .ref m15, .ref m16, .ref m17, .ref m18, .ref m19, .int 0])), (m4, .inl (cI, 2, .inl zf))]) (ru_V (As := [.int (xs 1)]) (rest := []) ⟨hx, hb, hml, hown, hts⟩ (c_X_lender l D cI cB cZ cN h0 x0 x1 x3 x11 x19 x22 x29 x33 x36 x42 x4 x5 x6 x7 x8 x9 x10 (xs 1) H.size) (gtr gL_law_X6_lender) rfl ⟨rfl, by decide, by decide, (show Option.map (fun d => d.parameters.length) (parseMethodDescriptor yX6_lender.desc) = some 1 by decide +kernel)⟩ ⟨Nat.le_of_ble_eq_true rfl, Nat.le_of_ble_eq_true rfl⟩ hK hP hD 6 0 rfl rfl [0, 1] (by decide) rfl hl.1 rfl (Nat.le_of_ble_eq_true rfl) dL_law_610 ⟨Nat.le_of_ble_eq_true rfl, Nat.le_of_ble_eq_true rfl⟩) hP hD hS hA [0, 1] [2, 3] rfl rfl (by decide) (by decide) (fun r2 u1 H locs w3 hP hD hS => ?_)
  have hP : va_P D vwCl [(y0, .inr (7, [.long 0, .ref m0, .int 0, .ref m1, .ref m2, .ref m3, .ref m4, .ref m5, .ref m6, .ref m7, .ref m8, .ref m9, .ref m10, .ref m11, .int 0, .int 0, .int 0, .int 0, .int 0, .int 0, .ref m12, .ref m13, .ref m14, .ref m15, .ref m16, .ref m17, .ref m18, .ref m19, .int 0])), (m4, .inl (cI, 2, .inl zf))] H := hP
  have hD : va_D A [(y0, .inr (7, [.long 0, .ref m0, .int 0, .ref m1, .ref m2, .ref m3, .ref m4, .ref m5, .ref m6, .ref m7, .ref m8, .ref m9, .ref m10, .ref m11, .int 0, .int 0, .int 0, .int 0, .int 0, .int 0, .ref m12, .ref m13, .ref m14, .ref m15, .ref m16, .ref m17, .ref m18, .ref m19, .int 0])), (m4, .inl (cI, 2, .inl zf))] := hD
  obtain rfl : r2 = -1 := w3
  refine lv_aload_n hx hb dL_law_613 rfl (lv_at hl 1 rfl) ?_
  refine lv_aload_n hx hb dL_law_614 rfl (lv_at hl 3 rfl) ?_
  refine lv_iload_n hx hb dL_law_615 rfl (lv_at hl 0 rfl) ?_
  refine lv_iconst (v := 1) hx hb dL_law_616 (by decide) ?_
  refine lv_iadd hx hb dL_law_617 ?_
  refine set_i (y := 1) (by decide) ?_
  refine va_sld hx hb hX hbl hbA hS (vp_in_nI (n := 1) (N := 5) (by decide) (by decide)) dL_law_618 ?_
  refine set_i (y := xs 1) rfl ?_
  refine be_i (free := va_A [(y0, .inr (7, [.long 0, .ref m0, .int 0, .ref m1, .ref m2, .ref m3, .ref m4, .ref m5, .ref m6, .ref m7, .ref m8, .ref m9, .ref m10, .ref m11, .int 0, .int 0, .int 0, .int 0, .int 0, .int 0, .ref m12, .ref m13, .ref m14, .ref m15, .ref m16, .ref m17, .ref m18, .ref m19, .int 0])), (m4, .inl (cI, 2, .inl zf))] H.size) (wc := [(y0, .inr (7, [.long 0, .ref m0, .int 0, .ref m1, .ref m2, .ref m3, .ref m4, .ref m5, .ref m6, .ref m7, .ref m8, .ref m9, .ref m10, .ref m11, .int 0, .int 0, .int 0, .int 0, .int 0, .int 0, .ref m12, .ref m13, .ref m14, .ref m15, .ref m16, .ref m17, .ref m18, .ref m19, .int 0])), (m4, .inl (cI, 2, .inl zf))]) (wr := []) (ru_V (As := [.int (xs 1)]) (rest := [.int (-1)]) ⟨hx, hb, hml, hown, hts⟩ (c_M_lender l D cI cB cZ cN y0 m0 m1 m2 m3 m4 m5 m6 m7 m8 m9 m10 m11 m12 m13 m14 m15 m16 m17 m18 m19 (xs 1) H.size) (gtr gL_law_X7_lender) rfl ⟨rfl, by decide, by decide, (show Option.map (fun d => d.parameters.length) (parseMethodDescriptor yX7_lender.desc) = some 1 by decide +kernel)⟩ ⟨Nat.le_of_ble_eq_true rfl, Nat.le_of_ble_eq_true rfl⟩ hK hP hD 7 0 rfl rfl [0, 1] (by decide) rfl hl.1 rfl (Nat.le_of_ble_eq_true rfl) dL_law_619 ⟨Nat.le_of_ble_eq_true rfl, Nat.le_of_ble_eq_true rfl⟩) hP hD hS hA [0, 1] [] rfl rfl (by decide) (by decide) (fun r5 u4 H locs w6 hP hD hS => ?_)
  have hP : va_P D vwCl [] H := hP
  have hD : va_D A [] := hD
  obtain rfl : r5 = -1 := w6
  refine lv_icmp_eq (tgt := 868) hx hb dL_law_622 (by decide) (fun h7 => ?_) (fun h7 => absurd (by decide) h7)
  exact law_tail C0 hAf hS (lv_sub hl [3, 0] rfl) (Nat.le_of_ble_eq_true rfl) (Nat.le_of_ble_eq_true rfl)
theorem dL_law_627 : decode cL_law 627 = .ok (.aload_n 1, 1) := by decide +kernel
theorem dL_law_628 : decode cL_law 628 = .ok (.aload_n 0, 1) := by decide +kernel
theorem dL_law_629 : decode cL_law 629 = .ok (.iload_n 3, 1) := by decide +kernel
theorem dL_law_630 : decode cL_law 630 = .ok (.iconst 1, 1) := by decide +kernel
theorem dL_law_631 : decode cL_law 631 = .ok (.iadd, 1) := by decide +kernel
theorem dL_law_632 : decode cL_law 632 = .ok (.iaload, 1) := by decide +kernel
theorem dL_law_633 : decode cL_law 633 = .ok (.invokevirtual 85, 3) := by decide +kernel
set_option maxRecDepth 20000 in
theorem ggL_law_X6_corner : GoodIn wsL_law wsX6_corner := goodIn_r _ [598, 22, 37, 27, 345, 21, 346, 347, 63, 378, 36, 379, 380, 87, 88, 86, 85, 348, 26, 349, 350, 72, 265, 266, 267, 61, 268, 269, 270, 271, 58, 67, 272, 273, 274, 275, 276, 277, 278, 599, 600, 601, 602, 381, 382, 383, 603, 555, 556, 557, 558, 559, 560, 739, 740, 741, 742, 743, 744, 745, 746, 747, 748, 749, 750, 751, 752, 788, 789, 790, 791, 792, 793, 794, 795, 796, 797, 798, 799, 807, 808, 809, 810, 800, 801, 802] (by decide +kernel) (by decide +kernel)
set_option maxRecDepth 20000 in
theorem gL_law_X6_corner : GoodIn wsL_law (wsV RL 85 RX6 yX6_corner wsX6_corner) := goodIn_app (goodIn_of _ (by decide +kernel)) ggL_law_X6_corner
theorem dL_law_636 : decode cL_law 636 = .ok (.aload_n 2, 1) := by decide +kernel
theorem dL_law_637 : decode cL_law 637 = .ok (.aload_n 0, 1) := by decide +kernel
theorem dL_law_638 : decode cL_law 638 = .ok (.iload_n 3, 1) := by decide +kernel
theorem dL_law_639 : decode cL_law 639 = .ok (.iconst 1, 1) := by decide +kernel
theorem dL_law_640 : decode cL_law 640 = .ok (.iadd, 1) := by decide +kernel
theorem dL_law_641 : decode cL_law 641 = .ok (.iaload, 1) := by decide +kernel
theorem dL_law_642 : decode cL_law 642 = .ok (.invokevirtual 88, 3) := by decide +kernel
set_option maxRecDepth 20000 in
theorem ggL_law_X7_corner : GoodIn wsL_law wsX7_corner := goodIn_r _ [607, 103, 396, 397, 398, 5, 399, 109, 142, 143, 144, 416, 417, 418, 419, 114, 112, 420, 421, 422, 423, 118, 287, 288, 289, 290, 107, 291, 292, 293, 294, 104, 113, 295, 296, 297, 298, 106, 412, 413, 414, 415, 119, 105, 120, 569, 570, 571, 753, 754, 755, 756, 757, 758, 759, 760, 761, 762, 763, 764, 765, 766, 767, 768, 769, 770, 771, 772, 773, 774, 775, 776, 777, 778, 779, 780, 781] (by decide +kernel) (by decide +kernel)
set_option maxRecDepth 20000 in
theorem gL_law_X7_corner : GoodIn wsL_law (wsV RL 88 RX7 yX7_corner wsX7_corner) := goodIn_app (goodIn_of _ (by decide +kernel)) ggL_law_X7_corner
theorem dL_law_645 : decode cL_law 645 = .ok (.if_icmp .eq 223, 3) := by decide +kernel
set_option maxHeartbeats 4000000 in
set_option maxRecDepth 100000 in
theorem law_17 {p : Program} {l : Launch} {e : Env} {s : State} {m : MethodId} {below : List Frame} {meth : Method} {c : Code} {D : va_G} {cI cB cZ cN : ClassId} {A : Nat → Prop} {b : Nat} {xs : Nat → Int32} {H : Heap} {locs : List Loc} {ls : Array Slot} {h0 x0 x1 x3 x11 x19 x22 x29 x33 x36 x42 x4 x5 x6 x7 x8 x9 x10 y0 m0 m1 m2 m3 m4 m5 m6 m7 m8 m9 m10 m11 m12 m13 m14 m15 m16 m17 m18 m19 : Nat} (C0 : lw_At p s m meth c b 5 xs) (hK : KN D cI cB cZ cN s) (hA : ∀ q : Nat, s.heap.size ≤ q → A q) (hAf : ∀ q : Nat, A q → s.heap.size ≤ q) (hP : va_P D vwCl [(h0, .inr (6, [.ref x0, .int 0, .ref x1, .ref x3, .ref x11, .ref x19, .ref x22, .int 0, .ref x29, .ref x33, .ref x36, .ref x42, .int 0, .long 0])), (x3, .inr (0, [.int 0, .ref x4, .ref x5, .int 0, .ref x6, .ref x7, .int 0, .ref x8, .ref x9, .ref x10, .int 9, .int 0])), (y0, .inr (7, [.long 0, .ref m0, .int 0, .ref m1, .ref m2, .ref m3, .ref m4, .ref m5, .ref m6, .ref m7, .ref m8, .ref m9, .ref m10, .ref m11, .int 0, .int 0, .int 0, .int 0, .int 0, .int 0, .ref m12, .ref m13, .ref m14, .ref m15, .ref m16, .ref m17, .ref m18, .ref m19, .int 0])), (m7, .inl (cI, 2, .inl zf))] H) (hD : va_D A [(h0, .inr (6, [.ref x0, .int 0, .ref x1, .ref x3, .ref x11, .ref x19, .ref x22, .int 0, .ref x29, .ref x33, .ref x36, .ref x42, .int 0, .long 0])), (x3, .inr (0, [.int 0, .ref x4, .ref x5, .int 0, .ref x6, .ref x7, .int 0, .ref x8, .ref x9, .ref x10, .int 9, .int 0])), (y0, .inr (7, [.long 0, .ref m0, .int 0, .ref m1, .ref m2, .ref m3, .ref m4, .ref m5, .ref m6, .ref m7, .ref m8, .ref m9, .ref m10, .ref m11, .int 0, .int 0, .int 0, .int 0, .int 0, .int 0, .ref m12, .ref m13, .ref m14, .ref m15, .ref m16, .ref m17, .ref m18, .ref m19, .int 0])), (m7, .inl (cI, 2, .inl zf))]) (hS : va_S A s.heap H locs) (hl : lv_has ls 4 [(3, .int 0), (2, .ref y0), (1, .ref h0), (0, .ref b)]) : W p l e room_1 s m #[Value.ref b] below meth c H locs 65 4410 (lw_Z below #[Value.ref b] s) (F0 m 627 ls []) := by
  obtain ⟨hx, hb, hr, hml, hown, hts, hX, hbl, hlk, hgv⟩ := id C0
  have hown : s.vm.findClass RL = some m.cls := hown
  have hbA : ¬ A b := fun q => absurd (hAf b q) (Nat.not_le.mpr hbl)
  refine lv_aload_n hx hb dL_law_627 rfl (lv_at hl 2 rfl) ?_
  refine lv_aload_n hx hb dL_law_628 rfl (lv_at hl 3 rfl) ?_
  refine lv_iload_n hx hb dL_law_629 rfl (lv_at hl 0 rfl) ?_
  refine lv_iconst (v := 1) hx hb dL_law_630 (by decide) ?_
  refine lv_iadd hx hb dL_law_631 ?_
  refine set_i (y := 1) (by decide) ?_
  refine va_sld hx hb hX hbl hbA hS (vp_in_nI (n := 1) (N := 5) (by decide) (by decide)) dL_law_632 ?_
  refine set_i (y := xs 1) rfl ?_
  refine be_i (free := va_A [(h0, .inr (6, [.ref x0, .int 0, .ref x1, .ref x3, .ref x11, .ref x19, .ref x22, .int 0, .ref x29, .ref x33, .ref x36, .ref x42, .int 0, .long 0])), (x3, .inr (0, [.int 0, .ref x4, .ref x5, .int 0, .ref x6, .ref x7, .int 0, .ref x8, .ref x9, .ref x10, .int 9, .int 0]))] H.size) (wc := [(h0, .inr (6, [.ref x0, .int 0, .ref x1, .ref x3, .ref x11, .ref x19, .ref x22, .int 0, .ref x29, .ref x33, .ref x36, .ref x42, .int 0, .long 0])), (x3, .inr (0, [.int 0, .ref x4, .ref x5, .int 0, .ref x6, .ref x7, .int 0, .ref x8, .ref x9, .ref x10, .int 9, .int 0]))]) (wr := [(y0, .inr (7, [.long 0, .ref m0, .int 0, .ref m1, .ref m2, .ref m3, .ref m4, .ref m5, .ref m6, .ref m7, .ref m8, .ref m9, .ref m10, .ref m11, .int 0, .int 0, .int 0, .int 0, .int 0, .int 0, .ref m12, .ref m13, .ref m14, .ref m15, .ref m16, .ref m17, .ref m18, .ref m19, .int 0])), (m7, .inl (cI, 2, .inl zf))]) (ru_V (As := [.int (xs 1)]) (rest := []) ⟨hx, hb, hml, hown, hts⟩ (c_X_corner l D cI cB cZ cN h0 x0 x1 x3 x11 x19 x22 x29 x33 x36 x42 x4 x5 x6 x7 x8 x9 x10 (xs 1) H.size) (gtr gL_law_X6_corner) rfl ⟨rfl, by decide, by decide, (show Option.map (fun d => d.parameters.length) (parseMethodDescriptor yX6_corner.desc) = some 1 by decide +kernel)⟩ ⟨Nat.le_of_ble_eq_true rfl, Nat.le_of_ble_eq_true rfl⟩ hK hP hD 6 0 rfl rfl [0, 1] (by decide) rfl hl.1 rfl (Nat.le_of_ble_eq_true rfl) dL_law_633 ⟨Nat.le_of_ble_eq_true rfl, Nat.le_of_ble_eq_true rfl⟩) hP hD hS hA [0, 1] [2, 3] rfl rfl (by decide) (by decide) (fun r2 u1 H locs w3 hP hD hS => ?_)
  have hP : va_P D vwCl [(y0, .inr (7, [.long 0, .ref m0, .int 0, .ref m1, .ref m2, .ref m3, .ref m4, .ref m5, .ref m6, .ref m7, .ref m8, .ref m9, .ref m10, .ref m11, .int 0, .int 0, .int 0, .int 0, .int 0, .int 0, .ref m12, .ref m13, .ref m14, .ref m15, .ref m16, .ref m17, .ref m18, .ref m19, .int 0])), (m7, .inl (cI, 2, .inl zf))] H := hP
  have hD : va_D A [(y0, .inr (7, [.long 0, .ref m0, .int 0, .ref m1, .ref m2, .ref m3, .ref m4, .ref m5, .ref m6, .ref m7, .ref m8, .ref m9, .ref m10, .ref m11, .int 0, .int 0, .int 0, .int 0, .int 0, .int 0, .ref m12, .ref m13, .ref m14, .ref m15, .ref m16, .ref m17, .ref m18, .ref m19, .int 0])), (m7, .inl (cI, 2, .inl zf))] := hD
  obtain rfl : r2 = -1 := w3
  refine lv_aload_n hx hb dL_law_636 rfl (lv_at hl 1 rfl) ?_
  refine lv_aload_n hx hb dL_law_637 rfl (lv_at hl 3 rfl) ?_
  refine lv_iload_n hx hb dL_law_638 rfl (lv_at hl 0 rfl) ?_
  refine lv_iconst (v := 1) hx hb dL_law_639 (by decide) ?_
  refine lv_iadd hx hb dL_law_640 ?_
  refine set_i (y := 1) (by decide) ?_
  refine va_sld hx hb hX hbl hbA hS (vp_in_nI (n := 1) (N := 5) (by decide) (by decide)) dL_law_641 ?_
  refine set_i (y := xs 1) rfl ?_
  refine be_i (free := va_A [(y0, .inr (7, [.long 0, .ref m0, .int 0, .ref m1, .ref m2, .ref m3, .ref m4, .ref m5, .ref m6, .ref m7, .ref m8, .ref m9, .ref m10, .ref m11, .int 0, .int 0, .int 0, .int 0, .int 0, .int 0, .ref m12, .ref m13, .ref m14, .ref m15, .ref m16, .ref m17, .ref m18, .ref m19, .int 0])), (m7, .inl (cI, 2, .inl zf))] H.size) (wc := [(y0, .inr (7, [.long 0, .ref m0, .int 0, .ref m1, .ref m2, .ref m3, .ref m4, .ref m5, .ref m6, .ref m7, .ref m8, .ref m9, .ref m10, .ref m11, .int 0, .int 0, .int 0, .int 0, .int 0, .int 0, .ref m12, .ref m13, .ref m14, .ref m15, .ref m16, .ref m17, .ref m18, .ref m19, .int 0])), (m7, .inl (cI, 2, .inl zf))]) (wr := []) (ru_V (As := [.int (xs 1)]) (rest := [.int (-1)]) ⟨hx, hb, hml, hown, hts⟩ (c_M_corner l D cI cB cZ cN y0 m0 m1 m2 m3 m4 m5 m6 m7 m8 m9 m10 m11 m12 m13 m14 m15 m16 m17 m18 m19 (xs 1) H.size) (gtr gL_law_X7_corner) rfl ⟨rfl, by decide, by decide, (show Option.map (fun d => d.parameters.length) (parseMethodDescriptor yX7_corner.desc) = some 1 by decide +kernel)⟩ ⟨Nat.le_of_ble_eq_true rfl, Nat.le_of_ble_eq_true rfl⟩ hK hP hD 7 0 rfl rfl [0, 1] (by decide) rfl hl.1 rfl (Nat.le_of_ble_eq_true rfl) dL_law_642 ⟨Nat.le_of_ble_eq_true rfl, Nat.le_of_ble_eq_true rfl⟩) hP hD hS hA [0, 1] [] rfl rfl (by decide) (by decide) (fun r5 u4 H locs w6 hP hD hS => ?_)
  have hP : va_P D vwCl [] H := hP
  have hD : va_D A [] := hD
  obtain rfl : r5 = -1 := w6
  refine lv_icmp_eq (tgt := 868) hx hb dL_law_645 (by decide) (fun h7 => ?_) (fun h7 => absurd (by decide) h7)
  exact law_tail C0 hAf hS (lv_sub hl [3, 0] rfl) (Nat.le_of_ble_eq_true rfl) (Nat.le_of_ble_eq_true rfl)
theorem dL_law_650 : decode cL_law 650 = .ok (.aload_n 1, 1) := by decide +kernel
theorem dL_law_651 : decode cL_law 651 = .ok (.aload_n 0, 1) := by decide +kernel
theorem dL_law_652 : decode cL_law 652 = .ok (.iload_n 3, 1) := by decide +kernel
theorem dL_law_653 : decode cL_law 653 = .ok (.iconst 1, 1) := by decide +kernel
theorem dL_law_654 : decode cL_law 654 = .ok (.iadd, 1) := by decide +kernel
theorem dL_law_655 : decode cL_law 655 = .ok (.iaload, 1) := by decide +kernel
theorem dL_law_656 : decode cL_law 656 = .ok (.aload_n 0, 1) := by decide +kernel
theorem dL_law_657 : decode cL_law 657 = .ok (.iload_n 3, 1) := by decide +kernel
theorem dL_law_658 : decode cL_law 658 = .ok (.iconst 2, 1) := by decide +kernel
theorem dL_law_659 : decode cL_law 659 = .ok (.iadd, 1) := by decide +kernel
theorem dL_law_660 : decode cL_law 660 = .ok (.iaload, 1) := by decide +kernel
theorem dL_law_661 : decode cL_law 661 = .ok (.aload_n 0, 1) := by decide +kernel
theorem dL_law_662 : decode cL_law 662 = .ok (.iload_n 3, 1) := by decide +kernel
theorem dL_law_663 : decode cL_law 663 = .ok (.iconst 3, 1) := by decide +kernel
theorem dL_law_664 : decode cL_law 664 = .ok (.iadd, 1) := by decide +kernel
theorem dL_law_665 : decode cL_law 665 = .ok (.iaload, 1) := by decide +kernel
theorem dL_law_666 : decode cL_law 666 = .ok (.invokevirtual 89, 3) := by decide +kernel
set_option maxRecDepth 20000 in
theorem ggL_law_X6_odds : GoodIn wsL_law wsX6_odds := goodIn_r _ [611, 22, 37, 27, 345, 21, 346, 347, 63, 378, 36, 379, 380, 87, 88, 86, 85, 348, 26, 349, 350, 72, 265, 266, 267, 61, 268, 269, 270, 271, 58, 67, 272, 273, 274, 275, 276, 277, 278, 612, 613, 614, 602, 381, 382, 383, 615, 616, 617, 618, 619, 620, 621, 622, 623, 2, 624, 739, 740, 741, 742, 743, 744, 745, 746, 747, 748, 749, 750, 751, 752, 788, 789, 790, 791, 792, 793, 794, 795, 796, 797, 798, 799, 807, 808, 809, 810, 800, 801, 802] (by decide +kernel) (by decide +kernel)
set_option maxRecDepth 20000 in
theorem gL_law_X6_odds : GoodIn wsL_law (wsV RL 89 RX6 yX6_odds wsX6_odds) := goodIn_app (goodIn_of _ (by decide +kernel)) ggL_law_X6_odds
theorem dL_law_669 : decode cL_law 669 = .ok (.aload_n 2, 1) := by decide +kernel
theorem dL_law_670 : decode cL_law 670 = .ok (.aload_n 0, 1) := by decide +kernel
theorem dL_law_671 : decode cL_law 671 = .ok (.iload_n 3, 1) := by decide +kernel
theorem dL_law_672 : decode cL_law 672 = .ok (.iconst 1, 1) := by decide +kernel
theorem dL_law_673 : decode cL_law 673 = .ok (.iadd, 1) := by decide +kernel
theorem dL_law_674 : decode cL_law 674 = .ok (.iaload, 1) := by decide +kernel
theorem dL_law_675 : decode cL_law 675 = .ok (.aload_n 0, 1) := by decide +kernel
theorem dL_law_676 : decode cL_law 676 = .ok (.iload_n 3, 1) := by decide +kernel
theorem dL_law_677 : decode cL_law 677 = .ok (.iconst 2, 1) := by decide +kernel
theorem dL_law_678 : decode cL_law 678 = .ok (.iadd, 1) := by decide +kernel
theorem dL_law_679 : decode cL_law 679 = .ok (.iaload, 1) := by decide +kernel
theorem dL_law_680 : decode cL_law 680 = .ok (.aload_n 0, 1) := by decide +kernel
theorem dL_law_681 : decode cL_law 681 = .ok (.iload_n 3, 1) := by decide +kernel
theorem dL_law_682 : decode cL_law 682 = .ok (.iconst 3, 1) := by decide +kernel
theorem dL_law_683 : decode cL_law 683 = .ok (.iadd, 1) := by decide +kernel
theorem dL_law_684 : decode cL_law 684 = .ok (.iaload, 1) := by decide +kernel
theorem dL_law_685 : decode cL_law 685 = .ok (.invokevirtual 93, 3) := by decide +kernel
set_option maxRecDepth 20000 in
theorem ggL_law_X7_odds : GoodIn wsL_law wsX7_odds := goodIn_r _ [628, 103, 396, 397, 398, 5, 399, 109, 142, 143, 144, 416, 417, 418, 419, 114, 112, 420, 421, 422, 423, 118, 287, 288, 289, 290, 107, 291, 292, 293, 294, 104, 113, 295, 296, 297, 298, 106, 412, 413, 414, 415, 119, 105, 120, 753, 754, 755, 756, 757, 758, 759, 760, 761, 762, 763, 764, 765, 766, 767, 768, 769, 770, 771, 772, 773, 774, 775, 776, 777, 778, 779, 780, 781] (by decide +kernel) (by decide +kernel)
set_option maxRecDepth 20000 in
theorem gL_law_X7_odds : GoodIn wsL_law (wsV RL 93 RX7 yX7_odds wsX7_odds) := goodIn_app (goodIn_of _ (by decide +kernel)) ggL_law_X7_odds
theorem dL_law_688 : decode cL_law 688 = .ok (.if_icmp .eq 180, 3) := by decide +kernel
set_option maxHeartbeats 4000000 in
set_option maxRecDepth 100000 in
theorem law_18 {p : Program} {l : Launch} {e : Env} {s : State} {m : MethodId} {below : List Frame} {meth : Method} {c : Code} {D : va_G} {cI cB cZ cN : ClassId} {A : Nat → Prop} {b : Nat} {xs : Nat → Int32} {H : Heap} {locs : List Loc} {ls : Array Slot} {h0 x0 x1 x3 x11 x19 x22 x29 x33 x36 x42 x4 x5 x6 x7 x8 x9 x10 y0 m0 m1 m2 m3 m4 m5 m6 m7 m8 m9 m10 m11 m12 m13 m14 m15 m16 m17 m18 m19 : Nat} (C0 : lw_At p s m meth c b 5 xs) (hK : KN D cI cB cZ cN s) (hA : ∀ q : Nat, s.heap.size ≤ q → A q) (hAf : ∀ q : Nat, A q → s.heap.size ≤ q) (hP : va_P D vwCl [(h0, .inr (6, [.ref x0, .int 0, .ref x1, .ref x3, .ref x11, .ref x19, .ref x22, .int 0, .ref x29, .ref x33, .ref x36, .ref x42, .int 0, .long 0])), (x3, .inr (0, [.int 0, .ref x4, .ref x5, .int 0, .ref x6, .ref x7, .int 0, .ref x8, .ref x9, .ref x10, .int 9, .int 0])), (y0, .inr (7, [.long 0, .ref m0, .int 0, .ref m1, .ref m2, .ref m3, .ref m4, .ref m5, .ref m6, .ref m7, .ref m8, .ref m9, .ref m10, .ref m11, .int 0, .int 0, .int 0, .int 0, .int 0, .int 0, .ref m12, .ref m13, .ref m14, .ref m15, .ref m16, .ref m17, .ref m18, .ref m19, .int 0])), (m7, .inl (cI, 2, .inl zf))] H) (hD : va_D A [(h0, .inr (6, [.ref x0, .int 0, .ref x1, .ref x3, .ref x11, .ref x19, .ref x22, .int 0, .ref x29, .ref x33, .ref x36, .ref x42, .int 0, .long 0])), (x3, .inr (0, [.int 0, .ref x4, .ref x5, .int 0, .ref x6, .ref x7, .int 0, .ref x8, .ref x9, .ref x10, .int 9, .int 0])), (y0, .inr (7, [.long 0, .ref m0, .int 0, .ref m1, .ref m2, .ref m3, .ref m4, .ref m5, .ref m6, .ref m7, .ref m8, .ref m9, .ref m10, .ref m11, .int 0, .int 0, .int 0, .int 0, .int 0, .int 0, .ref m12, .ref m13, .ref m14, .ref m15, .ref m16, .ref m17, .ref m18, .ref m19, .int 0])), (m7, .inl (cI, 2, .inl zf))]) (hS : va_S A s.heap H locs) (hl : lv_has ls 4 [(3, .int 0), (2, .ref y0), (1, .ref h0), (0, .ref b)]) : W p l e room_1 s m #[Value.ref b] below meth c H locs 65 4410 (lw_Z below #[Value.ref b] s) (F0 m 650 ls []) := by
  obtain ⟨hx, hb, hr, hml, hown, hts, hX, hbl, hlk, hgv⟩ := id C0
  have hown : s.vm.findClass RL = some m.cls := hown
  have hbA : ¬ A b := fun q => absurd (hAf b q) (Nat.not_le.mpr hbl)
  refine lv_aload_n hx hb dL_law_650 rfl (lv_at hl 2 rfl) ?_
  refine lv_aload_n hx hb dL_law_651 rfl (lv_at hl 3 rfl) ?_
  refine lv_iload_n hx hb dL_law_652 rfl (lv_at hl 0 rfl) ?_
  refine lv_iconst (v := 1) hx hb dL_law_653 (by decide) ?_
  refine lv_iadd hx hb dL_law_654 ?_
  refine set_i (y := 1) (by decide) ?_
  refine va_sld hx hb hX hbl hbA hS (vp_in_nI (n := 1) (N := 5) (by decide) (by decide)) dL_law_655 ?_
  refine set_i (y := xs 1) rfl ?_
  refine lv_aload_n hx hb dL_law_656 rfl (lv_at hl 3 rfl) ?_
  refine lv_iload_n hx hb dL_law_657 rfl (lv_at hl 0 rfl) ?_
  refine lv_iconst (v := 2) hx hb dL_law_658 (by decide) ?_
  refine lv_iadd hx hb dL_law_659 ?_
  refine set_i (y := 2) (by decide) ?_
  refine va_sld hx hb hX hbl hbA hS (vp_in_nI (n := 2) (N := 5) (by decide) (by decide)) dL_law_660 ?_
  refine set_i (y := xs 2) rfl ?_
  refine lv_aload_n hx hb dL_law_661 rfl (lv_at hl 3 rfl) ?_
  refine lv_iload_n hx hb dL_law_662 rfl (lv_at hl 0 rfl) ?_
  refine lv_iconst (v := 3) hx hb dL_law_663 (by decide) ?_
  refine lv_iadd hx hb dL_law_664 ?_
  refine set_i (y := 3) (by decide) ?_
  refine va_sld hx hb hX hbl hbA hS (vp_in_nI (n := 3) (N := 5) (by decide) (by decide)) dL_law_665 ?_
  refine set_i (y := xs 3) rfl ?_
  refine be_i (free := va_A [(h0, .inr (6, [.ref x0, .int 0, .ref x1, .ref x3, .ref x11, .ref x19, .ref x22, .int 0, .ref x29, .ref x33, .ref x36, .ref x42, .int 0, .long 0])), (x3, .inr (0, [.int 0, .ref x4, .ref x5, .int 0, .ref x6, .ref x7, .int 0, .ref x8, .ref x9, .ref x10, .int 9, .int 0]))] H.size) (wc := [(h0, .inr (6, [.ref x0, .int 0, .ref x1, .ref x3, .ref x11, .ref x19, .ref x22, .int 0, .ref x29, .ref x33, .ref x36, .ref x42, .int 0, .long 0])), (x3, .inr (0, [.int 0, .ref x4, .ref x5, .int 0, .ref x6, .ref x7, .int 0, .ref x8, .ref x9, .ref x10, .int 9, .int 0]))]) (wr := [(y0, .inr (7, [.long 0, .ref m0, .int 0, .ref m1, .ref m2, .ref m3, .ref m4, .ref m5, .ref m6, .ref m7, .ref m8, .ref m9, .ref m10, .ref m11, .int 0, .int 0, .int 0, .int 0, .int 0, .int 0, .ref m12, .ref m13, .ref m14, .ref m15, .ref m16, .ref m17, .ref m18, .ref m19, .int 0])), (m7, .inl (cI, 2, .inl zf))]) (ru_V (As := [.int (xs 1), .int (xs 2), .int (xs 3)]) (rest := []) ⟨hx, hb, hml, hown, hts⟩ (c_X_odds l D cI cB cZ cN h0 x0 x1 x3 x11 x19 x22 x29 x33 x36 x42 x4 x5 x6 x7 x8 x9 x10 (xs 1) (xs 2) (xs 3) H.size) (gtr gL_law_X6_odds) rfl ⟨rfl, by decide, by decide, (show Option.map (fun d => d.parameters.length) (parseMethodDescriptor yX6_odds.desc) = some 3 by decide +kernel)⟩ ⟨Nat.le_of_ble_eq_true rfl, Nat.le_of_ble_eq_true rfl⟩ hK hP hD 6 0 rfl rfl [0, 1] (by decide) rfl hl.1 rfl (Nat.le_of_ble_eq_true rfl) dL_law_666 ⟨Nat.le_of_ble_eq_true rfl, Nat.le_of_ble_eq_true rfl⟩) hP hD hS hA [0, 1] [2, 3] rfl rfl (by decide) (by decide) (fun r2 u1 H locs w3 hP hD hS => ?_)
  have hP : va_P D vwCl [(y0, .inr (7, [.long 0, .ref m0, .int 0, .ref m1, .ref m2, .ref m3, .ref m4, .ref m5, .ref m6, .ref m7, .ref m8, .ref m9, .ref m10, .ref m11, .int 0, .int 0, .int 0, .int 0, .int 0, .int 0, .ref m12, .ref m13, .ref m14, .ref m15, .ref m16, .ref m17, .ref m18, .ref m19, .int 0])), (m7, .inl (cI, 2, .inl zf))] H := hP
  have hD : va_D A [(y0, .inr (7, [.long 0, .ref m0, .int 0, .ref m1, .ref m2, .ref m3, .ref m4, .ref m5, .ref m6, .ref m7, .ref m8, .ref m9, .ref m10, .ref m11, .int 0, .int 0, .int 0, .int 0, .int 0, .int 0, .ref m12, .ref m13, .ref m14, .ref m15, .ref m16, .ref m17, .ref m18, .ref m19, .int 0])), (m7, .inl (cI, 2, .inl zf))] := hD
  obtain rfl : r2 = -1 := w3
  refine lv_aload_n hx hb dL_law_669 rfl (lv_at hl 1 rfl) ?_
  refine lv_aload_n hx hb dL_law_670 rfl (lv_at hl 3 rfl) ?_
  refine lv_iload_n hx hb dL_law_671 rfl (lv_at hl 0 rfl) ?_
  refine lv_iconst (v := 1) hx hb dL_law_672 (by decide) ?_
  refine lv_iadd hx hb dL_law_673 ?_
  refine set_i (y := 1) (by decide) ?_
  refine va_sld hx hb hX hbl hbA hS (vp_in_nI (n := 1) (N := 5) (by decide) (by decide)) dL_law_674 ?_
  refine set_i (y := xs 1) rfl ?_
  refine lv_aload_n hx hb dL_law_675 rfl (lv_at hl 3 rfl) ?_
  refine lv_iload_n hx hb dL_law_676 rfl (lv_at hl 0 rfl) ?_
  refine lv_iconst (v := 2) hx hb dL_law_677 (by decide) ?_
  refine lv_iadd hx hb dL_law_678 ?_
  refine set_i (y := 2) (by decide) ?_
  refine va_sld hx hb hX hbl hbA hS (vp_in_nI (n := 2) (N := 5) (by decide) (by decide)) dL_law_679 ?_
  refine set_i (y := xs 2) rfl ?_
  refine lv_aload_n hx hb dL_law_680 rfl (lv_at hl 3 rfl) ?_
  refine lv_iload_n hx hb dL_law_681 rfl (lv_at hl 0 rfl) ?_
  refine lv_iconst (v := 3) hx hb dL_law_682 (by decide) ?_
  refine lv_iadd hx hb dL_law_683 ?_
  refine set_i (y := 3) (by decide) ?_
  refine va_sld hx hb hX hbl hbA hS (vp_in_nI (n := 3) (N := 5) (by decide) (by decide)) dL_law_684 ?_
  refine set_i (y := xs 3) rfl ?_
  refine be_i (free := va_A [(y0, .inr (7, [.long 0, .ref m0, .int 0, .ref m1, .ref m2, .ref m3, .ref m4, .ref m5, .ref m6, .ref m7, .ref m8, .ref m9, .ref m10, .ref m11, .int 0, .int 0, .int 0, .int 0, .int 0, .int 0, .ref m12, .ref m13, .ref m14, .ref m15, .ref m16, .ref m17, .ref m18, .ref m19, .int 0])), (m7, .inl (cI, 2, .inl zf))] H.size) (wc := [(y0, .inr (7, [.long 0, .ref m0, .int 0, .ref m1, .ref m2, .ref m3, .ref m4, .ref m5, .ref m6, .ref m7, .ref m8, .ref m9, .ref m10, .ref m11, .int 0, .int 0, .int 0, .int 0, .int 0, .int 0, .ref m12, .ref m13, .ref m14, .ref m15, .ref m16, .ref m17, .ref m18, .ref m19, .int 0])), (m7, .inl (cI, 2, .inl zf))]) (wr := []) (ru_V (As := [.int (xs 1), .int (xs 2), .int (xs 3)]) (rest := [.int (-1)]) ⟨hx, hb, hml, hown, hts⟩ (c_M_odds l D cI cB cZ cN y0 m0 m1 m2 m3 m4 m5 m6 m7 m8 m9 m10 m11 m12 m13 m14 m15 m16 m17 m18 m19 (xs 1) (xs 2) (xs 3) H.size) (gtr gL_law_X7_odds) rfl ⟨rfl, by decide, by decide, (show Option.map (fun d => d.parameters.length) (parseMethodDescriptor yX7_odds.desc) = some 3 by decide +kernel)⟩ ⟨Nat.le_of_ble_eq_true rfl, Nat.le_of_ble_eq_true rfl⟩ hK hP hD 7 0 rfl rfl [0, 1] (by decide) rfl hl.1 rfl (Nat.le_of_ble_eq_true rfl) dL_law_685 ⟨Nat.le_of_ble_eq_true rfl, Nat.le_of_ble_eq_true rfl⟩) hP hD hS hA [0, 1] [] rfl rfl (by decide) (by decide) (fun r5 u4 H locs w6 hP hD hS => ?_)
  have hP : va_P D vwCl [] H := hP
  have hD : va_D A [] := hD
  obtain rfl : r5 = -1 := w6
  refine lv_icmp_eq (tgt := 868) hx hb dL_law_688 (by decide) (fun h7 => ?_) (fun h7 => absurd (by decide) h7)
  exact law_tail C0 hAf hS (lv_sub hl [3, 0] rfl) (Nat.le_of_ble_eq_true rfl) (Nat.le_of_ble_eq_true rfl)
theorem dL_law_693 : decode cL_law 693 = .ok (.aload_n 1, 1) := by decide +kernel
theorem dL_law_694 : decode cL_law 694 = .ok (.aload_n 0, 1) := by decide +kernel
theorem dL_law_695 : decode cL_law 695 = .ok (.iload_n 3, 1) := by decide +kernel
theorem dL_law_696 : decode cL_law 696 = .ok (.iconst 1, 1) := by decide +kernel
theorem dL_law_697 : decode cL_law 697 = .ok (.iadd, 1) := by decide +kernel
theorem dL_law_698 : decode cL_law 698 = .ok (.iaload, 1) := by decide +kernel
theorem dL_law_699 : decode cL_law 699 = .ok (.invokevirtual 94, 3) := by decide +kernel
set_option maxRecDepth 20000 in
theorem ggL_law_X6_took : GoodIn wsL_law wsX6_took := goodIn_r _ [632, 22, 43, 42, 258, 21, 259, 260, 57, 739, 740, 741, 742, 743, 744, 745, 746, 747, 748, 749, 750, 751, 752, 788, 789, 790, 791, 792, 793, 794, 795, 796, 797, 798, 799] (by decide +kernel) (by decide +kernel)
set_option maxRecDepth 20000 in
theorem gL_law_X6_took : GoodIn wsL_law (wsV RL 94 RX6 yX6_took wsX6_took) := goodIn_app (goodIn_of _ (by decide +kernel)) ggL_law_X6_took
theorem dL_law_702 : decode cL_law 702 = .ok (.aload_n 2, 1) := by decide +kernel
theorem dL_law_703 : decode cL_law 703 = .ok (.aload_n 0, 1) := by decide +kernel
theorem dL_law_704 : decode cL_law 704 = .ok (.iload_n 3, 1) := by decide +kernel
theorem dL_law_705 : decode cL_law 705 = .ok (.iconst 1, 1) := by decide +kernel
theorem dL_law_706 : decode cL_law 706 = .ok (.iadd, 1) := by decide +kernel
theorem dL_law_707 : decode cL_law 707 = .ok (.iaload, 1) := by decide +kernel
theorem dL_law_708 : decode cL_law 708 = .ok (.invokevirtual 97, 3) := by decide +kernel
set_option maxRecDepth 20000 in
theorem ggL_law_X7_took : GoodIn wsL_law wsX7_took := goodIn_r _ [636, 132, 122, 283, 284, 285, 5, 286, 103, 142, 143, 144, 753, 754, 755, 756, 757, 758, 759, 760, 761, 762, 763, 764, 765, 766, 767, 768, 769, 770, 771, 772, 773, 774, 775, 776, 777, 778, 779, 780, 781] (by decide +kernel) (by decide +kernel)
set_option maxRecDepth 20000 in
theorem gL_law_X7_took : GoodIn wsL_law (wsV RL 97 RX7 yX7_took wsX7_took) := goodIn_app (goodIn_of _ (by decide +kernel)) ggL_law_X7_took
theorem dL_law_711 : decode cL_law 711 = .ok (.if_icmp .eq 157, 3) := by decide +kernel
set_option maxHeartbeats 4000000 in
set_option maxRecDepth 100000 in
theorem law_19 {p : Program} {l : Launch} {e : Env} {s : State} {m : MethodId} {below : List Frame} {meth : Method} {c : Code} {D : va_G} {cI cB cZ cN : ClassId} {A : Nat → Prop} {b : Nat} {xs : Nat → Int32} {H : Heap} {locs : List Loc} {ls : Array Slot} {h0 x0 x1 x3 x11 x19 x22 x29 x33 x36 x42 x4 x5 x6 x7 x8 x9 x10 y0 m0 m1 m2 m3 m4 m5 m6 m7 m8 m9 m10 m11 m12 m13 m14 m15 m16 m17 m18 m19 : Nat} (C0 : lw_At p s m meth c b 5 xs) (hK : KN D cI cB cZ cN s) (hA : ∀ q : Nat, s.heap.size ≤ q → A q) (hAf : ∀ q : Nat, A q → s.heap.size ≤ q) (hP : va_P D vwCl [(h0, .inr (6, [.ref x0, .int 0, .ref x1, .ref x3, .ref x11, .ref x19, .ref x22, .int 0, .ref x29, .ref x33, .ref x36, .ref x42, .int 0, .long 0])), (x3, .inr (0, [.int 0, .ref x4, .ref x5, .int 0, .ref x6, .ref x7, .int 0, .ref x8, .ref x9, .ref x10, .int 9, .int 0])), (y0, .inr (7, [.long 0, .ref m0, .int 0, .ref m1, .ref m2, .ref m3, .ref m4, .ref m5, .ref m6, .ref m7, .ref m8, .ref m9, .ref m10, .ref m11, .int 0, .int 0, .int 0, .int 0, .int 0, .int 0, .ref m12, .ref m13, .ref m14, .ref m15, .ref m16, .ref m17, .ref m18, .ref m19, .int 0])), (m1, .inl (cI, 2, .inl zf))] H) (hD : va_D A [(h0, .inr (6, [.ref x0, .int 0, .ref x1, .ref x3, .ref x11, .ref x19, .ref x22, .int 0, .ref x29, .ref x33, .ref x36, .ref x42, .int 0, .long 0])), (x3, .inr (0, [.int 0, .ref x4, .ref x5, .int 0, .ref x6, .ref x7, .int 0, .ref x8, .ref x9, .ref x10, .int 9, .int 0])), (y0, .inr (7, [.long 0, .ref m0, .int 0, .ref m1, .ref m2, .ref m3, .ref m4, .ref m5, .ref m6, .ref m7, .ref m8, .ref m9, .ref m10, .ref m11, .int 0, .int 0, .int 0, .int 0, .int 0, .int 0, .ref m12, .ref m13, .ref m14, .ref m15, .ref m16, .ref m17, .ref m18, .ref m19, .int 0])), (m1, .inl (cI, 2, .inl zf))]) (hS : va_S A s.heap H locs) (hl : lv_has ls 4 [(3, .int 0), (2, .ref y0), (1, .ref h0), (0, .ref b)]) : W p l e room_1 s m #[Value.ref b] below meth c H locs 65 4410 (lw_Z below #[Value.ref b] s) (F0 m 693 ls []) := by
  obtain ⟨hx, hb, hr, hml, hown, hts, hX, hbl, hlk, hgv⟩ := id C0
  have hown : s.vm.findClass RL = some m.cls := hown
  have hbA : ¬ A b := fun q => absurd (hAf b q) (Nat.not_le.mpr hbl)
  refine lv_aload_n hx hb dL_law_693 rfl (lv_at hl 2 rfl) ?_
  refine lv_aload_n hx hb dL_law_694 rfl (lv_at hl 3 rfl) ?_
  refine lv_iload_n hx hb dL_law_695 rfl (lv_at hl 0 rfl) ?_
  refine lv_iconst (v := 1) hx hb dL_law_696 (by decide) ?_
  refine lv_iadd hx hb dL_law_697 ?_
  refine set_i (y := 1) (by decide) ?_
  refine va_sld hx hb hX hbl hbA hS (vp_in_nI (n := 1) (N := 5) (by decide) (by decide)) dL_law_698 ?_
  refine set_i (y := xs 1) rfl ?_
  refine be_i (free := va_A [(h0, .inr (6, [.ref x0, .int 0, .ref x1, .ref x3, .ref x11, .ref x19, .ref x22, .int 0, .ref x29, .ref x33, .ref x36, .ref x42, .int 0, .long 0])), (x3, .inr (0, [.int 0, .ref x4, .ref x5, .int 0, .ref x6, .ref x7, .int 0, .ref x8, .ref x9, .ref x10, .int 9, .int 0]))] H.size) (wc := [(h0, .inr (6, [.ref x0, .int 0, .ref x1, .ref x3, .ref x11, .ref x19, .ref x22, .int 0, .ref x29, .ref x33, .ref x36, .ref x42, .int 0, .long 0])), (x3, .inr (0, [.int 0, .ref x4, .ref x5, .int 0, .ref x6, .ref x7, .int 0, .ref x8, .ref x9, .ref x10, .int 9, .int 0]))]) (wr := [(y0, .inr (7, [.long 0, .ref m0, .int 0, .ref m1, .ref m2, .ref m3, .ref m4, .ref m5, .ref m6, .ref m7, .ref m8, .ref m9, .ref m10, .ref m11, .int 0, .int 0, .int 0, .int 0, .int 0, .int 0, .ref m12, .ref m13, .ref m14, .ref m15, .ref m16, .ref m17, .ref m18, .ref m19, .int 0])), (m1, .inl (cI, 2, .inl zf))]) (ru_V (As := [.int (xs 1)]) (rest := []) ⟨hx, hb, hml, hown, hts⟩ (c_X_took l D cI cB cZ cN h0 x0 x1 x3 x11 x19 x22 x29 x33 x36 x42 x4 x5 x6 x7 x8 x9 x10 (xs 1) H.size) (gtr gL_law_X6_took) rfl ⟨rfl, by decide, by decide, (show Option.map (fun d => d.parameters.length) (parseMethodDescriptor yX6_took.desc) = some 1 by decide +kernel)⟩ ⟨Nat.le_of_ble_eq_true rfl, Nat.le_of_ble_eq_true rfl⟩ hK hP hD 6 0 rfl rfl [0, 1] (by decide) rfl hl.1 rfl (Nat.le_of_ble_eq_true rfl) dL_law_699 ⟨Nat.le_of_ble_eq_true rfl, Nat.le_of_ble_eq_true rfl⟩) hP hD hS hA [0, 1] [2, 3] rfl rfl (by decide) (by decide) (fun r2 u1 H locs w3 hP hD hS => ?_)
  have hP : va_P D vwCl [(y0, .inr (7, [.long 0, .ref m0, .int 0, .ref m1, .ref m2, .ref m3, .ref m4, .ref m5, .ref m6, .ref m7, .ref m8, .ref m9, .ref m10, .ref m11, .int 0, .int 0, .int 0, .int 0, .int 0, .int 0, .ref m12, .ref m13, .ref m14, .ref m15, .ref m16, .ref m17, .ref m18, .ref m19, .int 0])), (m1, .inl (cI, 2, .inl zf))] H := hP
  have hD : va_D A [(y0, .inr (7, [.long 0, .ref m0, .int 0, .ref m1, .ref m2, .ref m3, .ref m4, .ref m5, .ref m6, .ref m7, .ref m8, .ref m9, .ref m10, .ref m11, .int 0, .int 0, .int 0, .int 0, .int 0, .int 0, .ref m12, .ref m13, .ref m14, .ref m15, .ref m16, .ref m17, .ref m18, .ref m19, .int 0])), (m1, .inl (cI, 2, .inl zf))] := hD
  obtain rfl : r2 = -1 := w3
  refine lv_aload_n hx hb dL_law_702 rfl (lv_at hl 1 rfl) ?_
  refine lv_aload_n hx hb dL_law_703 rfl (lv_at hl 3 rfl) ?_
  refine lv_iload_n hx hb dL_law_704 rfl (lv_at hl 0 rfl) ?_
  refine lv_iconst (v := 1) hx hb dL_law_705 (by decide) ?_
  refine lv_iadd hx hb dL_law_706 ?_
  refine set_i (y := 1) (by decide) ?_
  refine va_sld hx hb hX hbl hbA hS (vp_in_nI (n := 1) (N := 5) (by decide) (by decide)) dL_law_707 ?_
  refine set_i (y := xs 1) rfl ?_
  refine be_i (free := va_A [(y0, .inr (7, [.long 0, .ref m0, .int 0, .ref m1, .ref m2, .ref m3, .ref m4, .ref m5, .ref m6, .ref m7, .ref m8, .ref m9, .ref m10, .ref m11, .int 0, .int 0, .int 0, .int 0, .int 0, .int 0, .ref m12, .ref m13, .ref m14, .ref m15, .ref m16, .ref m17, .ref m18, .ref m19, .int 0])), (m1, .inl (cI, 2, .inl zf))] H.size) (wc := [(y0, .inr (7, [.long 0, .ref m0, .int 0, .ref m1, .ref m2, .ref m3, .ref m4, .ref m5, .ref m6, .ref m7, .ref m8, .ref m9, .ref m10, .ref m11, .int 0, .int 0, .int 0, .int 0, .int 0, .int 0, .ref m12, .ref m13, .ref m14, .ref m15, .ref m16, .ref m17, .ref m18, .ref m19, .int 0])), (m1, .inl (cI, 2, .inl zf))]) (wr := []) (ru_V (As := [.int (xs 1)]) (rest := [.int (-1)]) ⟨hx, hb, hml, hown, hts⟩ (c_M_took l D cI cB cZ cN y0 m0 m1 m2 m3 m4 m5 m6 m7 m8 m9 m10 m11 m12 m13 m14 m15 m16 m17 m18 m19 (xs 1) H.size) (gtr gL_law_X7_took) rfl ⟨rfl, by decide, by decide, (show Option.map (fun d => d.parameters.length) (parseMethodDescriptor yX7_took.desc) = some 1 by decide +kernel)⟩ ⟨Nat.le_of_ble_eq_true rfl, Nat.le_of_ble_eq_true rfl⟩ hK hP hD 7 0 rfl rfl [0, 1] (by decide) rfl hl.1 rfl (Nat.le_of_ble_eq_true rfl) dL_law_708 ⟨Nat.le_of_ble_eq_true rfl, Nat.le_of_ble_eq_true rfl⟩) hP hD hS hA [0, 1] [] rfl rfl (by decide) (by decide) (fun r5 u4 H locs w6 hP hD hS => ?_)
  have hP : va_P D vwCl [] H := hP
  have hD : va_D A [] := hD
  obtain rfl : r5 = -1 := w6
  refine lv_icmp_eq (tgt := 868) hx hb dL_law_711 (by decide) (fun h7 => ?_) (fun h7 => absurd (by decide) h7)
  exact law_tail C0 hAf hS (lv_sub hl [3, 0] rfl) (Nat.le_of_ble_eq_true rfl) (Nat.le_of_ble_eq_true rfl)
theorem dL_law_716 : decode cL_law 716 = .ok (.aload_n 1, 1) := by decide +kernel
theorem dL_law_717 : decode cL_law 717 = .ok (.invokevirtual 98, 3) := by decide +kernel
set_option maxRecDepth 20000 in
theorem ggL_law_X6_forget : GoodIn wsL_law wsX6_forget := goodIn_r _ [640, 43, 739, 740, 741, 742, 743, 744, 745, 746, 747, 748, 749, 750, 751, 752] (by decide +kernel) (by decide +kernel)
set_option maxRecDepth 20000 in
theorem gL_law_X6_forget : GoodIn wsL_law (wsV RL 98 RX6 yX6_forget wsX6_forget) := goodIn_app (goodIn_of _ (by decide +kernel)) ggL_law_X6_forget
theorem dL_law_720 : decode cL_law 720 = .ok (.aload_n 2, 1) := by decide +kernel
theorem dL_law_721 : decode cL_law 721 = .ok (.invokevirtual 101, 3) := by decide +kernel
set_option maxRecDepth 20000 in
theorem ggL_law_X7_forget : GoodIn wsL_law wsX7_forget := goodIn_r _ [644, 132, 753, 754, 755, 756, 757, 758, 759, 760, 761, 762, 763, 764, 765, 766, 767, 768, 769, 770, 771, 772, 773, 774, 775, 776, 777, 778, 779, 780, 781] (by decide +kernel) (by decide +kernel)
set_option maxRecDepth 20000 in
theorem gL_law_X7_forget : GoodIn wsL_law (wsV RL 101 RX7 yX7_forget wsX7_forget) := goodIn_app (goodIn_of _ (by decide +kernel)) ggL_law_X7_forget
theorem dL_law_724 : decode cL_law 724 = .ok (.if_icmp .eq 144, 3) := by decide +kernel
set_option maxHeartbeats 4000000 in
set_option maxRecDepth 100000 in
theorem law_20 {p : Program} {l : Launch} {e : Env} {s : State} {m : MethodId} {below : List Frame} {meth : Method} {c : Code} {D : va_G} {cI cB cZ cN : ClassId} {A : Nat → Prop} {b : Nat} {xs : Nat → Int32} {H : Heap} {locs : List Loc} {ls : Array Slot} {h0 x0 x1 x3 x11 x19 x22 x29 x33 x36 x42 y0 m0 m1 m2 m3 m4 m5 m6 m7 m8 m9 m10 m11 m12 m13 m14 m15 m16 m17 m18 m19 : Nat} (C0 : lw_At p s m meth c b 5 xs) (hK : KN D cI cB cZ cN s) (hA : ∀ q : Nat, s.heap.size ≤ q → A q) (hAf : ∀ q : Nat, A q → s.heap.size ≤ q) (hP : va_P D vwCl [(h0, .inr (6, [.ref x0, .int 0, .ref x1, .ref x3, .ref x11, .ref x19, .ref x22, .int 0, .ref x29, .ref x33, .ref x36, .ref x42, .int 0, .long 0])), (y0, .inr (7, [.long 0, .ref m0, .int 0, .ref m1, .ref m2, .ref m3, .ref m4, .ref m5, .ref m6, .ref m7, .ref m8, .ref m9, .ref m10, .ref m11, .int 0, .int 0, .int 0, .int 0, .int 0, .int 0, .ref m12, .ref m13, .ref m14, .ref m15, .ref m16, .ref m17, .ref m18, .ref m19, .int 0]))] H) (hD : va_D A [(h0, .inr (6, [.ref x0, .int 0, .ref x1, .ref x3, .ref x11, .ref x19, .ref x22, .int 0, .ref x29, .ref x33, .ref x36, .ref x42, .int 0, .long 0])), (y0, .inr (7, [.long 0, .ref m0, .int 0, .ref m1, .ref m2, .ref m3, .ref m4, .ref m5, .ref m6, .ref m7, .ref m8, .ref m9, .ref m10, .ref m11, .int 0, .int 0, .int 0, .int 0, .int 0, .int 0, .ref m12, .ref m13, .ref m14, .ref m15, .ref m16, .ref m17, .ref m18, .ref m19, .int 0]))]) (hS : va_S A s.heap H locs) (hl : lv_has ls 4 [(3, .int 0), (2, .ref y0), (1, .ref h0), (0, .ref b)]) : W p l e room_1 s m #[Value.ref b] below meth c H locs 65 4410 (lw_Z below #[Value.ref b] s) (F0 m 716 ls []) := by
  obtain ⟨hx, hb, hr, hml, hown, hts, hX, hbl, hlk, hgv⟩ := id C0
  have hown : s.vm.findClass RL = some m.cls := hown
  have hbA : ¬ A b := fun q => absurd (hAf b q) (Nat.not_le.mpr hbl)
  refine lv_aload_n hx hb dL_law_716 rfl (lv_at hl 2 rfl) ?_
  refine be_i (free := va_A [(h0, .inr (6, [.ref x0, .int 0, .ref x1, .ref x3, .ref x11, .ref x19, .ref x22, .int 0, .ref x29, .ref x33, .ref x36, .ref x42, .int 0, .long 0]))] H.size) (wc := [(h0, .inr (6, [.ref x0, .int 0, .ref x1, .ref x3, .ref x11, .ref x19, .ref x22, .int 0, .ref x29, .ref x33, .ref x36, .ref x42, .int 0, .long 0]))]) (wr := [(y0, .inr (7, [.long 0, .ref m0, .int 0, .ref m1, .ref m2, .ref m3, .ref m4, .ref m5, .ref m6, .ref m7, .ref m8, .ref m9, .ref m10, .ref m11, .int 0, .int 0, .int 0, .int 0, .int 0, .int 0, .ref m12, .ref m13, .ref m14, .ref m15, .ref m16, .ref m17, .ref m18, .ref m19, .int 0]))]) (ru_V (As := []) (rest := []) ⟨hx, hb, hml, hown, hts⟩ (c_X_forget l D cI cB cZ cN h0 x0 x1 x3 x11 x19 x22 x29 x33 x36 x42 H.size) (gtr gL_law_X6_forget) rfl ⟨rfl, by decide, by decide, (show Option.map (fun d => d.parameters.length) (parseMethodDescriptor yX6_forget.desc) = some 0 by decide +kernel)⟩ ⟨Nat.le_of_ble_eq_true rfl, Nat.le_of_ble_eq_true rfl⟩ hK hP hD 6 0 rfl rfl [0] (by decide) rfl hl.1 rfl (Nat.le_of_ble_eq_true rfl) dL_law_717 ⟨Nat.le_of_ble_eq_true rfl, Nat.le_of_ble_eq_true rfl⟩) hP hD hS hA [0] [1] rfl rfl (by decide) (by decide) (fun r2 u1 H locs w3 hP hD hS => ?_)
  have hP : va_P D vwCl [(y0, .inr (7, [.long 0, .ref m0, .int 0, .ref m1, .ref m2, .ref m3, .ref m4, .ref m5, .ref m6, .ref m7, .ref m8, .ref m9, .ref m10, .ref m11, .int 0, .int 0, .int 0, .int 0, .int 0, .int 0, .ref m12, .ref m13, .ref m14, .ref m15, .ref m16, .ref m17, .ref m18, .ref m19, .int 0]))] H := hP
  have hD : va_D A [(y0, .inr (7, [.long 0, .ref m0, .int 0, .ref m1, .ref m2, .ref m3, .ref m4, .ref m5, .ref m6, .ref m7, .ref m8, .ref m9, .ref m10, .ref m11, .int 0, .int 0, .int 0, .int 0, .int 0, .int 0, .ref m12, .ref m13, .ref m14, .ref m15, .ref m16, .ref m17, .ref m18, .ref m19, .int 0]))] := hD
  obtain rfl : r2 = 0 := w3
  refine lv_aload_n hx hb dL_law_720 rfl (lv_at hl 1 rfl) ?_
  refine be_i (free := va_A [(y0, .inr (7, [.long 0, .ref m0, .int 0, .ref m1, .ref m2, .ref m3, .ref m4, .ref m5, .ref m6, .ref m7, .ref m8, .ref m9, .ref m10, .ref m11, .int 0, .int 0, .int 0, .int 0, .int 0, .int 0, .ref m12, .ref m13, .ref m14, .ref m15, .ref m16, .ref m17, .ref m18, .ref m19, .int 0]))] H.size) (wc := [(y0, .inr (7, [.long 0, .ref m0, .int 0, .ref m1, .ref m2, .ref m3, .ref m4, .ref m5, .ref m6, .ref m7, .ref m8, .ref m9, .ref m10, .ref m11, .int 0, .int 0, .int 0, .int 0, .int 0, .int 0, .ref m12, .ref m13, .ref m14, .ref m15, .ref m16, .ref m17, .ref m18, .ref m19, .int 0]))]) (wr := []) (ru_V (As := []) (rest := [.int 0]) ⟨hx, hb, hml, hown, hts⟩ (c_M_forget l D cI cB cZ cN y0 m0 m1 m2 m3 m4 m5 m6 m7 m8 m9 m10 m11 m12 m13 m14 m15 m16 m17 m18 m19 H.size) (gtr gL_law_X7_forget) rfl ⟨rfl, by decide, by decide, (show Option.map (fun d => d.parameters.length) (parseMethodDescriptor yX7_forget.desc) = some 0 by decide +kernel)⟩ ⟨Nat.le_of_ble_eq_true rfl, Nat.le_of_ble_eq_true rfl⟩ hK hP hD 7 0 rfl rfl [0] (by decide) rfl hl.1 rfl (Nat.le_of_ble_eq_true rfl) dL_law_721 ⟨Nat.le_of_ble_eq_true rfl, Nat.le_of_ble_eq_true rfl⟩) hP hD hS hA [0] [] rfl rfl (by decide) (by decide) (fun r5 u4 H locs w6 hP hD hS => ?_)
  have hP : va_P D vwCl [] H := hP
  have hD : va_D A [] := hD
  obtain rfl : r5 = 0 := w6
  refine lv_icmp_eq (tgt := 868) hx hb dL_law_724 (by decide) (fun h7 => ?_) (fun h7 => absurd (by decide) h7)
  exact law_tail C0 hAf hS (lv_sub hl [3, 0] rfl) (Nat.le_of_ble_eq_true rfl) (Nat.le_of_ble_eq_true rfl)
theorem dL_law_729 : decode cL_law 729 = .ok (.aload_n 1, 1) := by decide +kernel
theorem dL_law_730 : decode cL_law 730 = .ok (.aload_n 0, 1) := by decide +kernel
theorem dL_law_731 : decode cL_law 731 = .ok (.iload_n 3, 1) := by decide +kernel
theorem dL_law_732 : decode cL_law 732 = .ok (.iconst 1, 1) := by decide +kernel
theorem dL_law_733 : decode cL_law 733 = .ok (.iadd, 1) := by decide +kernel
theorem dL_law_734 : decode cL_law 734 = .ok (.iaload, 1) := by decide +kernel
theorem dL_law_735 : decode cL_law 735 = .ok (.invokevirtual 102, 3) := by decide +kernel
set_option maxRecDepth 20000 in
theorem ggL_law_X6_years : GoodIn wsL_law wsX6_years := goodIn_r _ [648, 649, 650, 651, 2, 652, 43, 22, 42, 269, 21, 270, 271, 58, 67, 739, 740, 741, 742, 743, 744, 745, 746, 747, 748, 749, 750, 751, 752, 788, 789, 790, 791, 792, 793, 794, 795, 796, 797, 798, 799] (by decide +kernel) (by decide +kernel)
set_option maxRecDepth 20000 in
theorem gL_law_X6_years : GoodIn wsL_law (wsV RL 102 RX6 yX6_years wsX6_years) := goodIn_app (goodIn_of _ (by decide +kernel)) ggL_law_X6_years
theorem dL_law_738 : decode cL_law 738 = .ok (.aload_n 2, 1) := by decide +kernel
theorem dL_law_739 : decode cL_law 739 = .ok (.aload_n 0, 1) := by decide +kernel
theorem dL_law_740 : decode cL_law 740 = .ok (.iload_n 3, 1) := by decide +kernel
theorem dL_law_741 : decode cL_law 741 = .ok (.iconst 1, 1) := by decide +kernel
theorem dL_law_742 : decode cL_law 742 = .ok (.iadd, 1) := by decide +kernel
theorem dL_law_743 : decode cL_law 743 = .ok (.iaload, 1) := by decide +kernel
theorem dL_law_744 : decode cL_law 744 = .ok (.invokevirtual 105, 3) := by decide +kernel
set_option maxRecDepth 20000 in
theorem ggL_law_X7_years : GoodIn wsL_law wsX7_years := goodIn_r _ [656, 132, 122, 142, 143, 5, 144, 291, 292, 293, 294, 104, 113, 753, 754, 755, 756, 757, 758, 759, 760, 761, 762, 763, 764, 765, 766, 767, 768, 769, 770, 771, 772, 773, 774, 775, 776, 777, 778, 779, 780, 781] (by decide +kernel) (by decide +kernel)
set_option maxRecDepth 20000 in
theorem gL_law_X7_years : GoodIn wsL_law (wsV RL 105 RX7 yX7_years wsX7_years) := goodIn_app (goodIn_of _ (by decide +kernel)) ggL_law_X7_years
theorem dL_law_747 : decode cL_law 747 = .ok (.if_icmp .eq 121, 3) := by decide +kernel
set_option maxHeartbeats 4000000 in
set_option maxRecDepth 100000 in
theorem law_21 {p : Program} {l : Launch} {e : Env} {s : State} {m : MethodId} {below : List Frame} {meth : Method} {c : Code} {D : va_G} {cI cB cZ cN : ClassId} {A : Nat → Prop} {b : Nat} {xs : Nat → Int32} {H : Heap} {locs : List Loc} {ls : Array Slot} {h0 x0 x1 x3 x11 x19 x22 x29 x33 x36 x42 y0 m0 m1 m2 m3 m4 m5 m6 m7 m8 m9 m10 m11 m12 m13 m14 m15 m16 m17 m18 m19 : Nat} (C0 : lw_At p s m meth c b 5 xs) (hK : KN D cI cB cZ cN s) (hA : ∀ q : Nat, s.heap.size ≤ q → A q) (hAf : ∀ q : Nat, A q → s.heap.size ≤ q) (hP : va_P D vwCl [(h0, .inr (6, [.ref x0, .int 0, .ref x1, .ref x3, .ref x11, .ref x19, .ref x22, .int 0, .ref x29, .ref x33, .ref x36, .ref x42, .int 0, .long 0])), (y0, .inr (7, [.long 0, .ref m0, .int 0, .ref m1, .ref m2, .ref m3, .ref m4, .ref m5, .ref m6, .ref m7, .ref m8, .ref m9, .ref m10, .ref m11, .int 0, .int 0, .int 0, .int 0, .int 0, .int 0, .ref m12, .ref m13, .ref m14, .ref m15, .ref m16, .ref m17, .ref m18, .ref m19, .int 0]))] H) (hD : va_D A [(h0, .inr (6, [.ref x0, .int 0, .ref x1, .ref x3, .ref x11, .ref x19, .ref x22, .int 0, .ref x29, .ref x33, .ref x36, .ref x42, .int 0, .long 0])), (y0, .inr (7, [.long 0, .ref m0, .int 0, .ref m1, .ref m2, .ref m3, .ref m4, .ref m5, .ref m6, .ref m7, .ref m8, .ref m9, .ref m10, .ref m11, .int 0, .int 0, .int 0, .int 0, .int 0, .int 0, .ref m12, .ref m13, .ref m14, .ref m15, .ref m16, .ref m17, .ref m18, .ref m19, .int 0]))]) (hS : va_S A s.heap H locs) (hl : lv_has ls 4 [(3, .int 0), (2, .ref y0), (1, .ref h0), (0, .ref b)]) : W p l e room_1 s m #[Value.ref b] below meth c H locs 65 4410 (lw_Z below #[Value.ref b] s) (F0 m 729 ls []) := by
  obtain ⟨hx, hb, hr, hml, hown, hts, hX, hbl, hlk, hgv⟩ := id C0
  have hown : s.vm.findClass RL = some m.cls := hown
  have hbA : ¬ A b := fun q => absurd (hAf b q) (Nat.not_le.mpr hbl)
  refine lv_aload_n hx hb dL_law_729 rfl (lv_at hl 2 rfl) ?_
  refine lv_aload_n hx hb dL_law_730 rfl (lv_at hl 3 rfl) ?_
  refine lv_iload_n hx hb dL_law_731 rfl (lv_at hl 0 rfl) ?_
  refine lv_iconst (v := 1) hx hb dL_law_732 (by decide) ?_
  refine lv_iadd hx hb dL_law_733 ?_
  refine set_i (y := 1) (by decide) ?_
  refine va_sld hx hb hX hbl hbA hS (vp_in_nI (n := 1) (N := 5) (by decide) (by decide)) dL_law_734 ?_
  refine set_i (y := xs 1) rfl ?_
  refine be_i (free := va_A [(h0, .inr (6, [.ref x0, .int 0, .ref x1, .ref x3, .ref x11, .ref x19, .ref x22, .int 0, .ref x29, .ref x33, .ref x36, .ref x42, .int 0, .long 0]))] H.size) (wc := [(h0, .inr (6, [.ref x0, .int 0, .ref x1, .ref x3, .ref x11, .ref x19, .ref x22, .int 0, .ref x29, .ref x33, .ref x36, .ref x42, .int 0, .long 0]))]) (wr := [(y0, .inr (7, [.long 0, .ref m0, .int 0, .ref m1, .ref m2, .ref m3, .ref m4, .ref m5, .ref m6, .ref m7, .ref m8, .ref m9, .ref m10, .ref m11, .int 0, .int 0, .int 0, .int 0, .int 0, .int 0, .ref m12, .ref m13, .ref m14, .ref m15, .ref m16, .ref m17, .ref m18, .ref m19, .int 0]))]) (ru_V (As := [.int (xs 1)]) (rest := []) ⟨hx, hb, hml, hown, hts⟩ (c_X_years l D cI cB cZ cN h0 x0 x1 x3 x11 x19 x22 x29 x33 x36 x42 (xs 1) H.size) (gtr gL_law_X6_years) rfl ⟨rfl, by decide, by decide, (show Option.map (fun d => d.parameters.length) (parseMethodDescriptor yX6_years.desc) = some 1 by decide +kernel)⟩ ⟨Nat.le_of_ble_eq_true rfl, Nat.le_of_ble_eq_true rfl⟩ hK hP hD 6 0 rfl rfl [0] (by decide) rfl hl.1 rfl (Nat.le_of_ble_eq_true rfl) dL_law_735 ⟨Nat.le_of_ble_eq_true rfl, Nat.le_of_ble_eq_true rfl⟩) hP hD hS hA [0] [1] rfl rfl (by decide) (by decide) (fun r2 u1 H locs w3 hP hD hS => ?_)
  have hP : va_P D vwCl [(y0, .inr (7, [.long 0, .ref m0, .int 0, .ref m1, .ref m2, .ref m3, .ref m4, .ref m5, .ref m6, .ref m7, .ref m8, .ref m9, .ref m10, .ref m11, .int 0, .int 0, .int 0, .int 0, .int 0, .int 0, .ref m12, .ref m13, .ref m14, .ref m15, .ref m16, .ref m17, .ref m18, .ref m19, .int 0]))] H := hP
  have hD : va_D A [(y0, .inr (7, [.long 0, .ref m0, .int 0, .ref m1, .ref m2, .ref m3, .ref m4, .ref m5, .ref m6, .ref m7, .ref m8, .ref m9, .ref m10, .ref m11, .int 0, .int 0, .int 0, .int 0, .int 0, .int 0, .ref m12, .ref m13, .ref m14, .ref m15, .ref m16, .ref m17, .ref m18, .ref m19, .int 0]))] := hD
  obtain rfl : r2 = yrA (xs 1) := w3
  refine lv_aload_n hx hb dL_law_738 rfl (lv_at hl 1 rfl) ?_
  refine lv_aload_n hx hb dL_law_739 rfl (lv_at hl 3 rfl) ?_
  refine lv_iload_n hx hb dL_law_740 rfl (lv_at hl 0 rfl) ?_
  refine lv_iconst (v := 1) hx hb dL_law_741 (by decide) ?_
  refine lv_iadd hx hb dL_law_742 ?_
  refine set_i (y := 1) (by decide) ?_
  refine va_sld hx hb hX hbl hbA hS (vp_in_nI (n := 1) (N := 5) (by decide) (by decide)) dL_law_743 ?_
  refine set_i (y := xs 1) rfl ?_
  refine be_i (free := va_A [(y0, .inr (7, [.long 0, .ref m0, .int 0, .ref m1, .ref m2, .ref m3, .ref m4, .ref m5, .ref m6, .ref m7, .ref m8, .ref m9, .ref m10, .ref m11, .int 0, .int 0, .int 0, .int 0, .int 0, .int 0, .ref m12, .ref m13, .ref m14, .ref m15, .ref m16, .ref m17, .ref m18, .ref m19, .int 0]))] H.size) (wc := [(y0, .inr (7, [.long 0, .ref m0, .int 0, .ref m1, .ref m2, .ref m3, .ref m4, .ref m5, .ref m6, .ref m7, .ref m8, .ref m9, .ref m10, .ref m11, .int 0, .int 0, .int 0, .int 0, .int 0, .int 0, .ref m12, .ref m13, .ref m14, .ref m15, .ref m16, .ref m17, .ref m18, .ref m19, .int 0]))]) (wr := []) (ru_V (As := [.int (xs 1)]) (rest := [.int (yrA (xs 1))]) ⟨hx, hb, hml, hown, hts⟩ (c_M_years l D cI cB cZ cN y0 m0 m1 m2 m3 m4 m5 m6 m7 m8 m9 m10 m11 m12 m13 m14 m15 m16 m17 m18 m19 (xs 1) H.size) (gtr gL_law_X7_years) rfl ⟨rfl, by decide, by decide, (show Option.map (fun d => d.parameters.length) (parseMethodDescriptor yX7_years.desc) = some 1 by decide +kernel)⟩ ⟨Nat.le_of_ble_eq_true rfl, Nat.le_of_ble_eq_true rfl⟩ hK hP hD 7 0 rfl rfl [0] (by decide) rfl hl.1 rfl (Nat.le_of_ble_eq_true rfl) dL_law_744 ⟨Nat.le_of_ble_eq_true rfl, Nat.le_of_ble_eq_true rfl⟩) hP hD hS hA [0] [] rfl rfl (by decide) (by decide) (fun r5 u4 H locs w6 hP hD hS => ?_)
  have hP : va_P D vwCl [] H := hP
  have hD : va_D A [] := hD
  obtain rfl : r5 = yrA (xs 1) := w6
  refine lv_icmp_eq (tgt := 868) hx hb dL_law_747 (by decide) (fun h7 => ?_) (fun h7 => absurd (rfl) h7)
  exact law_tail C0 hAf hS (lv_sub hl [3, 0] rfl) (Nat.le_of_ble_eq_true rfl) (Nat.le_of_ble_eq_true rfl)
theorem dL_law_752 : decode cL_law 752 = .ok (.aload_n 1, 1) := by decide +kernel
theorem dL_law_753 : decode cL_law 753 = .ok (.aload_n 0, 1) := by decide +kernel
theorem dL_law_754 : decode cL_law 754 = .ok (.iload_n 3, 1) := by decide +kernel
theorem dL_law_755 : decode cL_law 755 = .ok (.iconst 1, 1) := by decide +kernel
theorem dL_law_756 : decode cL_law 756 = .ok (.iadd, 1) := by decide +kernel
theorem dL_law_757 : decode cL_law 757 = .ok (.iaload, 1) := by decide +kernel
theorem dL_law_758 : decode cL_law 758 = .ok (.aload_n 0, 1) := by decide +kernel
theorem dL_law_759 : decode cL_law 759 = .ok (.iload_n 3, 1) := by decide +kernel
theorem dL_law_760 : decode cL_law 760 = .ok (.iconst 2, 1) := by decide +kernel
theorem dL_law_761 : decode cL_law 761 = .ok (.iadd, 1) := by decide +kernel
theorem dL_law_762 : decode cL_law 762 = .ok (.iaload, 1) := by decide +kernel
theorem dL_law_763 : decode cL_law 763 = .ok (.invokevirtual 106, 3) := by decide +kernel
set_option maxRecDepth 20000 in
theorem ggL_law_X6_mark : GoodIn wsL_law wsX6_mark := goodIn_r _ [660, 22, 661, 258, 21, 259, 260, 57, 662, 663, 664, 2, 665, 44, 666, 667, 668, 669, 670, 27, 272, 26, 273, 274, 275, 276, 277, 278, 72, 671, 672, 673, 674, 675, 676, 677, 678, 679, 680, 681, 682, 683, 684, 685, 261, 262, 263, 60, 264, 265, 266, 267, 61, 268, 269, 270, 271, 58, 67, 686, 555, 556, 557, 558, 559, 560, 687, 688, 689, 690, 691, 509, 510, 511, 739, 740, 741, 742, 743, 744, 745, 746, 747, 748, 749, 750, 751, 752, 788, 789, 790, 791, 792, 793, 794, 795, 796, 797, 798, 799, 800, 801, 802] (by decide +kernel) (by decide +kernel)
set_option maxRecDepth 20000 in
theorem gL_law_X6_mark : GoodIn wsL_law (wsV RL 106 RX6 yX6_mark wsX6_mark) := goodIn_app (goodIn_of _ (by decide +kernel)) ggL_law_X6_mark
theorem dL_law_766 : decode cL_law 766 = .ok (.aload_n 2, 1) := by decide +kernel
theorem dL_law_767 : decode cL_law 767 = .ok (.aload_n 0, 1) := by decide +kernel
theorem dL_law_768 : decode cL_law 768 = .ok (.iload_n 3, 1) := by decide +kernel
theorem dL_law_769 : decode cL_law 769 = .ok (.iconst 1, 1) := by decide +kernel
theorem dL_law_770 : decode cL_law 770 = .ok (.iadd, 1) := by decide +kernel
theorem dL_law_771 : decode cL_law 771 = .ok (.iaload, 1) := by decide +kernel
theorem dL_law_772 : decode cL_law 772 = .ok (.aload_n 0, 1) := by decide +kernel
theorem dL_law_773 : decode cL_law 773 = .ok (.iload_n 3, 1) := by decide +kernel
theorem dL_law_774 : decode cL_law 774 = .ok (.iconst 2, 1) := by decide +kernel
theorem dL_law_775 : decode cL_law 775 = .ok (.iadd, 1) := by decide +kernel
theorem dL_law_776 : decode cL_law 776 = .ok (.iaload, 1) := by decide +kernel
theorem dL_law_777 : decode cL_law 777 = .ok (.invokevirtual 109, 3) := by decide +kernel
set_option maxRecDepth 20000 in
theorem ggL_law_X7_mark : GoodIn wsL_law wsX7_mark := goodIn_r _ [695, 696, 105, 104, 697, 698, 699, 700, 701, 702, 114, 142, 143, 5, 144, 283, 284, 285, 286, 103, 295, 296, 297, 298, 106, 703, 280, 281, 282, 287, 288, 289, 290, 107, 291, 292, 293, 294, 113, 569, 570, 571, 753, 754, 755, 756, 757, 758, 759, 760, 761, 762, 763, 764, 765, 766, 767, 768, 769, 770, 771, 772, 773, 774, 775, 776, 777, 778, 779, 780, 781] (by decide +kernel) (by decide +kernel)
set_option maxRecDepth 20000 in
theorem gL_law_X7_mark : GoodIn wsL_law (wsV RL 109 RX7 yX7_mark wsX7_mark) := goodIn_app (goodIn_of _ (by decide +kernel)) ggL_law_X7_mark
theorem dL_law_780 : decode cL_law 780 = .ok (.if_icmp .eq 88, 3) := by decide +kernel
set_option maxHeartbeats 4000000 in
set_option maxRecDepth 100000 in
theorem law_22 {p : Program} {l : Launch} {e : Env} {s : State} {m : MethodId} {below : List Frame} {meth : Method} {c : Code} {D : va_G} {cI cB cZ cN : ClassId} {A : Nat → Prop} {b : Nat} {xs : Nat → Int32} {H : Heap} {locs : List Loc} {ls : Array Slot} {h0 x0 x1 x3 x11 x19 x22 x29 x33 x36 x42 x4 x5 x6 x7 x8 x9 x10 y0 m0 m1 m2 m3 m4 m5 m6 m7 m8 m9 m10 m11 m12 m13 m14 m15 m16 m17 m18 m19 : Nat} (C0 : lw_At p s m meth c b 5 xs) (hK : KN D cI cB cZ cN s) (hA : ∀ q : Nat, s.heap.size ≤ q → A q) (hAf : ∀ q : Nat, A q → s.heap.size ≤ q) (hP : va_P D vwCl [(h0, .inr (6, [.ref x0, .int 0, .ref x1, .ref x3, .ref x11, .ref x19, .ref x22, .int 0, .ref x29, .ref x33, .ref x36, .ref x42, .int 0, .long 0])), (x3, .inr (0, [.int 0, .ref x4, .ref x5, .int 0, .ref x6, .ref x7, .int 0, .ref x8, .ref x9, .ref x10, .int 9, .int 0])), (y0, .inr (7, [.long 0, .ref m0, .int 0, .ref m1, .ref m2, .ref m3, .ref m4, .ref m5, .ref m6, .ref m7, .ref m8, .ref m9, .ref m10, .ref m11, .int 0, .int 0, .int 0, .int 0, .int 0, .int 0, .ref m12, .ref m13, .ref m14, .ref m15, .ref m16, .ref m17, .ref m18, .ref m19, .int 0])), (m1, .inl (cI, 2, .inl zf))] H) (hD : va_D A [(h0, .inr (6, [.ref x0, .int 0, .ref x1, .ref x3, .ref x11, .ref x19, .ref x22, .int 0, .ref x29, .ref x33, .ref x36, .ref x42, .int 0, .long 0])), (x3, .inr (0, [.int 0, .ref x4, .ref x5, .int 0, .ref x6, .ref x7, .int 0, .ref x8, .ref x9, .ref x10, .int 9, .int 0])), (y0, .inr (7, [.long 0, .ref m0, .int 0, .ref m1, .ref m2, .ref m3, .ref m4, .ref m5, .ref m6, .ref m7, .ref m8, .ref m9, .ref m10, .ref m11, .int 0, .int 0, .int 0, .int 0, .int 0, .int 0, .ref m12, .ref m13, .ref m14, .ref m15, .ref m16, .ref m17, .ref m18, .ref m19, .int 0])), (m1, .inl (cI, 2, .inl zf))]) (hS : va_S A s.heap H locs) (hl : lv_has ls 4 [(3, .int 0), (2, .ref y0), (1, .ref h0), (0, .ref b)]) : W p l e room_1 s m #[Value.ref b] below meth c H locs 65 4410 (lw_Z below #[Value.ref b] s) (F0 m 752 ls []) := by
  obtain ⟨hx, hb, hr, hml, hown, hts, hX, hbl, hlk, hgv⟩ := id C0
  have hown : s.vm.findClass RL = some m.cls := hown
  have hbA : ¬ A b := fun q => absurd (hAf b q) (Nat.not_le.mpr hbl)
  refine lv_aload_n hx hb dL_law_752 rfl (lv_at hl 2 rfl) ?_
  refine lv_aload_n hx hb dL_law_753 rfl (lv_at hl 3 rfl) ?_
  refine lv_iload_n hx hb dL_law_754 rfl (lv_at hl 0 rfl) ?_
  refine lv_iconst (v := 1) hx hb dL_law_755 (by decide) ?_
  refine lv_iadd hx hb dL_law_756 ?_
  refine set_i (y := 1) (by decide) ?_
  refine va_sld hx hb hX hbl hbA hS (vp_in_nI (n := 1) (N := 5) (by decide) (by decide)) dL_law_757 ?_
  refine set_i (y := xs 1) rfl ?_
  refine lv_aload_n hx hb dL_law_758 rfl (lv_at hl 3 rfl) ?_
  refine lv_iload_n hx hb dL_law_759 rfl (lv_at hl 0 rfl) ?_
  refine lv_iconst (v := 2) hx hb dL_law_760 (by decide) ?_
  refine lv_iadd hx hb dL_law_761 ?_
  refine set_i (y := 2) (by decide) ?_
  refine va_sld hx hb hX hbl hbA hS (vp_in_nI (n := 2) (N := 5) (by decide) (by decide)) dL_law_762 ?_
  refine set_i (y := xs 2) rfl ?_
  refine be_i (free := va_A [(h0, .inr (6, [.ref x0, .int 0, .ref x1, .ref x3, .ref x11, .ref x19, .ref x22, .int 0, .ref x29, .ref x33, .ref x36, .ref x42, .int 0, .long 0])), (x3, .inr (0, [.int 0, .ref x4, .ref x5, .int 0, .ref x6, .ref x7, .int 0, .ref x8, .ref x9, .ref x10, .int 9, .int 0]))] H.size) (wc := [(h0, .inr (6, [.ref x0, .int 0, .ref x1, .ref x3, .ref x11, .ref x19, .ref x22, .int 0, .ref x29, .ref x33, .ref x36, .ref x42, .int 0, .long 0])), (x3, .inr (0, [.int 0, .ref x4, .ref x5, .int 0, .ref x6, .ref x7, .int 0, .ref x8, .ref x9, .ref x10, .int 9, .int 0]))]) (wr := [(y0, .inr (7, [.long 0, .ref m0, .int 0, .ref m1, .ref m2, .ref m3, .ref m4, .ref m5, .ref m6, .ref m7, .ref m8, .ref m9, .ref m10, .ref m11, .int 0, .int 0, .int 0, .int 0, .int 0, .int 0, .ref m12, .ref m13, .ref m14, .ref m15, .ref m16, .ref m17, .ref m18, .ref m19, .int 0])), (m1, .inl (cI, 2, .inl zf))]) (ru_V (As := [.int (xs 1), .int (xs 2)]) (rest := []) ⟨hx, hb, hml, hown, hts⟩ (c_X_mark l D cI cB cZ cN h0 x0 x1 x3 x11 x19 x22 x29 x33 x36 x42 x4 x5 x6 x7 x8 x9 x10 (xs 1) (xs 2) H.size) (gtr gL_law_X6_mark) rfl ⟨rfl, by decide, by decide, (show Option.map (fun d => d.parameters.length) (parseMethodDescriptor yX6_mark.desc) = some 2 by decide +kernel)⟩ ⟨Nat.le_of_ble_eq_true rfl, Nat.le_of_ble_eq_true rfl⟩ hK hP hD 6 0 rfl rfl [0, 1] (by decide) rfl hl.1 rfl (Nat.le_of_ble_eq_true rfl) dL_law_763 ⟨Nat.le_of_ble_eq_true rfl, Nat.le_of_ble_eq_true rfl⟩) hP hD hS hA [0, 1] [2, 3] rfl rfl (by decide) (by decide) (fun r2 u1 H locs w3 hP hD hS => ?_)
  have hP : va_P D vwCl [(y0, .inr (7, [.long 0, .ref m0, .int 0, .ref m1, .ref m2, .ref m3, .ref m4, .ref m5, .ref m6, .ref m7, .ref m8, .ref m9, .ref m10, .ref m11, .int 0, .int 0, .int 0, .int 0, .int 0, .int 0, .ref m12, .ref m13, .ref m14, .ref m15, .ref m16, .ref m17, .ref m18, .ref m19, .int 0])), (m1, .inl (cI, 2, .inl zf))] H := hP
  have hD : va_D A [(y0, .inr (7, [.long 0, .ref m0, .int 0, .ref m1, .ref m2, .ref m3, .ref m4, .ref m5, .ref m6, .ref m7, .ref m8, .ref m9, .ref m10, .ref m11, .int 0, .int 0, .int 0, .int 0, .int 0, .int 0, .ref m12, .ref m13, .ref m14, .ref m15, .ref m16, .ref m17, .ref m18, .ref m19, .int 0])), (m1, .inl (cI, 2, .inl zf))] := hD
  obtain rfl : r2 = -1000000 := w3
  refine lv_aload_n hx hb dL_law_766 rfl (lv_at hl 1 rfl) ?_
  refine lv_aload_n hx hb dL_law_767 rfl (lv_at hl 3 rfl) ?_
  refine lv_iload_n hx hb dL_law_768 rfl (lv_at hl 0 rfl) ?_
  refine lv_iconst (v := 1) hx hb dL_law_769 (by decide) ?_
  refine lv_iadd hx hb dL_law_770 ?_
  refine set_i (y := 1) (by decide) ?_
  refine va_sld hx hb hX hbl hbA hS (vp_in_nI (n := 1) (N := 5) (by decide) (by decide)) dL_law_771 ?_
  refine set_i (y := xs 1) rfl ?_
  refine lv_aload_n hx hb dL_law_772 rfl (lv_at hl 3 rfl) ?_
  refine lv_iload_n hx hb dL_law_773 rfl (lv_at hl 0 rfl) ?_
  refine lv_iconst (v := 2) hx hb dL_law_774 (by decide) ?_
  refine lv_iadd hx hb dL_law_775 ?_
  refine set_i (y := 2) (by decide) ?_
  refine va_sld hx hb hX hbl hbA hS (vp_in_nI (n := 2) (N := 5) (by decide) (by decide)) dL_law_776 ?_
  refine set_i (y := xs 2) rfl ?_
  refine be_i (free := va_A [(y0, .inr (7, [.long 0, .ref m0, .int 0, .ref m1, .ref m2, .ref m3, .ref m4, .ref m5, .ref m6, .ref m7, .ref m8, .ref m9, .ref m10, .ref m11, .int 0, .int 0, .int 0, .int 0, .int 0, .int 0, .ref m12, .ref m13, .ref m14, .ref m15, .ref m16, .ref m17, .ref m18, .ref m19, .int 0])), (m1, .inl (cI, 2, .inl zf))] H.size) (wc := [(y0, .inr (7, [.long 0, .ref m0, .int 0, .ref m1, .ref m2, .ref m3, .ref m4, .ref m5, .ref m6, .ref m7, .ref m8, .ref m9, .ref m10, .ref m11, .int 0, .int 0, .int 0, .int 0, .int 0, .int 0, .ref m12, .ref m13, .ref m14, .ref m15, .ref m16, .ref m17, .ref m18, .ref m19, .int 0])), (m1, .inl (cI, 2, .inl zf))]) (wr := []) (ru_V (As := [.int (xs 1), .int (xs 2)]) (rest := [.int (-1000000)]) ⟨hx, hb, hml, hown, hts⟩ (c_M_mark l D cI cB cZ cN y0 m0 m1 m2 m3 m4 m5 m6 m7 m8 m9 m10 m11 m12 m13 m14 m15 m16 m17 m18 m19 (xs 1) (xs 2) H.size) (gtr gL_law_X7_mark) rfl ⟨rfl, by decide, by decide, (show Option.map (fun d => d.parameters.length) (parseMethodDescriptor yX7_mark.desc) = some 2 by decide +kernel)⟩ ⟨Nat.le_of_ble_eq_true rfl, Nat.le_of_ble_eq_true rfl⟩ hK hP hD 7 0 rfl rfl [0, 1] (by decide) rfl hl.1 rfl (Nat.le_of_ble_eq_true rfl) dL_law_777 ⟨Nat.le_of_ble_eq_true rfl, Nat.le_of_ble_eq_true rfl⟩) hP hD hS hA [0, 1] [] rfl rfl (by decide) (by decide) (fun r5 u4 H locs w6 hP hD hS => ?_)
  have hP : va_P D vwCl [] H := hP
  have hD : va_D A [] := hD
  obtain rfl : r5 = -1000000 := w6
  refine lv_icmp_eq (tgt := 868) hx hb dL_law_780 (by decide) (fun h7 => ?_) (fun h7 => absurd (by decide) h7)
  exact law_tail C0 hAf hS (lv_sub hl [3, 0] rfl) (Nat.le_of_ble_eq_true rfl) (Nat.le_of_ble_eq_true rfl)
theorem dL_law_785 : decode cL_law 785 = .ok (.aload_n 1, 1) := by decide +kernel
theorem dL_law_786 : decode cL_law 786 = .ok (.aload_n 0, 1) := by decide +kernel
theorem dL_law_787 : decode cL_law 787 = .ok (.iload_n 3, 1) := by decide +kernel
theorem dL_law_788 : decode cL_law 788 = .ok (.iconst 1, 1) := by decide +kernel
theorem dL_law_789 : decode cL_law 789 = .ok (.iadd, 1) := by decide +kernel
theorem dL_law_790 : decode cL_law 790 = .ok (.iaload, 1) := by decide +kernel
theorem dL_law_791 : decode cL_law 791 = .ok (.invokevirtual 110, 3) := by decide +kernel
set_option maxRecDepth 20000 in
theorem ggL_law_X6_keep : GoodIn wsL_law wsX6_keep := goodIn_r _ [707, 28, 27, 29, 708, 26, 709, 710, 72, 217, 218, 219, 220, 73, 74, 509, 510, 511, 686, 555, 556, 557, 558, 559, 560, 739, 740, 741, 742, 743, 744, 745, 746, 747, 748, 749, 750, 751, 752, 800, 801, 802] (by decide +kernel) (by decide +kernel)
set_option maxRecDepth 20000 in
theorem gL_law_X6_keep : GoodIn wsL_law (wsV RL 110 RX6 yX6_keep wsX6_keep) := goodIn_app (goodIn_of _ (by decide +kernel)) ggL_law_X6_keep
theorem dL_law_794 : decode cL_law 794 = .ok (.aload_n 2, 1) := by decide +kernel
theorem dL_law_795 : decode cL_law 795 = .ok (.aload_n 0, 1) := by decide +kernel
theorem dL_law_796 : decode cL_law 796 = .ok (.iload_n 3, 1) := by decide +kernel
theorem dL_law_797 : decode cL_law 797 = .ok (.iconst 1, 1) := by decide +kernel
theorem dL_law_798 : decode cL_law 798 = .ok (.iadd, 1) := by decide +kernel
theorem dL_law_799 : decode cL_law 799 = .ok (.iaload, 1) := by decide +kernel
theorem dL_law_800 : decode cL_law 800 = .ok (.invokevirtual 113, 3) := by decide +kernel
set_option maxRecDepth 20000 in
theorem ggL_law_X7_keep : GoodIn wsL_law wsX7_keep := goodIn_r _ [714, 114, 116, 142, 143, 5, 144, 569, 570, 571, 753, 754, 755, 756, 757, 758, 759, 760, 761, 762, 763, 764, 765, 766, 767, 768, 769, 770, 771, 772, 773, 774, 775, 776, 777, 778, 779, 780, 781] (by decide +kernel) (by decide +kernel)
set_option maxRecDepth 20000 in
theorem gL_law_X7_keep : GoodIn wsL_law (wsV RL 113 RX7 yX7_keep wsX7_keep) := goodIn_app (goodIn_of _ (by decide +kernel)) ggL_law_X7_keep
theorem dL_law_803 : decode cL_law 803 = .ok (.if_icmp .eq 65, 3) := by decide +kernel
set_option maxHeartbeats 4000000 in
set_option maxRecDepth 100000 in
theorem law_23 {p : Program} {l : Launch} {e : Env} {s : State} {m : MethodId} {below : List Frame} {meth : Method} {c : Code} {D : va_G} {cI cB cZ cN : ClassId} {A : Nat → Prop} {b : Nat} {xs : Nat → Int32} {H : Heap} {locs : List Loc} {ls : Array Slot} {h0 x0 x1 x3 x11 x19 x22 x29 x33 x36 x42 x20 x21 x23 x26 x24 x25 x27 x28 y0 m0 m1 m2 m3 m4 m5 m6 m7 m8 m9 m10 m11 m12 m13 m14 m15 m16 m17 m18 m19 : Nat} (C0 : lw_At p s m meth c b 5 xs) (hK : KN D cI cB cZ cN s) (hA : ∀ q : Nat, s.heap.size ≤ q → A q) (hAf : ∀ q : Nat, A q → s.heap.size ≤ q) (hP : va_P D vwCl [(h0, .inr (6, [.ref x0, .int 0, .ref x1, .ref x3, .ref x11, .ref x19, .ref x22, .int 0, .ref x29, .ref x33, .ref x36, .ref x42, .int 0, .long 0])), (x19, .inr (1, [.ref x20, .ref x21, .int 0])), (x20, .inl (cI, 36, .inl zf)), (x21, .inl (cI, 360, .inl zf)), (x22, .inl (cN, 2, .inr (.inr (.inr (.inr (va_up (va_up (fun _ => none) 0 (some x23)) 1 (some x26))))))), (x23, .inr (1, [.ref x24, .ref x25, .int 0])), (x24, .inl (cI, 36, .inl zf)), (x25, .inl (cI, 360, .inl zf)), (x26, .inr (1, [.ref x27, .ref x28, .int 0])), (x27, .inl (cI, 36, .inl zf)), (x28, .inl (cI, 360, .inl zf)), (y0, .inr (7, [.long 0, .ref m0, .int 0, .ref m1, .ref m2, .ref m3, .ref m4, .ref m5, .ref m6, .ref m7, .ref m8, .ref m9, .ref m10, .ref m11, .int 0, .int 0, .int 0, .int 0, .int 0, .int 0, .ref m12, .ref m13, .ref m14, .ref m15, .ref m16, .ref m17, .ref m18, .ref m19, .int 0])), (m12, .inl (cI, 1191, .inl zf)), (m13, .inl (cZ, 2, .inl zf))] H) (hD : va_D A [(h0, .inr (6, [.ref x0, .int 0, .ref x1, .ref x3, .ref x11, .ref x19, .ref x22, .int 0, .ref x29, .ref x33, .ref x36, .ref x42, .int 0, .long 0])), (x19, .inr (1, [.ref x20, .ref x21, .int 0])), (x20, .inl (cI, 36, .inl zf)), (x21, .inl (cI, 360, .inl zf)), (x22, .inl (cN, 2, .inr (.inr (.inr (.inr (va_up (va_up (fun _ => none) 0 (some x23)) 1 (some x26))))))), (x23, .inr (1, [.ref x24, .ref x25, .int 0])), (x24, .inl (cI, 36, .inl zf)), (x25, .inl (cI, 360, .inl zf)), (x26, .inr (1, [.ref x27, .ref x28, .int 0])), (x27, .inl (cI, 36, .inl zf)), (x28, .inl (cI, 360, .inl zf)), (y0, .inr (7, [.long 0, .ref m0, .int 0, .ref m1, .ref m2, .ref m3, .ref m4, .ref m5, .ref m6, .ref m7, .ref m8, .ref m9, .ref m10, .ref m11, .int 0, .int 0, .int 0, .int 0, .int 0, .int 0, .ref m12, .ref m13, .ref m14, .ref m15, .ref m16, .ref m17, .ref m18, .ref m19, .int 0])), (m12, .inl (cI, 1191, .inl zf)), (m13, .inl (cZ, 2, .inl zf))]) (hS : va_S A s.heap H locs) (hl : lv_has ls 4 [(3, .int 0), (2, .ref y0), (1, .ref h0), (0, .ref b)]) : W p l e room_1 s m #[Value.ref b] below meth c H locs 65 4410 (lw_Z below #[Value.ref b] s) (F0 m 785 ls []) := by
  obtain ⟨hx, hb, hr, hml, hown, hts, hX, hbl, hlk, hgv⟩ := id C0
  have hown : s.vm.findClass RL = some m.cls := hown
  have hbA : ¬ A b := fun q => absurd (hAf b q) (Nat.not_le.mpr hbl)
  refine lv_aload_n hx hb dL_law_785 rfl (lv_at hl 2 rfl) ?_
  refine lv_aload_n hx hb dL_law_786 rfl (lv_at hl 3 rfl) ?_
  refine lv_iload_n hx hb dL_law_787 rfl (lv_at hl 0 rfl) ?_
  refine lv_iconst (v := 1) hx hb dL_law_788 (by decide) ?_
  refine lv_iadd hx hb dL_law_789 ?_
  refine set_i (y := 1) (by decide) ?_
  refine va_sld hx hb hX hbl hbA hS (vp_in_nI (n := 1) (N := 5) (by decide) (by decide)) dL_law_790 ?_
  refine set_i (y := xs 1) rfl ?_
  refine be_i (free := va_A [(h0, .inr (6, [.ref x0, .int 0, .ref x1, .ref x3, .ref x11, .ref x19, .ref x22, .int 0, .ref x29, .ref x33, .ref x36, .ref x42, .int 0, .long 0])), (x22, .inl (cN, 2, .inr (.inr (.inr (.inr (va_up (va_up (fun _ => none) 0 (some x23)) 1 (some x26))))))), (x23, .inr (1, [.ref x24, .ref x25, .int 0])), (x24, .inl (cI, 36, .inl zf)), (x25, .inl (cI, 360, .inl zf)), (x26, .inr (1, [.ref x27, .ref x28, .int 0])), (x27, .inl (cI, 36, .inl zf)), (x28, .inl (cI, 360, .inl zf)), (x19, .inr (1, [.ref x20, .ref x21, .int 0])), (x20, .inl (cI, 36, .inl zf)), (x21, .inl (cI, 360, .inl zf))] H.size) (wc := [(h0, .inr (6, [.ref x0, .int 0, .ref x1, .ref x3, .ref x11, .ref x19, .ref x22, .int 0, .ref x29, .ref x33, .ref x36, .ref x42, .int 0, .long 0])), (x22, .inl (cN, 2, .inr (.inr (.inr (.inr (va_up (va_up (fun _ => none) 0 (some x23)) 1 (some x26))))))), (x23, .inr (1, [.ref x24, .ref x25, .int 0])), (x24, .inl (cI, 36, .inl zf)), (x25, .inl (cI, 360, .inl zf)), (x26, .inr (1, [.ref x27, .ref x28, .int 0])), (x27, .inl (cI, 36, .inl zf)), (x28, .inl (cI, 360, .inl zf)), (x19, .inr (1, [.ref x20, .ref x21, .int 0])), (x20, .inl (cI, 36, .inl zf)), (x21, .inl (cI, 360, .inl zf))]) (wr := [(y0, .inr (7, [.long 0, .ref m0, .int 0, .ref m1, .ref m2, .ref m3, .ref m4, .ref m5, .ref m6, .ref m7, .ref m8, .ref m9, .ref m10, .ref m11, .int 0, .int 0, .int 0, .int 0, .int 0, .int 0, .ref m12, .ref m13, .ref m14, .ref m15, .ref m16, .ref m17, .ref m18, .ref m19, .int 0])), (m12, .inl (cI, 1191, .inl zf)), (m13, .inl (cZ, 2, .inl zf))]) (ru_V (As := [.int (xs 1)]) (rest := []) ⟨hx, hb, hml, hown, hts⟩ (c_X_keep l D cI cB cZ cN h0 x0 x1 x3 x11 x19 x22 x29 x33 x36 x42 x23 x26 x24 x25 x27 x28 x20 x21 (xs 1) H.size) (gtr gL_law_X6_keep) rfl ⟨rfl, by decide, by decide, (show Option.map (fun d => d.parameters.length) (parseMethodDescriptor yX6_keep.desc) = some 1 by decide +kernel)⟩ ⟨Nat.le_of_ble_eq_true rfl, Nat.le_of_ble_eq_true rfl⟩ hK hP hD 6 0 rfl rfl [0, 4, 5, 6, 7, 8, 9, 10, 1, 2, 3] (by decide) rfl hl.1 rfl (Nat.le_of_ble_eq_true rfl) dL_law_791 ⟨Nat.le_of_ble_eq_true rfl, Nat.le_of_ble_eq_true rfl⟩) hP hD hS hA [0, 4, 5, 6, 7, 8, 9, 10, 1, 2, 3] [11, 12, 13] rfl rfl (by decide) (by decide) (fun r2 u1 H locs w3 hP hD hS => ?_)
  have hP : va_P D vwCl [(y0, .inr (7, [.long 0, .ref m0, .int 0, .ref m1, .ref m2, .ref m3, .ref m4, .ref m5, .ref m6, .ref m7, .ref m8, .ref m9, .ref m10, .ref m11, .int 0, .int 0, .int 0, .int 0, .int 0, .int 0, .ref m12, .ref m13, .ref m14, .ref m15, .ref m16, .ref m17, .ref m18, .ref m19, .int 0])), (m12, .inl (cI, 1191, .inl zf)), (m13, .inl (cZ, 2, .inl zf))] H := hP
  have hD : va_D A [(y0, .inr (7, [.long 0, .ref m0, .int 0, .ref m1, .ref m2, .ref m3, .ref m4, .ref m5, .ref m6, .ref m7, .ref m8, .ref m9, .ref m10, .ref m11, .int 0, .int 0, .int 0, .int 0, .int 0, .int 0, .ref m12, .ref m13, .ref m14, .ref m15, .ref m16, .ref m17, .ref m18, .ref m19, .int 0])), (m12, .inl (cI, 1191, .inl zf)), (m13, .inl (cZ, 2, .inl zf))] := hD
  obtain rfl : r2 = kpA (xs 1) := w3
  refine lv_aload_n hx hb dL_law_794 rfl (lv_at hl 1 rfl) ?_
  refine lv_aload_n hx hb dL_law_795 rfl (lv_at hl 3 rfl) ?_
  refine lv_iload_n hx hb dL_law_796 rfl (lv_at hl 0 rfl) ?_
  refine lv_iconst (v := 1) hx hb dL_law_797 (by decide) ?_
  refine lv_iadd hx hb dL_law_798 ?_
  refine set_i (y := 1) (by decide) ?_
  refine va_sld hx hb hX hbl hbA hS (vp_in_nI (n := 1) (N := 5) (by decide) (by decide)) dL_law_799 ?_
  refine set_i (y := xs 1) rfl ?_
  refine be_i (free := va_A [(y0, .inr (7, [.long 0, .ref m0, .int 0, .ref m1, .ref m2, .ref m3, .ref m4, .ref m5, .ref m6, .ref m7, .ref m8, .ref m9, .ref m10, .ref m11, .int 0, .int 0, .int 0, .int 0, .int 0, .int 0, .ref m12, .ref m13, .ref m14, .ref m15, .ref m16, .ref m17, .ref m18, .ref m19, .int 0])), (m12, .inl (cI, 1191, .inl zf)), (m13, .inl (cZ, 2, .inl zf))] H.size) (wc := [(y0, .inr (7, [.long 0, .ref m0, .int 0, .ref m1, .ref m2, .ref m3, .ref m4, .ref m5, .ref m6, .ref m7, .ref m8, .ref m9, .ref m10, .ref m11, .int 0, .int 0, .int 0, .int 0, .int 0, .int 0, .ref m12, .ref m13, .ref m14, .ref m15, .ref m16, .ref m17, .ref m18, .ref m19, .int 0])), (m12, .inl (cI, 1191, .inl zf)), (m13, .inl (cZ, 2, .inl zf))]) (wr := []) (ru_V (As := [.int (xs 1)]) (rest := [.int (kpA (xs 1))]) ⟨hx, hb, hml, hown, hts⟩ (c_M_keep l D cI cB cZ cN y0 m0 m1 m2 m3 m4 m5 m6 m7 m8 m9 m10 m11 m12 m13 m14 m15 m16 m17 m18 m19 (xs 1) H.size) (gtr gL_law_X7_keep) rfl ⟨rfl, by decide, by decide, (show Option.map (fun d => d.parameters.length) (parseMethodDescriptor yX7_keep.desc) = some 1 by decide +kernel)⟩ ⟨Nat.le_of_ble_eq_true rfl, Nat.le_of_ble_eq_true rfl⟩ hK hP hD 7 0 rfl rfl [0, 1, 2] (by decide) rfl hl.1 rfl (Nat.le_of_ble_eq_true rfl) dL_law_800 ⟨Nat.le_of_ble_eq_true rfl, Nat.le_of_ble_eq_true rfl⟩) hP hD hS hA [0, 1, 2] [] rfl rfl (by decide) (by decide) (fun r5 u4 H locs w6 hP hD hS => ?_)
  have hP : va_P D vwCl [] H := hP
  have hD : va_D A [] := hD
  obtain rfl : r5 = kpA (xs 1) := w6
  refine lv_icmp_eq (tgt := 868) hx hb dL_law_803 (by decide) (fun h7 => ?_) (fun h7 => absurd (rfl) h7)
  exact law_tail C0 hAf hS (lv_sub hl [3, 0] rfl) (Nat.le_of_ble_eq_true rfl) (Nat.le_of_ble_eq_true rfl)
theorem dL_law_808 : decode cL_law 808 = .ok (.aload_n 1, 1) := by decide +kernel
theorem dL_law_809 : decode cL_law 809 = .ok (.aload_n 0, 1) := by decide +kernel
theorem dL_law_810 : decode cL_law 810 = .ok (.iload_n 3, 1) := by decide +kernel
theorem dL_law_811 : decode cL_law 811 = .ok (.iconst 1, 1) := by decide +kernel
theorem dL_law_812 : decode cL_law 812 = .ok (.iadd, 1) := by decide +kernel
theorem dL_law_813 : decode cL_law 813 = .ok (.iaload, 1) := by decide +kernel
theorem dL_law_814 : decode cL_law 814 = .ok (.invokevirtual 114, 3) := by decide +kernel
set_option maxRecDepth 20000 in
theorem ggL_law_X6_back : GoodIn wsL_law wsX6_back := goodIn_r _ [718, 29, 27, 28, 708, 26, 709, 710, 72, 217, 218, 219, 220, 73, 74, 509, 510, 511, 686, 555, 556, 557, 558, 559, 560, 739, 740, 741, 742, 743, 744, 745, 746, 747, 748, 749, 750, 751, 752, 800, 801, 802] (by decide +kernel) (by decide +kernel)
set_option maxRecDepth 20000 in
theorem gL_law_X6_back : GoodIn wsL_law (wsV RL 114 RX6 yX6_back wsX6_back) := goodIn_app (goodIn_of _ (by decide +kernel)) ggL_law_X6_back
theorem dL_law_817 : decode cL_law 817 = .ok (.aload_n 2, 1) := by decide +kernel
theorem dL_law_818 : decode cL_law 818 = .ok (.aload_n 0, 1) := by decide +kernel
theorem dL_law_819 : decode cL_law 819 = .ok (.iload_n 3, 1) := by decide +kernel
theorem dL_law_820 : decode cL_law 820 = .ok (.iconst 1, 1) := by decide +kernel
theorem dL_law_821 : decode cL_law 821 = .ok (.iadd, 1) := by decide +kernel
theorem dL_law_822 : decode cL_law 822 = .ok (.iaload, 1) := by decide +kernel
theorem dL_law_823 : decode cL_law 823 = .ok (.invokevirtual 117, 3) := by decide +kernel
set_option maxRecDepth 20000 in
theorem ggL_law_X7_back : GoodIn wsL_law wsX7_back := goodIn_r _ [722, 116, 114, 142, 143, 5, 144, 569, 570, 571, 753, 754, 755, 756, 757, 758, 759, 760, 761, 762, 763, 764, 765, 766, 767, 768, 769, 770, 771, 772, 773, 774, 775, 776, 777, 778, 779, 780, 781] (by decide +kernel) (by decide +kernel)
set_option maxRecDepth 20000 in
theorem gL_law_X7_back : GoodIn wsL_law (wsV RL 117 RX7 yX7_back wsX7_back) := goodIn_app (goodIn_of _ (by decide +kernel)) ggL_law_X7_back
theorem dL_law_826 : decode cL_law 826 = .ok (.if_icmp .eq 42, 3) := by decide +kernel
set_option maxHeartbeats 4000000 in
set_option maxRecDepth 100000 in
theorem law_24 {p : Program} {l : Launch} {e : Env} {s : State} {m : MethodId} {below : List Frame} {meth : Method} {c : Code} {D : va_G} {cI cB cZ cN : ClassId} {A : Nat → Prop} {b : Nat} {xs : Nat → Int32} {H : Heap} {locs : List Loc} {ls : Array Slot} {h0 x0 x1 x3 x11 x19 x22 x29 x33 x36 x42 y0 m0 m1 m2 m3 m4 m5 m6 m7 m8 m9 m10 m11 m12 m13 m14 m15 m16 m17 m18 m19 : Nat} (C0 : lw_At p s m meth c b 5 xs) (hK : KN D cI cB cZ cN s) (hA : ∀ q : Nat, s.heap.size ≤ q → A q) (hAf : ∀ q : Nat, A q → s.heap.size ≤ q) (hP : va_P D vwCl [(h0, .inr (6, [.ref x0, .int 0, .ref x1, .ref x3, .ref x11, .ref x19, .ref x22, .int 0, .ref x29, .ref x33, .ref x36, .ref x42, .int 0, .long 0])), (y0, .inr (7, [.long 0, .ref m0, .int 0, .ref m1, .ref m2, .ref m3, .ref m4, .ref m5, .ref m6, .ref m7, .ref m8, .ref m9, .ref m10, .ref m11, .int 0, .int 0, .int 0, .int 0, .int 0, .int 0, .ref m12, .ref m13, .ref m14, .ref m15, .ref m16, .ref m17, .ref m18, .ref m19, .int 0])), (m12, .inl (cI, 1191, .inl zf)), (m13, .inl (cZ, 2, .inl zf))] H) (hD : va_D A [(h0, .inr (6, [.ref x0, .int 0, .ref x1, .ref x3, .ref x11, .ref x19, .ref x22, .int 0, .ref x29, .ref x33, .ref x36, .ref x42, .int 0, .long 0])), (y0, .inr (7, [.long 0, .ref m0, .int 0, .ref m1, .ref m2, .ref m3, .ref m4, .ref m5, .ref m6, .ref m7, .ref m8, .ref m9, .ref m10, .ref m11, .int 0, .int 0, .int 0, .int 0, .int 0, .int 0, .ref m12, .ref m13, .ref m14, .ref m15, .ref m16, .ref m17, .ref m18, .ref m19, .int 0])), (m12, .inl (cI, 1191, .inl zf)), (m13, .inl (cZ, 2, .inl zf))]) (hS : va_S A s.heap H locs) (hl : lv_has ls 4 [(3, .int 0), (2, .ref y0), (1, .ref h0), (0, .ref b)]) : W p l e room_1 s m #[Value.ref b] below meth c H locs 65 4410 (lw_Z below #[Value.ref b] s) (F0 m 808 ls []) := by
  obtain ⟨hx, hb, hr, hml, hown, hts, hX, hbl, hlk, hgv⟩ := id C0
  have hown : s.vm.findClass RL = some m.cls := hown
  have hbA : ¬ A b := fun q => absurd (hAf b q) (Nat.not_le.mpr hbl)
  refine lv_aload_n hx hb dL_law_808 rfl (lv_at hl 2 rfl) ?_
  refine lv_aload_n hx hb dL_law_809 rfl (lv_at hl 3 rfl) ?_
  refine lv_iload_n hx hb dL_law_810 rfl (lv_at hl 0 rfl) ?_
  refine lv_iconst (v := 1) hx hb dL_law_811 (by decide) ?_
  refine lv_iadd hx hb dL_law_812 ?_
  refine set_i (y := 1) (by decide) ?_
  refine va_sld hx hb hX hbl hbA hS (vp_in_nI (n := 1) (N := 5) (by decide) (by decide)) dL_law_813 ?_
  refine set_i (y := xs 1) rfl ?_
  refine be_i (free := va_A [(h0, .inr (6, [.ref x0, .int 0, .ref x1, .ref x3, .ref x11, .ref x19, .ref x22, .int 0, .ref x29, .ref x33, .ref x36, .ref x42, .int 0, .long 0]))] H.size) (wc := [(h0, .inr (6, [.ref x0, .int 0, .ref x1, .ref x3, .ref x11, .ref x19, .ref x22, .int 0, .ref x29, .ref x33, .ref x36, .ref x42, .int 0, .long 0]))]) (wr := [(y0, .inr (7, [.long 0, .ref m0, .int 0, .ref m1, .ref m2, .ref m3, .ref m4, .ref m5, .ref m6, .ref m7, .ref m8, .ref m9, .ref m10, .ref m11, .int 0, .int 0, .int 0, .int 0, .int 0, .int 0, .ref m12, .ref m13, .ref m14, .ref m15, .ref m16, .ref m17, .ref m18, .ref m19, .int 0])), (m12, .inl (cI, 1191, .inl zf)), (m13, .inl (cZ, 2, .inl zf))]) (ru_V (As := [.int (xs 1)]) (rest := []) ⟨hx, hb, hml, hown, hts⟩ (c_X_back l D cI cB cZ cN h0 x0 x1 x3 x11 x19 x22 x29 x33 x36 x42 (xs 1) H.size) (gtr gL_law_X6_back) rfl ⟨rfl, by decide, by decide, (show Option.map (fun d => d.parameters.length) (parseMethodDescriptor yX6_back.desc) = some 1 by decide +kernel)⟩ ⟨Nat.le_of_ble_eq_true rfl, Nat.le_of_ble_eq_true rfl⟩ hK hP hD 6 0 rfl rfl [0] (by decide) rfl hl.1 rfl (Nat.le_of_ble_eq_true rfl) dL_law_814 ⟨Nat.le_of_ble_eq_true rfl, Nat.le_of_ble_eq_true rfl⟩) hP hD hS hA [0] [1, 2, 3] rfl rfl (by decide) (by decide) (fun r2 u1 H locs w3 hP hD hS => ?_)
  have hP : va_P D vwCl [(y0, .inr (7, [.long 0, .ref m0, .int 0, .ref m1, .ref m2, .ref m3, .ref m4, .ref m5, .ref m6, .ref m7, .ref m8, .ref m9, .ref m10, .ref m11, .int 0, .int 0, .int 0, .int 0, .int 0, .int 0, .ref m12, .ref m13, .ref m14, .ref m15, .ref m16, .ref m17, .ref m18, .ref m19, .int 0])), (m12, .inl (cI, 1191, .inl zf)), (m13, .inl (cZ, 2, .inl zf))] H := hP
  have hD : va_D A [(y0, .inr (7, [.long 0, .ref m0, .int 0, .ref m1, .ref m2, .ref m3, .ref m4, .ref m5, .ref m6, .ref m7, .ref m8, .ref m9, .ref m10, .ref m11, .int 0, .int 0, .int 0, .int 0, .int 0, .int 0, .ref m12, .ref m13, .ref m14, .ref m15, .ref m16, .ref m17, .ref m18, .ref m19, .int 0])), (m12, .inl (cI, 1191, .inl zf)), (m13, .inl (cZ, 2, .inl zf))] := hD
  obtain rfl : r2 = bkA (xs 1) := w3
  refine lv_aload_n hx hb dL_law_817 rfl (lv_at hl 1 rfl) ?_
  refine lv_aload_n hx hb dL_law_818 rfl (lv_at hl 3 rfl) ?_
  refine lv_iload_n hx hb dL_law_819 rfl (lv_at hl 0 rfl) ?_
  refine lv_iconst (v := 1) hx hb dL_law_820 (by decide) ?_
  refine lv_iadd hx hb dL_law_821 ?_
  refine set_i (y := 1) (by decide) ?_
  refine va_sld hx hb hX hbl hbA hS (vp_in_nI (n := 1) (N := 5) (by decide) (by decide)) dL_law_822 ?_
  refine set_i (y := xs 1) rfl ?_
  refine be_i (free := va_A [(y0, .inr (7, [.long 0, .ref m0, .int 0, .ref m1, .ref m2, .ref m3, .ref m4, .ref m5, .ref m6, .ref m7, .ref m8, .ref m9, .ref m10, .ref m11, .int 0, .int 0, .int 0, .int 0, .int 0, .int 0, .ref m12, .ref m13, .ref m14, .ref m15, .ref m16, .ref m17, .ref m18, .ref m19, .int 0])), (m12, .inl (cI, 1191, .inl zf)), (m13, .inl (cZ, 2, .inl zf))] H.size) (wc := [(y0, .inr (7, [.long 0, .ref m0, .int 0, .ref m1, .ref m2, .ref m3, .ref m4, .ref m5, .ref m6, .ref m7, .ref m8, .ref m9, .ref m10, .ref m11, .int 0, .int 0, .int 0, .int 0, .int 0, .int 0, .ref m12, .ref m13, .ref m14, .ref m15, .ref m16, .ref m17, .ref m18, .ref m19, .int 0])), (m12, .inl (cI, 1191, .inl zf)), (m13, .inl (cZ, 2, .inl zf))]) (wr := []) (ru_V (As := [.int (xs 1)]) (rest := [.int (bkA (xs 1))]) ⟨hx, hb, hml, hown, hts⟩ (c_M_back l D cI cB cZ cN y0 m0 m1 m2 m3 m4 m5 m6 m7 m8 m9 m10 m11 m12 m13 m14 m15 m16 m17 m18 m19 (xs 1) H.size) (gtr gL_law_X7_back) rfl ⟨rfl, by decide, by decide, (show Option.map (fun d => d.parameters.length) (parseMethodDescriptor yX7_back.desc) = some 1 by decide +kernel)⟩ ⟨Nat.le_of_ble_eq_true rfl, Nat.le_of_ble_eq_true rfl⟩ hK hP hD 7 0 rfl rfl [0, 1, 2] (by decide) rfl hl.1 rfl (Nat.le_of_ble_eq_true rfl) dL_law_823 ⟨Nat.le_of_ble_eq_true rfl, Nat.le_of_ble_eq_true rfl⟩) hP hD hS hA [0, 1, 2] [] rfl rfl (by decide) (by decide) (fun r5 u4 H locs w6 hP hD hS => ?_)
  have hP : va_P D vwCl [] H := hP
  have hD : va_D A [] := hD
  obtain rfl : r5 = bkA (xs 1) := w6
  refine lv_icmp_eq (tgt := 868) hx hb dL_law_826 (by decide) (fun h7 => ?_) (fun h7 => absurd (rfl) h7)
  exact law_tail C0 hAf hS (lv_sub hl [3, 0] rfl) (Nat.le_of_ble_eq_true rfl) (Nat.le_of_ble_eq_true rfl)
theorem dL_law_831 : decode cL_law 831 = .ok (.aload_n 1, 1) := by decide +kernel
theorem dL_law_832 : decode cL_law 832 = .ok (.aload_n 0, 1) := by decide +kernel
theorem dL_law_833 : decode cL_law 833 = .ok (.iload_n 3, 1) := by decide +kernel
theorem dL_law_834 : decode cL_law 834 = .ok (.iconst 1, 1) := by decide +kernel
theorem dL_law_835 : decode cL_law 835 = .ok (.iadd, 1) := by decide +kernel
theorem dL_law_836 : decode cL_law 836 = .ok (.iaload, 1) := by decide +kernel
theorem dL_law_837 : decode cL_law 837 = .ok (.invokevirtual 118, 3) := by decide +kernel
set_option maxRecDepth 20000 in
theorem ggL_law_X6_count : GoodIn wsL_law wsX6_count := goodIn_r _ [726, 22, 43, 27, 14, 739, 740, 741, 742, 743, 744, 745, 746, 747, 748, 749, 750, 751, 752, 788, 789, 790, 791, 792, 793, 794, 795, 796, 797, 798, 799, 800, 801, 802] (by decide +kernel) (by decide +kernel)
set_option maxRecDepth 20000 in
theorem gL_law_X6_count : GoodIn wsL_law (wsV RL 118 RX6 yX6_count wsX6_count) := goodIn_app (goodIn_of _ (by decide +kernel)) ggL_law_X6_count
theorem dL_law_840 : decode cL_law 840 = .ok (.aload_n 2, 1) := by decide +kernel
theorem dL_law_841 : decode cL_law 841 = .ok (.aload_n 0, 1) := by decide +kernel
theorem dL_law_842 : decode cL_law 842 = .ok (.iload_n 3, 1) := by decide +kernel
theorem dL_law_843 : decode cL_law 843 = .ok (.iconst 1, 1) := by decide +kernel
theorem dL_law_844 : decode cL_law 844 = .ok (.iadd, 1) := by decide +kernel
theorem dL_law_845 : decode cL_law 845 = .ok (.iaload, 1) := by decide +kernel
theorem dL_law_846 : decode cL_law 846 = .ok (.invokevirtual 121, 3) := by decide +kernel
set_option maxRecDepth 20000 in
theorem ggL_law_X7_count : GoodIn wsL_law wsX7_count := goodIn_r _ [730, 103, 106, 109, 113, 132, 114, 141, 753, 754, 755, 756, 757, 758, 759, 760, 761, 762, 763, 764, 765, 766, 767, 768, 769, 770, 771, 772, 773, 774, 775, 776, 777, 778, 779, 780, 781] (by decide +kernel) (by decide +kernel)
set_option maxRecDepth 20000 in
theorem gL_law_X7_count : GoodIn wsL_law (wsV RL 121 RX7 yX7_count wsX7_count) := goodIn_app (goodIn_of _ (by decide +kernel)) ggL_law_X7_count
theorem dL_law_849 : decode cL_law 849 = .ok (.if_icmp .eq 19, 3) := by decide +kernel
set_option maxHeartbeats 4000000 in
set_option maxRecDepth 100000 in
theorem law_25 {p : Program} {l : Launch} {e : Env} {s : State} {m : MethodId} {below : List Frame} {meth : Method} {c : Code} {D : va_G} {cI cB cZ cN : ClassId} {A : Nat → Prop} {b : Nat} {xs : Nat → Int32} {H : Heap} {locs : List Loc} {ls : Array Slot} {h0 x0 x1 x3 x11 x19 x22 x29 x33 x36 x42 x4 x5 x6 x7 x8 x9 x10 x20 x21 y0 m0 m1 m2 m3 m4 m5 m6 m7 m8 m9 m10 m11 m12 m13 m14 m15 m16 m17 m18 m19 : Nat} (C0 : lw_At p s m meth c b 5 xs) (hK : KN D cI cB cZ cN s) (hA : ∀ q : Nat, s.heap.size ≤ q → A q) (hAf : ∀ q : Nat, A q → s.heap.size ≤ q) (hP : va_P D vwCl [(h0, .inr (6, [.ref x0, .int 0, .ref x1, .ref x3, .ref x11, .ref x19, .ref x22, .int 0, .ref x29, .ref x33, .ref x36, .ref x42, .int 0, .long 0])), (x3, .inr (0, [.int 0, .ref x4, .ref x5, .int 0, .ref x6, .ref x7, .int 0, .ref x8, .ref x9, .ref x10, .int 9, .int 0])), (x19, .inr (1, [.ref x20, .ref x21, .int 0])), (y0, .inr (7, [.long 0, .ref m0, .int 0, .ref m1, .ref m2, .ref m3, .ref m4, .ref m5, .ref m6, .ref m7, .ref m8, .ref m9, .ref m10, .ref m11, .int 0, .int 0, .int 0, .int 0, .int 0, .int 0, .ref m12, .ref m13, .ref m14, .ref m15, .ref m16, .ref m17, .ref m18, .ref m19, .int 0])), (m1, .inl (cI, 2, .inl zf)), (m4, .inl (cI, 2, .inl zf)), (m7, .inl (cI, 2, .inl zf)), (m11, .inl (cI, 2, .inl spn)), (m12, .inl (cI, 1191, .inl zf))] H) (hD : va_D A [(h0, .inr (6, [.ref x0, .int 0, .ref x1, .ref x3, .ref x11, .ref x19, .ref x22, .int 0, .ref x29, .ref x33, .ref x36, .ref x42, .int 0, .long 0])), (x3, .inr (0, [.int 0, .ref x4, .ref x5, .int 0, .ref x6, .ref x7, .int 0, .ref x8, .ref x9, .ref x10, .int 9, .int 0])), (x19, .inr (1, [.ref x20, .ref x21, .int 0])), (y0, .inr (7, [.long 0, .ref m0, .int 0, .ref m1, .ref m2, .ref m3, .ref m4, .ref m5, .ref m6, .ref m7, .ref m8, .ref m9, .ref m10, .ref m11, .int 0, .int 0, .int 0, .int 0, .int 0, .int 0, .ref m12, .ref m13, .ref m14, .ref m15, .ref m16, .ref m17, .ref m18, .ref m19, .int 0])), (m1, .inl (cI, 2, .inl zf)), (m4, .inl (cI, 2, .inl zf)), (m7, .inl (cI, 2, .inl zf)), (m11, .inl (cI, 2, .inl spn)), (m12, .inl (cI, 1191, .inl zf))]) (hS : va_S A s.heap H locs) (hl : lv_has ls 4 [(3, .int 0), (2, .ref y0), (1, .ref h0), (0, .ref b)]) : W p l e room_1 s m #[Value.ref b] below meth c H locs 65 4410 (lw_Z below #[Value.ref b] s) (F0 m 831 ls []) := by
  obtain ⟨hx, hb, hr, hml, hown, hts, hX, hbl, hlk, hgv⟩ := id C0
  have hown : s.vm.findClass RL = some m.cls := hown
  have hbA : ¬ A b := fun q => absurd (hAf b q) (Nat.not_le.mpr hbl)
  refine lv_aload_n hx hb dL_law_831 rfl (lv_at hl 2 rfl) ?_
  refine lv_aload_n hx hb dL_law_832 rfl (lv_at hl 3 rfl) ?_
  refine lv_iload_n hx hb dL_law_833 rfl (lv_at hl 0 rfl) ?_
  refine lv_iconst (v := 1) hx hb dL_law_834 (by decide) ?_
  refine lv_iadd hx hb dL_law_835 ?_
  refine set_i (y := 1) (by decide) ?_
  refine va_sld hx hb hX hbl hbA hS (vp_in_nI (n := 1) (N := 5) (by decide) (by decide)) dL_law_836 ?_
  refine set_i (y := xs 1) rfl ?_
  refine be_i (free := va_A [(h0, .inr (6, [.ref x0, .int 0, .ref x1, .ref x3, .ref x11, .ref x19, .ref x22, .int 0, .ref x29, .ref x33, .ref x36, .ref x42, .int 0, .long 0])), (x3, .inr (0, [.int 0, .ref x4, .ref x5, .int 0, .ref x6, .ref x7, .int 0, .ref x8, .ref x9, .ref x10, .int 9, .int 0])), (x19, .inr (1, [.ref x20, .ref x21, .int 0]))] H.size) (wc := [(h0, .inr (6, [.ref x0, .int 0, .ref x1, .ref x3, .ref x11, .ref x19, .ref x22, .int 0, .ref x29, .ref x33, .ref x36, .ref x42, .int 0, .long 0])), (x3, .inr (0, [.int 0, .ref x4, .ref x5, .int 0, .ref x6, .ref x7, .int 0, .ref x8, .ref x9, .ref x10, .int 9, .int 0])), (x19, .inr (1, [.ref x20, .ref x21, .int 0]))]) (wr := [(y0, .inr (7, [.long 0, .ref m0, .int 0, .ref m1, .ref m2, .ref m3, .ref m4, .ref m5, .ref m6, .ref m7, .ref m8, .ref m9, .ref m10, .ref m11, .int 0, .int 0, .int 0, .int 0, .int 0, .int 0, .ref m12, .ref m13, .ref m14, .ref m15, .ref m16, .ref m17, .ref m18, .ref m19, .int 0])), (m1, .inl (cI, 2, .inl zf)), (m4, .inl (cI, 2, .inl zf)), (m7, .inl (cI, 2, .inl zf)), (m11, .inl (cI, 2, .inl spn)), (m12, .inl (cI, 1191, .inl zf))]) (ru_V (As := [.int (xs 1)]) (rest := []) ⟨hx, hb, hml, hown, hts⟩ (c_X_count l D cI cB cZ cN h0 x0 x1 x3 x11 x19 x22 x29 x33 x36 x42 x4 x5 x6 x7 x8 x9 x10 x20 x21 (xs 1) H.size) (gtr gL_law_X6_count) rfl ⟨rfl, by decide, by decide, (show Option.map (fun d => d.parameters.length) (parseMethodDescriptor yX6_count.desc) = some 1 by decide +kernel)⟩ ⟨Nat.le_of_ble_eq_true rfl, Nat.le_of_ble_eq_true rfl⟩ hK hP hD 6 0 rfl rfl [0, 1, 2] (by decide) rfl hl.1 rfl (Nat.le_of_ble_eq_true rfl) dL_law_837 ⟨Nat.le_of_ble_eq_true rfl, Nat.le_of_ble_eq_true rfl⟩) hP hD hS hA [0, 1, 2] [3, 4, 5, 6, 7, 8] rfl rfl (by decide) (by decide) (fun r2 u1 H locs w3 hP hD hS => ?_)
  have hP : va_P D vwCl [(y0, .inr (7, [.long 0, .ref m0, .int 0, .ref m1, .ref m2, .ref m3, .ref m4, .ref m5, .ref m6, .ref m7, .ref m8, .ref m9, .ref m10, .ref m11, .int 0, .int 0, .int 0, .int 0, .int 0, .int 0, .ref m12, .ref m13, .ref m14, .ref m15, .ref m16, .ref m17, .ref m18, .ref m19, .int 0])), (m1, .inl (cI, 2, .inl zf)), (m4, .inl (cI, 2, .inl zf)), (m7, .inl (cI, 2, .inl zf)), (m11, .inl (cI, 2, .inl spn)), (m12, .inl (cI, 1191, .inl zf))] H := hP
  have hD : va_D A [(y0, .inr (7, [.long 0, .ref m0, .int 0, .ref m1, .ref m2, .ref m3, .ref m4, .ref m5, .ref m6, .ref m7, .ref m8, .ref m9, .ref m10, .ref m11, .int 0, .int 0, .int 0, .int 0, .int 0, .int 0, .ref m12, .ref m13, .ref m14, .ref m15, .ref m16, .ref m17, .ref m18, .ref m19, .int 0])), (m1, .inl (cI, 2, .inl zf)), (m4, .inl (cI, 2, .inl zf)), (m7, .inl (cI, 2, .inl zf)), (m11, .inl (cI, 2, .inl spn)), (m12, .inl (cI, 1191, .inl zf))] := hD
  obtain rfl : r2 = ctA (xs 1) := w3
  refine lv_aload_n hx hb dL_law_840 rfl (lv_at hl 1 rfl) ?_
  refine lv_aload_n hx hb dL_law_841 rfl (lv_at hl 3 rfl) ?_
  refine lv_iload_n hx hb dL_law_842 rfl (lv_at hl 0 rfl) ?_
  refine lv_iconst (v := 1) hx hb dL_law_843 (by decide) ?_
  refine lv_iadd hx hb dL_law_844 ?_
  refine set_i (y := 1) (by decide) ?_
  refine va_sld hx hb hX hbl hbA hS (vp_in_nI (n := 1) (N := 5) (by decide) (by decide)) dL_law_845 ?_
  refine set_i (y := xs 1) rfl ?_
  refine be_i (free := va_A [(y0, .inr (7, [.long 0, .ref m0, .int 0, .ref m1, .ref m2, .ref m3, .ref m4, .ref m5, .ref m6, .ref m7, .ref m8, .ref m9, .ref m10, .ref m11, .int 0, .int 0, .int 0, .int 0, .int 0, .int 0, .ref m12, .ref m13, .ref m14, .ref m15, .ref m16, .ref m17, .ref m18, .ref m19, .int 0])), (m1, .inl (cI, 2, .inl zf)), (m4, .inl (cI, 2, .inl zf)), (m7, .inl (cI, 2, .inl zf)), (m11, .inl (cI, 2, .inl spn)), (m12, .inl (cI, 1191, .inl zf))] H.size) (wc := [(y0, .inr (7, [.long 0, .ref m0, .int 0, .ref m1, .ref m2, .ref m3, .ref m4, .ref m5, .ref m6, .ref m7, .ref m8, .ref m9, .ref m10, .ref m11, .int 0, .int 0, .int 0, .int 0, .int 0, .int 0, .ref m12, .ref m13, .ref m14, .ref m15, .ref m16, .ref m17, .ref m18, .ref m19, .int 0])), (m1, .inl (cI, 2, .inl zf)), (m4, .inl (cI, 2, .inl zf)), (m7, .inl (cI, 2, .inl zf)), (m11, .inl (cI, 2, .inl spn)), (m12, .inl (cI, 1191, .inl zf))]) (wr := []) (ru_V (As := [.int (xs 1)]) (rest := [.int (ctA (xs 1))]) ⟨hx, hb, hml, hown, hts⟩ (c_M_count l D cI cB cZ cN y0 m0 m1 m2 m3 m4 m5 m6 m7 m8 m9 m10 m11 m12 m13 m14 m15 m16 m17 m18 m19 (xs 1) H.size) (gtr gL_law_X7_count) rfl ⟨rfl, by decide, by decide, (show Option.map (fun d => d.parameters.length) (parseMethodDescriptor yX7_count.desc) = some 1 by decide +kernel)⟩ ⟨Nat.le_of_ble_eq_true rfl, Nat.le_of_ble_eq_true rfl⟩ hK hP hD 7 0 rfl rfl [0, 1, 2, 3, 4, 5] (by decide) rfl hl.1 rfl (Nat.le_of_ble_eq_true rfl) dL_law_846 ⟨Nat.le_of_ble_eq_true rfl, Nat.le_of_ble_eq_true rfl⟩) hP hD hS hA [0, 1, 2, 3, 4, 5] [] rfl rfl (by decide) (by decide) (fun r5 u4 H locs w6 hP hD hS => ?_)
  have hP : va_P D vwCl [] H := hP
  have hD : va_D A [] := hD
  obtain rfl : r5 = ctA (xs 1) := w6
  refine lv_icmp_eq (tgt := 868) hx hb dL_law_849 (by decide) (fun h7 => ?_) (fun h7 => absurd (rfl) h7)
  exact law_tail C0 hAf hS (lv_sub hl [3, 0] rfl) (Nat.le_of_ble_eq_true rfl) (Nat.le_of_ble_eq_true rfl)
theorem dL_law_854 : decode cL_law 854 = .ok (.aload_n 1, 1) := by decide +kernel
theorem dL_law_855 : decode cL_law 855 = .ok (.invokevirtual 122, 3) := by decide +kernel
set_option maxRecDepth 20000 in
theorem ggL_law_X6_trace : GoodIn wsL_law wsX6_trace := goodIn_r _ [734, 44, 739, 740, 741, 742, 743, 744, 745, 746, 747, 748, 749, 750, 751, 752] (by decide +kernel) (by decide +kernel)
set_option maxRecDepth 20000 in
theorem gL_law_X6_trace : GoodIn wsL_law (wsV RL 122 RX6 yX6_trace wsX6_trace) := goodIn_app (goodIn_of _ (by decide +kernel)) ggL_law_X6_trace
theorem dL_law_858 : decode cL_law 858 = .ok (.aload_n 2, 1) := by decide +kernel
theorem dL_law_859 : decode cL_law 859 = .ok (.invokevirtual 126, 3) := by decide +kernel
set_option maxRecDepth 20000 in
theorem ggL_law_X7_trace : GoodIn wsL_law wsX7_trace := goodIn_r _ [738, 697, 753, 754, 755, 756, 757, 758, 759, 760, 761, 762, 763, 764, 765, 766, 767, 768, 769, 770, 771, 772, 773, 774, 775, 776, 777, 778, 779, 780, 781] (by decide +kernel) (by decide +kernel)
set_option maxRecDepth 20000 in
theorem gL_law_X7_trace : GoodIn wsL_law (wsV RL 126 RX7 yX7_trace wsX7_trace) := goodIn_app (goodIn_of _ (by decide +kernel)) ggL_law_X7_trace
theorem dL_law_862 : decode cL_law 862 = .ok (.lcmp, 1) := by decide +kernel
theorem dL_law_863 : decode cL_law 863 = .ok (.ifCond .eq 5, 3) := by decide +kernel
set_option maxHeartbeats 4000000 in
set_option maxRecDepth 100000 in
theorem law_26 {p : Program} {l : Launch} {e : Env} {s : State} {m : MethodId} {below : List Frame} {meth : Method} {c : Code} {D : va_G} {cI cB cZ cN : ClassId} {A : Nat → Prop} {b : Nat} {xs : Nat → Int32} {H : Heap} {locs : List Loc} {ls : Array Slot} {h0 x0 x1 x3 x11 x19 x22 x29 x33 x36 x42 y0 m0 m1 m2 m3 m4 m5 m6 m7 m8 m9 m10 m11 m12 m13 m14 m15 m16 m17 m18 m19 : Nat} (C0 : lw_At p s m meth c b 5 xs) (hK : KN D cI cB cZ cN s) (hA : ∀ q : Nat, s.heap.size ≤ q → A q) (hAf : ∀ q : Nat, A q → s.heap.size ≤ q) (hP : va_P D vwCl [(h0, .inr (6, [.ref x0, .int 0, .ref x1, .ref x3, .ref x11, .ref x19, .ref x22, .int 0, .ref x29, .ref x33, .ref x36, .ref x42, .int 0, .long 0])), (y0, .inr (7, [.long 0, .ref m0, .int 0, .ref m1, .ref m2, .ref m3, .ref m4, .ref m5, .ref m6, .ref m7, .ref m8, .ref m9, .ref m10, .ref m11, .int 0, .int 0, .int 0, .int 0, .int 0, .int 0, .ref m12, .ref m13, .ref m14, .ref m15, .ref m16, .ref m17, .ref m18, .ref m19, .int 0]))] H) (hD : va_D A [(h0, .inr (6, [.ref x0, .int 0, .ref x1, .ref x3, .ref x11, .ref x19, .ref x22, .int 0, .ref x29, .ref x33, .ref x36, .ref x42, .int 0, .long 0])), (y0, .inr (7, [.long 0, .ref m0, .int 0, .ref m1, .ref m2, .ref m3, .ref m4, .ref m5, .ref m6, .ref m7, .ref m8, .ref m9, .ref m10, .ref m11, .int 0, .int 0, .int 0, .int 0, .int 0, .int 0, .ref m12, .ref m13, .ref m14, .ref m15, .ref m16, .ref m17, .ref m18, .ref m19, .int 0]))]) (hS : va_S A s.heap H locs) (hl : lv_has ls 4 [(3, .int 0), (2, .ref y0), (1, .ref h0), (0, .ref b)]) : W p l e room_1 s m #[Value.ref b] below meth c H locs 65 4410 (lw_Z below #[Value.ref b] s) (F0 m 854 ls []) := by
  obtain ⟨hx, hb, hr, hml, hown, hts, hX, hbl, hlk, hgv⟩ := id C0
  have hown : s.vm.findClass RL = some m.cls := hown
  have hbA : ¬ A b := fun q => absurd (hAf b q) (Nat.not_le.mpr hbl)
  refine lv_aload_n hx hb dL_law_854 rfl (lv_at hl 2 rfl) ?_
  refine be_j (free := va_A [(h0, .inr (6, [.ref x0, .int 0, .ref x1, .ref x3, .ref x11, .ref x19, .ref x22, .int 0, .ref x29, .ref x33, .ref x36, .ref x42, .int 0, .long 0]))] H.size) (wc := [(h0, .inr (6, [.ref x0, .int 0, .ref x1, .ref x3, .ref x11, .ref x19, .ref x22, .int 0, .ref x29, .ref x33, .ref x36, .ref x42, .int 0, .long 0]))]) (wr := [(y0, .inr (7, [.long 0, .ref m0, .int 0, .ref m1, .ref m2, .ref m3, .ref m4, .ref m5, .ref m6, .ref m7, .ref m8, .ref m9, .ref m10, .ref m11, .int 0, .int 0, .int 0, .int 0, .int 0, .int 0, .ref m12, .ref m13, .ref m14, .ref m15, .ref m16, .ref m17, .ref m18, .ref m19, .int 0]))]) (ru_V (As := []) (rest := []) ⟨hx, hb, hml, hown, hts⟩ (c_X_trace l D cI cB cZ cN h0 x0 x1 x3 x11 x19 x22 x29 x33 x36 x42 H.size) (gtr gL_law_X6_trace) rfl ⟨rfl, by decide, by decide, (show Option.map (fun d => d.parameters.length) (parseMethodDescriptor yX6_trace.desc) = some 0 by decide +kernel)⟩ ⟨Nat.le_of_ble_eq_true rfl, Nat.le_of_ble_eq_true rfl⟩ hK hP hD 6 0 rfl rfl [0] (by decide) rfl hl.1 rfl (Nat.le_of_ble_eq_true rfl) dL_law_855 ⟨Nat.le_of_ble_eq_true rfl, Nat.le_of_ble_eq_true rfl⟩) hP hD hS hA [0] [1] rfl rfl (by decide) (by decide) (fun r2 u1 H locs w3 hP hD hS => ?_)
  have hP : va_P D vwCl [(y0, .inr (7, [.long 0, .ref m0, .int 0, .ref m1, .ref m2, .ref m3, .ref m4, .ref m5, .ref m6, .ref m7, .ref m8, .ref m9, .ref m10, .ref m11, .int 0, .int 0, .int 0, .int 0, .int 0, .int 0, .ref m12, .ref m13, .ref m14, .ref m15, .ref m16, .ref m17, .ref m18, .ref m19, .int 0]))] H := hP
  have hD : va_D A [(y0, .inr (7, [.long 0, .ref m0, .int 0, .ref m1, .ref m2, .ref m3, .ref m4, .ref m5, .ref m6, .ref m7, .ref m8, .ref m9, .ref m10, .ref m11, .int 0, .int 0, .int 0, .int 0, .int 0, .int 0, .ref m12, .ref m13, .ref m14, .ref m15, .ref m16, .ref m17, .ref m18, .ref m19, .int 0]))] := hD
  obtain rfl : r2 = 0 := w3
  refine lv_aload_n hx hb dL_law_858 rfl (lv_at hl 1 rfl) ?_
  refine be_j (free := va_A [(y0, .inr (7, [.long 0, .ref m0, .int 0, .ref m1, .ref m2, .ref m3, .ref m4, .ref m5, .ref m6, .ref m7, .ref m8, .ref m9, .ref m10, .ref m11, .int 0, .int 0, .int 0, .int 0, .int 0, .int 0, .ref m12, .ref m13, .ref m14, .ref m15, .ref m16, .ref m17, .ref m18, .ref m19, .int 0]))] H.size) (wc := [(y0, .inr (7, [.long 0, .ref m0, .int 0, .ref m1, .ref m2, .ref m3, .ref m4, .ref m5, .ref m6, .ref m7, .ref m8, .ref m9, .ref m10, .ref m11, .int 0, .int 0, .int 0, .int 0, .int 0, .int 0, .ref m12, .ref m13, .ref m14, .ref m15, .ref m16, .ref m17, .ref m18, .ref m19, .int 0]))]) (wr := []) (ru_V (As := []) (rest := [.long 0]) ⟨hx, hb, hml, hown, hts⟩ (c_M_trace l D cI cB cZ cN y0 m0 m1 m2 m3 m4 m5 m6 m7 m8 m9 m10 m11 m12 m13 m14 m15 m16 m17 m18 m19 H.size) (gtr gL_law_X7_trace) rfl ⟨rfl, by decide, by decide, (show Option.map (fun d => d.parameters.length) (parseMethodDescriptor yX7_trace.desc) = some 0 by decide +kernel)⟩ ⟨Nat.le_of_ble_eq_true rfl, Nat.le_of_ble_eq_true rfl⟩ hK hP hD 7 0 rfl rfl [0] (by decide) rfl hl.1 rfl (Nat.le_of_ble_eq_true rfl) dL_law_859 ⟨Nat.le_of_ble_eq_true rfl, Nat.le_of_ble_eq_true rfl⟩) hP hD hS hA [0] [] rfl rfl (by decide) (by decide) (fun r5 u4 H locs w6 hP hD hS => ?_)
  have hP : va_P D vwCl [] H := hP
  have hD : va_D A [] := hD
  obtain rfl : r5 = 0 := w6
  refine W.lcmp hx hb dL_law_862 ?_
  refine set_i (y := 0) (by decide) ?_
  refine lv_if_eq (tgt := 868) hx hb dL_law_863 (by decide) (fun h7 => ?_) (fun h7 => absurd (by decide) h7)
  exact law_tail C0 hAf hS (lv_sub hl [3, 0] rfl) (Nat.le_of_ble_eq_true rfl) (Nat.le_of_ble_eq_true rfl)
