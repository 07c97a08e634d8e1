theorem dL_law_0 : decode cL_law 0 = .ok (.new 7, 3) := by decide +kernel
theorem dL_law_3 : decode cL_law 3 = .ok (.dup, 1) := by decide +kernel
theorem dL_law_4 : decode cL_law 4 = .ok (.invokespecial 9, 3) := by decide +kernel
set_option maxRecDepth 20000 in
theorem ggL_law_X6_init : GoodIn wsL_law wsX6_init := goodIn_r _ [8, 9, 10, 11, 12, 13, 14, 15, 16, 17, 18, 19, 20, 21, 22, 23, 24, 25, 26, 27, 28, 29, 30, 31, 32, 33, 34, 35, 36, 37, 38, 39, 40, 41, 42, 43, 44, 45, 46, 47, 48, 49, 50, 51, 52, 53, 54, 55, 56, 57, 58, 59, 60, 61, 62, 63, 64, 65, 66, 67, 68, 69, 70, 71, 72, 73, 74, 75, 76, 77, 78, 79, 80, 81, 82, 83, 84, 85, 86, 87, 88, 89, 90, 91, 92, 93, 94, 95, 96, 739, 740, 741, 742, 743, 744, 745, 746, 747, 748, 749, 750, 751, 752, 782, 783, 784, 785, 786, 787, 788, 789, 790, 791, 792, 793, 794, 795, 796, 797, 798, 799, 800, 801, 802, 803, 804, 805, 806, 807, 808, 809, 810, 811, 812, 813, 814] (by decide +kernel) (by decide +kernel)
theorem dL_law_7 : decode cL_law 7 = .ok (.astore_n 1, 1) := by decide +kernel
theorem dL_law_8 : decode cL_law 8 = .ok (.new 10, 3) := by decide +kernel
theorem dL_law_11 : decode cL_law 11 = .ok (.dup, 1) := by decide +kernel
theorem dL_law_12 : decode cL_law 12 = .ok (.invokespecial 12, 3) := by decide +kernel
set_option maxRecDepth 20000 in
theorem ggL_law_X7_init : GoodIn wsL_law wsX7_init := goodIn_r _ [99, 100, 10, 11, 101, 102, 12, 103, 104, 105, 106, 107, 108, 109, 110, 111, 112, 113, 114, 115, 116, 117, 118, 119, 120, 121, 122, 123, 124, 125, 5, 126, 127, 128, 129, 130, 131, 132, 753, 754, 755, 756, 757, 758, 759, 760, 761, 762, 763, 764, 765, 766, 767, 768, 769, 770, 771, 772, 773, 774, 775, 776, 777, 778, 779, 780, 781] (by decide +kernel) (by decide +kernel)
theorem dL_law_15 : decode cL_law 15 = .ok (.astore_n 2, 1) := by decide +kernel
theorem dL_law_16 : decode cL_law 16 = .ok (.iconst 0, 1) := by decide +kernel
theorem dL_law_17 : decode cL_law 17 = .ok (.istore_n 3, 1) := by decide +kernel
theorem dL_law_26 : decode cL_law 26 = .ok (.aload_n 0, 1) := by decide +kernel
theorem dL_law_27 : decode cL_law 27 = .ok (.iload_n 3, 1) := by decide +kernel
theorem dL_law_28 : decode cL_law 28 = .ok (.iaload, 1) := by decide +kernel
theorem dL_law_29 : decode cL_law 29 = .ok (.bipush 31, 2) := by decide +kernel
theorem dL_law_31 : decode cL_law 31 = .ok (.iand, 1) := by decide +kernel
theorem dL_law_32 : decode cL_law 32 = .ok (.tableswitch 836 0 26 #[124, 147, 160, 173, 206, 239, 272, 305, 328, 381, 414, 447, 480, 493, 516, 549, 572, 595, 618, 661, 684, 697, 720, 753, 776, 799, 822], 124) := by decide +kernel
set_option maxHeartbeats 4000000 in
set_option maxRecDepth 100000 in
theorem whole_start {p : Program} {e : Env} {s : State} {m : MethodId} {below : List Frame} {meth : Method} {c : Code} (l : Launch) {b L : Nat} {xs : Nat → Int32} (hL : L ≤ 5) (C0 : lw_At p s m meth c b L xs) : W p l e room_1 s m #[Value.ref b] below meth c s.heap [] 0 0 (lw_Z below #[Value.ref b] s) (entryFrame m ([Value.ref b] : List Value).toArray 4) := by
  obtain ⟨hx, hb, hr, hml, hown, hts, hX, hbl, hlk, hgv⟩ := id C0
  have hown : s.vm.findClass RL = some m.cls := hown
  obtain ⟨D, cI, cB, cZ, cN, hK⟩ := law_known hts
  obtain ⟨A, hAe⟩ : ∃ A : Nat → Prop, A = fun q : Nat => s.heap.size ≤ q := ⟨_, rfl⟩
  have hA : ∀ q : Nat, s.heap.size ≤ q → A q := fun q h => by rw [hAe]; exact h
  have hAf : ∀ q : Nat, A q → s.heap.size ≤ q := fun q h => by rw [hAe] at h; exact h
  have hbA : ¬ A b := fun q => absurd (hAf b q) (Nat.not_le.mpr hbl)
  have hS : va_S A s.heap s.heap [] := va_S.rf
  have hP : va_P D vwCl [] s.heap := fun k q h => by simp at h
  have hD : va_D A [] := ⟨fun i j p q h => by simp at h, fun k q h => by simp at h⟩
  have hl := lv_entry ([.ref b]) (n := 4) (Nat.le_of_ble_eq_true rfl)
  rw [lg_entry_eq]
  generalize (lg_sl ([.ref b]) ++ List.replicate (4 - (lg_sl ([.ref b])).length) Slot.unset).toArray = ls at hl ⊢
  have hl : lv_has ls 4 [(0, .ref b)] := hl
  refine va_new (ci := 6) (fs := [.null, .int 0, .null, .null, .null, .null, .null, .int 0, .null, .null, .null, .null, .int 0, .long 0]) (C := RX6) (T := TX6) (N := 14) hx hb hts inX6 tyX6 tyX6_ok hown (hts (.classLink RL 7 RX6) (List.mem_of_getElem? (i := 104) (by decide +kernel))) (hts (.instantiable RX6 14) (List.mem_of_getElem? (i := 105) (by decide +kernel))) (hts (.initialized RX6) (List.mem_of_getElem? (i := 93) (by decide +kernel))) hK.1 hP hD hS hA rfl (dfX6) (Nat.le_of_ble_eq_true rfl) (Nat.le_of_ble_eq_true rfl) dL_law_0 (fun q1 H hP hD hS => ?_)
  have hP : va_P D vwCl [(q1, .inr (6, [.null, .int 0, .null, .null, .null, .null, .null, .int 0, .null, .null, .null, .null, .int 0, .long 0]))] H := hP
  have hD : va_D A [(q1, .inr (6, [.null, .int 0, .null, .null, .null, .null, .null, .int 0, .null, .null, .null, .null, .int 0, .long 0]))] := hD
  refine W.widen (k := 1) (n := 14) (Nat.le_of_ble_eq_true rfl) (Nat.le_of_ble_eq_true rfl) ?_
  refine lv_dup hx hb dL_law_3 rfl ?_
  refine be_v (free := va_A [(q1, .inr (6, [.null, .int 0, .null, .null, .null, .null, .null, .int 0, .null, .null, .null, .null, .int 0, .long 0]))] H.size) (wc := [(q1, .inr (6, [.null, .int 0, .null, .null, .null, .null, .null, .int 0, .null, .null, .null, .null, .int 0, .long 0]))]) (wr := []) (ru_I (As := []) (rest := [.ref q1]) ⟨hx, hb, hml, hown, hts⟩ (c_X_init l D cI cB cZ cN q1 H.size) (gtr ggL_law_X6_init) rfl (hts (.initialized RX6) (List.mem_of_getElem? (i := 93) (by decide +kernel))) (hts (.methodLink RL 9 yX6_init) (List.mem_of_getElem? (i := 106) (by decide +kernel))) (hts (.instanceMethod yX6_init) (List.mem_of_getElem? (i := 107) (by decide +kernel))) rfl ⟨by decide, by decide, (show Option.map (fun d => d.parameters.length) (parseMethodDescriptor yX6_init.desc) = some 0 by decide +kernel)⟩ ⟨Nat.le_of_ble_eq_true rfl, Nat.le_of_ble_eq_true rfl⟩ hK hP hD [0] (by decide) rfl hl.1 rfl (Nat.le_of_ble_eq_true rfl) dL_law_4 ⟨Nat.le_of_ble_eq_true rfl, Nat.le_of_ble_eq_true rfl⟩) hP hD hS hA [0] [] rfl rfl (by decide) (by decide) (fun u2 H locs w4 hP hD hS => ?_)
  have hP : va_P D vwCl [(q1, .inr (6, [.ref (u2 0), .int 0, .ref (u2 1), .ref (u2 3), .ref (u2 11), .ref (u2 19), .ref (u2 22), .int 0, .ref (u2 29), .ref (u2 33), .ref (u2 36), .ref (u2 42), .int 0, .long 0])), ((u2 0), .inl (cI, 180, .inl zf)), ((u2 1), .inr (3, [.ref (u2 2), .int 0, .int 0, .int 0, .int 0, .int 0])), ((u2 2), .inl (cI, 0, .inl zf)), ((u2 3), .inr (0, [.int 0, .ref (u2 4), .ref (u2 5), .int 0, .ref (u2 6), .ref (u2 7), .int 0, .ref (u2 8), .ref (u2 9), .ref (u2 10), .int 9, .int 0])), ((u2 4), .inl (cI, 6, .inl zf)), ((u2 5), .inl (cI, 6, .inl zf)), ((u2 6), .inl (cI, 5, .inl zf)), ((u2 7), .inl (cI, 30, .inl zf)), ((u2 8), .inl (cI, 5, .inl zf)), ((u2 9), .inl (cI, 5, .inl zf)), ((u2 10), .inl (cI, 5, .inl zf)), ((u2 11), .inr (0, [.int 0, .ref (u2 12), .ref (u2 13), .int 0, .ref (u2 14), .ref (u2 15), .int 0, .ref (u2 16), .ref (u2 17), .ref (u2 18), .int 9, .int 0])), ((u2 12), .inl (cI, 6, .inl zf)), ((u2 13), .inl (cI, 6, .inl zf)), ((u2 14), .inl (cI, 5, .inl zf)), ((u2 15), .inl (cI, 30, .inl zf)), ((u2 16), .inl (cI, 5, .inl zf)), ((u2 17), .inl (cI, 5, .inl zf)), ((u2 18), .inl (cI, 5, .inl zf)), ((u2 19), .inr (1, [.ref (u2 20), .ref (u2 21), .int 0])), ((u2 20), .inl (cI, 36, .inl zf)), ((u2 21), .inl (cI, 360, .inl zf)), ((u2 22), .inl (cN, 2, .inr (.inr (.inr (.inr (va_up (va_up (fun _ => none) 0 (some (u2 23))) 1 (some (u2 26)))))))), ((u2 23), .inr (1, [.ref (u2 24), .ref (u2 25), .int 0])), ((u2 24), .inl (cI, 36, .inl zf)), ((u2 25), .inl (cI, 360, .inl zf)), ((u2 26), .inr (1, [.ref (u2 27), .ref (u2 28), .int 0])), ((u2 27), .inl (cI, 36, .inl zf)), ((u2 28), .inl (cI, 360, .inl zf)), ((u2 29), .inr (2, [.ref (u2 30), .ref (u2 31), .ref (u2 32), .int 0])), ((u2 30), .inl (cI, 6, .inl zf)), ((u2 31), .inl (cI, 6, .inl zf)), ((u2 32), .inl (cI, 427, .inl zf)), ((u2 33), .inr (5, [.ref (u2 34), .ref (u2 35), .int 0, .int 0])), ((u2 34), .inl (cI, 6, .inl zf)), ((u2 35), .inl (cI, 6, .inl zf)), ((u2 36), .inr (4, [.ref (u2 37), .ref (u2 38), .ref (u2 39), .int 0])), ((u2 37), .inr (1, [.ref (u2 40), .ref (u2 41), .int 0])), ((u2 40), .inl (cI, 36, .inl zf)), ((u2 41), .inl (cI, 360, .inl zf)), ((u2 38), .inl (cI, 5, .inl zf)), ((u2 39), .inl (cI, 5, .inl zf)), ((u2 42), .inl (cI, 6, .inl zf))] H := hP
  have hD : va_D A [(q1, .inr (6, [.ref (u2 0), .int 0, .ref (u2 1), .ref (u2 3), .ref (u2 11), .ref (u2 19), .ref (u2 22), .int 0, .ref (u2 29), .ref (u2 33), .ref (u2 36), .ref (u2 42), .int 0, .long 0])), ((u2 0), .inl (cI, 180, .inl zf)), ((u2 1), .inr (3, [.ref (u2 2), .int 0, .int 0, .int 0, .int 0, .int 0])), ((u2 2), .inl (cI, 0, .inl zf)), ((u2 3), .inr (0, [.int 0, .ref (u2 4), .ref (u2 5), .int 0, .ref (u2 6), .ref (u2 7), .int 0, .ref (u2 8), .ref (u2 9), .ref (u2 10), .int 9, .int 0])), ((u2 4), .inl (cI, 6, .inl zf)), ((u2 5), .inl (cI, 6, .inl zf)), ((u2 6), .inl (cI, 5, .inl zf)), ((u2 7), .inl (cI, 30, .inl zf)), ((u2 8), .inl (cI, 5, .inl zf)), ((u2 9), .inl (cI, 5, .inl zf)), ((u2 10), .inl (cI, 5, .inl zf)), ((u2 11), .inr (0, [.int 0, .ref (u2 12), .ref (u2 13), .int 0, .ref (u2 14), .ref (u2 15), .int 0, .ref (u2 16), .ref (u2 17), .ref (u2 18), .int 9, .int 0])), ((u2 12), .inl (cI, 6, .inl zf)), ((u2 13), .inl (cI, 6, .inl zf)), ((u2 14), .inl (cI, 5, .inl zf)), ((u2 15), .inl (cI, 30, .inl zf)), ((u2 16), .inl (cI, 5, .inl zf)), ((u2 17), .inl (cI, 5, .inl zf)), ((u2 18), .inl (cI, 5, .inl zf)), ((u2 19), .inr (1, [.ref (u2 20), .ref (u2 21), .int 0])), ((u2 20), .inl (cI, 36, .inl zf)), ((u2 21), .inl (cI, 360, .inl zf)), ((u2 22), .inl (cN, 2, .inr (.inr (.inr (.inr (va_up (va_up (fun _ => none) 0 (some (u2 23))) 1 (some (u2 26)))))))), ((u2 23), .inr (1, [.ref (u2 24), .ref (u2 25), .int 0])), ((u2 24), .inl (cI, 36, .inl zf)), ((u2 25), .inl (cI, 360, .inl zf)), ((u2 26), .inr (1, [.ref (u2 27), .ref (u2 28), .int 0])), ((u2 27), .inl (cI, 36, .inl zf)), ((u2 28), .inl (cI, 360, .inl zf)), ((u2 29), .inr (2, [.ref (u2 30), .ref (u2 31), .ref (u2 32), .int 0])), ((u2 30), .inl (cI, 6, .inl zf)), ((u2 31), .inl (cI, 6, .inl zf)), ((u2 32), .inl (cI, 427, .inl zf)), ((u2 33), .inr (5, [.ref (u2 34), .ref (u2 35), .int 0, .int 0])), ((u2 34), .inl (cI, 6, .inl zf)), ((u2 35), .inl (cI, 6, .inl zf)), ((u2 36), .inr (4, [.ref (u2 37), .ref (u2 38), .ref (u2 39), .int 0])), ((u2 37), .inr (1, [.ref (u2 40), .ref (u2 41), .int 0])), ((u2 40), .inl (cI, 36, .inl zf)), ((u2 41), .inl (cI, 360, .inl zf)), ((u2 38), .inl (cI, 5, .inl zf)), ((u2 39), .inl (cI, 5, .inl zf)), ((u2 42), .inl (cI, 6, .inl zf))] := hD
  refine W.widen (k := 44) (n := 2425) (Nat.le_of_ble_eq_true rfl) (Nat.le_of_ble_eq_true rfl) ?_
  refine lv_astore_n (lv' := [(1, .ref q1), (0, .ref b)]) hx hb dL_law_7 rfl hl (by decide) rfl (fun ls hl => ?_)
  refine va_new (ci := 7) (fs := [.long 0, .null, .int 0, .null, .null, .null, .null, .null, .null, .null, .null, .null, .null, .null, .int 0, .int 0, .int 0, .int 0, .int 0, .int 0, .null, .null, .null, .null, .null, .null, .null, .null, .int 0]) (C := RX7) (T := TX7) (N := 29) hx hb hts inX7 tyX7 tyX7_ok hown (hts (.classLink RL 10 RX7) (List.mem_of_getElem? (i := 745) (by decide +kernel))) (hts (.instantiable RX7 29) (List.mem_of_getElem? (i := 746) (by decide +kernel))) (hts (.initialized RX7) (List.mem_of_getElem? (i := 100) (by decide +kernel))) hK.1 hP hD hS hA rfl (dfX7) (Nat.le_of_ble_eq_true rfl) (Nat.le_of_ble_eq_true rfl) dL_law_8 (fun q5 H hP hD hS => ?_)
  have hP : va_P D vwCl [(q1, .inr (6, [.ref (u2 0), .int 0, .ref (u2 1), .ref (u2 3), .ref (u2 11), .ref (u2 19), .ref (u2 22), .int 0, .ref (u2 29), .ref (u2 33), .ref (u2 36), .ref (u2 42), .int 0, .long 0])), ((u2 0), .inl (cI, 180, .inl zf)), ((u2 1), .inr (3, [.ref (u2 2), .int 0, .int 0, .int 0, .int 0, .int 0])), ((u2 2), .inl (cI, 0, .inl zf)), ((u2 3), .inr (0, [.int 0, .ref (u2 4), .ref (u2 5), .int 0, .ref (u2 6), .ref (u2 7), .int 0, .ref (u2 8), .ref (u2 9), .ref (u2 10), .int 9, .int 0])), ((u2 4), .inl (cI, 6, .inl zf)), ((u2 5), .inl (cI, 6, .inl zf)), ((u2 6), .inl (cI, 5, .inl zf)), ((u2 7), .inl (cI, 30, .inl zf)), ((u2 8), .inl (cI, 5, .inl zf)), ((u2 9), .inl (cI, 5, .inl zf)), ((u2 10), .inl (cI, 5, .inl zf)), ((u2 11), .inr (0, [.int 0, .ref (u2 12), .ref (u2 13), .int 0, .ref (u2 14), .ref (u2 15), .int 0, .ref (u2 16), .ref (u2 17), .ref (u2 18), .int 9, .int 0])), ((u2 12), .inl (cI, 6, .inl zf)), ((u2 13), .inl (cI, 6, .inl zf)), ((u2 14), .inl (cI, 5, .inl zf)), ((u2 15), .inl (cI, 30, .inl zf)), ((u2 16), .inl (cI, 5, .inl zf)), ((u2 17), .inl (cI, 5, .inl zf)), ((u2 18), .inl (cI, 5, .inl zf)), ((u2 19), .inr (1, [.ref (u2 20), .ref (u2 21), .int 0])), ((u2 20), .inl (cI, 36, .inl zf)), ((u2 21), .inl (cI, 360, .inl zf)), ((u2 22), .inl (cN, 2, .inr (.inr (.inr (.inr (va_up (va_up (fun _ => none) 0 (some (u2 23))) 1 (some (u2 26)))))))), ((u2 23), .inr (1, [.ref (u2 24), .ref (u2 25), .int 0])), ((u2 24), .inl (cI, 36, .inl zf)), ((u2 25), .inl (cI, 360, .inl zf)), ((u2 26), .inr (1, [.ref (u2 27), .ref (u2 28), .int 0])), ((u2 27), .inl (cI, 36, .inl zf)), ((u2 28), .inl (cI, 360, .inl zf)), ((u2 29), .inr (2, [.ref (u2 30), .ref (u2 31), .ref (u2 32), .int 0])), ((u2 30), .inl (cI, 6, .inl zf)), ((u2 31), .inl (cI, 6, .inl zf)), ((u2 32), .inl (cI, 427, .inl zf)), ((u2 33), .inr (5, [.ref (u2 34), .ref (u2 35), .int 0, .int 0])), ((u2 34), .inl (cI, 6, .inl zf)), ((u2 35), .inl (cI, 6, .inl zf)), ((u2 36), .inr (4, [.ref (u2 37), .ref (u2 38), .ref (u2 39), .int 0])), ((u2 37), .inr (1, [.ref (u2 40), .ref (u2 41), .int 0])), ((u2 40), .inl (cI, 36, .inl zf)), ((u2 41), .inl (cI, 360, .inl zf)), ((u2 38), .inl (cI, 5, .inl zf)), ((u2 39), .inl (cI, 5, .inl zf)), ((u2 42), .inl (cI, 6, .inl zf)), (q5, .inr (7, [.long 0, .null, .int 0, .null, .null, .null, .null, .null, .null, .null, .null, .null, .null, .null, .int 0, .int 0, .int 0, .int 0, .int 0, .int 0, .null, .null, .null, .null, .null, .null, .null, .null, .int 0]))] H := hP
  have hD : va_D A [(q1, .inr (6, [.ref (u2 0), .int 0, .ref (u2 1), .ref (u2 3), .ref (u2 11), .ref (u2 19), .ref (u2 22), .int 0, .ref (u2 29), .ref (u2 33), .ref (u2 36), .ref (u2 42), .int 0, .long 0])), ((u2 0), .inl (cI, 180, .inl zf)), ((u2 1), .inr (3, [.ref (u2 2), .int 0, .int 0, .int 0, .int 0, .int 0])), ((u2 2), .inl (cI, 0, .inl zf)), ((u2 3), .inr (0, [.int 0, .ref (u2 4), .ref (u2 5), .int 0, .ref (u2 6), .ref (u2 7), .int 0, .ref (u2 8), .ref (u2 9), .ref (u2 10), .int 9, .int 0])), ((u2 4), .inl (cI, 6, .inl zf)), ((u2 5), .inl (cI, 6, .inl zf)), ((u2 6), .inl (cI, 5, .inl zf)), ((u2 7), .inl (cI, 30, .inl zf)), ((u2 8), .inl (cI, 5, .inl zf)), ((u2 9), .inl (cI, 5, .inl zf)), ((u2 10), .inl (cI, 5, .inl zf)), ((u2 11), .inr (0, [.int 0, .ref (u2 12), .ref (u2 13), .int 0, .ref (u2 14), .ref (u2 15), .int 0, .ref (u2 16), .ref (u2 17), .ref (u2 18), .int 9, .int 0])), ((u2 12), .inl (cI, 6, .inl zf)), ((u2 13), .inl (cI, 6, .inl zf)), ((u2 14), .inl (cI, 5, .inl zf)), ((u2 15), .inl (cI, 30, .inl zf)), ((u2 16), .inl (cI, 5, .inl zf)), ((u2 17), .inl (cI, 5, .inl zf)), ((u2 18), .inl (cI, 5, .inl zf)), ((u2 19), .inr (1, [.ref (u2 20), .ref (u2 21), .int 0])), ((u2 20), .inl (cI, 36, .inl zf)), ((u2 21), .inl (cI, 360, .inl zf)), ((u2 22), .inl (cN, 2, .inr (.inr (.inr (.inr (va_up (va_up (fun _ => none) 0 (some (u2 23))) 1 (some (u2 26)))))))), ((u2 23), .inr (1, [.ref (u2 24), .ref (u2 25), .int 0])), ((u2 24), .inl (cI, 36, .inl zf)), ((u2 25), .inl (cI, 360, .inl zf)), ((u2 26), .inr (1, [.ref (u2 27), .ref (u2 28), .int 0])), ((u2 27), .inl (cI, 36, .inl zf)), ((u2 28), .inl (cI, 360, .inl zf)), ((u2 29), .inr (2, [.ref (u2 30), .ref (u2 31), .ref (u2 32), .int 0])), ((u2 30), .inl (cI, 6, .inl zf)), ((u2 31), .inl (cI, 6, .inl zf)), ((u2 32), .inl (cI, 427, .inl zf)), ((u2 33), .inr (5, [.ref (u2 34), .ref (u2 35), .int 0, .int 0])), ((u2 34), .inl (cI, 6, .inl zf)), ((u2 35), .inl (cI, 6, .inl zf)), ((u2 36), .inr (4, [.ref (u2 37), .ref (u2 38), .ref (u2 39), .int 0])), ((u2 37), .inr (1, [.ref (u2 40), .ref (u2 41), .int 0])), ((u2 40), .inl (cI, 36, .inl zf)), ((u2 41), .inl (cI, 360, .inl zf)), ((u2 38), .inl (cI, 5, .inl zf)), ((u2 39), .inl (cI, 5, .inl zf)), ((u2 42), .inl (cI, 6, .inl zf)), (q5, .inr (7, [.long 0, .null, .int 0, .null, .null, .null, .null, .null, .null, .null, .null, .null, .null, .null, .int 0, .int 0, .int 0, .int 0, .int 0, .int 0, .null, .null, .null, .null, .null, .null, .null, .null, .int 0]))] := hD
  refine W.widen (k := 45) (n := 2454) (Nat.le_of_ble_eq_true rfl) (Nat.le_of_ble_eq_true rfl) ?_
  refine lv_dup hx hb dL_law_11 rfl ?_
  refine be_v (free := va_A [(q5, .inr (7, [.long 0, .null, .int 0, .null, .null, .null, .null, .null, .null, .null, .null, .null, .null, .null, .int 0, .int 0, .int 0, .int 0, .int 0, .int 0, .null, .null, .null, .null, .null, .null, .null, .null, .int 0]))] H.size) (wc := [(q5, .inr (7, [.long 0, .null, .int 0, .null, .null, .null, .null, .null, .null, .null, .null, .null, .null, .null, .int 0, .int 0, .int 0, .int 0, .int 0, .int 0, .null, .null, .null, .null, .null, .null, .null, .null, .int 0]))]) (wr := [(q1, .inr (6, [.ref (u2 0), .int 0, .ref (u2 1), .ref (u2 3), .ref (u2 11), .ref (u2 19), .ref (u2 22), .int 0, .ref (u2 29), .ref (u2 33), .ref (u2 36), .ref (u2 42), .int 0, .long 0])), ((u2 0), .inl (cI, 180, .inl zf)), ((u2 1), .inr (3, [.ref (u2 2), .int 0, .int 0, .int 0, .int 0, .int 0])), ((u2 2), .inl (cI, 0, .inl zf)), ((u2 3), .inr (0, [.int 0, .ref (u2 4), .ref (u2 5), .int 0, .ref (u2 6), .ref (u2 7), .int 0, .ref (u2 8), .ref (u2 9), .ref (u2 10), .int 9, .int 0])), ((u2 4), .inl (cI, 6, .inl zf)), ((u2 5), .inl (cI, 6, .inl zf)), ((u2 6), .inl (cI, 5, .inl zf)), ((u2 7), .inl (cI, 30, .inl zf)), ((u2 8), .inl (cI, 5, .inl zf)), ((u2 9), .inl (cI, 5, .inl zf)), ((u2 10), .inl (cI, 5, .inl zf)), ((u2 11), .inr (0, [.int 0, .ref (u2 12), .ref (u2 13), .int 0, .ref (u2 14), .ref (u2 15), .int 0, .ref (u2 16), .ref (u2 17), .ref (u2 18), .int 9, .int 0])), ((u2 12), .inl (cI, 6, .inl zf)), ((u2 13), .inl (cI, 6, .inl zf)), ((u2 14), .inl (cI, 5, .inl zf)), ((u2 15), .inl (cI, 30, .inl zf)), ((u2 16), .inl (cI, 5, .inl zf)), ((u2 17), .inl (cI, 5, .inl zf)), ((u2 18), .inl (cI, 5, .inl zf)), ((u2 19), .inr (1, [.ref (u2 20), .ref (u2 21), .int 0])), ((u2 20), .inl (cI, 36, .inl zf)), ((u2 21), .inl (cI, 360, .inl zf)), ((u2 22), .inl (cN, 2, .inr (.inr (.inr (.inr (va_up (va_up (fun _ => none) 0 (some (u2 23))) 1 (some (u2 26)))))))), ((u2 23), .inr (1, [.ref (u2 24), .ref (u2 25), .int 0])), ((u2 24), .inl (cI, 36, .inl zf)), ((u2 25), .inl (cI, 360, .inl zf)), ((u2 26), .inr (1, [.ref (u2 27), .ref (u2 28), .int 0])), ((u2 27), .inl (cI, 36, .inl zf)), ((u2 28), .inl (cI, 360, .inl zf)), ((u2 29), .inr (2, [.ref (u2 30), .ref (u2 31), .ref (u2 32), .int 0])), ((u2 30), .inl (cI, 6, .inl zf)), ((u2 31), .inl (cI, 6, .inl zf)), ((u2 32), .inl (cI, 427, .inl zf)), ((u2 33), .inr (5, [.ref (u2 34), .ref (u2 35), .int 0, .int 0])), ((u2 34), .inl (cI, 6, .inl zf)), ((u2 35), .inl (cI, 6, .inl zf)), ((u2 36), .inr (4, [.ref (u2 37), .ref (u2 38), .ref (u2 39), .int 0])), ((u2 37), .inr (1, [.ref (u2 40), .ref (u2 41), .int 0])), ((u2 40), .inl (cI, 36, .inl zf)), ((u2 41), .inl (cI, 360, .inl zf)), ((u2 38), .inl (cI, 5, .inl zf)), ((u2 39), .inl (cI, 5, .inl zf)), ((u2 42), .inl (cI, 6, .inl zf))]) (ru_I (As := []) (rest := [.ref q5]) ⟨hx, hb, hml, hown, hts⟩ (c_M_init l D cI cB cZ cN q5 H.size) (gtr ggL_law_X7_init) rfl (hts (.initialized RX7) (List.mem_of_getElem? (i := 100) (by decide +kernel))) (hts (.methodLink RL 12 yX7_init) (List.mem_of_getElem? (i := 747) (by decide +kernel))) (hts (.instanceMethod yX7_init) (List.mem_of_getElem? (i := 748) (by decide +kernel))) rfl ⟨by decide, by decide, (show Option.map (fun d => d.parameters.length) (parseMethodDescriptor yX7_init.desc) = some 0 by decide +kernel)⟩ ⟨Nat.le_of_ble_eq_true rfl, Nat.le_of_ble_eq_true rfl⟩ hK hP hD [44] (by decide) rfl hl.1 rfl (Nat.le_of_ble_eq_true rfl) dL_law_12 ⟨Nat.le_of_ble_eq_true rfl, Nat.le_of_ble_eq_true rfl⟩) hP hD hS hA [44] [0, 1, 2, 3, 4, 5, 6, 7, 8, 9, 10, 11, 12, 13, 14, 15, 16, 17, 18, 19, 20, 21, 22, 23, 24, 25, 26, 27, 28, 29, 30, 31, 32, 33, 34, 35, 36, 37, 38, 39, 40, 41, 42, 43] rfl rfl (by decide) (by decide) (fun u6 H locs w8 hP hD hS => ?_)
  have hP : va_P D vwCl [(q1, .inr (6, [.ref (u2 0), .int 0, .ref (u2 1), .ref (u2 3), .ref (u2 11), .ref (u2 19), .ref (u2 22), .int 0, .ref (u2 29), .ref (u2 33), .ref (u2 36), .ref (u2 42), .int 0, .long 0])), ((u2 0), .inl (cI, 180, .inl zf)), ((u2 1), .inr (3, [.ref (u2 2), .int 0, .int 0, .int 0, .int 0, .int 0])), ((u2 2), .inl (cI, 0, .inl zf)), ((u2 3), .inr (0, [.int 0, .ref (u2 4), .ref (u2 5), .int 0, .ref (u2 6), .ref (u2 7), .int 0, .ref (u2 8), .ref (u2 9), .ref (u2 10), .int 9, .int 0])), ((u2 4), .inl (cI, 6, .inl zf)), ((u2 5), .inl (cI, 6, .inl zf)), ((u2 6), .inl (cI, 5, .inl zf)), ((u2 7), .inl (cI, 30, .inl zf)), ((u2 8), .inl (cI, 5, .inl zf)), ((u2 9), .inl (cI, 5, .inl zf)), ((u2 10), .inl (cI, 5, .inl zf)), ((u2 11), .inr (0, [.int 0, .ref (u2 12), .ref (u2 13), .int 0, .ref (u2 14), .ref (u2 15), .int 0, .ref (u2 16), .ref (u2 17), .ref (u2 18), .int 9, .int 0])), ((u2 12), .inl (cI, 6, .inl zf)), ((u2 13), .inl (cI, 6, .inl zf)), ((u2 14), .inl (cI, 5, .inl zf)), ((u2 15), .inl (cI, 30, .inl zf)), ((u2 16), .inl (cI, 5, .inl zf)), ((u2 17), .inl (cI, 5, .inl zf)), ((u2 18), .inl (cI, 5, .inl zf)), ((u2 19), .inr (1, [.ref (u2 20), .ref (u2 21), .int 0])), ((u2 20), .inl (cI, 36, .inl zf)), ((u2 21), .inl (cI, 360, .inl zf)), ((u2 22), .inl (cN, 2, .inr (.inr (.inr (.inr (va_up (va_up (fun _ => none) 0 (some (u2 23))) 1 (some (u2 26)))))))), ((u2 23), .inr (1, [.ref (u2 24), .ref (u2 25), .int 0])), ((u2 24), .inl (cI, 36, .inl zf)), ((u2 25), .inl (cI, 360, .inl zf)), ((u2 26), .inr (1, [.ref (u2 27), .ref (u2 28), .int 0])), ((u2 27), .inl (cI, 36, .inl zf)), ((u2 28), .inl (cI, 360, .inl zf)), ((u2 29), .inr (2, [.ref (u2 30), .ref (u2 31), .ref (u2 32), .int 0])), ((u2 30), .inl (cI, 6, .inl zf)), ((u2 31), .inl (cI, 6, .inl zf)), ((u2 32), .inl (cI, 427, .inl zf)), ((u2 33), .inr (5, [.ref (u2 34), .ref (u2 35), .int 0, .int 0])), ((u2 34), .inl (cI, 6, .inl zf)), ((u2 35), .inl (cI, 6, .inl zf)), ((u2 36), .inr (4, [.ref (u2 37), .ref (u2 38), .ref (u2 39), .int 0])), ((u2 37), .inr (1, [.ref (u2 40), .ref (u2 41), .int 0])), ((u2 40), .inl (cI, 36, .inl zf)), ((u2 41), .inl (cI, 360, .inl zf)), ((u2 38), .inl (cI, 5, .inl zf)), ((u2 39), .inl (cI, 5, .inl zf)), ((u2 42), .inl (cI, 6, .inl zf)), (q5, .inr (7, [.long 0, .ref (u6 0), .int 0, .ref (u6 1), .ref (u6 2), .ref (u6 3), .ref (u6 4), .ref (u6 5), .ref (u6 6), .ref (u6 7), .ref (u6 8), .ref (u6 9), .ref (u6 10), .ref (u6 11), .int 0, .int 0, .int 0, .int 0, .int 0, .int 0, .ref (u6 12), .ref (u6 13), .ref (u6 14), .ref (u6 15), .ref (u6 16), .ref (u6 17), .ref (u6 18), .ref (u6 19), .int 0])), ((u6 0), .inl (cB, 180, .inl zf)), ((u6 1), .inl (cI, 2, .inl zf)), ((u6 2), .inl (cI, 12, .inl zf)), ((u6 3), .inl (cI, 12, .inl zf)), ((u6 4), .inl (cI, 2, .inl zf)), ((u6 5), .inl (cI, 10, .inl zf)), ((u6 6), .inl (cI, 30, .inl zf)), ((u6 7), .inl (cI, 2, .inl zf)), ((u6 8), .inl (cI, 10, .inl zf)), ((u6 9), .inl (cI, 5, .inl zf)), ((u6 10), .inl (cI, 10, .inl zf)), ((u6 11), .inl (cI, 2, .inl spn)), ((u6 12), .inl (cI, 1191, .inl zf)), ((u6 13), .inl (cZ, 2, .inl zf)), ((u6 14), .inl (cI, 36, .inl zf)), ((u6 15), .inl (cI, 6, .inl zf)), ((u6 16), .inl (cI, 427, .inl zf)), ((u6 17), .inl (cI, 6, .inl zf)), ((u6 18), .inl (cI, 5, .inl zf)), ((u6 19), .inl (cI, 6, .inl zf))] H := hP
  have hD : va_D A [(q1, .inr (6, [.ref (u2 0), .int 0, .ref (u2 1), .ref (u2 3), .ref (u2 11), .ref (u2 19), .ref (u2 22), .int 0, .ref (u2 29), .ref (u2 33), .ref (u2 36), .ref (u2 42), .int 0, .long 0])), ((u2 0), .inl (cI, 180, .inl zf)), ((u2 1), .inr (3, [.ref (u2 2), .int 0, .int 0, .int 0, .int 0, .int 0])), ((u2 2), .inl (cI, 0, .inl zf)), ((u2 3), .inr (0, [.int 0, .ref (u2 4), .ref (u2 5), .int 0, .ref (u2 6), .ref (u2 7), .int 0, .ref (u2 8), .ref (u2 9), .ref (u2 10), .int 9, .int 0])), ((u2 4), .inl (cI, 6, .inl zf)), ((u2 5), .inl (cI, 6, .inl zf)), ((u2 6), .inl (cI, 5, .inl zf)), ((u2 7), .inl (cI, 30, .inl zf)), ((u2 8), .inl (cI, 5, .inl zf)), ((u2 9), .inl (cI, 5, .inl zf)), ((u2 10), .inl (cI, 5, .inl zf)), ((u2 11), .inr (0, [.int 0, .ref (u2 12), .ref (u2 13), .int 0, .ref (u2 14), .ref (u2 15), .int 0, .ref (u2 16), .ref (u2 17), .ref (u2 18), .int 9, .int 0])), ((u2 12), .inl (cI, 6, .inl zf)), ((u2 13), .inl (cI, 6, .inl zf)), ((u2 14), .inl (cI, 5, .inl zf)), ((u2 15), .inl (cI, 30, .inl zf)), ((u2 16), .inl (cI, 5, .inl zf)), ((u2 17), .inl (cI, 5, .inl zf)), ((u2 18), .inl (cI, 5, .inl zf)), ((u2 19), .inr (1, [.ref (u2 20), .ref (u2 21), .int 0])), ((u2 20), .inl (cI, 36, .inl zf)), ((u2 21), .inl (cI, 360, .inl zf)), ((u2 22), .inl (cN, 2, .inr (.inr (.inr (.inr (va_up (va_up (fun _ => none) 0 (some (u2 23))) 1 (some (u2 26)))))))), ((u2 23), .inr (1, [.ref (u2 24), .ref (u2 25), .int 0])), ((u2 24), .inl (cI, 36, .inl zf)), ((u2 25), .inl (cI, 360, .inl zf)), ((u2 26), .inr (1, [.ref (u2 27), .ref (u2 28), .int 0])), ((u2 27), .inl (cI, 36, .inl zf)), ((u2 28), .inl (cI, 360, .inl zf)), ((u2 29), .inr (2, [.ref (u2 30), .ref (u2 31), .ref (u2 32), .int 0])), ((u2 30), .inl (cI, 6, .inl zf)), ((u2 31), .inl (cI, 6, .inl zf)), ((u2 32), .inl (cI, 427, .inl zf)), ((u2 33), .inr (5, [.ref (u2 34), .ref (u2 35), .int 0, .int 0])), ((u2 34), .inl (cI, 6, .inl zf)), ((u2 35), .inl (cI, 6, .inl zf)), ((u2 36), .inr (4, [.ref (u2 37), .ref (u2 38), .ref (u2 39), .int 0])), ((u2 37), .inr (1, [.ref (u2 40), .ref (u2 41), .int 0])), ((u2 40), .inl (cI, 36, .inl zf)), ((u2 41), .inl (cI, 360, .inl zf)), ((u2 38), .inl (cI, 5, .inl zf)), ((u2 39), .inl (cI, 5, .inl zf)), ((u2 42), .inl (cI, 6, .inl zf)), (q5, .inr (7, [.long 0, .ref (u6 0), .int 0, .ref (u6 1), .ref (u6 2), .ref (u6 3), .ref (u6 4), .ref (u6 5), .ref (u6 6), .ref (u6 7), .ref (u6 8), .ref (u6 9), .ref (u6 10), .ref (u6 11), .int 0, .int 0, .int 0, .int 0, .int 0, .int 0, .ref (u6 12), .ref (u6 13), .ref (u6 14), .ref (u6 15), .ref (u6 16), .ref (u6 17), .ref (u6 18), .ref (u6 19), .int 0])), ((u6 0), .inl (cB, 180, .inl zf)), ((u6 1), .inl (cI, 2, .inl zf)), ((u6 2), .inl (cI, 12, .inl zf)), ((u6 3), .inl (cI, 12, .inl zf)), ((u6 4), .inl (cI, 2, .inl zf)), ((u6 5), .inl (cI, 10, .inl zf)), ((u6 6), .inl (cI, 30, .inl zf)), ((u6 7), .inl (cI, 2, .inl zf)), ((u6 8), .inl (cI, 10, .inl zf)), ((u6 9), .inl (cI, 5, .inl zf)), ((u6 10), .inl (cI, 10, .inl zf)), ((u6 11), .inl (cI, 2, .inl spn)), ((u6 12), .inl (cI, 1191, .inl zf)), ((u6 13), .inl (cZ, 2, .inl zf)), ((u6 14), .inl (cI, 36, .inl zf)), ((u6 15), .inl (cI, 6, .inl zf)), ((u6 16), .inl (cI, 427, .inl zf)), ((u6 17), .inl (cI, 6, .inl zf)), ((u6 18), .inl (cI, 5, .inl zf)), ((u6 19), .inl (cI, 6, .inl zf))] := hD
  refine W.widen (k := 65) (n := 4410) (Nat.le_of_ble_eq_true rfl) (Nat.le_of_ble_eq_true rfl) ?_
  refine lv_astore_n (lv' := [(2, .ref q5), (1, .ref q1), (0, .ref b)]) hx hb dL_law_15 rfl hl (by decide) rfl (fun ls hl => ?_)
  refine lv_iconst (v := 0) hx hb dL_law_16 (by decide) ?_
  refine lv_istore_n (lv' := [(3, .int 0), (2, .ref q5), (1, .ref q1), (0, .ref b)]) hx hb dL_law_17 rfl hl (by decide) rfl (fun ls hl => ?_)
  refine law_head C0 hAf hS (lv_sub hl [3, 0] rfl) (Nat.le_of_ble_eq_true rfl) (Nat.le_of_ble_eq_true rfl) hL (fun eL => ?_)
  subst eL
  refine lv_aload_n hx hb dL_law_26 rfl (lv_at hl 3 rfl) ?_
  refine lv_iload_n hx hb dL_law_27 rfl (lv_at hl 0 rfl) ?_
  refine va_sld hx hb hX hbl hbA hS (vp_in_nI (n := 0) (N := 5) (by decide) (by decide)) dL_law_28 ?_
  refine set_i (y := xs 0) rfl ?_
  refine lv_bipush (v := 31) hx hb dL_law_29 (by decide) ?_
  refine lv_iand hx hb dL_law_31 ?_
  rcases law_sw (xs 0) with hc | hc | hc | hc | hc | hc | hc | hc | hc | hc | hc | hc | hc | hc | hc | hc | hc | hc | hc | hc | hc | hc | hc | hc | hc | hc | hc | hc
  · refine set_i (y := 0) hc ?_
    refine lv_tableIn (tgt := 156) (off := 124) hx hb dL_law_32 (by decide) (by decide) (by decide) (by decide) ?_
    exact law_0 C0 hK hA hAf (hP.sub [0, 1, 44, 45] rfl) (hD.sub [0, 1, 44, 45] (by decide) rfl) hS (lv_sub hl [0, 1, 2, 3] rfl)
  · refine set_i (y := 1) hc ?_
    refine lv_tableIn (tgt := 179) (off := 147) hx hb dL_law_32 (by decide) (by decide) (by decide) (by decide) ?_
    exact law_1 C0 hK hA hAf (hP.sub [0, 44] rfl) (hD.sub [0, 44] (by decide) rfl) hS (lv_sub hl [0, 1, 2, 3] rfl)
  · refine set_i (y := 2) hc ?_
    refine lv_tableIn (tgt := 192) (off := 160) hx hb dL_law_32 (by decide) (by decide) (by decide) (by decide) ?_
    exact law_2 C0 hK hA hAf (hP.sub [0, 1, 2, 4, 12, 16, 18, 20, 21, 44, 46, 47, 48, 49, 50, 51, 52, 53, 54, 55, 56, 57, 58] rfl) (hD.sub [0, 1, 2, 4, 12, 16, 18, 20, 21, 44, 46, 47, 48, 49, 50, 51, 52, 53, 54, 55, 56, 57, 58] (by decide) rfl) hS (lv_sub hl [0, 1, 2, 3] rfl)
  · refine set_i (y := 3) hc ?_
    refine lv_tableIn (tgt := 205) (off := 173) hx hb dL_law_32 (by decide) (by decide) (by decide) (by decide) ?_
    exact law_3 C0 hK hA hAf (hP.sub [0, 4, 44, 46] rfl) (hD.sub [0, 4, 44, 46] (by decide) rfl) hS (lv_sub hl [0, 1, 2, 3] rfl)
  · refine set_i (y := 4) hc ?_
    refine lv_tableIn (tgt := 238) (off := 206) hx hb dL_law_32 (by decide) (by decide) (by decide) (by decide) ?_
    exact law_4 C0 hK hA hAf (hP.sub [0, 4, 44, 49] rfl) (hD.sub [0, 4, 44, 49] (by decide) rfl) hS (lv_sub hl [0, 1, 2, 3] rfl)
  · refine set_i (y := 5) hc ?_
    refine lv_tableIn (tgt := 271) (off := 239) hx hb dL_law_32 (by decide) (by decide) (by decide) (by decide) ?_
    exact law_5 C0 hK hA hAf (hP.sub [0, 4, 44, 49] rfl) (hD.sub [0, 4, 44, 49] (by decide) rfl) hS (lv_sub hl [0, 1, 2, 3] rfl)
  · refine set_i (y := 6) hc ?_
    refine lv_tableIn (tgt := 304) (off := 272) hx hb dL_law_32 (by decide) (by decide) (by decide) (by decide) ?_
    exact law_6 C0 hK hA hAf (hP.sub [0, 4, 44, 52] rfl) (hD.sub [0, 4, 44, 52] (by decide) rfl) hS (lv_sub hl [0, 1, 2, 3] rfl)
  · refine set_i (y := 7) hc ?_
    refine lv_tableIn (tgt := 337) (off := 305) hx hb dL_law_32 (by decide) (by decide) (by decide) (by decide) ?_
    exact law_7 C0 hK hA hAf (hP.sub [0, 4, 44, 52] rfl) (hD.sub [0, 4, 44, 52] (by decide) rfl) hS (lv_sub hl [0, 1, 2, 3] rfl)
  · refine set_i (y := 8) hc ?_
    refine lv_tableIn (tgt := 360) (off := 328) hx hb dL_law_32 (by decide) (by decide) (by decide) (by decide) ?_
    exact law_8 C0 hK hA hAf (hP.sub [0, 4, 44, 49] rfl) (hD.sub [0, 4, 44, 49] (by decide) rfl) hS (lv_sub hl [0, 1, 2, 3] rfl)
  · refine set_i (y := 9) hc ?_
    refine lv_tableIn (tgt := 413) (off := 381) hx hb dL_law_32 (by decide) (by decide) (by decide) (by decide) ?_
    exact law_9 C0 hK hA hAf (hP.sub [0, 4, 44, 49] rfl) (hD.sub [0, 4, 44, 49] (by decide) rfl) hS (lv_sub hl [0, 1, 2, 3] rfl)
  · refine set_i (y := 10) hc ?_
    refine lv_tableIn (tgt := 446) (off := 414) hx hb dL_law_32 (by decide) (by decide) (by decide) (by decide) ?_
    exact law_10 C0 hK hA hAf (hP.sub [0, 4, 44, 49] rfl) (hD.sub [0, 4, 44, 49] (by decide) rfl) hS (lv_sub hl [0, 1, 2, 3] rfl)
  · refine set_i (y := 11) hc ?_
    refine lv_tableIn (tgt := 479) (off := 447) hx hb dL_law_32 (by decide) (by decide) (by decide) (by decide) ?_
    exact law_11 C0 hK hA hAf (hP.sub [0, 4, 44, 52] rfl) (hD.sub [0, 4, 44, 52] (by decide) rfl) hS (lv_sub hl [0, 1, 2, 3] rfl)
  · refine set_i (y := 12) hc ?_
    refine lv_tableIn (tgt := 512) (off := 480) hx hb dL_law_32 (by decide) (by decide) (by decide) (by decide) ?_
    exact law_12 C0 hK hA hAf (hP.sub [0, 20, 44, 57] rfl) (hD.sub [0, 20, 44, 57] (by decide) rfl) hS (lv_sub hl [0, 1, 2, 3] rfl)
  · refine set_i (y := 13) hc ?_
    refine lv_tableIn (tgt := 525) (off := 493) hx hb dL_law_32 (by decide) (by decide) (by decide) (by decide) ?_
    exact law_13 C0 hK hA hAf (hP.sub [0, 4, 20, 21, 44, 49, 52, 57] rfl) (hD.sub [0, 4, 20, 21, 44, 49, 52, 57] (by decide) rfl) hS (lv_sub hl [0, 1, 2, 3] rfl)
  · refine set_i (y := 14) hc ?_
    refine lv_tableIn (tgt := 548) (off := 516) hx hb dL_law_32 (by decide) (by decide) (by decide) (by decide) ?_
    exact law_14 C0 hK hA hAf (hP.sub [0, 4, 44, 52] rfl) (hD.sub [0, 4, 44, 52] (by decide) rfl) hS (lv_sub hl [0, 1, 2, 3] rfl)
  · refine set_i (y := 15) hc ?_
    refine lv_tableIn (tgt := 581) (off := 549) hx hb dL_law_32 (by decide) (by decide) (by decide) (by decide) ?_
    exact law_15 C0 hK hA hAf (hP.sub [0, 4, 20, 21, 37, 38, 39, 44, 57] rfl) (hD.sub [0, 4, 20, 21, 37, 38, 39, 44, 57] (by decide) rfl) hS (lv_sub hl [0, 1, 2, 3] rfl)
  · refine set_i (y := 16) hc ?_
    refine lv_tableIn (tgt := 604) (off := 572) hx hb dL_law_32 (by decide) (by decide) (by decide) (by decide) ?_
    exact law_16 C0 hK hA hAf (hP.sub [0, 4, 44, 49] rfl) (hD.sub [0, 4, 44, 49] (by decide) rfl) hS (lv_sub hl [0, 1, 2, 3] rfl)
  · refine set_i (y := 17) hc ?_
    refine lv_tableIn (tgt := 627) (off := 595) hx hb dL_law_32 (by decide) (by decide) (by decide) (by decide) ?_
    exact law_17 C0 hK hA hAf (hP.sub [0, 4, 44, 52] rfl) (hD.sub [0, 4, 44, 52] (by decide) rfl) hS (lv_sub hl [0, 1, 2, 3] rfl)
  · refine set_i (y := 18) hc ?_
    refine lv_tableIn (tgt := 650) (off := 618) hx hb dL_law_32 (by decide) (by decide) (by decide) (by decide) ?_
    exact law_18 C0 hK hA hAf (hP.sub [0, 4, 44, 52] rfl) (hD.sub [0, 4, 44, 52] (by decide) rfl) hS (lv_sub hl [0, 1, 2, 3] rfl)
  · refine set_i (y := 19) hc ?_
    refine lv_tableIn (tgt := 693) (off := 661) hx hb dL_law_32 (by decide) (by decide) (by decide) (by decide) ?_
    exact law_19 C0 hK hA hAf (hP.sub [0, 4, 44, 46] rfl) (hD.sub [0, 4, 44, 46] (by decide) rfl) hS (lv_sub hl [0, 1, 2, 3] rfl)
  · refine set_i (y := 20) hc ?_
    refine lv_tableIn (tgt := 716) (off := 684) hx hb dL_law_32 (by decide) (by decide) (by decide) (by decide) ?_
    exact law_20 C0 hK hA hAf (hP.sub [0, 44] rfl) (hD.sub [0, 44] (by decide) rfl) hS (lv_sub hl [0, 1, 2, 3] rfl)
  · refine set_i (y := 21) hc ?_
    refine lv_tableIn (tgt := 729) (off := 697) hx hb dL_law_32 (by decide) (by decide) (by decide) (by decide) ?_
    exact law_21 C0 hK hA hAf (hP.sub [0, 44] rfl) (hD.sub [0, 44] (by decide) rfl) hS (lv_sub hl [0, 1, 2, 3] rfl)
  · refine set_i (y := 22) hc ?_
    refine lv_tableIn (tgt := 752) (off := 720) hx hb dL_law_32 (by decide) (by decide) (by decide) (by decide) ?_
    exact law_22 C0 hK hA hAf (hP.sub [0, 4, 44, 46] rfl) (hD.sub [0, 4, 44, 46] (by decide) rfl) hS (lv_sub hl [0, 1, 2, 3] rfl)
  · refine set_i (y := 23) hc ?_
    refine lv_tableIn (tgt := 785) (off := 753) hx hb dL_law_32 (by decide) (by decide) (by decide) (by decide) ?_
    exact law_23 C0 hK hA hAf (hP.sub [0, 20, 21, 22, 23, 24, 25, 26, 27, 28, 29, 44, 57, 58] rfl) (hD.sub [0, 20, 21, 22, 23, 24, 25, 26, 27, 28, 29, 44, 57, 58] (by decide) rfl) hS (lv_sub hl [0, 1, 2, 3] rfl)
  · refine set_i (y := 24) hc ?_
    refine lv_tableIn (tgt := 808) (off := 776) hx hb dL_law_32 (by decide) (by decide) (by decide) (by decide) ?_
    exact law_24 C0 hK hA hAf (hP.sub [0, 44, 57, 58] rfl) (hD.sub [0, 44, 57, 58] (by decide) rfl) hS (lv_sub hl [0, 1, 2, 3] rfl)
  · refine set_i (y := 25) hc ?_
    refine lv_tableIn (tgt := 831) (off := 799) hx hb dL_law_32 (by decide) (by decide) (by decide) (by decide) ?_
    exact law_25 C0 hK hA hAf (hP.sub [0, 4, 20, 44, 46, 49, 52, 56, 57] rfl) (hD.sub [0, 4, 20, 44, 46, 49, 52, 56, 57] (by decide) rfl) hS (lv_sub hl [0, 1, 2, 3] rfl)
  · refine set_i (y := 26) hc ?_
    refine lv_tableIn (tgt := 854) (off := 822) hx hb dL_law_32 (by decide) (by decide) (by decide) (by decide) ?_
    exact law_26 C0 hK hA hAf (hP.sub [0, 44] rfl) (hD.sub [0, 44] (by decide) rfl) hS (lv_sub hl [0, 1, 2, 3] rfl)
  · refine lv_tableOut (tgt := 868) hx hb dL_law_32 hc (by decide) ?_
    exact law_tail C0 hAf hS (lv_sub hl [3, 0] rfl) (Nat.le_of_ble_eq_true rfl) (Nat.le_of_ble_eq_true rfl)
set_option maxHeartbeats 4000000 in
theorem lw_walk (l : Launch) (b : Addr) (xs : List Int32) : MetFree l x (headSpec (Jvm.Cond.code x code maxLocals ret :: tables_1) room_1) (lw_P b xs) (fun _ _ _ _ _ => True) lw_Q := by
  refine MetFree.of_bodyS (code := code) (maxLocals := maxLocals) (ret := ret) (by decide) ?_ ?_
  · intro args s m h hn
    obtain ⟨meth, c, h1, h2, h3, h4, h5, h6, -, -⟩ := Cond.code_spec hn (atoms_spec (ws := Jvm.Cond.code x code maxLocals ret :: tables_1) h _ List.mem_cons_self)
    exact ⟨meth, c, h1, h2, h3, h4, h5, h6⟩
  · intro p e s m args below meth c s₁ B hml0 hP _
    obtain ⟨rfl, hx, hbd, hgv⟩ := hP
    obtain ⟨scr, harrAt, hlist, hof, hsmall⟩ := hx
    obtain ⟨hcb, hkn, -, -⟩ := State.arrayAt?_spec harrAt
    have hown : s.vm.findClass R_law = some m.cls := findClass_of_methodNamed B.named
    have hts0 : ∀ c ∈ (Jvm.Cond.code x code maxLocals ret :: tables_1), c.before #[Value.ref b] s = true := atoms_spec (ws := Jvm.Cond.code x code maxLocals ret :: tables_1) B.pre
    have hts : ∀ w ∈ lw_tbl, w.before #[Value.ref b] s = true := k2_hts_sels lw_privs (fun w hw => hts0 w (List.mem_cons_of_mem _ hw)) lw_privs_ok
    have hml : c.maxLocals = 4 := B.maxLocals_eq (hts0 _ List.mem_cons_self)
    have X₀ : Stand p l e room_1 s m #[Value.ref b] below meth c s₁ [] 0 0 := Stand.of_body B
    have hh0 : s₁.heap = s.heap := by rw [B.state]; rfl
    have hsz : scr.slots.size = xs.length := by rw [← Array.length_toList, hlist, List.length_map]
    have hval : ∀ j : Nat, j < xs.length → scr.slots[j]? = some (.int (xs.getD j 0)) := fun j hj => by
      rw [← Array.getElem?_toList, hlist]
      simp [hj]
    have hbl : b < s.heap.size := (Array.getElem?_eq_some_iff.mp hcb).1
    have hX : va_X b xs.length (fun j => xs.getD j 0) s s.heap := ⟨scr, hcb, hof, hkn, hsz, hval⟩
    have K : W p l e room_1 s m #[Value.ref b] below meth c s₁.heap [] 0 0 (lw_Z below #[Value.ref b] s) (entryFrame m ([Value.ref b] : List Value).toArray 4) := by
      rw [hh0]
      exact whole_start l hbd ⟨B.exec, B.bytes, B.returns, hml, hown, hts, hX, hbl, B.notSynchronized, hgv⟩
    obtain ⟨t, a1, o, b1, b2, b3⟩ := K s₁ rfl X₀
    exact ⟨t, o, a1, b1, b2, b3⟩
theorem lw_pre_spec {args : Array Value} {s : State} (h : (Jvm.Cond.and given_1 narrow_1).before args s = true) (hr : rest_1_c.before args s = true) : ∃ (b : Addr) (xs : List Int32), lw_P b xs args s := by
  have hs := flat_of_before _ h
  have hq := flat_of_before _ hr
  have hc : (Cond.count 1).before args s = true := hs _ (by decide +kernel)
  have harr : (Cond.arrayOf (.arg 0) .int).before args s = true := hs _ (by decide +kernel)
  have hle : (Cond.le (.length (.arg 0)) (.int 5)).before args s = true := hs _ (by decide +kernel)
  have hlen : (Cond.isInt (.length (.arg 0))).before args s = true := hq _ (by decide +kernel)
  have hall : (Cond.all (.arg 0) (.isInt (.elem (.arg 0) (.index 0)))).before args s = true := hq _ (by decide +kernel)
  obtain ⟨b, xs, hb, hx⟩ := State.ints_of_pre rfl harr hlen hall
  have hsm : xs.length < 2 ^ 31 := hx.choose_spec.2.2.2
  have hev : (Term.length (.arg 0)).eval args s none [] s = some (.int xs.length.toInt32) := hx.length_eval hb
  have hv := Cond.le_ints hev (show (Term.int 5).eval args s none [] s = some (.int 5) from rfl)
  have hd : xs.length.toInt32 ≤ 5 := by
    simpa [Cond.before, Cond.holds, hv] using hle
  have hN : xs.length ≤ 5 := (Int32.ofNat_le_ofNat hsm (by decide)).mp (show Int32.ofNat xs.length ≤ Int32.ofNat 5 from hd)
  exact ⟨b, xs, Cond.one_arg hc (show args[0]? = some (.ref b) from hb), hx, hN, h⟩
theorem lw_comes (l : Launch) : Comes l x (Jvm.Cond.code x code maxLocals ret :: tables_1) room_1 (fun tb e args s => Calls_1 tb e args s ∧ rest_1 tb e args s ∧ Pre_1 tb e args s)
    (fun _ _ args s o t => lw_Q args s o t) := by
  intro p e ha hc hk s m args below hf hfit hheap happ hpre
  obtain ⟨b, xs, hP⟩ := lw_pre_spec hpre.2.2 hpre.2.1
  obtain ⟨k, o, h1, h2, h3, hQ⟩ := lw_walk l b xs p e ha hc hk s m args below hf ((Spec.applies_iff_loose hf).mp happ).1 hP trivial
  exact ⟨k, o, h1, h2, h3, hQ⟩
theorem lw_frame {s t : State} {o : Outcome} {args : Array Value} (h : Framed s o t [] 600000 7302250) :
    Framed s o t (fieldLocs frame_1_writes args s ++ arrayLocs frame_1_arrays args s ++ staticLocs frame_1_statics s) 600000 7302250 := h
theorem lw_limb (L : Cond) (hL : ∀ (args : Array Value) (s t : State), L.after args s (.returned (some (.int 1))) t = true) :
    ArmFor flags0 classFile x code maxLocals ret World_1 tables_1 room_1 Calls_1 rest_1 Pre_1
      (fun tb e a s o t => postC L tb e a s o t ∧ Framed s o t (fieldLocs frame_1_writes a s ++ arrayLocs frame_1_arrays a s ++ staticLocs frame_1_statics s) 600000 7302250) := by
  intro l _ _ _ p e ha hc hk s m args below hf hfit hheap happ hpre
  obtain ⟨k, o, h1, h2, h3, rfl, hF⟩ := lw_comes l p e ha hc hk s m args below hf hfit hheap happ hpre
  exact ⟨k, _, h1, h2, h3, hL args s _, lw_frame hF⟩
theorem i_vc : Claimed_1_1 ∧ Claimed_1_2 := ⟨lw_limb limb_1_1 (fun args s t => by simp [limb_1_1, Cond.after, Cond.holds, Cond.value]), lw_limb limb_1_2 (fun args s t => Cond.after_iff.mpr (by
  first | (rw [show limb_1_2 = Cond.eq .result (.int 1) from rfl, Cond.eq_ints (x := 1) (y := 1) rfl rfl]; simp; done) | (simp [limb_1_2, Cond.value, Term.eval]; done)))⟩

