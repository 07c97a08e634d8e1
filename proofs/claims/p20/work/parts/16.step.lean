set_option maxRecDepth 20000 in
theorem dAX3_step : decA cX3_step [(0, .aload_n 0, 1), (1, .getfield 19, 3), (4, .aload_n 0, 1), (5, .getfield 15, 3), (8, .if_icmp .ge 30, 3), (11, .aload_n 0, 1), (12, .getfield 9, 3), (15, .aload_n 0, 1), (16, .getfield 19, 3), (19, .iaload, 1), (20, .bipush 32, 2), (22, .if_icmp .ne 16, 3), (25, .aload_n 0, 1), (26, .dup, 1), (27, .getfield 19, 3), (30, .iconst 1, 1), (31, .iadd, 1), (32, .putfield 19, 3), (35, .goto (-35), 3), (38, .aload_n 0, 1), (39, .aload_n 0, 1), (40, .getfield 19, 3), (43, .putfield 22, 3), (46, .aload_n 0, 1), (47, .iconst 0, 1), (48, .putfield 28, 3), (51, .aload_n 0, 1), (52, .getfield 19, 3), (55, .aload_n 0, 1), (56, .getfield 15, 3), (59, .if_icmp .lt 9, 3), (62, .aload_n 0, 1), (63, .iconst 0, 1), (64, .putfield 25, 3), (67, .return_, 1), (68, .aload_n 0, 1), (69, .aload_n 0, 1), (70, .getfield 9, 3), (73, .aload_n 0, 1), (74, .getfield 19, 3), (77, .iaload, 1), (78, .invokestatic 109, 3), (81, .putfield 25, 3), (84, .aload_n 0, 1), (85, .dup, 1), (86, .getfield 19, 3), (89, .iconst 1, 1), (90, .iadd, 1), (91, .putfield 19, 3), (94, .aload_n 0, 1), (95, .getfield 25, 3), (98, .iconst 1, 1), (99, .if_icmp .eq 11, 3), (102, .aload_n 0, 1), (103, .getfield 25, 3), (106, .iconst 2, 1), (107, .if_icmp .ne 46, 3), (110, .aload_n 0, 1), (111, .getfield 19, 3), (114, .aload_n 0, 1), (115, .getfield 15, 3), (118, .if_icmp .ge 35, 3), (121, .aload_n 0, 1), (122, .getfield 9, 3), (125, .aload_n 0, 1), (126, .getfield 19, 3), (129, .iaload, 1), (130, .invokestatic 109, 3), (133, .aload_n 0, 1), (134, .getfield 25, 3), (137, .if_icmp .ne 16, 3), (140, .aload_n 0, 1), (141, .dup, 1), (142, .getfield 19, 3), (145, .iconst 1, 1), (146, .iadd, 1), (147, .putfield 19, 3), (150, .goto (-40), 3), (153, .aload_n 0, 1), (154, .getfield 25, 3), (157, .iconst 1, 1), (158, .if_icmp .ne 7, 3), (161, .aload_n 0, 1), (162, .invokevirtual 113, 3), (165, .aload_n 0, 1), (166, .getfield 25, 3), (169, .iconst 2, 1), (170, .if_icmp .ne 7, 3), (173, .aload_n 0, 1), (174, .invokevirtual 116, 3), (177, .return_, 1)] = true := by decide +kernel
theorem dX3_step_0 : decode cX3_step 0 = .ok (.aload_n 0, 1) := decA_get dAX3_step 0 rfl
theorem dX3_step_1 : decode cX3_step 1 = .ok (.getfield 19, 3) := decA_get dAX3_step 1 rfl
theorem in_X3_step_3 : ∀ w ∈ wsX30, w ∈ wsX3_step := fun w h => (gd_ids wi_X3_step wm_X3_step wi_X30 (by decide +kernel) w h).1
theorem dX3_step_4 : decode cX3_step 4 = .ok (.aload_n 0, 1) := decA_get dAX3_step 2 rfl
theorem dX3_step_5 : decode cX3_step 5 = .ok (.getfield 15, 3) := decA_get dAX3_step 3 rfl
theorem dX3_step_8 : decode cX3_step 8 = .ok (.if_icmp .ge 30, 3) := decA_get dAX3_step 4 rfl
theorem dX3_step_38 : decode cX3_step 38 = .ok (.aload_n 0, 1) := decA_get dAX3_step 19 rfl
theorem dX3_step_39 : decode cX3_step 39 = .ok (.aload_n 0, 1) := decA_get dAX3_step 20 rfl
theorem dX3_step_40 : decode cX3_step 40 = .ok (.getfield 19, 3) := decA_get dAX3_step 21 rfl
theorem dX3_step_43 : decode cX3_step 43 = .ok (.putfield 22, 3) := decA_get dAX3_step 22 rfl
theorem dX3_step_46 : decode cX3_step 46 = .ok (.aload_n 0, 1) := decA_get dAX3_step 23 rfl
theorem dX3_step_47 : decode cX3_step 47 = .ok (.iconst 0, 1) := decA_get dAX3_step 24 rfl
theorem dX3_step_48 : decode cX3_step 48 = .ok (.putfield 28, 3) := decA_get dAX3_step 25 rfl
theorem dX3_step_51 : decode cX3_step 51 = .ok (.aload_n 0, 1) := decA_get dAX3_step 26 rfl
theorem dX3_step_52 : decode cX3_step 52 = .ok (.getfield 19, 3) := decA_get dAX3_step 27 rfl
theorem dX3_step_55 : decode cX3_step 55 = .ok (.aload_n 0, 1) := decA_get dAX3_step 28 rfl
theorem dX3_step_56 : decode cX3_step 56 = .ok (.getfield 15, 3) := decA_get dAX3_step 29 rfl
theorem dX3_step_59 : decode cX3_step 59 = .ok (.if_icmp .lt 9, 3) := decA_get dAX3_step 30 rfl
theorem dX3_step_68 : decode cX3_step 68 = .ok (.aload_n 0, 1) := decA_get dAX3_step 35 rfl
theorem dX3_step_69 : decode cX3_step 69 = .ok (.aload_n 0, 1) := decA_get dAX3_step 36 rfl
theorem dX3_step_70 : decode cX3_step 70 = .ok (.getfield 9, 3) := decA_get dAX3_step 37 rfl
theorem dX3_step_73 : decode cX3_step 73 = .ok (.aload_n 0, 1) := decA_get dAX3_step 38 rfl
theorem dX3_step_74 : decode cX3_step 74 = .ok (.getfield 19, 3) := decA_get dAX3_step 39 rfl
theorem dX3_step_77 : decode cX3_step 77 = .ok (.iaload, 1) := decA_get dAX3_step 40 rfl
theorem dX3_step_78 : decode cX3_step 78 = .ok (.invokestatic 109, 3) := decA_get dAX3_step 41 rfl
set_option maxRecDepth 20000 in
theorem ggX3_step_X3_sortOf : GoodIn wsX3_step wsX3_sortOf := gd_ids wi_X3_step wm_X3_step wi_X3_sortOf (by decide +kernel)
theorem dX3_step_81 : decode cX3_step 81 = .ok (.putfield 25, 3) := decA_get dAX3_step 42 rfl
theorem dX3_step_84 : decode cX3_step 84 = .ok (.aload_n 0, 1) := decA_get dAX3_step 43 rfl
theorem dX3_step_85 : decode cX3_step 85 = .ok (.dup, 1) := decA_get dAX3_step 44 rfl
theorem dX3_step_86 : decode cX3_step 86 = .ok (.getfield 19, 3) := decA_get dAX3_step 45 rfl
theorem dX3_step_89 : decode cX3_step 89 = .ok (.iconst 1, 1) := decA_get dAX3_step 46 rfl
theorem dX3_step_90 : decode cX3_step 90 = .ok (.iadd, 1) := decA_get dAX3_step 47 rfl
theorem dX3_step_91 : decode cX3_step 91 = .ok (.putfield 19, 3) := decA_get dAX3_step 48 rfl
theorem dX3_step_94 : decode cX3_step 94 = .ok (.aload_n 0, 1) := decA_get dAX3_step 49 rfl
theorem dX3_step_95 : decode cX3_step 95 = .ok (.getfield 25, 3) := decA_get dAX3_step 50 rfl
theorem dX3_step_98 : decode cX3_step 98 = .ok (.iconst 1, 1) := decA_get dAX3_step 51 rfl
theorem dX3_step_99 : decode cX3_step 99 = .ok (.if_icmp .eq 11, 3) := decA_get dAX3_step 52 rfl
theorem dX3_step_110 : decode cX3_step 110 = .ok (.aload_n 0, 1) := decA_get dAX3_step 57 rfl
theorem dX3_step_111 : decode cX3_step 111 = .ok (.getfield 19, 3) := decA_get dAX3_step 58 rfl
theorem dX3_step_114 : decode cX3_step 114 = .ok (.aload_n 0, 1) := decA_get dAX3_step 59 rfl
theorem dX3_step_115 : decode cX3_step 115 = .ok (.getfield 15, 3) := decA_get dAX3_step 60 rfl
theorem dX3_step_118 : decode cX3_step 118 = .ok (.if_icmp .ge 35, 3) := decA_get dAX3_step 61 rfl
theorem dX3_step_153 : decode cX3_step 153 = .ok (.aload_n 0, 1) := decA_get dAX3_step 78 rfl
theorem dX3_step_154 : decode cX3_step 154 = .ok (.getfield 25, 3) := decA_get dAX3_step 79 rfl
theorem dX3_step_157 : decode cX3_step 157 = .ok (.iconst 1, 1) := decA_get dAX3_step 80 rfl
theorem dX3_step_158 : decode cX3_step 158 = .ok (.if_icmp .ne 7, 3) := decA_get dAX3_step 81 rfl
theorem dX3_step_161 : decode cX3_step 161 = .ok (.aload_n 0, 1) := decA_get dAX3_step 82 rfl
theorem dX3_step_162 : decode cX3_step 162 = .ok (.invokevirtual 113, 3) := decA_get dAX3_step 83 rfl
set_option maxRecDepth 20000 in
theorem ggX3_step_X3_weighLetters : GoodIn wsX3_step wsX3_weighLetters := gd_ids wi_X3_step wm_X3_step wi_X3_weighLetters (by decide +kernel)
set_option maxRecDepth 20000 in
theorem gX3_step_X3_weighLetters : GoodIn wsX3_step (wsV RX3 113 RX3 yX3_weighLetters wsX3_weighLetters) := goodIn_app (gd_ids wi_X3_step wm_X3_step (b := [181, 182, 183, 180]) rfl (by decide +kernel)) ggX3_step_X3_weighLetters
theorem dX3_step_165 : decode cX3_step 165 = .ok (.aload_n 0, 1) := decA_get dAX3_step 84 rfl
theorem dX3_step_166 : decode cX3_step 166 = .ok (.getfield 25, 3) := decA_get dAX3_step 85 rfl
theorem dX3_step_169 : decode cX3_step 169 = .ok (.iconst 2, 1) := decA_get dAX3_step 86 rfl
theorem dX3_step_170 : decode cX3_step 170 = .ok (.if_icmp .ne 7, 3) := decA_get dAX3_step 87 rfl
theorem dX3_step_177 : decode cX3_step 177 = .ok (.return_, 1) := decA_get dAX3_step 90 rfl
theorem dX3_step_121 : decode cX3_step 121 = .ok (.aload_n 0, 1) := decA_get dAX3_step 62 rfl
theorem dX3_step_122 : decode cX3_step 122 = .ok (.getfield 9, 3) := decA_get dAX3_step 63 rfl
theorem dX3_step_125 : decode cX3_step 125 = .ok (.aload_n 0, 1) := decA_get dAX3_step 64 rfl
theorem dX3_step_126 : decode cX3_step 126 = .ok (.getfield 19, 3) := decA_get dAX3_step 65 rfl
theorem dX3_step_129 : decode cX3_step 129 = .ok (.iaload, 1) := decA_get dAX3_step 66 rfl
theorem dX3_step_130 : decode cX3_step 130 = .ok (.invokestatic 109, 3) := decA_get dAX3_step 67 rfl
theorem dX3_step_133 : decode cX3_step 133 = .ok (.aload_n 0, 1) := decA_get dAX3_step 68 rfl
theorem dX3_step_134 : decode cX3_step 134 = .ok (.getfield 25, 3) := decA_get dAX3_step 69 rfl
theorem dX3_step_137 : decode cX3_step 137 = .ok (.if_icmp .ne 16, 3) := decA_get dAX3_step 70 rfl
theorem dX3_step_140 : decode cX3_step 140 = .ok (.aload_n 0, 1) := decA_get dAX3_step 71 rfl
theorem dX3_step_141 : decode cX3_step 141 = .ok (.dup, 1) := decA_get dAX3_step 72 rfl
theorem dX3_step_142 : decode cX3_step 142 = .ok (.getfield 19, 3) := decA_get dAX3_step 73 rfl
theorem dX3_step_145 : decode cX3_step 145 = .ok (.iconst 1, 1) := decA_get dAX3_step 74 rfl
theorem dX3_step_146 : decode cX3_step 146 = .ok (.iadd, 1) := decA_get dAX3_step 75 rfl
theorem dX3_step_147 : decode cX3_step 147 = .ok (.putfield 19, 3) := decA_get dAX3_step 76 rfl
theorem dX3_step_150 : decode cX3_step 150 = .ok (.goto (-40), 3) := decA_get dAX3_step 77 rfl
theorem dX3_step_102 : decode cX3_step 102 = .ok (.aload_n 0, 1) := decA_get dAX3_step 53 rfl
theorem dX3_step_103 : decode cX3_step 103 = .ok (.getfield 25, 3) := decA_get dAX3_step 54 rfl
theorem dX3_step_106 : decode cX3_step 106 = .ok (.iconst 2, 1) := decA_get dAX3_step 55 rfl
theorem dX3_step_107 : decode cX3_step 107 = .ok (.if_icmp .ne 46, 3) := decA_get dAX3_step 56 rfl
theorem dX3_step_173 : decode cX3_step 173 = .ok (.aload_n 0, 1) := decA_get dAX3_step 88 rfl
theorem dX3_step_174 : decode cX3_step 174 = .ok (.invokevirtual 116, 3) := decA_get dAX3_step 89 rfl
set_option maxRecDepth 20000 in
theorem ggX3_step_X3_weighNumber : GoodIn wsX3_step wsX3_weighNumber := gd_ids wi_X3_step wm_X3_step wi_X3_weighNumber (by decide +kernel)
set_option maxRecDepth 20000 in
theorem gX3_step_X3_weighNumber : GoodIn wsX3_step (wsV RX3 116 RX3 yX3_weighNumber wsX3_weighNumber) := goodIn_app (gd_ids wi_X3_step wm_X3_step (b := [184, 185, 186, 180]) rfl (by decide +kernel)) ggX3_step_X3_weighNumber
theorem dX3_step_62 : decode cX3_step 62 = .ok (.aload_n 0, 1) := decA_get dAX3_step 31 rfl
theorem dX3_step_63 : decode cX3_step 63 = .ok (.iconst 0, 1) := decA_get dAX3_step 32 rfl
theorem dX3_step_64 : decode cX3_step 64 = .ok (.putfield 25, 3) := decA_get dAX3_step 33 rfl
theorem dX3_step_67 : decode cX3_step 67 = .ok (.return_, 1) := decA_get dAX3_step 34 rfl
theorem dX3_step_11 : decode cX3_step 11 = .ok (.aload_n 0, 1) := decA_get dAX3_step 5 rfl
theorem dX3_step_12 : decode cX3_step 12 = .ok (.getfield 9, 3) := decA_get dAX3_step 6 rfl
theorem dX3_step_15 : decode cX3_step 15 = .ok (.aload_n 0, 1) := decA_get dAX3_step 7 rfl
theorem dX3_step_16 : decode cX3_step 16 = .ok (.getfield 19, 3) := decA_get dAX3_step 8 rfl
theorem dX3_step_19 : decode cX3_step 19 = .ok (.iaload, 1) := decA_get dAX3_step 9 rfl
theorem dX3_step_20 : decode cX3_step 20 = .ok (.bipush 32, 2) := decA_get dAX3_step 10 rfl
theorem dX3_step_22 : decode cX3_step 22 = .ok (.if_icmp .ne 16, 3) := decA_get dAX3_step 11 rfl
theorem dX3_step_25 : decode cX3_step 25 = .ok (.aload_n 0, 1) := decA_get dAX3_step 12 rfl
theorem dX3_step_26 : decode cX3_step 26 = .ok (.dup, 1) := decA_get dAX3_step 13 rfl
theorem dX3_step_27 : decode cX3_step 27 = .ok (.getfield 19, 3) := decA_get dAX3_step 14 rfl
theorem dX3_step_30 : decode cX3_step 30 = .ok (.iconst 1, 1) := decA_get dAX3_step 15 rfl
theorem dX3_step_31 : decode cX3_step 31 = .ok (.iadd, 1) := decA_get dAX3_step 16 rfl
theorem dX3_step_32 : decode cX3_step 32 = .ok (.putfield 19, 3) := decA_get dAX3_step 17 rfl
theorem dX3_step_35 : decode cX3_step 35 = .ok (.goto (-35), 3) := decA_get dAX3_step 18 rfl
set_option maxHeartbeats 4000000 in
set_option maxRecDepth 100000 in
theorem g_step (l : Launch) (D : va_G) (cI cB cZ cN : ClassId) (Rh : Nat) (RS : Nat → Nat → Nat) (Th : Nat) (TS : Nat → Nat → Nat) (hT : ∀ j, TS 0 j < 256) (h1 : RS 2 0 ≤ RS 1 0) (h2 : RS 1 0 ≤ 180) : Cv (S := (Nat → Nat → Nat)) l D cI cB cZ cN yX3_step wsX3_step ({ frames := 1, cells := 0, slots := 0, locals := 22 } : Room) [.ref Rh] [(Rh, .inr (3, [.ref Th, .int (nI (RS 1 0)), .int (nI (RS 2 0)), .int (nI (RS 3 0)), .int (nI (RS 4 0)), .int (nI (RS 5 0))])), (Th, .inl (cI, 180, .inl (nF (TS 0))))] (fun (u : (Nat → Nat → Nat)) => u 1 0 = RS 1 0 ∧ u 3 0 = tkS (TS 0) (RS 1 0) (RS 2 0) ∧ u 2 0 = tkE0 (TS 0) (RS 1 0) (tkS (TS 0) (RS 1 0) (RS 2 0)) ∧ u 4 0 = tkK (TS 0) (RS 1 0) (tkS (TS 0) (RS 1 0) (RS 2 0)) (tkE0 (TS 0) (RS 1 0) (tkS (TS 0) (RS 1 0) (RS 2 0))) ∧ u 5 0 = tkV (TS 0) (RS 1 0) (tkS (TS 0) (RS 1 0) (RS 2 0)) (tkE0 (TS 0) (RS 1 0) (tkS (TS 0) (RS 1 0) (RS 2 0)))) (fun u => [(Rh, .inr (3, [.ref Th, .int (nI (u 1 0)), .int (nI (u 2 0)), .int (nI (u 3 0)), .int (nI (u 4 0)), .int (nI (u 5 0))])), (Th, .inl (cI, 180, .inl (nF (TS 0))))]) := by
  refine bx_of (D := D) (cI := cI) (cB := cB) (cZ := cZ) (cN := cN) (y := yX3_step) (wd := wsX3_step) (rm := ({ frames := 1, cells := 0, slots := 0, locals := 22 } : Room)) (av := [.ref Rh]) (wc := [(Rh, .inr (3, [.ref Th, .int (nI (RS 1 0)), .int (nI (RS 2 0)), .int (nI (RS 3 0)), .int (nI (RS 4 0)), .int (nI (RS 5 0))])), (Th, .inl (cI, 180, .inl (nF (TS 0))))]) (cc := cX3_step) (maxL := 1) (ret := none) (Qc := fun _ A => va_Qv (S := (Nat → Nat → Nat)) (fun (u : (Nat → Nat → Nat)) => u 1 0 = RS 1 0 ∧ u 3 0 = tkS (TS 0) (RS 1 0) (RS 2 0) ∧ u 2 0 = tkE0 (TS 0) (RS 1 0) (tkS (TS 0) (RS 1 0) (RS 2 0)) ∧ u 4 0 = tkK (TS 0) (RS 1 0) (tkS (TS 0) (RS 1 0) (RS 2 0)) (tkE0 (TS 0) (RS 1 0) (tkS (TS 0) (RS 1 0) (RS 2 0))) ∧ u 5 0 = tkV (TS 0) (RS 1 0) (tkS (TS 0) (RS 1 0) (RS 2 0)) (tkE0 (TS 0) (RS 1 0) (tkS (TS 0) (RS 1 0) (RS 2 0)))) (Aft D (fun (u : (Nat → Nat → Nat)) => [(Rh, .inr (3, [.ref Th, .int (nI (u 1 0)), .int (nI (u 2 0)), .int (nI (u 3 0)), .int (nI (u 4 0)), .int (nI (u 5 0))])), (Th, .inl (cI, 180, .inl (nF (TS 0))))]) A) A) (by decide) rfl (Nat.le_of_ble_eq_true rfl) ?_
  intro p e s m below meth c A H locs ⟨hx, hb, hr, hml, hown, hts, hlk, hnm⟩ hK hP hD hS hA ls hl
  have hl : lv_has ls 1 [(0, .ref Rh)] := hl
  have hown : s.vm.findClass RX3 = some m.cls := hown
  have bt := hT
  refine whileS (σ := Nat) (D := D) (A := A) (fun k => onN (blk (TS 0)) (RS 1 0) k = onN (blk (TS 0)) (RS 1 0) (RS 2 0) ∧ RS 2 0 ≤ k ∧ k ≤ RS 1 0) (fun k => RS 1 0 - k) (fun k => [(Rh, .inr (3, [.ref Th, .int (nI (RS 1 0)), .int (nI k), .int (nI (RS 3 0)), .int (nI (RS 4 0)), .int (nI (RS 5 0))])), (Th, .inl (cI, 180, .inl (nF (TS 0))))]) (fun k => [(0, .ref Rh)]) 0 1 ?_ (RS 2 0) ⟨rfl, Nat.le_refl _, h1⟩ _ _ ls hP hD hS (lv_sub hl [0] rfl)
  intro k hI_k ih_k H locs ls hP hD hS hl
  have hl : lv_has ls 1 [(0, .ref Rh)] := hl
  refine lv_aload_n hx hb dX3_step_0 rfl (lv_at hl 0 rfl) ?_
  obtain ⟨hP, hD⟩ : wPD D A [(Rh, .inr (3, [.ref Th, .int (nI (RS 1 0)), .int (nI k), .int (nI (RS 3 0)), .int (nI (RS 4 0)), .int (nI (RS 5 0))])), (Th, .inl (cI, 180, .inl (nF (TS 0))))] H := ⟨hP, hD⟩
  refine va_get (D := D) (ci := 3) (v := .int (nI k)) (C := RX3) (T := TX3) (N := 6) hx hb hts in_X3_step_3 hown hK.1 hP 0 rfl rfl 2 (by decide) (hts (.fieldLink RX3 19 "ChildCoins$Reader" "at" "I") (List.mem_of_getElem? (i := 1) rfl)) (fun _ h9 => h9) rfl dX3_step_1 ?_
  refine lv_aload_n hx hb dX3_step_4 rfl (lv_at hl 0 rfl) ?_
  refine va_get (D := D) (ci := 3) (v := .int (nI (RS 1 0))) (C := RX3) (T := TX3) (N := 6) hx hb hts in_X3_step_3 hown hK.1 hP 0 rfl rfl 1 (by decide) (hts (.fieldLink RX3 15 "ChildCoins$Reader" "length" "I") (List.mem_of_getElem? (i := 2) rfl)) (fun _ h9 => h9) rfl dX3_step_5 ?_
  refine nb_icmp_ge (tgt := 38) hx hb dX3_step_8 (by decide) (by omega) (by omega) (fun hq1 => ?_) (fun hq1 => ?_)
  · skip
    have hk : tkS (TS 0) (RS 1 0) (RS 2 0) = k := hI_k.1.symm.trans (onN_e (fun q => absurd q.1 (by omega)))
    have bk := hI_k.2.2
    refine lv_aload_n hx hb dX3_step_38 rfl (lv_at hl 0 rfl) ?_
    refine lv_aload_n hx hb dX3_step_39 rfl (lv_at hl 0 rfl) ?_
    refine va_get (D := D) (ci := 3) (v := .int (nI k)) (C := RX3) (T := TX3) (N := 6) hx hb hts in_X3_step_3 hown hK.1 hP 0 rfl rfl 2 (by decide) (hts (.fieldLink RX3 19 "ChildCoins$Reader" "at" "I") (List.mem_of_getElem? (i := 1) rfl)) (fun _ h9 => h9) rfl dX3_step_40 ?_
    refine va_put (D := D) (ci := 3) (v := .int (nI k)) (ty := tyX3 3) (C := RX3) (T := TX3) (N := 6) hx hb hts in_X3_step_3 tyX3 tyX3_ok nmX3 hown hK.1 hP hD hS 0 rfl rfl 3 (by decide) (hts (.fieldLink RX3 22 "ChildCoins$Reader" "start" "I") (List.mem_of_getElem? (i := 4) rfl)) (fun _ h9 => h9) rfl (tyX3_ok 3 (by decide)) rfl rfl (Nat.le_of_ble_eq_true rfl) dX3_step_43 (fun H locs hP hD hS => ?_)
    obtain ⟨hP, hD⟩ : wPD D A [(Rh, .inr (3, [.ref Th, .int (nI (RS 1 0)), .int (nI k), .int (nI k), .int (nI (RS 4 0)), .int (nI (RS 5 0))])), (Th, .inl (cI, 180, .inl (nF (TS 0))))] H := ⟨hP, hD⟩
    refine lv_aload_n hx hb dX3_step_46 rfl (lv_at hl 0 rfl) ?_
    refine lv_iconst (v := nI 0) hx hb dX3_step_47 (by decide) ?_
    refine va_put (D := D) (ci := 3) (v := .int (nI 0)) (ty := tyX3 5) (C := RX3) (T := TX3) (N := 6) hx hb hts in_X3_step_3 tyX3 tyX3_ok nmX3 hown hK.1 hP hD hS 0 rfl rfl 5 (by decide) (hts (.fieldLink RX3 28 "ChildCoins$Reader" "value" "I") (List.mem_of_getElem? (i := 5) rfl)) (fun _ h9 => h9) rfl (tyX3_ok 5 (by decide)) rfl rfl (Nat.le_of_ble_eq_true rfl) dX3_step_48 (fun H locs hP hD hS => ?_)
    obtain ⟨hP, hD⟩ : wPD D A [(Rh, .inr (3, [.ref Th, .int (nI (RS 1 0)), .int (nI k), .int (nI k), .int (nI (RS 4 0)), .int (nI 0)])), (Th, .inl (cI, 180, .inl (nF (TS 0))))] H := ⟨hP, hD⟩
    refine lv_aload_n hx hb dX3_step_51 rfl (lv_at hl 0 rfl) ?_
    refine va_get (D := D) (ci := 3) (v := .int (nI k)) (C := RX3) (T := TX3) (N := 6) hx hb hts in_X3_step_3 hown hK.1 hP 0 rfl rfl 2 (by decide) (hts (.fieldLink RX3 19 "ChildCoins$Reader" "at" "I") (List.mem_of_getElem? (i := 1) rfl)) (fun _ h9 => h9) rfl dX3_step_52 ?_
    refine lv_aload_n hx hb dX3_step_55 rfl (lv_at hl 0 rfl) ?_
    refine va_get (D := D) (ci := 3) (v := .int (nI (RS 1 0))) (C := RX3) (T := TX3) (N := 6) hx hb hts in_X3_step_3 hown hK.1 hP 0 rfl rfl 1 (by decide) (hts (.fieldLink RX3 15 "ChildCoins$Reader" "length" "I") (List.mem_of_getElem? (i := 2) rfl)) (fun _ h9 => h9) rfl dX3_step_56 ?_
    refine nb_icmp_lt (tgt := 68) hx hb dX3_step_59 (by decide) (by omega) (by omega) (fun hq2 => ?_) (fun hq2 => ?_)
    · skip
      refine lv_aload_n hx hb dX3_step_68 rfl (lv_at hl 0 rfl) ?_
      refine lv_aload_n hx hb dX3_step_69 rfl (lv_at hl 0 rfl) ?_
      refine va_get (D := D) (ci := 3) (v := .ref Th) (C := RX3) (T := TX3) (N := 6) hx hb hts in_X3_step_3 hown hK.1 hP 0 rfl rfl 0 (by decide) (hts (.fieldLink RX3 9 "ChildCoins$Reader" "bytes" "[I") (List.mem_of_getElem? (i := 3) rfl)) (fun _ h9 => h9) rfl dX3_step_70 ?_
      refine lv_aload_n hx hb dX3_step_73 rfl (lv_at hl 0 rfl) ?_
      refine va_get (D := D) (ci := 3) (v := .int (nI k)) (C := RX3) (T := TX3) (N := 6) hx hb hts in_X3_step_3 hown hK.1 hP 0 rfl rfl 2 (by decide) (hts (.fieldLink RX3 19 "ChildCoins$Reader" "at" "I") (List.mem_of_getElem? (i := 1) rfl)) (fun _ h9 => h9) rfl dX3_step_74 ?_
      refine va_iald hx hb hK.1 hP 1 0 rfl rfl (vp_in_nI (n := k) (N := 180) (by omega) (by decide)) dX3_step_77 ?_
      refine set_i (y := nI (TS 0 k)) (nF_ld (by omega)) ?_
      have b3 := bt k
      refine be_i0 (ru_S (As := [.int (nI (TS 0 k))]) (rest := [.ref Rh]) ⟨hx, hb, hml, hown, hts⟩ (g_sortOf l D cI cB cZ cN (TS 0 k) (hT _) H.size) ggX3_step_X3_sortOf rfl (hts (.initialized RX3) (List.mem_of_getElem? (i := 9) rfl)) (hts (.methodLink RX3 109 yX3_sortOf) (List.mem_of_getElem? (i := 7) rfl)) (hts (.static yX3_sortOf) (List.mem_of_getElem? (i := 8) rfl)) ⟨by decide, by decide, (show Option.map (fun d => d.parameters.length) (parseMethodDescriptor yX3_sortOf.desc) = some 1 by decide +kernel)⟩ ⟨Nat.le_of_ble_eq_true rfl, Nat.le_of_ble_eq_true rfl⟩ hK hP hD [] (by decide) rfl hl.1 rfl (Nat.le_of_ble_eq_true rfl) dX3_step_78 ⟨Nat.le_of_ble_eq_true rfl, Nat.le_of_ble_eq_true rfl⟩) hP hD hS hA [] rfl (fun r5 u4 H locs w6 hP hS => ?_)
      obtain rfl : r5 = nI (srtN (TS 0 k)) := w6
      have b7 := srtN_le (TS 0 k)
      refine va_put (D := D) (ci := 3) (v := .int (nI (srtN (TS 0 k)))) (ty := tyX3 4) (C := RX3) (T := TX3) (N := 6) hx hb hts in_X3_step_3 tyX3 tyX3_ok nmX3 hown hK.1 hP hD hS 0 rfl rfl 4 (by decide) (hts (.fieldLink RX3 25 "ChildCoins$Reader" "token" "I") (List.mem_of_getElem? (i := 6) rfl)) (fun _ h9 => h9) rfl (tyX3_ok 4 (by decide)) rfl rfl (Nat.le_of_ble_eq_true rfl) dX3_step_81 (fun H locs hP hD hS => ?_)
      obtain ⟨hP, hD⟩ : wPD D A [(Rh, .inr (3, [.ref Th, .int (nI (RS 1 0)), .int (nI k), .int (nI k), .int (nI (srtN (TS 0 k))), .int (nI 0)])), (Th, .inl (cI, 180, .inl (nF (TS 0))))] H := ⟨hP, hD⟩
      refine lv_aload_n hx hb dX3_step_84 rfl (lv_at hl 0 rfl) ?_
      refine lv_dup hx hb dX3_step_85 rfl ?_
      refine va_get (D := D) (ci := 3) (v := .int (nI k)) (C := RX3) (T := TX3) (N := 6) hx hb hts in_X3_step_3 hown hK.1 hP 0 rfl rfl 2 (by decide) (hts (.fieldLink RX3 19 "ChildCoins$Reader" "at" "I") (List.mem_of_getElem? (i := 1) rfl)) (fun _ h9 => h9) rfl dX3_step_86 ?_
      refine lv_iconst (v := nI 1) hx hb dX3_step_89 (by decide) ?_
      refine lv_iadd hx hb dX3_step_90 ?_
      refine set_i (y := nI (k + 1)) (nI_add k 1) ?_
      refine va_put (D := D) (ci := 3) (v := .int (nI (k + 1))) (ty := tyX3 2) (C := RX3) (T := TX3) (N := 6) hx hb hts in_X3_step_3 tyX3 tyX3_ok nmX3 hown hK.1 hP hD hS 0 rfl rfl 2 (by decide) (hts (.fieldLink RX3 19 "ChildCoins$Reader" "at" "I") (List.mem_of_getElem? (i := 1) rfl)) (fun _ h9 => h9) rfl (tyX3_ok 2 (by decide)) rfl rfl (Nat.le_of_ble_eq_true rfl) dX3_step_91 (fun H locs hP hD hS => ?_)
      obtain ⟨hP, hD⟩ : wPD D A [(Rh, .inr (3, [.ref Th, .int (nI (RS 1 0)), .int (nI (k + 1)), .int (nI k), .int (nI (srtN (TS 0 k))), .int (nI 0)])), (Th, .inl (cI, 180, .inl (nF (TS 0))))] H := ⟨hP, hD⟩
      refine lv_aload_n hx hb dX3_step_94 rfl (lv_at hl 0 rfl) ?_
      refine va_get (D := D) (ci := 3) (v := .int (nI (srtN (TS 0 k)))) (C := RX3) (T := TX3) (N := 6) hx hb hts in_X3_step_3 hown hK.1 hP 0 rfl rfl 4 (by decide) (hts (.fieldLink RX3 25 "ChildCoins$Reader" "token" "I") (List.mem_of_getElem? (i := 6) rfl)) (fun _ h9 => h9) rfl dX3_step_95 ?_
      refine lv_iconst (v := nI 1) hx hb dX3_step_98 (by decide) ?_
      refine nb_icmp_eq (tgt := 110) hx hb dX3_step_99 (by decide) (by omega) (by omega) (fun hq8 => ?_) (fun hq8 => ?_)
      · skip
        refine whileS (σ := Nat) (D := D) (A := A) (fun j => onN (srt (TS 0) (srtN (TS 0 k))) (RS 1 0) j = onN (srt (TS 0) (srtN (TS 0 k))) (RS 1 0) (k + 1) ∧ k + 1 ≤ j ∧ j ≤ RS 1 0 ∧ ∀ x, k ≤ x → x < j → srtN (TS 0 x) = srtN (TS 0 k)) (fun j => RS 1 0 - j) (fun j => [(Rh, .inr (3, [.ref Th, .int (nI (RS 1 0)), .int (nI j), .int (nI k), .int (nI (srtN (TS 0 k))), .int (nI 0)])), (Th, .inl (cI, 180, .inl (nF (TS 0))))]) (fun j => [(0, .ref Rh)]) 110 1 ?_ (k + 1) ⟨rfl, Nat.le_refl _, (by omega), fun x q1 q2 => by rw [show x = k by omega]⟩ _ _ ls hP hD hS (lv_sub hl [0] rfl)
        intro j hI_j ih_j H locs ls hP hD hS hl
        have hl : lv_has ls 1 [(0, .ref Rh)] := hl
        obtain ⟨i1, i2, i3, i4⟩ := hI_j
        refine lv_aload_n hx hb dX3_step_110 rfl (lv_at hl 0 rfl) ?_
        obtain ⟨hP, hD⟩ : wPD D A [(Rh, .inr (3, [.ref Th, .int (nI (RS 1 0)), .int (nI j), .int (nI k), .int (nI (srtN (TS 0 k))), .int (nI 0)])), (Th, .inl (cI, 180, .inl (nF (TS 0))))] H := ⟨hP, hD⟩
        refine va_get (D := D) (ci := 3) (v := .int (nI j)) (C := RX3) (T := TX3) (N := 6) hx hb hts in_X3_step_3 hown hK.1 hP 0 rfl rfl 2 (by decide) (hts (.fieldLink RX3 19 "ChildCoins$Reader" "at" "I") (List.mem_of_getElem? (i := 1) rfl)) (fun _ h9 => h9) rfl dX3_step_111 ?_
        refine lv_aload_n hx hb dX3_step_114 rfl (lv_at hl 0 rfl) ?_
        refine va_get (D := D) (ci := 3) (v := .int (nI (RS 1 0))) (C := RX3) (T := TX3) (N := 6) hx hb hts in_X3_step_3 hown hK.1 hP 0 rfl rfl 1 (by decide) (hts (.fieldLink RX3 15 "ChildCoins$Reader" "length" "I") (List.mem_of_getElem? (i := 2) rfl)) (fun _ h9 => h9) rfl dX3_step_115 ?_
        refine nb_icmp_ge (tgt := 153) hx hb dX3_step_118 (by decide) (by omega) (by omega) (fun hq9 => ?_) (fun hq9 => ?_)
        · skip
          have he : onN (srt (TS 0) (srtN (TS 0 k))) (RS 1 0) (k + 1) = j := i1.symm.trans (onN_e (fun q => absurd q.1 (by omega)))
          refine lv_aload_n hx hb dX3_step_153 rfl (lv_at hl 0 rfl) ?_
          refine va_get (D := D) (ci := 3) (v := .int (nI (srtN (TS 0 k)))) (C := RX3) (T := TX3) (N := 6) hx hb hts in_X3_step_3 hown hK.1 hP 0 rfl rfl 4 (by decide) (hts (.fieldLink RX3 25 "ChildCoins$Reader" "token" "I") (List.mem_of_getElem? (i := 6) rfl)) (fun _ h9 => h9) rfl dX3_step_154 ?_
          refine lv_iconst (v := nI 1) hx hb dX3_step_157 (by decide) ?_
          refine nb_icmp_ne (tgt := 165) hx hb dX3_step_158 (by decide) (by omega) (by omega) (fun hq10 => absurd hq10 (by omega)) (fun hq10 => ?_)
          refine lv_aload_n hx hb dX3_step_161 rfl (lv_at hl 0 rfl) ?_
          refine be_v (free := fun _ => False) (wr := []) (ru_V (As := []) (rest := []) ⟨hx, hb, hml, hown, hts⟩ (g_weighLetters l D cI cB cZ cN Rh (ua (ua (ua (ua RS 2 (fun _ => j)) 3 (fun _ => k)) 4 (fun _ => srtN (TS 0 k))) 5 (fun _ => 0)) Th TS hT (show k ≤ j by omega) (show k < 180 by omega) (show j ≤ 180 by omega) H.size) gX3_step_X3_weighLetters rfl ⟨rfl, by decide, by decide, (show Option.map (fun d => d.parameters.length) (parseMethodDescriptor yX3_weighLetters.desc) = some 0 by decide +kernel)⟩ ⟨Nat.le_of_ble_eq_true rfl, Nat.le_of_ble_eq_true rfl⟩ hK hP hD 3 0 rfl rfl [0, 1] (by decide) rfl hl.1 rfl (Nat.le_of_ble_eq_true rfl) dX3_step_162 ⟨Nat.le_of_ble_eq_true rfl, Nat.le_of_ble_eq_true rfl⟩) hP hD hS hA [0, 1] [] rfl rfl (by decide) (by decide) (fun u11 H locs w13 hP hD hS => ?_)
          obtain ⟨w14, w15, w16, w17, w18⟩ := w13
          have w14 : u11 1 0 = RS 1 0 := w14
          have w15 : u11 2 0 = j := w15
          have w16 : u11 3 0 = k := w16
          have w17 : u11 4 0 = srtN (TS 0 k) := w17
          have w18 : u11 5 0 = (if j - k = 1 then TS 0 k else 0) := w18
          obtain ⟨hP, hD⟩ : wPD D A [(Rh, .inr (3, [.ref Th, .int (nI (u11 1 0)), .int (nI (u11 2 0)), .int (nI (u11 3 0)), .int (nI (u11 4 0)), .int (nI (u11 5 0))])), (Th, .inl (cI, 180, .inl (nF (TS 0))))] H := ⟨hP, hD⟩
          refine lv_aload_n hx hb dX3_step_165 rfl (lv_at hl 0 rfl) ?_
          refine va_get (D := D) (ci := 3) (v := .int (nI (u11 4 0))) (C := RX3) (T := TX3) (N := 6) hx hb hts in_X3_step_3 hown hK.1 hP 0 rfl rfl 4 (by decide) (hts (.fieldLink RX3 25 "ChildCoins$Reader" "token" "I") (List.mem_of_getElem? (i := 6) rfl)) (fun _ h9 => h9) rfl dX3_step_166 ?_
          refine lv_iconst (v := nI 2) hx hb dX3_step_169 (by decide) ?_
          refine nb_icmp_ne (tgt := 177) hx hb dX3_step_170 (by decide) (by omega) (by omega) (fun hq19 => ?_) (fun hq19 => absurd hq19 (by omega))
          exact en_v hx hb hr hlk hP hD hS u11 [0, 1] (by decide) rfl (Nat.le_of_ble_eq_true rfl) (Nat.le_of_ble_eq_true rfl) dX3_step_177 (by have ee : tkE0 (TS 0) (RS 1 0) (tkS (TS 0) (RS 1 0) (RS 2 0)) = j := (by rw [hk]; unfold tkE0; rw [if_neg (by omega), if_pos (by omega)]; exact he); exact ⟨w14, w16.trans hk.symm, w15.trans ee.symm, (by rw [ee, hk, w17]; unfold tkK; rw [if_neg (show ¬ RS 1 0 ≤ k by omega), if_neg (show ¬ (srtN (TS 0 k) = 2 ∧ (2 < j - k ∨ (j - k = 2 ∧ TS 0 k = 48))) by omega)]), (by rw [ee, hk, w18]; unfold tkV; rw [if_neg (show ¬ RS 1 0 ≤ k by omega), if_pos (show srtN (TS 0 k) = 1 by omega)])⟩)
        · skip
          refine lv_aload_n hx hb dX3_step_121 rfl (lv_at hl 0 rfl) ?_
          refine va_get (D := D) (ci := 3) (v := .ref Th) (C := RX3) (T := TX3) (N := 6) hx hb hts in_X3_step_3 hown hK.1 hP 0 rfl rfl 0 (by decide) (hts (.fieldLink RX3 9 "ChildCoins$Reader" "bytes" "[I") (List.mem_of_getElem? (i := 3) rfl)) (fun _ h9 => h9) rfl dX3_step_122 ?_
          refine lv_aload_n hx hb dX3_step_125 rfl (lv_at hl 0 rfl) ?_
          refine va_get (D := D) (ci := 3) (v := .int (nI j)) (C := RX3) (T := TX3) (N := 6) hx hb hts in_X3_step_3 hown hK.1 hP 0 rfl rfl 2 (by decide) (hts (.fieldLink RX3 19 "ChildCoins$Reader" "at" "I") (List.mem_of_getElem? (i := 1) rfl)) (fun _ h9 => h9) rfl dX3_step_126 ?_
          refine va_iald hx hb hK.1 hP 1 0 rfl rfl (vp_in_nI (n := j) (N := 180) (by omega) (by decide)) dX3_step_129 ?_
          refine set_i (y := nI (TS 0 j)) (nF_ld (by omega)) ?_
          have b20 := bt j
          refine be_i0 (ru_S (As := [.int (nI (TS 0 j))]) (rest := []) ⟨hx, hb, hml, hown, hts⟩ (g_sortOf l D cI cB cZ cN (TS 0 j) (hT _) H.size) ggX3_step_X3_sortOf rfl (hts (.initialized RX3) (List.mem_of_getElem? (i := 9) rfl)) (hts (.methodLink RX3 109 yX3_sortOf) (List.mem_of_getElem? (i := 7) rfl)) (hts (.static yX3_sortOf) (List.mem_of_getElem? (i := 8) rfl)) ⟨by decide, by decide, (show Option.map (fun d => d.parameters.length) (parseMethodDescriptor yX3_sortOf.desc) = some 1 by decide +kernel)⟩ ⟨Nat.le_of_ble_eq_true rfl, Nat.le_of_ble_eq_true rfl⟩ hK hP hD [] (by decide) rfl hl.1 rfl (Nat.le_of_ble_eq_true rfl) dX3_step_130 ⟨Nat.le_of_ble_eq_true rfl, Nat.le_of_ble_eq_true rfl⟩) hP hD hS hA [] rfl (fun r22 u21 H locs w23 hP hS => ?_)
          obtain rfl : r22 = nI (srtN (TS 0 j)) := w23
          have b24 := srtN_le (TS 0 j)
          refine lv_aload_n hx hb dX3_step_133 rfl (lv_at hl 0 rfl) ?_
          refine va_get (D := D) (ci := 3) (v := .int (nI (srtN (TS 0 k)))) (C := RX3) (T := TX3) (N := 6) hx hb hts in_X3_step_3 hown hK.1 hP 0 rfl rfl 4 (by decide) (hts (.fieldLink RX3 25 "ChildCoins$Reader" "token" "I") (List.mem_of_getElem? (i := 6) rfl)) (fun _ h9 => h9) rfl dX3_step_134 ?_
          refine nb_icmp_ne (tgt := 153) hx hb dX3_step_137 (by decide) (by omega) (by omega) (fun hq25 => ?_) (fun hq25 => ?_)
          · skip
            have he : onN (srt (TS 0) (srtN (TS 0 k))) (RS 1 0) (k + 1) = j := i1.symm.trans (onN_e (fun q => hq25 (of_decide_eq_true q.2)))
            refine lv_aload_n hx hb dX3_step_153 rfl (lv_at hl 0 rfl) ?_
            refine va_get (D := D) (ci := 3) (v := .int (nI (srtN (TS 0 k)))) (C := RX3) (T := TX3) (N := 6) hx hb hts in_X3_step_3 hown hK.1 hP 0 rfl rfl 4 (by decide) (hts (.fieldLink RX3 25 "ChildCoins$Reader" "token" "I") (List.mem_of_getElem? (i := 6) rfl)) (fun _ h9 => h9) rfl dX3_step_154 ?_
            refine lv_iconst (v := nI 1) hx hb dX3_step_157 (by decide) ?_
            refine nb_icmp_ne (tgt := 165) hx hb dX3_step_158 (by decide) (by omega) (by omega) (fun hq26 => absurd hq26 (by omega)) (fun hq26 => ?_)
            refine lv_aload_n hx hb dX3_step_161 rfl (lv_at hl 0 rfl) ?_
            refine be_v (free := fun _ => False) (wr := []) (ru_V (As := []) (rest := []) ⟨hx, hb, hml, hown, hts⟩ (g_weighLetters l D cI cB cZ cN Rh (ua (ua (ua (ua RS 2 (fun _ => j)) 3 (fun _ => k)) 4 (fun _ => srtN (TS 0 k))) 5 (fun _ => 0)) Th TS hT (show k ≤ j by omega) (show k < 180 by omega) (show j ≤ 180 by omega) H.size) gX3_step_X3_weighLetters rfl ⟨rfl, by decide, by decide, (show Option.map (fun d => d.parameters.length) (parseMethodDescriptor yX3_weighLetters.desc) = some 0 by decide +kernel)⟩ ⟨Nat.le_of_ble_eq_true rfl, Nat.le_of_ble_eq_true rfl⟩ hK hP hD 3 0 rfl rfl [0, 1] (by decide) rfl hl.1 rfl (Nat.le_of_ble_eq_true rfl) dX3_step_162 ⟨Nat.le_of_ble_eq_true rfl, Nat.le_of_ble_eq_true rfl⟩) hP hD hS hA [0, 1] [] rfl rfl (by decide) (by decide) (fun u27 H locs w29 hP hD hS => ?_)
            obtain ⟨w30, w31, w32, w33, w34⟩ := w29
            have w30 : u27 1 0 = RS 1 0 := w30
            have w31 : u27 2 0 = j := w31
            have w32 : u27 3 0 = k := w32
            have w33 : u27 4 0 = srtN (TS 0 k) := w33
            have w34 : u27 5 0 = (if j - k = 1 then TS 0 k else 0) := w34
            obtain ⟨hP, hD⟩ : wPD D A [(Rh, .inr (3, [.ref Th, .int (nI (u27 1 0)), .int (nI (u27 2 0)), .int (nI (u27 3 0)), .int (nI (u27 4 0)), .int (nI (u27 5 0))])), (Th, .inl (cI, 180, .inl (nF (TS 0))))] H := ⟨hP, hD⟩
            refine lv_aload_n hx hb dX3_step_165 rfl (lv_at hl 0 rfl) ?_
            refine va_get (D := D) (ci := 3) (v := .int (nI (u27 4 0))) (C := RX3) (T := TX3) (N := 6) hx hb hts in_X3_step_3 hown hK.1 hP 0 rfl rfl 4 (by decide) (hts (.fieldLink RX3 25 "ChildCoins$Reader" "token" "I") (List.mem_of_getElem? (i := 6) rfl)) (fun _ h9 => h9) rfl dX3_step_166 ?_
            refine lv_iconst (v := nI 2) hx hb dX3_step_169 (by decide) ?_
            refine nb_icmp_ne (tgt := 177) hx hb dX3_step_170 (by decide) (by omega) (by omega) (fun hq35 => ?_) (fun hq35 => absurd hq35 (by omega))
            exact en_v hx hb hr hlk hP hD hS u27 [0, 1] (by decide) rfl (Nat.le_of_ble_eq_true rfl) (Nat.le_of_ble_eq_true rfl) dX3_step_177 (by have ee : tkE0 (TS 0) (RS 1 0) (tkS (TS 0) (RS 1 0) (RS 2 0)) = j := (by rw [hk]; unfold tkE0; rw [if_neg (by omega), if_pos (by omega)]; exact he); exact ⟨w30, w32.trans hk.symm, w31.trans ee.symm, (by rw [ee, hk, w33]; unfold tkK; rw [if_neg (show ¬ RS 1 0 ≤ k by omega), if_neg (show ¬ (srtN (TS 0 k) = 2 ∧ (2 < j - k ∨ (j - k = 2 ∧ TS 0 k = 48))) by omega)]), (by rw [ee, hk, w34]; unfold tkV; rw [if_neg (show ¬ RS 1 0 ≤ k by omega), if_pos (show srtN (TS 0 k) = 1 by omega)])⟩)
          · skip
            refine lv_aload_n hx hb dX3_step_140 rfl (lv_at hl 0 rfl) ?_
            refine lv_dup hx hb dX3_step_141 rfl ?_
            refine va_get (D := D) (ci := 3) (v := .int (nI j)) (C := RX3) (T := TX3) (N := 6) hx hb hts in_X3_step_3 hown hK.1 hP 0 rfl rfl 2 (by decide) (hts (.fieldLink RX3 19 "ChildCoins$Reader" "at" "I") (List.mem_of_getElem? (i := 1) rfl)) (fun _ h9 => h9) rfl dX3_step_142 ?_
            refine lv_iconst (v := nI 1) hx hb dX3_step_145 (by decide) ?_
            refine lv_iadd hx hb dX3_step_146 ?_
            refine set_i (y := nI (j + 1)) (nI_add j 1) ?_
            refine va_put (D := D) (ci := 3) (v := .int (nI (j + 1))) (ty := tyX3 2) (C := RX3) (T := TX3) (N := 6) hx hb hts in_X3_step_3 tyX3 tyX3_ok nmX3 hown hK.1 hP hD hS 0 rfl rfl 2 (by decide) (hts (.fieldLink RX3 19 "ChildCoins$Reader" "at" "I") (List.mem_of_getElem? (i := 1) rfl)) (fun _ h9 => h9) rfl (tyX3_ok 2 (by decide)) rfl rfl (Nat.le_of_ble_eq_true rfl) dX3_step_147 (fun H locs hP hD hS => ?_)
            obtain ⟨hP, hD⟩ : wPD D A [(Rh, .inr (3, [.ref Th, .int (nI (RS 1 0)), .int (nI (j + 1)), .int (nI k), .int (nI (srtN (TS 0 k))), .int (nI 0)])), (Th, .inl (cI, 180, .inl (nF (TS 0))))] H := ⟨hP, hD⟩
            refine lv_goto (tgt := 110) hx hb dX3_step_150 (by decide) ?_
            exact ih_j (j + 1) ⟨(onN_s (q := (srt (TS 0) (srtN (TS 0 k)))) hq9 (decide_eq_true hq25)).symm.trans i1, by omega, by omega, fun x q1 q2 => by rcases (show x < j ∨ x = j by omega) with q | q; exact i4 x q1 q; rw [q]; exact hq25⟩ (by omega) _ _ _ hP hD hS (lv_sub hl [0] rfl)
      · skip
        refine lv_aload_n hx hb dX3_step_102 rfl (lv_at hl 0 rfl) ?_
        refine va_get (D := D) (ci := 3) (v := .int (nI (srtN (TS 0 k)))) (C := RX3) (T := TX3) (N := 6) hx hb hts in_X3_step_3 hown hK.1 hP 0 rfl rfl 4 (by decide) (hts (.fieldLink RX3 25 "ChildCoins$Reader" "token" "I") (List.mem_of_getElem? (i := 6) rfl)) (fun _ h9 => h9) rfl dX3_step_103 ?_
        refine lv_iconst (v := nI 2) hx hb dX3_step_106 (by decide) ?_
        refine nb_icmp_ne (tgt := 153) hx hb dX3_step_107 (by decide) (by omega) (by omega) (fun hq36 => ?_) (fun hq36 => ?_)
        · skip
          refine lv_aload_n hx hb dX3_step_153 rfl (lv_at hl 0 rfl) ?_
          refine va_get (D := D) (ci := 3) (v := .int (nI (srtN (TS 0 k)))) (C := RX3) (T := TX3) (N := 6) hx hb hts in_X3_step_3 hown hK.1 hP 0 rfl rfl 4 (by decide) (hts (.fieldLink RX3 25 "ChildCoins$Reader" "token" "I") (List.mem_of_getElem? (i := 6) rfl)) (fun _ h9 => h9) rfl dX3_step_154 ?_
          refine lv_iconst (v := nI 1) hx hb dX3_step_157 (by decide) ?_
          refine nb_icmp_ne (tgt := 165) hx hb dX3_step_158 (by decide) (by omega) (by omega) (fun hq37 => ?_) (fun hq37 => absurd hq37 (by omega))
          refine lv_aload_n hx hb dX3_step_165 rfl (lv_at hl 0 rfl) ?_
          refine va_get (D := D) (ci := 3) (v := .int (nI (srtN (TS 0 k)))) (C := RX3) (T := TX3) (N := 6) hx hb hts in_X3_step_3 hown hK.1 hP 0 rfl rfl 4 (by decide) (hts (.fieldLink RX3 25 "ChildCoins$Reader" "token" "I") (List.mem_of_getElem? (i := 6) rfl)) (fun _ h9 => h9) rfl dX3_step_166 ?_
          refine lv_iconst (v := nI 2) hx hb dX3_step_169 (by decide) ?_
          refine nb_icmp_ne (tgt := 177) hx hb dX3_step_170 (by decide) (by omega) (by omega) (fun hq38 => ?_) (fun hq38 => absurd hq38 (by omega))
          exact en_v hx hb hr hlk hP hD hS (ua (ua (ua (ua RS 2 (fun _ => k + 1)) 3 (fun _ => k)) 4 (fun _ => srtN (TS 0 k))) 5 (fun _ => 0)) [0, 1] (by decide) rfl (Nat.le_of_ble_eq_true rfl) (Nat.le_of_ble_eq_true rfl) dX3_step_177 ⟨rfl, hk.symm, (by rw [hk]; unfold tkE0; rw [if_neg (by omega), if_neg (by omega)]; try rfl), (by rw [hk]; unfold tkK; rw [if_neg (by omega), if_neg (by omega)]; try rfl), (by rw [hk]; unfold tkV; rw [if_neg (by omega), if_neg (by omega), if_neg (by omega)]; try rfl)⟩
        · skip
          refine whileS (σ := Nat) (D := D) (A := A) (fun j => onN (srt (TS 0) (srtN (TS 0 k))) (RS 1 0) j = onN (srt (TS 0) (srtN (TS 0 k))) (RS 1 0) (k + 1) ∧ k + 1 ≤ j ∧ j ≤ RS 1 0 ∧ ∀ x, k ≤ x → x < j → srtN (TS 0 x) = srtN (TS 0 k)) (fun j => RS 1 0 - j) (fun j => [(Rh, .inr (3, [.ref Th, .int (nI (RS 1 0)), .int (nI j), .int (nI k), .int (nI (srtN (TS 0 k))), .int (nI 0)])), (Th, .inl (cI, 180, .inl (nF (TS 0))))]) (fun j => [(0, .ref Rh)]) 110 1 ?_ (k + 1) ⟨rfl, Nat.le_refl _, (by omega), fun x q1 q2 => by rw [show x = k by omega]⟩ _ _ ls hP hD hS (lv_sub hl [0] rfl)
          intro j hI_j ih_j H locs ls hP hD hS hl
          have hl : lv_has ls 1 [(0, .ref Rh)] := hl
          obtain ⟨i1, i2, i3, i4⟩ := hI_j
          refine lv_aload_n hx hb dX3_step_110 rfl (lv_at hl 0 rfl) ?_
          obtain ⟨hP, hD⟩ : wPD D A [(Rh, .inr (3, [.ref Th, .int (nI (RS 1 0)), .int (nI j), .int (nI k), .int (nI (srtN (TS 0 k))), .int (nI 0)])), (Th, .inl (cI, 180, .inl (nF (TS 0))))] H := ⟨hP, hD⟩
          refine va_get (D := D) (ci := 3) (v := .int (nI j)) (C := RX3) (T := TX3) (N := 6) hx hb hts in_X3_step_3 hown hK.1 hP 0 rfl rfl 2 (by decide) (hts (.fieldLink RX3 19 "ChildCoins$Reader" "at" "I") (List.mem_of_getElem? (i := 1) rfl)) (fun _ h9 => h9) rfl dX3_step_111 ?_
          refine lv_aload_n hx hb dX3_step_114 rfl (lv_at hl 0 rfl) ?_
          refine va_get (D := D) (ci := 3) (v := .int (nI (RS 1 0))) (C := RX3) (T := TX3) (N := 6) hx hb hts in_X3_step_3 hown hK.1 hP 0 rfl rfl 1 (by decide) (hts (.fieldLink RX3 15 "ChildCoins$Reader" "length" "I") (List.mem_of_getElem? (i := 2) rfl)) (fun _ h9 => h9) rfl dX3_step_115 ?_
          refine nb_icmp_ge (tgt := 153) hx hb dX3_step_118 (by decide) (by omega) (by omega) (fun hq39 => ?_) (fun hq39 => ?_)
          · skip
            have he : onN (srt (TS 0) (srtN (TS 0 k))) (RS 1 0) (k + 1) = j := i1.symm.trans (onN_e (fun q => absurd q.1 (by omega)))
            refine lv_aload_n hx hb dX3_step_153 rfl (lv_at hl 0 rfl) ?_
            refine va_get (D := D) (ci := 3) (v := .int (nI (srtN (TS 0 k)))) (C := RX3) (T := TX3) (N := 6) hx hb hts in_X3_step_3 hown hK.1 hP 0 rfl rfl 4 (by decide) (hts (.fieldLink RX3 25 "ChildCoins$Reader" "token" "I") (List.mem_of_getElem? (i := 6) rfl)) (fun _ h9 => h9) rfl dX3_step_154 ?_
            refine lv_iconst (v := nI 1) hx hb dX3_step_157 (by decide) ?_
            refine nb_icmp_ne (tgt := 165) hx hb dX3_step_158 (by decide) (by omega) (by omega) (fun hq40 => ?_) (fun hq40 => absurd hq40 (by omega))
            refine lv_aload_n hx hb dX3_step_165 rfl (lv_at hl 0 rfl) ?_
            refine va_get (D := D) (ci := 3) (v := .int (nI (srtN (TS 0 k)))) (C := RX3) (T := TX3) (N := 6) hx hb hts in_X3_step_3 hown hK.1 hP 0 rfl rfl 4 (by decide) (hts (.fieldLink RX3 25 "ChildCoins$Reader" "token" "I") (List.mem_of_getElem? (i := 6) rfl)) (fun _ h9 => h9) rfl dX3_step_166 ?_
            refine lv_iconst (v := nI 2) hx hb dX3_step_169 (by decide) ?_
            refine nb_icmp_ne (tgt := 177) hx hb dX3_step_170 (by decide) (by omega) (by omega) (fun hq41 => absurd hq41 (by omega)) (fun hq41 => ?_)
            refine lv_aload_n hx hb dX3_step_173 rfl (lv_at hl 0 rfl) ?_
            refine be_v (free := fun _ => False) (wr := []) (ru_V (As := []) (rest := []) ⟨hx, hb, hml, hown, hts⟩ (g_weighNumber l D cI cB cZ cN Rh (ua (ua (ua (ua RS 2 (fun _ => j)) 3 (fun _ => k)) 4 (fun _ => srtN (TS 0 k))) 5 (fun _ => 0)) Th TS hT (show k ≤ j by omega) (show k < 180 by omega) (show j ≤ 180 by omega) rfl (fun x q1 q2 => srt_2 ((i4 x q1 q2).trans (by omega))) H.size) gX3_step_X3_weighNumber rfl ⟨rfl, by decide, by decide, (show Option.map (fun d => d.parameters.length) (parseMethodDescriptor yX3_weighNumber.desc) = some 0 by decide +kernel)⟩ ⟨Nat.le_of_ble_eq_true rfl, Nat.le_of_ble_eq_true rfl⟩ hK hP hD 3 0 rfl rfl [0, 1] (by decide) rfl hl.1 rfl (Nat.le_of_ble_eq_true rfl) dX3_step_174 ⟨Nat.le_of_ble_eq_true rfl, Nat.le_of_ble_eq_true rfl⟩) hP hD hS hA [0, 1] [] rfl rfl (by decide) (by decide) (fun u42 H locs w44 hP hD hS => ?_)
            obtain ⟨w45, w46, w47, w48, w49⟩ := w44
            have w45 : u42 1 0 = RS 1 0 := w45
            have w46 : u42 2 0 = j := w46
            have w47 : u42 3 0 = k := w47
            have w48 : u42 4 0 = (if (2 < j - k ∨ (j - k = 2 ∧ TS 0 k = 48)) then 4 else srtN (TS 0 k)) := w48
            have w49 : u42 5 0 = (if (2 < j - k ∨ (j - k = 2 ∧ TS 0 k = 48)) then 0 else numN (TS 0) k (j - k)) := w49
            obtain ⟨hP, hD⟩ : wPD D A [(Rh, .inr (3, [.ref Th, .int (nI (u42 1 0)), .int (nI (u42 2 0)), .int (nI (u42 3 0)), .int (nI (u42 4 0)), .int (nI (u42 5 0))])), (Th, .inl (cI, 180, .inl (nF (TS 0))))] H := ⟨hP, hD⟩
            exact en_v hx hb hr hlk hP hD hS u42 [0, 1] (by decide) rfl (Nat.le_of_ble_eq_true rfl) (Nat.le_of_ble_eq_true rfl) dX3_step_177 (by have ee : tkE0 (TS 0) (RS 1 0) (tkS (TS 0) (RS 1 0) (RS 2 0)) = j := (by rw [hk]; unfold tkE0; rw [if_neg (by omega), if_pos (by omega)]; exact he); exact ⟨w45, w47.trans hk.symm, w46.trans ee.symm, (by rw [ee, hk, w48]; unfold tkK; rw [if_neg (show ¬ RS 1 0 ≤ k by omega)]; exact (Classical.em (2 < j - k ∨ (j - k = 2 ∧ TS 0 k = 48))).elim (fun q => by rw [if_pos q, if_pos ⟨by omega, q⟩]) (fun q => by rw [if_neg q, if_neg (fun z => q z.2)])), (by rw [ee, hk, w49]; unfold tkV; rw [if_neg (show ¬ RS 1 0 ≤ k by omega), if_neg (show ¬ srtN (TS 0 k) = 1 by omega)]; exact (Classical.em (2 < j - k ∨ (j - k = 2 ∧ TS 0 k = 48))).elim (fun q => by rw [if_pos q, if_neg (fun z => z.2 q)]) (fun q => by rw [if_neg q, if_pos ⟨by omega, q⟩]))⟩)
          · skip
            refine lv_aload_n hx hb dX3_step_121 rfl (lv_at hl 0 rfl) ?_
            refine va_get (D := D) (ci := 3) (v := .ref Th) (C := RX3) (T := TX3) (N := 6) hx hb hts in_X3_step_3 hown hK.1 hP 0 rfl rfl 0 (by decide) (hts (.fieldLink RX3 9 "ChildCoins$Reader" "bytes" "[I") (List.mem_of_getElem? (i := 3) rfl)) (fun _ h9 => h9) rfl dX3_step_122 ?_
            refine lv_aload_n hx hb dX3_step_125 rfl (lv_at hl 0 rfl) ?_
            refine va_get (D := D) (ci := 3) (v := .int (nI j)) (C := RX3) (T := TX3) (N := 6) hx hb hts in_X3_step_3 hown hK.1 hP 0 rfl rfl 2 (by decide) (hts (.fieldLink RX3 19 "ChildCoins$Reader" "at" "I") (List.mem_of_getElem? (i := 1) rfl)) (fun _ h9 => h9) rfl dX3_step_126 ?_
            refine va_iald hx hb hK.1 hP 1 0 rfl rfl (vp_in_nI (n := j) (N := 180) (by omega) (by decide)) dX3_step_129 ?_
            refine set_i (y := nI (TS 0 j)) (nF_ld (by omega)) ?_
            have b50 := bt j
            refine be_i0 (ru_S (As := [.int (nI (TS 0 j))]) (rest := []) ⟨hx, hb, hml, hown, hts⟩ (g_sortOf l D cI cB cZ cN (TS 0 j) (hT _) H.size) ggX3_step_X3_sortOf rfl (hts (.initialized RX3) (List.mem_of_getElem? (i := 9) rfl)) (hts (.methodLink RX3 109 yX3_sortOf) (List.mem_of_getElem? (i := 7) rfl)) (hts (.static yX3_sortOf) (List.mem_of_getElem? (i := 8) rfl)) ⟨by decide, by decide, (show Option.map (fun d => d.parameters.length) (parseMethodDescriptor yX3_sortOf.desc) = some 1 by decide +kernel)⟩ ⟨Nat.le_of_ble_eq_true rfl, Nat.le_of_ble_eq_true rfl⟩ hK hP hD [] (by decide) rfl hl.1 rfl (Nat.le_of_ble_eq_true rfl) dX3_step_130 ⟨Nat.le_of_ble_eq_true rfl, Nat.le_of_ble_eq_true rfl⟩) hP hD hS hA [] rfl (fun r52 u51 H locs w53 hP hS => ?_)
            obtain rfl : r52 = nI (srtN (TS 0 j)) := w53
            have b54 := srtN_le (TS 0 j)
            refine lv_aload_n hx hb dX3_step_133 rfl (lv_at hl 0 rfl) ?_
            refine va_get (D := D) (ci := 3) (v := .int (nI (srtN (TS 0 k)))) (C := RX3) (T := TX3) (N := 6) hx hb hts in_X3_step_3 hown hK.1 hP 0 rfl rfl 4 (by decide) (hts (.fieldLink RX3 25 "ChildCoins$Reader" "token" "I") (List.mem_of_getElem? (i := 6) rfl)) (fun _ h9 => h9) rfl dX3_step_134 ?_
            refine nb_icmp_ne (tgt := 153) hx hb dX3_step_137 (by decide) (by omega) (by omega) (fun hq55 => ?_) (fun hq55 => ?_)
            · skip
              have he : onN (srt (TS 0) (srtN (TS 0 k))) (RS 1 0) (k + 1) = j := i1.symm.trans (onN_e (fun q => hq55 (of_decide_eq_true q.2)))
              refine lv_aload_n hx hb dX3_step_153 rfl (lv_at hl 0 rfl) ?_
              refine va_get (D := D) (ci := 3) (v := .int (nI (srtN (TS 0 k)))) (C := RX3) (T := TX3) (N := 6) hx hb hts in_X3_step_3 hown hK.1 hP 0 rfl rfl 4 (by decide) (hts (.fieldLink RX3 25 "ChildCoins$Reader" "token" "I") (List.mem_of_getElem? (i := 6) rfl)) (fun _ h9 => h9) rfl dX3_step_154 ?_
              refine lv_iconst (v := nI 1) hx hb dX3_step_157 (by decide) ?_
              refine nb_icmp_ne (tgt := 165) hx hb dX3_step_158 (by decide) (by omega) (by omega) (fun hq56 => ?_) (fun hq56 => absurd hq56 (by omega))
              refine lv_aload_n hx hb dX3_step_165 rfl (lv_at hl 0 rfl) ?_
              refine va_get (D := D) (ci := 3) (v := .int (nI (srtN (TS 0 k)))) (C := RX3) (T := TX3) (N := 6) hx hb hts in_X3_step_3 hown hK.1 hP 0 rfl rfl 4 (by decide) (hts (.fieldLink RX3 25 "ChildCoins$Reader" "token" "I") (List.mem_of_getElem? (i := 6) rfl)) (fun _ h9 => h9) rfl dX3_step_166 ?_
              refine lv_iconst (v := nI 2) hx hb dX3_step_169 (by decide) ?_
              refine nb_icmp_ne (tgt := 177) hx hb dX3_step_170 (by decide) (by omega) (by omega) (fun hq57 => absurd hq57 (by omega)) (fun hq57 => ?_)
              refine lv_aload_n hx hb dX3_step_173 rfl (lv_at hl 0 rfl) ?_
              refine be_v (free := fun _ => False) (wr := []) (ru_V (As := []) (rest := []) ⟨hx, hb, hml, hown, hts⟩ (g_weighNumber l D cI cB cZ cN Rh (ua (ua (ua (ua RS 2 (fun _ => j)) 3 (fun _ => k)) 4 (fun _ => srtN (TS 0 k))) 5 (fun _ => 0)) Th TS hT (show k ≤ j by omega) (show k < 180 by omega) (show j ≤ 180 by omega) rfl (fun x q1 q2 => srt_2 ((i4 x q1 q2).trans (by omega))) H.size) gX3_step_X3_weighNumber rfl ⟨rfl, by decide, by decide, (show Option.map (fun d => d.parameters.length) (parseMethodDescriptor yX3_weighNumber.desc) = some 0 by decide +kernel)⟩ ⟨Nat.le_of_ble_eq_true rfl, Nat.le_of_ble_eq_true rfl⟩ hK hP hD 3 0 rfl rfl [0, 1] (by decide) rfl hl.1 rfl (Nat.le_of_ble_eq_true rfl) dX3_step_174 ⟨Nat.le_of_ble_eq_true rfl, Nat.le_of_ble_eq_true rfl⟩) hP hD hS hA [0, 1] [] rfl rfl (by decide) (by decide) (fun u58 H locs w60 hP hD hS => ?_)
              obtain ⟨w61, w62, w63, w64, w65⟩ := w60
              have w61 : u58 1 0 = RS 1 0 := w61
              have w62 : u58 2 0 = j := w62
              have w63 : u58 3 0 = k := w63
              have w64 : u58 4 0 = (if (2 < j - k ∨ (j - k = 2 ∧ TS 0 k = 48)) then 4 else srtN (TS 0 k)) := w64
              have w65 : u58 5 0 = (if (2 < j - k ∨ (j - k = 2 ∧ TS 0 k = 48)) then 0 else numN (TS 0) k (j - k)) := w65
              obtain ⟨hP, hD⟩ : wPD D A [(Rh, .inr (3, [.ref Th, .int (nI (u58 1 0)), .int (nI (u58 2 0)), .int (nI (u58 3 0)), .int (nI (u58 4 0)), .int (nI (u58 5 0))])), (Th, .inl (cI, 180, .inl (nF (TS 0))))] H := ⟨hP, hD⟩
              exact en_v hx hb hr hlk hP hD hS u58 [0, 1] (by decide) rfl (Nat.le_of_ble_eq_true rfl) (Nat.le_of_ble_eq_true rfl) dX3_step_177 (by have ee : tkE0 (TS 0) (RS 1 0) (tkS (TS 0) (RS 1 0) (RS 2 0)) = j := (by rw [hk]; unfold tkE0; rw [if_neg (by omega), if_pos (by omega)]; exact he); exact ⟨w61, w63.trans hk.symm, w62.trans ee.symm, (by rw [ee, hk, w64]; unfold tkK; rw [if_neg (show ¬ RS 1 0 ≤ k by omega)]; exact (Classical.em (2 < j - k ∨ (j - k = 2 ∧ TS 0 k = 48))).elim (fun q => by rw [if_pos q, if_pos ⟨by omega, q⟩]) (fun q => by rw [if_neg q, if_neg (fun z => q z.2)])), (by rw [ee, hk, w65]; unfold tkV; rw [if_neg (show ¬ RS 1 0 ≤ k by omega), if_neg (show ¬ srtN (TS 0 k) = 1 by omega)]; exact (Classical.em (2 < j - k ∨ (j - k = 2 ∧ TS 0 k = 48))).elim (fun q => by rw [if_pos q, if_neg (fun z => z.2 q)]) (fun q => by rw [if_neg q, if_pos ⟨by omega, q⟩]))⟩)
            · skip
              refine lv_aload_n hx hb dX3_step_140 rfl (lv_at hl 0 rfl) ?_
              refine lv_dup hx hb dX3_step_141 rfl ?_
              refine va_get (D := D) (ci := 3) (v := .int (nI j)) (C := RX3) (T := TX3) (N := 6) hx hb hts in_X3_step_3 hown hK.1 hP 0 rfl rfl 2 (by decide) (hts (.fieldLink RX3 19 "ChildCoins$Reader" "at" "I") (List.mem_of_getElem? (i := 1) rfl)) (fun _ h9 => h9) rfl dX3_step_142 ?_
              refine lv_iconst (v := nI 1) hx hb dX3_step_145 (by decide) ?_
              refine lv_iadd hx hb dX3_step_146 ?_
              refine set_i (y := nI (j + 1)) (nI_add j 1) ?_
              refine va_put (D := D) (ci := 3) (v := .int (nI (j + 1))) (ty := tyX3 2) (C := RX3) (T := TX3) (N := 6) hx hb hts in_X3_step_3 tyX3 tyX3_ok nmX3 hown hK.1 hP hD hS 0 rfl rfl 2 (by decide) (hts (.fieldLink RX3 19 "ChildCoins$Reader" "at" "I") (List.mem_of_getElem? (i := 1) rfl)) (fun _ h9 => h9) rfl (tyX3_ok 2 (by decide)) rfl rfl (Nat.le_of_ble_eq_true rfl) dX3_step_147 (fun H locs hP hD hS => ?_)
              obtain ⟨hP, hD⟩ : wPD D A [(Rh, .inr (3, [.ref Th, .int (nI (RS 1 0)), .int (nI (j + 1)), .int (nI k), .int (nI (srtN (TS 0 k))), .int (nI 0)])), (Th, .inl (cI, 180, .inl (nF (TS 0))))] H := ⟨hP, hD⟩
              refine lv_goto (tgt := 110) hx hb dX3_step_150 (by decide) ?_
              exact ih_j (j + 1) ⟨(onN_s (q := (srt (TS 0) (srtN (TS 0 k)))) hq39 (decide_eq_true hq55)).symm.trans i1, by omega, by omega, fun x q1 q2 => by rcases (show x < j ∨ x = j by omega) with q | q; exact i4 x q1 q; rw [q]; exact hq55⟩ (by omega) _ _ _ hP hD hS (lv_sub hl [0] rfl)
    · skip
      refine lv_aload_n hx hb dX3_step_62 rfl (lv_at hl 0 rfl) ?_
      refine lv_iconst (v := nI 0) hx hb dX3_step_63 (by decide) ?_
      refine va_put (D := D) (ci := 3) (v := .int (nI 0)) (ty := tyX3 4) (C := RX3) (T := TX3) (N := 6) hx hb hts in_X3_step_3 tyX3 tyX3_ok nmX3 hown hK.1 hP hD hS 0 rfl rfl 4 (by decide) (hts (.fieldLink RX3 25 "ChildCoins$Reader" "token" "I") (List.mem_of_getElem? (i := 6) rfl)) (fun _ h9 => h9) rfl (tyX3_ok 4 (by decide)) rfl rfl (Nat.le_of_ble_eq_true rfl) dX3_step_64 (fun H locs hP hD hS => ?_)
      obtain ⟨hP, hD⟩ : wPD D A [(Rh, .inr (3, [.ref Th, .int (nI (RS 1 0)), .int (nI k), .int (nI k), .int (nI 0), .int (nI 0)])), (Th, .inl (cI, 180, .inl (nF (TS 0))))] H := ⟨hP, hD⟩
      exact en_v hx hb hr hlk hP hD hS (ua (ua (ua (ua RS 2 (fun _ => k)) 3 (fun _ => k)) 4 (fun _ => 0)) 5 (fun _ => 0)) [0, 1] (by decide) rfl (Nat.le_of_ble_eq_true rfl) (Nat.le_of_ble_eq_true rfl) dX3_step_67 ⟨rfl, hk.symm, (by rw [hk]; unfold tkE0; rw [if_pos (by omega)]; try rfl), (by rw [hk]; unfold tkK; rw [if_pos (by omega)]; try rfl), (by rw [hk]; unfold tkV; rw [if_pos (by omega)]; try rfl)⟩
  · skip
    refine lv_aload_n hx hb dX3_step_11 rfl (lv_at hl 0 rfl) ?_
    refine va_get (D := D) (ci := 3) (v := .ref Th) (C := RX3) (T := TX3) (N := 6) hx hb hts in_X3_step_3 hown hK.1 hP 0 rfl rfl 0 (by decide) (hts (.fieldLink RX3 9 "ChildCoins$Reader" "bytes" "[I") (List.mem_of_getElem? (i := 3) rfl)) (fun _ h9 => h9) rfl dX3_step_12 ?_
    refine lv_aload_n hx hb dX3_step_15 rfl (lv_at hl 0 rfl) ?_
    refine va_get (D := D) (ci := 3) (v := .int (nI k)) (C := RX3) (T := TX3) (N := 6) hx hb hts in_X3_step_3 hown hK.1 hP 0 rfl rfl 2 (by decide) (hts (.fieldLink RX3 19 "ChildCoins$Reader" "at" "I") (List.mem_of_getElem? (i := 1) rfl)) (fun _ h9 => h9) rfl dX3_step_16 ?_
    refine va_iald hx hb hK.1 hP 1 0 rfl rfl (vp_in_nI (n := k) (N := 180) (by omega) (by decide)) dX3_step_19 ?_
    refine set_i (y := nI (TS 0 k)) (nF_ld (by omega)) ?_
    have b66 := bt k
    refine lv_bipush (v := nI 32) hx hb dX3_step_20 (by decide) ?_
    refine nb_icmp_ne (tgt := 38) hx hb dX3_step_22 (by decide) (by omega) (by omega) (fun hq67 => ?_) (fun hq67 => ?_)
    · skip
      have hk : tkS (TS 0) (RS 1 0) (RS 2 0) = k := hI_k.1.symm.trans (onN_e (fun q => hq67 (of_decide_eq_true q.2)))
      have bk := hI_k.2.2
      refine lv_aload_n hx hb dX3_step_38 rfl (lv_at hl 0 rfl) ?_
      refine lv_aload_n hx hb dX3_step_39 rfl (lv_at hl 0 rfl) ?_
      refine va_get (D := D) (ci := 3) (v := .int (nI k)) (C := RX3) (T := TX3) (N := 6) hx hb hts in_X3_step_3 hown hK.1 hP 0 rfl rfl 2 (by decide) (hts (.fieldLink RX3 19 "ChildCoins$Reader" "at" "I") (List.mem_of_getElem? (i := 1) rfl)) (fun _ h9 => h9) rfl dX3_step_40 ?_
      refine va_put (D := D) (ci := 3) (v := .int (nI k)) (ty := tyX3 3) (C := RX3) (T := TX3) (N := 6) hx hb hts in_X3_step_3 tyX3 tyX3_ok nmX3 hown hK.1 hP hD hS 0 rfl rfl 3 (by decide) (hts (.fieldLink RX3 22 "ChildCoins$Reader" "start" "I") (List.mem_of_getElem? (i := 4) rfl)) (fun _ h9 => h9) rfl (tyX3_ok 3 (by decide)) rfl rfl (Nat.le_of_ble_eq_true rfl) dX3_step_43 (fun H locs hP hD hS => ?_)
      obtain ⟨hP, hD⟩ : wPD D A [(Rh, .inr (3, [.ref Th, .int (nI (RS 1 0)), .int (nI k), .int (nI k), .int (nI (RS 4 0)), .int (nI (RS 5 0))])), (Th, .inl (cI, 180, .inl (nF (TS 0))))] H := ⟨hP, hD⟩
      refine lv_aload_n hx hb dX3_step_46 rfl (lv_at hl 0 rfl) ?_
      refine lv_iconst (v := nI 0) hx hb dX3_step_47 (by decide) ?_
      refine va_put (D := D) (ci := 3) (v := .int (nI 0)) (ty := tyX3 5) (C := RX3) (T := TX3) (N := 6) hx hb hts in_X3_step_3 tyX3 tyX3_ok nmX3 hown hK.1 hP hD hS 0 rfl rfl 5 (by decide) (hts (.fieldLink RX3 28 "ChildCoins$Reader" "value" "I") (List.mem_of_getElem? (i := 5) rfl)) (fun _ h9 => h9) rfl (tyX3_ok 5 (by decide)) rfl rfl (Nat.le_of_ble_eq_true rfl) dX3_step_48 (fun H locs hP hD hS => ?_)
      obtain ⟨hP, hD⟩ : wPD D A [(Rh, .inr (3, [.ref Th, .int (nI (RS 1 0)), .int (nI k), .int (nI k), .int (nI (RS 4 0)), .int (nI 0)])), (Th, .inl (cI, 180, .inl (nF (TS 0))))] H := ⟨hP, hD⟩
      refine lv_aload_n hx hb dX3_step_51 rfl (lv_at hl 0 rfl) ?_
      refine va_get (D := D) (ci := 3) (v := .int (nI k)) (C := RX3) (T := TX3) (N := 6) hx hb hts in_X3_step_3 hown hK.1 hP 0 rfl rfl 2 (by decide) (hts (.fieldLink RX3 19 "ChildCoins$Reader" "at" "I") (List.mem_of_getElem? (i := 1) rfl)) (fun _ h9 => h9) rfl dX3_step_52 ?_
      refine lv_aload_n hx hb dX3_step_55 rfl (lv_at hl 0 rfl) ?_
      refine va_get (D := D) (ci := 3) (v := .int (nI (RS 1 0))) (C := RX3) (T := TX3) (N := 6) hx hb hts in_X3_step_3 hown hK.1 hP 0 rfl rfl 1 (by decide) (hts (.fieldLink RX3 15 "ChildCoins$Reader" "length" "I") (List.mem_of_getElem? (i := 2) rfl)) (fun _ h9 => h9) rfl dX3_step_56 ?_
      refine nb_icmp_lt (tgt := 68) hx hb dX3_step_59 (by decide) (by omega) (by omega) (fun hq68 => ?_) (fun hq68 => ?_)
      · skip
        refine lv_aload_n hx hb dX3_step_68 rfl (lv_at hl 0 rfl) ?_
        refine lv_aload_n hx hb dX3_step_69 rfl (lv_at hl 0 rfl) ?_
        refine va_get (D := D) (ci := 3) (v := .ref Th) (C := RX3) (T := TX3) (N := 6) hx hb hts in_X3_step_3 hown hK.1 hP 0 rfl rfl 0 (by decide) (hts (.fieldLink RX3 9 "ChildCoins$Reader" "bytes" "[I") (List.mem_of_getElem? (i := 3) rfl)) (fun _ h9 => h9) rfl dX3_step_70 ?_
        refine lv_aload_n hx hb dX3_step_73 rfl (lv_at hl 0 rfl) ?_
        refine va_get (D := D) (ci := 3) (v := .int (nI k)) (C := RX3) (T := TX3) (N := 6) hx hb hts in_X3_step_3 hown hK.1 hP 0 rfl rfl 2 (by decide) (hts (.fieldLink RX3 19 "ChildCoins$Reader" "at" "I") (List.mem_of_getElem? (i := 1) rfl)) (fun _ h9 => h9) rfl dX3_step_74 ?_
        refine va_iald hx hb hK.1 hP 1 0 rfl rfl (vp_in_nI (n := k) (N := 180) (by omega) (by decide)) dX3_step_77 ?_
        refine set_i (y := nI (TS 0 k)) (nF_ld (by omega)) ?_
        have b69 := bt k
        refine be_i0 (ru_S (As := [.int (nI (TS 0 k))]) (rest := [.ref Rh]) ⟨hx, hb, hml, hown, hts⟩ (g_sortOf l D cI cB cZ cN (TS 0 k) (hT _) H.size) ggX3_step_X3_sortOf rfl (hts (.initialized RX3) (List.mem_of_getElem? (i := 9) rfl)) (hts (.methodLink RX3 109 yX3_sortOf) (List.mem_of_getElem? (i := 7) rfl)) (hts (.static yX3_sortOf) (List.mem_of_getElem? (i := 8) rfl)) ⟨by decide, by decide, (show Option.map (fun d => d.parameters.length) (parseMethodDescriptor yX3_sortOf.desc) = some 1 by decide +kernel)⟩ ⟨Nat.le_of_ble_eq_true rfl, Nat.le_of_ble_eq_true rfl⟩ hK hP hD [] (by decide) rfl hl.1 rfl (Nat.le_of_ble_eq_true rfl) dX3_step_78 ⟨Nat.le_of_ble_eq_true rfl, Nat.le_of_ble_eq_true rfl⟩) hP hD hS hA [] rfl (fun r71 u70 H locs w72 hP hS => ?_)
        obtain rfl : r71 = nI (srtN (TS 0 k)) := w72
        have b73 := srtN_le (TS 0 k)
        refine va_put (D := D) (ci := 3) (v := .int (nI (srtN (TS 0 k)))) (ty := tyX3 4) (C := RX3) (T := TX3) (N := 6) hx hb hts in_X3_step_3 tyX3 tyX3_ok nmX3 hown hK.1 hP hD hS 0 rfl rfl 4 (by decide) (hts (.fieldLink RX3 25 "ChildCoins$Reader" "token" "I") (List.mem_of_getElem? (i := 6) rfl)) (fun _ h9 => h9) rfl (tyX3_ok 4 (by decide)) rfl rfl (Nat.le_of_ble_eq_true rfl) dX3_step_81 (fun H locs hP hD hS => ?_)
        obtain ⟨hP, hD⟩ : wPD D A [(Rh, .inr (3, [.ref Th, .int (nI (RS 1 0)), .int (nI k), .int (nI k), .int (nI (srtN (TS 0 k))), .int (nI 0)])), (Th, .inl (cI, 180, .inl (nF (TS 0))))] H := ⟨hP, hD⟩
        refine lv_aload_n hx hb dX3_step_84 rfl (lv_at hl 0 rfl) ?_
        refine lv_dup hx hb dX3_step_85 rfl ?_
        refine va_get (D := D) (ci := 3) (v := .int (nI k)) (C := RX3) (T := TX3) (N := 6) hx hb hts in_X3_step_3 hown hK.1 hP 0 rfl rfl 2 (by decide) (hts (.fieldLink RX3 19 "ChildCoins$Reader" "at" "I") (List.mem_of_getElem? (i := 1) rfl)) (fun _ h9 => h9) rfl dX3_step_86 ?_
        refine lv_iconst (v := nI 1) hx hb dX3_step_89 (by decide) ?_
        refine lv_iadd hx hb dX3_step_90 ?_
        refine set_i (y := nI (k + 1)) (nI_add k 1) ?_
        refine va_put (D := D) (ci := 3) (v := .int (nI (k + 1))) (ty := tyX3 2) (C := RX3) (T := TX3) (N := 6) hx hb hts in_X3_step_3 tyX3 tyX3_ok nmX3 hown hK.1 hP hD hS 0 rfl rfl 2 (by decide) (hts (.fieldLink RX3 19 "ChildCoins$Reader" "at" "I") (List.mem_of_getElem? (i := 1) rfl)) (fun _ h9 => h9) rfl (tyX3_ok 2 (by decide)) rfl rfl (Nat.le_of_ble_eq_true rfl) dX3_step_91 (fun H locs hP hD hS => ?_)
        obtain ⟨hP, hD⟩ : wPD D A [(Rh, .inr (3, [.ref Th, .int (nI (RS 1 0)), .int (nI (k + 1)), .int (nI k), .int (nI (srtN (TS 0 k))), .int (nI 0)])), (Th, .inl (cI, 180, .inl (nF (TS 0))))] H := ⟨hP, hD⟩
        refine lv_aload_n hx hb dX3_step_94 rfl (lv_at hl 0 rfl) ?_
        refine va_get (D := D) (ci := 3) (v := .int (nI (srtN (TS 0 k)))) (C := RX3) (T := TX3) (N := 6) hx hb hts in_X3_step_3 hown hK.1 hP 0 rfl rfl 4 (by decide) (hts (.fieldLink RX3 25 "ChildCoins$Reader" "token" "I") (List.mem_of_getElem? (i := 6) rfl)) (fun _ h9 => h9) rfl dX3_step_95 ?_
        refine lv_iconst (v := nI 1) hx hb dX3_step_98 (by decide) ?_
        refine nb_icmp_eq (tgt := 110) hx hb dX3_step_99 (by decide) (by omega) (by omega) (fun hq74 => ?_) (fun hq74 => ?_)
        · skip
          refine whileS (σ := Nat) (D := D) (A := A) (fun j => onN (srt (TS 0) (srtN (TS 0 k))) (RS 1 0) j = onN (srt (TS 0) (srtN (TS 0 k))) (RS 1 0) (k + 1) ∧ k + 1 ≤ j ∧ j ≤ RS 1 0 ∧ ∀ x, k ≤ x → x < j → srtN (TS 0 x) = srtN (TS 0 k)) (fun j => RS 1 0 - j) (fun j => [(Rh, .inr (3, [.ref Th, .int (nI (RS 1 0)), .int (nI j), .int (nI k), .int (nI (srtN (TS 0 k))), .int (nI 0)])), (Th, .inl (cI, 180, .inl (nF (TS 0))))]) (fun j => [(0, .ref Rh)]) 110 1 ?_ (k + 1) ⟨rfl, Nat.le_refl _, (by omega), fun x q1 q2 => by rw [show x = k by omega]⟩ _ _ ls hP hD hS (lv_sub hl [0] rfl)
          intro j hI_j ih_j H locs ls hP hD hS hl
          have hl : lv_has ls 1 [(0, .ref Rh)] := hl
          obtain ⟨i1, i2, i3, i4⟩ := hI_j
          refine lv_aload_n hx hb dX3_step_110 rfl (lv_at hl 0 rfl) ?_
          obtain ⟨hP, hD⟩ : wPD D A [(Rh, .inr (3, [.ref Th, .int (nI (RS 1 0)), .int (nI j), .int (nI k), .int (nI (srtN (TS 0 k))), .int (nI 0)])), (Th, .inl (cI, 180, .inl (nF (TS 0))))] H := ⟨hP, hD⟩
          refine va_get (D := D) (ci := 3) (v := .int (nI j)) (C := RX3) (T := TX3) (N := 6) hx hb hts in_X3_step_3 hown hK.1 hP 0 rfl rfl 2 (by decide) (hts (.fieldLink RX3 19 "ChildCoins$Reader" "at" "I") (List.mem_of_getElem? (i := 1) rfl)) (fun _ h9 => h9) rfl dX3_step_111 ?_
          refine lv_aload_n hx hb dX3_step_114 rfl (lv_at hl 0 rfl) ?_
          refine va_get (D := D) (ci := 3) (v := .int (nI (RS 1 0))) (C := RX3) (T := TX3) (N := 6) hx hb hts in_X3_step_3 hown hK.1 hP 0 rfl rfl 1 (by decide) (hts (.fieldLink RX3 15 "ChildCoins$Reader" "length" "I") (List.mem_of_getElem? (i := 2) rfl)) (fun _ h9 => h9) rfl dX3_step_115 ?_
          refine nb_icmp_ge (tgt := 153) hx hb dX3_step_118 (by decide) (by omega) (by omega) (fun hq75 => ?_) (fun hq75 => ?_)
          · skip
            have he : onN (srt (TS 0) (srtN (TS 0 k))) (RS 1 0) (k + 1) = j := i1.symm.trans (onN_e (fun q => absurd q.1 (by omega)))
            refine lv_aload_n hx hb dX3_step_153 rfl (lv_at hl 0 rfl) ?_
            refine va_get (D := D) (ci := 3) (v := .int (nI (srtN (TS 0 k)))) (C := RX3) (T := TX3) (N := 6) hx hb hts in_X3_step_3 hown hK.1 hP 0 rfl rfl 4 (by decide) (hts (.fieldLink RX3 25 "ChildCoins$Reader" "token" "I") (List.mem_of_getElem? (i := 6) rfl)) (fun _ h9 => h9) rfl dX3_step_154 ?_
            refine lv_iconst (v := nI 1) hx hb dX3_step_157 (by decide) ?_
            refine nb_icmp_ne (tgt := 165) hx hb dX3_step_158 (by decide) (by omega) (by omega) (fun hq76 => absurd hq76 (by omega)) (fun hq76 => ?_)
            refine lv_aload_n hx hb dX3_step_161 rfl (lv_at hl 0 rfl) ?_
            refine be_v (free := fun _ => False) (wr := []) (ru_V (As := []) (rest := []) ⟨hx, hb, hml, hown, hts⟩ (g_weighLetters l D cI cB cZ cN Rh (ua (ua (ua (ua RS 2 (fun _ => j)) 3 (fun _ => k)) 4 (fun _ => srtN (TS 0 k))) 5 (fun _ => 0)) Th TS hT (show k ≤ j by omega) (show k < 180 by omega) (show j ≤ 180 by omega) H.size) gX3_step_X3_weighLetters rfl ⟨rfl, by decide, by decide, (show Option.map (fun d => d.parameters.length) (parseMethodDescriptor yX3_weighLetters.desc) = some 0 by decide +kernel)⟩ ⟨Nat.le_of_ble_eq_true rfl, Nat.le_of_ble_eq_true rfl⟩ hK hP hD 3 0 rfl rfl [0, 1] (by decide) rfl hl.1 rfl (Nat.le_of_ble_eq_true rfl) dX3_step_162 ⟨Nat.le_of_ble_eq_true rfl, Nat.le_of_ble_eq_true rfl⟩) hP hD hS hA [0, 1] [] rfl rfl (by decide) (by decide) (fun u77 H locs w79 hP hD hS => ?_)
            obtain ⟨w80, w81, w82, w83, w84⟩ := w79
            have w80 : u77 1 0 = RS 1 0 := w80
            have w81 : u77 2 0 = j := w81
            have w82 : u77 3 0 = k := w82
            have w83 : u77 4 0 = srtN (TS 0 k) := w83
            have w84 : u77 5 0 = (if j - k = 1 then TS 0 k else 0) := w84
            obtain ⟨hP, hD⟩ : wPD D A [(Rh, .inr (3, [.ref Th, .int (nI (u77 1 0)), .int (nI (u77 2 0)), .int (nI (u77 3 0)), .int (nI (u77 4 0)), .int (nI (u77 5 0))])), (Th, .inl (cI, 180, .inl (nF (TS 0))))] H := ⟨hP, hD⟩
            refine lv_aload_n hx hb dX3_step_165 rfl (lv_at hl 0 rfl) ?_
            refine va_get (D := D) (ci := 3) (v := .int (nI (u77 4 0))) (C := RX3) (T := TX3) (N := 6) hx hb hts in_X3_step_3 hown hK.1 hP 0 rfl rfl 4 (by decide) (hts (.fieldLink RX3 25 "ChildCoins$Reader" "token" "I") (List.mem_of_getElem? (i := 6) rfl)) (fun _ h9 => h9) rfl dX3_step_166 ?_
            refine lv_iconst (v := nI 2) hx hb dX3_step_169 (by decide) ?_
            refine nb_icmp_ne (tgt := 177) hx hb dX3_step_170 (by decide) (by omega) (by omega) (fun hq85 => ?_) (fun hq85 => absurd hq85 (by omega))
            exact en_v hx hb hr hlk hP hD hS u77 [0, 1] (by decide) rfl (Nat.le_of_ble_eq_true rfl) (Nat.le_of_ble_eq_true rfl) dX3_step_177 (by have ee : tkE0 (TS 0) (RS 1 0) (tkS (TS 0) (RS 1 0) (RS 2 0)) = j := (by rw [hk]; unfold tkE0; rw [if_neg (by omega), if_pos (by omega)]; exact he); exact ⟨w80, w82.trans hk.symm, w81.trans ee.symm, (by rw [ee, hk, w83]; unfold tkK; rw [if_neg (show ¬ RS 1 0 ≤ k by omega), if_neg (show ¬ (srtN (TS 0 k) = 2 ∧ (2 < j - k ∨ (j - k = 2 ∧ TS 0 k = 48))) by omega)]), (by rw [ee, hk, w84]; unfold tkV; rw [if_neg (show ¬ RS 1 0 ≤ k by omega), if_pos (show srtN (TS 0 k) = 1 by omega)])⟩)
          · skip
            refine lv_aload_n hx hb dX3_step_121 rfl (lv_at hl 0 rfl) ?_
            refine va_get (D := D) (ci := 3) (v := .ref Th) (C := RX3) (T := TX3) (N := 6) hx hb hts in_X3_step_3 hown hK.1 hP 0 rfl rfl 0 (by decide) (hts (.fieldLink RX3 9 "ChildCoins$Reader" "bytes" "[I") (List.mem_of_getElem? (i := 3) rfl)) (fun _ h9 => h9) rfl dX3_step_122 ?_
            refine lv_aload_n hx hb dX3_step_125 rfl (lv_at hl 0 rfl) ?_
            refine va_get (D := D) (ci := 3) (v := .int (nI j)) (C := RX3) (T := TX3) (N := 6) hx hb hts in_X3_step_3 hown hK.1 hP 0 rfl rfl 2 (by decide) (hts (.fieldLink RX3 19 "ChildCoins$Reader" "at" "I") (List.mem_of_getElem? (i := 1) rfl)) (fun _ h9 => h9) rfl dX3_step_126 ?_
            refine va_iald hx hb hK.1 hP 1 0 rfl rfl (vp_in_nI (n := j) (N := 180) (by omega) (by decide)) dX3_step_129 ?_
            refine set_i (y := nI (TS 0 j)) (nF_ld (by omega)) ?_
            have b86 := bt j
            refine be_i0 (ru_S (As := [.int (nI (TS 0 j))]) (rest := []) ⟨hx, hb, hml, hown, hts⟩ (g_sortOf l D cI cB cZ cN (TS 0 j) (hT _) H.size) ggX3_step_X3_sortOf rfl (hts (.initialized RX3) (List.mem_of_getElem? (i := 9) rfl)) (hts (.methodLink RX3 109 yX3_sortOf) (List.mem_of_getElem? (i := 7) rfl)) (hts (.static yX3_sortOf) (List.mem_of_getElem? (i := 8) rfl)) ⟨by decide, by decide, (show Option.map (fun d => d.parameters.length) (parseMethodDescriptor yX3_sortOf.desc) = some 1 by decide +kernel)⟩ ⟨Nat.le_of_ble_eq_true rfl, Nat.le_of_ble_eq_true rfl⟩ hK hP hD [] (by decide) rfl hl.1 rfl (Nat.le_of_ble_eq_true rfl) dX3_step_130 ⟨Nat.le_of_ble_eq_true rfl, Nat.le_of_ble_eq_true rfl⟩) hP hD hS hA [] rfl (fun r88 u87 H locs w89 hP hS => ?_)
            obtain rfl : r88 = nI (srtN (TS 0 j)) := w89
            have b90 := srtN_le (TS 0 j)
            refine lv_aload_n hx hb dX3_step_133 rfl (lv_at hl 0 rfl) ?_
            refine va_get (D := D) (ci := 3) (v := .int (nI (srtN (TS 0 k)))) (C := RX3) (T := TX3) (N := 6) hx hb hts in_X3_step_3 hown hK.1 hP 0 rfl rfl 4 (by decide) (hts (.fieldLink RX3 25 "ChildCoins$Reader" "token" "I") (List.mem_of_getElem? (i := 6) rfl)) (fun _ h9 => h9) rfl dX3_step_134 ?_
            refine nb_icmp_ne (tgt := 153) hx hb dX3_step_137 (by decide) (by omega) (by omega) (fun hq91 => ?_) (fun hq91 => ?_)
            · skip
              have he : onN (srt (TS 0) (srtN (TS 0 k))) (RS 1 0) (k + 1) = j := i1.symm.trans (onN_e (fun q => hq91 (of_decide_eq_true q.2)))
              refine lv_aload_n hx hb dX3_step_153 rfl (lv_at hl 0 rfl) ?_
              refine va_get (D := D) (ci := 3) (v := .int (nI (srtN (TS 0 k)))) (C := RX3) (T := TX3) (N := 6) hx hb hts in_X3_step_3 hown hK.1 hP 0 rfl rfl 4 (by decide) (hts (.fieldLink RX3 25 "ChildCoins$Reader" "token" "I") (List.mem_of_getElem? (i := 6) rfl)) (fun _ h9 => h9) rfl dX3_step_154 ?_
              refine lv_iconst (v := nI 1) hx hb dX3_step_157 (by decide) ?_
              refine nb_icmp_ne (tgt := 165) hx hb dX3_step_158 (by decide) (by omega) (by omega) (fun hq92 => absurd hq92 (by omega)) (fun hq92 => ?_)
              refine lv_aload_n hx hb dX3_step_161 rfl (lv_at hl 0 rfl) ?_
              refine be_v (free := fun _ => False) (wr := []) (ru_V (As := []) (rest := []) ⟨hx, hb, hml, hown, hts⟩ (g_weighLetters l D cI cB cZ cN Rh (ua (ua (ua (ua RS 2 (fun _ => j)) 3 (fun _ => k)) 4 (fun _ => srtN (TS 0 k))) 5 (fun _ => 0)) Th TS hT (show k ≤ j by omega) (show k < 180 by omega) (show j ≤ 180 by omega) H.size) gX3_step_X3_weighLetters rfl ⟨rfl, by decide, by decide, (show Option.map (fun d => d.parameters.length) (parseMethodDescriptor yX3_weighLetters.desc) = some 0 by decide +kernel)⟩ ⟨Nat.le_of_ble_eq_true rfl, Nat.le_of_ble_eq_true rfl⟩ hK hP hD 3 0 rfl rfl [0, 1] (by decide) rfl hl.1 rfl (Nat.le_of_ble_eq_true rfl) dX3_step_162 ⟨Nat.le_of_ble_eq_true rfl, Nat.le_of_ble_eq_true rfl⟩) hP hD hS hA [0, 1] [] rfl rfl (by decide) (by decide) (fun u93 H locs w95 hP hD hS => ?_)
              obtain ⟨w96, w97, w98, w99, w100⟩ := w95
              have w96 : u93 1 0 = RS 1 0 := w96
              have w97 : u93 2 0 = j := w97
              have w98 : u93 3 0 = k := w98
              have w99 : u93 4 0 = srtN (TS 0 k) := w99
              have w100 : u93 5 0 = (if j - k = 1 then TS 0 k else 0) := w100
              obtain ⟨hP, hD⟩ : wPD D A [(Rh, .inr (3, [.ref Th, .int (nI (u93 1 0)), .int (nI (u93 2 0)), .int (nI (u93 3 0)), .int (nI (u93 4 0)), .int (nI (u93 5 0))])), (Th, .inl (cI, 180, .inl (nF (TS 0))))] H := ⟨hP, hD⟩
              refine lv_aload_n hx hb dX3_step_165 rfl (lv_at hl 0 rfl) ?_
              refine va_get (D := D) (ci := 3) (v := .int (nI (u93 4 0))) (C := RX3) (T := TX3) (N := 6) hx hb hts in_X3_step_3 hown hK.1 hP 0 rfl rfl 4 (by decide) (hts (.fieldLink RX3 25 "ChildCoins$Reader" "token" "I") (List.mem_of_getElem? (i := 6) rfl)) (fun _ h9 => h9) rfl dX3_step_166 ?_
              refine lv_iconst (v := nI 2) hx hb dX3_step_169 (by decide) ?_
              refine nb_icmp_ne (tgt := 177) hx hb dX3_step_170 (by decide) (by omega) (by omega) (fun hq101 => ?_) (fun hq101 => absurd hq101 (by omega))
              exact en_v hx hb hr hlk hP hD hS u93 [0, 1] (by decide) rfl (Nat.le_of_ble_eq_true rfl) (Nat.le_of_ble_eq_true rfl) dX3_step_177 (by have ee : tkE0 (TS 0) (RS 1 0) (tkS (TS 0) (RS 1 0) (RS 2 0)) = j := (by rw [hk]; unfold tkE0; rw [if_neg (by omega), if_pos (by omega)]; exact he); exact ⟨w96, w98.trans hk.symm, w97.trans ee.symm, (by rw [ee, hk, w99]; unfold tkK; rw [if_neg (show ¬ RS 1 0 ≤ k by omega), if_neg (show ¬ (srtN (TS 0 k) = 2 ∧ (2 < j - k ∨ (j - k = 2 ∧ TS 0 k = 48))) by omega)]), (by rw [ee, hk, w100]; unfold tkV; rw [if_neg (show ¬ RS 1 0 ≤ k by omega), if_pos (show srtN (TS 0 k) = 1 by omega)])⟩)
            · skip
              refine lv_aload_n hx hb dX3_step_140 rfl (lv_at hl 0 rfl) ?_
              refine lv_dup hx hb dX3_step_141 rfl ?_
              refine va_get (D := D) (ci := 3) (v := .int (nI j)) (C := RX3) (T := TX3) (N := 6) hx hb hts in_X3_step_3 hown hK.1 hP 0 rfl rfl 2 (by decide) (hts (.fieldLink RX3 19 "ChildCoins$Reader" "at" "I") (List.mem_of_getElem? (i := 1) rfl)) (fun _ h9 => h9) rfl dX3_step_142 ?_
              refine lv_iconst (v := nI 1) hx hb dX3_step_145 (by decide) ?_
              refine lv_iadd hx hb dX3_step_146 ?_
              refine set_i (y := nI (j + 1)) (nI_add j 1) ?_
              refine va_put (D := D) (ci := 3) (v := .int (nI (j + 1))) (ty := tyX3 2) (C := RX3) (T := TX3) (N := 6) hx hb hts in_X3_step_3 tyX3 tyX3_ok nmX3 hown hK.1 hP hD hS 0 rfl rfl 2 (by decide) (hts (.fieldLink RX3 19 "ChildCoins$Reader" "at" "I") (List.mem_of_getElem? (i := 1) rfl)) (fun _ h9 => h9) rfl (tyX3_ok 2 (by decide)) rfl rfl (Nat.le_of_ble_eq_true rfl) dX3_step_147 (fun H locs hP hD hS => ?_)
              obtain ⟨hP, hD⟩ : wPD D A [(Rh, .inr (3, [.ref Th, .int (nI (RS 1 0)), .int (nI (j + 1)), .int (nI k), .int (nI (srtN (TS 0 k))), .int (nI 0)])), (Th, .inl (cI, 180, .inl (nF (TS 0))))] H := ⟨hP, hD⟩
              refine lv_goto (tgt := 110) hx hb dX3_step_150 (by decide) ?_
              exact ih_j (j + 1) ⟨(onN_s (q := (srt (TS 0) (srtN (TS 0 k)))) hq75 (decide_eq_true hq91)).symm.trans i1, by omega, by omega, fun x q1 q2 => by rcases (show x < j ∨ x = j by omega) with q | q; exact i4 x q1 q; rw [q]; exact hq91⟩ (by omega) _ _ _ hP hD hS (lv_sub hl [0] rfl)
        · skip
          refine lv_aload_n hx hb dX3_step_102 rfl (lv_at hl 0 rfl) ?_
          refine va_get (D := D) (ci := 3) (v := .int (nI (srtN (TS 0 k)))) (C := RX3) (T := TX3) (N := 6) hx hb hts in_X3_step_3 hown hK.1 hP 0 rfl rfl 4 (by decide) (hts (.fieldLink RX3 25 "ChildCoins$Reader" "token" "I") (List.mem_of_getElem? (i := 6) rfl)) (fun _ h9 => h9) rfl dX3_step_103 ?_
          refine lv_iconst (v := nI 2) hx hb dX3_step_106 (by decide) ?_
          refine nb_icmp_ne (tgt := 153) hx hb dX3_step_107 (by decide) (by omega) (by omega) (fun hq102 => ?_) (fun hq102 => ?_)
          · skip
            refine lv_aload_n hx hb dX3_step_153 rfl (lv_at hl 0 rfl) ?_
            refine va_get (D := D) (ci := 3) (v := .int (nI (srtN (TS 0 k)))) (C := RX3) (T := TX3) (N := 6) hx hb hts in_X3_step_3 hown hK.1 hP 0 rfl rfl 4 (by decide) (hts (.fieldLink RX3 25 "ChildCoins$Reader" "token" "I") (List.mem_of_getElem? (i := 6) rfl)) (fun _ h9 => h9) rfl dX3_step_154 ?_
            refine lv_iconst (v := nI 1) hx hb dX3_step_157 (by decide) ?_
            refine nb_icmp_ne (tgt := 165) hx hb dX3_step_158 (by decide) (by omega) (by omega) (fun hq103 => ?_) (fun hq103 => absurd hq103 (by omega))
            refine lv_aload_n hx hb dX3_step_165 rfl (lv_at hl 0 rfl) ?_
            refine va_get (D := D) (ci := 3) (v := .int (nI (srtN (TS 0 k)))) (C := RX3) (T := TX3) (N := 6) hx hb hts in_X3_step_3 hown hK.1 hP 0 rfl rfl 4 (by decide) (hts (.fieldLink RX3 25 "ChildCoins$Reader" "token" "I") (List.mem_of_getElem? (i := 6) rfl)) (fun _ h9 => h9) rfl dX3_step_166 ?_
            refine lv_iconst (v := nI 2) hx hb dX3_step_169 (by decide) ?_
            refine nb_icmp_ne (tgt := 177) hx hb dX3_step_170 (by decide) (by omega) (by omega) (fun hq104 => ?_) (fun hq104 => absurd hq104 (by omega))
            exact en_v hx hb hr hlk hP hD hS (ua (ua (ua (ua RS 2 (fun _ => k + 1)) 3 (fun _ => k)) 4 (fun _ => srtN (TS 0 k))) 5 (fun _ => 0)) [0, 1] (by decide) rfl (Nat.le_of_ble_eq_true rfl) (Nat.le_of_ble_eq_true rfl) dX3_step_177 ⟨rfl, hk.symm, (by rw [hk]; unfold tkE0; rw [if_neg (by omega), if_neg (by omega)]; try rfl), (by rw [hk]; unfold tkK; rw [if_neg (by omega), if_neg (by omega)]; try rfl), (by rw [hk]; unfold tkV; rw [if_neg (by omega), if_neg (by omega), if_neg (by omega)]; try rfl)⟩
          · skip
            refine whileS (σ := Nat) (D := D) (A := A) (fun j => onN (srt (TS 0) (srtN (TS 0 k))) (RS 1 0) j = onN (srt (TS 0) (srtN (TS 0 k))) (RS 1 0) (k + 1) ∧ k + 1 ≤ j ∧ j ≤ RS 1 0 ∧ ∀ x, k ≤ x → x < j → srtN (TS 0 x) = srtN (TS 0 k)) (fun j => RS 1 0 - j) (fun j => [(Rh, .inr (3, [.ref Th, .int (nI (RS 1 0)), .int (nI j), .int (nI k), .int (nI (srtN (TS 0 k))), .int (nI 0)])), (Th, .inl (cI, 180, .inl (nF (TS 0))))]) (fun j => [(0, .ref Rh)]) 110 1 ?_ (k + 1) ⟨rfl, Nat.le_refl _, (by omega), fun x q1 q2 => by rw [show x = k by omega]⟩ _ _ ls hP hD hS (lv_sub hl [0] rfl)
            intro j hI_j ih_j H locs ls hP hD hS hl
            have hl : lv_has ls 1 [(0, .ref Rh)] := hl
            obtain ⟨i1, i2, i3, i4⟩ := hI_j
            refine lv_aload_n hx hb dX3_step_110 rfl (lv_at hl 0 rfl) ?_
            obtain ⟨hP, hD⟩ : wPD D A [(Rh, .inr (3, [.ref Th, .int (nI (RS 1 0)), .int (nI j), .int (nI k), .int (nI (srtN (TS 0 k))), .int (nI 0)])), (Th, .inl (cI, 180, .inl (nF (TS 0))))] H := ⟨hP, hD⟩
            refine va_get (D := D) (ci := 3) (v := .int (nI j)) (C := RX3) (T := TX3) (N := 6) hx hb hts in_X3_step_3 hown hK.1 hP 0 rfl rfl 2 (by decide) (hts (.fieldLink RX3 19 "ChildCoins$Reader" "at" "I") (List.mem_of_getElem? (i := 1) rfl)) (fun _ h9 => h9) rfl dX3_step_111 ?_
            refine lv_aload_n hx hb dX3_step_114 rfl (lv_at hl 0 rfl) ?_
            refine va_get (D := D) (ci := 3) (v := .int (nI (RS 1 0))) (C := RX3) (T := TX3) (N := 6) hx hb hts in_X3_step_3 hown hK.1 hP 0 rfl rfl 1 (by decide) (hts (.fieldLink RX3 15 "ChildCoins$Reader" "length" "I") (List.mem_of_getElem? (i := 2) rfl)) (fun _ h9 => h9) rfl dX3_step_115 ?_
            refine nb_icmp_ge (tgt := 153) hx hb dX3_step_118 (by decide) (by omega) (by omega) (fun hq105 => ?_) (fun hq105 => ?_)
            · skip
              have he : onN (srt (TS 0) (srtN (TS 0 k))) (RS 1 0) (k + 1) = j := i1.symm.trans (onN_e (fun q => absurd q.1 (by omega)))
              refine lv_aload_n hx hb dX3_step_153 rfl (lv_at hl 0 rfl) ?_
              refine va_get (D := D) (ci := 3) (v := .int (nI (srtN (TS 0 k)))) (C := RX3) (T := TX3) (N := 6) hx hb hts in_X3_step_3 hown hK.1 hP 0 rfl rfl 4 (by decide) (hts (.fieldLink RX3 25 "ChildCoins$Reader" "token" "I") (List.mem_of_getElem? (i := 6) rfl)) (fun _ h9 => h9) rfl dX3_step_154 ?_
              refine lv_iconst (v := nI 1) hx hb dX3_step_157 (by decide) ?_
              refine nb_icmp_ne (tgt := 165) hx hb dX3_step_158 (by decide) (by omega) (by omega) (fun hq106 => ?_) (fun hq106 => absurd hq106 (by omega))
              refine lv_aload_n hx hb dX3_step_165 rfl (lv_at hl 0 rfl) ?_
              refine va_get (D := D) (ci := 3) (v := .int (nI (srtN (TS 0 k)))) (C := RX3) (T := TX3) (N := 6) hx hb hts in_X3_step_3 hown hK.1 hP 0 rfl rfl 4 (by decide) (hts (.fieldLink RX3 25 "ChildCoins$Reader" "token" "I") (List.mem_of_getElem? (i := 6) rfl)) (fun _ h9 => h9) rfl dX3_step_166 ?_
              refine lv_iconst (v := nI 2) hx hb dX3_step_169 (by decide) ?_
              refine nb_icmp_ne (tgt := 177) hx hb dX3_step_170 (by decide) (by omega) (by omega) (fun hq107 => absurd hq107 (by omega)) (fun hq107 => ?_)
              refine lv_aload_n hx hb dX3_step_173 rfl (lv_at hl 0 rfl) ?_
              refine be_v (free := fun _ => False) (wr := []) (ru_V (As := []) (rest := []) ⟨hx, hb, hml, hown, hts⟩ (g_weighNumber l D cI cB cZ cN Rh (ua (ua (ua (ua RS 2 (fun _ => j)) 3 (fun _ => k)) 4 (fun _ => srtN (TS 0 k))) 5 (fun _ => 0)) Th TS hT (show k ≤ j by omega) (show k < 180 by omega) (show j ≤ 180 by omega) rfl (fun x q1 q2 => srt_2 ((i4 x q1 q2).trans (by omega))) H.size) gX3_step_X3_weighNumber rfl ⟨rfl, by decide, by decide, (show Option.map (fun d => d.parameters.length) (parseMethodDescriptor yX3_weighNumber.desc) = some 0 by decide +kernel)⟩ ⟨Nat.le_of_ble_eq_true rfl, Nat.le_of_ble_eq_true rfl⟩ hK hP hD 3 0 rfl rfl [0, 1] (by decide) rfl hl.1 rfl (Nat.le_of_ble_eq_true rfl) dX3_step_174 ⟨Nat.le_of_ble_eq_true rfl, Nat.le_of_ble_eq_true rfl⟩) hP hD hS hA [0, 1] [] rfl rfl (by decide) (by decide) (fun u108 H locs w110 hP hD hS => ?_)
              obtain ⟨w111, w112, w113, w114, w115⟩ := w110
              have w111 : u108 1 0 = RS 1 0 := w111
              have w112 : u108 2 0 = j := w112
              have w113 : u108 3 0 = k := w113
              have w114 : u108 4 0 = (if (2 < j - k ∨ (j - k = 2 ∧ TS 0 k = 48)) then 4 else srtN (TS 0 k)) := w114
              have w115 : u108 5 0 = (if (2 < j - k ∨ (j - k = 2 ∧ TS 0 k = 48)) then 0 else numN (TS 0) k (j - k)) := w115
              obtain ⟨hP, hD⟩ : wPD D A [(Rh, .inr (3, [.ref Th, .int (nI (u108 1 0)), .int (nI (u108 2 0)), .int (nI (u108 3 0)), .int (nI (u108 4 0)), .int (nI (u108 5 0))])), (Th, .inl (cI, 180, .inl (nF (TS 0))))] H := ⟨hP, hD⟩
              exact en_v hx hb hr hlk hP hD hS u108 [0, 1] (by decide) rfl (Nat.le_of_ble_eq_true rfl) (Nat.le_of_ble_eq_true rfl) dX3_step_177 (by have ee : tkE0 (TS 0) (RS 1 0) (tkS (TS 0) (RS 1 0) (RS 2 0)) = j := (by rw [hk]; unfold tkE0; rw [if_neg (by omega), if_pos (by omega)]; exact he); exact ⟨w111, w113.trans hk.symm, w112.trans ee.symm, (by rw [ee, hk, w114]; unfold tkK; rw [if_neg (show ¬ RS 1 0 ≤ k by omega)]; exact (Classical.em (2 < j - k ∨ (j - k = 2 ∧ TS 0 k = 48))).elim (fun q => by rw [if_pos q, if_pos ⟨by omega, q⟩]) (fun q => by rw [if_neg q, if_neg (fun z => q z.2)])), (by rw [ee, hk, w115]; unfold tkV; rw [if_neg (show ¬ RS 1 0 ≤ k by omega), if_neg (show ¬ srtN (TS 0 k) = 1 by omega)]; exact (Classical.em (2 < j - k ∨ (j - k = 2 ∧ TS 0 k = 48))).elim (fun q => by rw [if_pos q, if_neg (fun z => z.2 q)]) (fun q => by rw [if_neg q, if_pos ⟨by omega, q⟩]))⟩)
            · skip
              refine lv_aload_n hx hb dX3_step_121 rfl (lv_at hl 0 rfl) ?_
              refine va_get (D := D) (ci := 3) (v := .ref Th) (C := RX3) (T := TX3) (N := 6) hx hb hts in_X3_step_3 hown hK.1 hP 0 rfl rfl 0 (by decide) (hts (.fieldLink RX3 9 "ChildCoins$Reader" "bytes" "[I") (List.mem_of_getElem? (i := 3) rfl)) (fun _ h9 => h9) rfl dX3_step_122 ?_
              refine lv_aload_n hx hb dX3_step_125 rfl (lv_at hl 0 rfl) ?_
              refine va_get (D := D) (ci := 3) (v := .int (nI j)) (C := RX3) (T := TX3) (N := 6) hx hb hts in_X3_step_3 hown hK.1 hP 0 rfl rfl 2 (by decide) (hts (.fieldLink RX3 19 "ChildCoins$Reader" "at" "I") (List.mem_of_getElem? (i := 1) rfl)) (fun _ h9 => h9) rfl dX3_step_126 ?_
              refine va_iald hx hb hK.1 hP 1 0 rfl rfl (vp_in_nI (n := j) (N := 180) (by omega) (by decide)) dX3_step_129 ?_
              refine set_i (y := nI (TS 0 j)) (nF_ld (by omega)) ?_
              have b116 := bt j
              refine be_i0 (ru_S (As := [.int (nI (TS 0 j))]) (rest := []) ⟨hx, hb, hml, hown, hts⟩ (g_sortOf l D cI cB cZ cN (TS 0 j) (hT _) H.size) ggX3_step_X3_sortOf rfl (hts (.initialized RX3) (List.mem_of_getElem? (i := 9) rfl)) (hts (.methodLink RX3 109 yX3_sortOf) (List.mem_of_getElem? (i := 7) rfl)) (hts (.static yX3_sortOf) (List.mem_of_getElem? (i := 8) rfl)) ⟨by decide, by decide, (show Option.map (fun d => d.parameters.length) (parseMethodDescriptor yX3_sortOf.desc) = some 1 by decide +kernel)⟩ ⟨Nat.le_of_ble_eq_true rfl, Nat.le_of_ble_eq_true rfl⟩ hK hP hD [] (by decide) rfl hl.1 rfl (Nat.le_of_ble_eq_true rfl) dX3_step_130 ⟨Nat.le_of_ble_eq_true rfl, Nat.le_of_ble_eq_true rfl⟩) hP hD hS hA [] rfl (fun r118 u117 H locs w119 hP hS => ?_)
              obtain rfl : r118 = nI (srtN (TS 0 j)) := w119
              have b120 := srtN_le (TS 0 j)
              refine lv_aload_n hx hb dX3_step_133 rfl (lv_at hl 0 rfl) ?_
              refine va_get (D := D) (ci := 3) (v := .int (nI (srtN (TS 0 k)))) (C := RX3) (T := TX3) (N := 6) hx hb hts in_X3_step_3 hown hK.1 hP 0 rfl rfl 4 (by decide) (hts (.fieldLink RX3 25 "ChildCoins$Reader" "token" "I") (List.mem_of_getElem? (i := 6) rfl)) (fun _ h9 => h9) rfl dX3_step_134 ?_
              refine nb_icmp_ne (tgt := 153) hx hb dX3_step_137 (by decide) (by omega) (by omega) (fun hq121 => ?_) (fun hq121 => ?_)
              · skip
                have he : onN (srt (TS 0) (srtN (TS 0 k))) (RS 1 0) (k + 1) = j := i1.symm.trans (onN_e (fun q => hq121 (of_decide_eq_true q.2)))
                refine lv_aload_n hx hb dX3_step_153 rfl (lv_at hl 0 rfl) ?_
                refine va_get (D := D) (ci := 3) (v := .int (nI (srtN (TS 0 k)))) (C := RX3) (T := TX3) (N := 6) hx hb hts in_X3_step_3 hown hK.1 hP 0 rfl rfl 4 (by decide) (hts (.fieldLink RX3 25 "ChildCoins$Reader" "token" "I") (List.mem_of_getElem? (i := 6) rfl)) (fun _ h9 => h9) rfl dX3_step_154 ?_
                refine lv_iconst (v := nI 1) hx hb dX3_step_157 (by decide) ?_
                refine nb_icmp_ne (tgt := 165) hx hb dX3_step_158 (by decide) (by omega) (by omega) (fun hq122 => ?_) (fun hq122 => absurd hq122 (by omega))
                refine lv_aload_n hx hb dX3_step_165 rfl (lv_at hl 0 rfl) ?_
                refine va_get (D := D) (ci := 3) (v := .int (nI (srtN (TS 0 k)))) (C := RX3) (T := TX3) (N := 6) hx hb hts in_X3_step_3 hown hK.1 hP 0 rfl rfl 4 (by decide) (hts (.fieldLink RX3 25 "ChildCoins$Reader" "token" "I") (List.mem_of_getElem? (i := 6) rfl)) (fun _ h9 => h9) rfl dX3_step_166 ?_
                refine lv_iconst (v := nI 2) hx hb dX3_step_169 (by decide) ?_
                refine nb_icmp_ne (tgt := 177) hx hb dX3_step_170 (by decide) (by omega) (by omega) (fun hq123 => absurd hq123 (by omega)) (fun hq123 => ?_)
                refine lv_aload_n hx hb dX3_step_173 rfl (lv_at hl 0 rfl) ?_
                refine be_v (free := fun _ => False) (wr := []) (ru_V (As := []) (rest := []) ⟨hx, hb, hml, hown, hts⟩ (g_weighNumber l D cI cB cZ cN Rh (ua (ua (ua (ua RS 2 (fun _ => j)) 3 (fun _ => k)) 4 (fun _ => srtN (TS 0 k))) 5 (fun _ => 0)) Th TS hT (show k ≤ j by omega) (show k < 180 by omega) (show j ≤ 180 by omega) rfl (fun x q1 q2 => srt_2 ((i4 x q1 q2).trans (by omega))) H.size) gX3_step_X3_weighNumber rfl ⟨rfl, by decide, by decide, (show Option.map (fun d => d.parameters.length) (parseMethodDescriptor yX3_weighNumber.desc) = some 0 by decide +kernel)⟩ ⟨Nat.le_of_ble_eq_true rfl, Nat.le_of_ble_eq_true rfl⟩ hK hP hD 3 0 rfl rfl [0, 1] (by decide) rfl hl.1 rfl (Nat.le_of_ble_eq_true rfl) dX3_step_174 ⟨Nat.le_of_ble_eq_true rfl, Nat.le_of_ble_eq_true rfl⟩) hP hD hS hA [0, 1] [] rfl rfl (by decide) (by decide) (fun u124 H locs w126 hP hD hS => ?_)
                obtain ⟨w127, w128, w129, w130, w131⟩ := w126
                have w127 : u124 1 0 = RS 1 0 := w127
                have w128 : u124 2 0 = j := w128
                have w129 : u124 3 0 = k := w129
                have w130 : u124 4 0 = (if (2 < j - k ∨ (j - k = 2 ∧ TS 0 k = 48)) then 4 else srtN (TS 0 k)) := w130
                have w131 : u124 5 0 = (if (2 < j - k ∨ (j - k = 2 ∧ TS 0 k = 48)) then 0 else numN (TS 0) k (j - k)) := w131
                obtain ⟨hP, hD⟩ : wPD D A [(Rh, .inr (3, [.ref Th, .int (nI (u124 1 0)), .int (nI (u124 2 0)), .int (nI (u124 3 0)), .int (nI (u124 4 0)), .int (nI (u124 5 0))])), (Th, .inl (cI, 180, .inl (nF (TS 0))))] H := ⟨hP, hD⟩
                exact en_v hx hb hr hlk hP hD hS u124 [0, 1] (by decide) rfl (Nat.le_of_ble_eq_true rfl) (Nat.le_of_ble_eq_true rfl) dX3_step_177 (by have ee : tkE0 (TS 0) (RS 1 0) (tkS (TS 0) (RS 1 0) (RS 2 0)) = j := (by rw [hk]; unfold tkE0; rw [if_neg (by omega), if_pos (by omega)]; exact he); exact ⟨w127, w129.trans hk.symm, w128.trans ee.symm, (by rw [ee, hk, w130]; unfold tkK; rw [if_neg (show ¬ RS 1 0 ≤ k by omega)]; exact (Classical.em (2 < j - k ∨ (j - k = 2 ∧ TS 0 k = 48))).elim (fun q => by rw [if_pos q, if_pos ⟨by omega, q⟩]) (fun q => by rw [if_neg q, if_neg (fun z => q z.2)])), (by rw [ee, hk, w131]; unfold tkV; rw [if_neg (show ¬ RS 1 0 ≤ k by omega), if_neg (show ¬ srtN (TS 0 k) = 1 by omega)]; exact (Classical.em (2 < j - k ∨ (j - k = 2 ∧ TS 0 k = 48))).elim (fun q => by rw [if_pos q, if_neg (fun z => z.2 q)]) (fun q => by rw [if_neg q, if_pos ⟨by omega, q⟩]))⟩)
              · skip
                refine lv_aload_n hx hb dX3_step_140 rfl (lv_at hl 0 rfl) ?_
                refine lv_dup hx hb dX3_step_141 rfl ?_
                refine va_get (D := D) (ci := 3) (v := .int (nI j)) (C := RX3) (T := TX3) (N := 6) hx hb hts in_X3_step_3 hown hK.1 hP 0 rfl rfl 2 (by decide) (hts (.fieldLink RX3 19 "ChildCoins$Reader" "at" "I") (List.mem_of_getElem? (i := 1) rfl)) (fun _ h9 => h9) rfl dX3_step_142 ?_
                refine lv_iconst (v := nI 1) hx hb dX3_step_145 (by decide) ?_
                refine lv_iadd hx hb dX3_step_146 ?_
                refine set_i (y := nI (j + 1)) (nI_add j 1) ?_
                refine va_put (D := D) (ci := 3) (v := .int (nI (j + 1))) (ty := tyX3 2) (C := RX3) (T := TX3) (N := 6) hx hb hts in_X3_step_3 tyX3 tyX3_ok nmX3 hown hK.1 hP hD hS 0 rfl rfl 2 (by decide) (hts (.fieldLink RX3 19 "ChildCoins$Reader" "at" "I") (List.mem_of_getElem? (i := 1) rfl)) (fun _ h9 => h9) rfl (tyX3_ok 2 (by decide)) rfl rfl (Nat.le_of_ble_eq_true rfl) dX3_step_147 (fun H locs hP hD hS => ?_)
                obtain ⟨hP, hD⟩ : wPD D A [(Rh, .inr (3, [.ref Th, .int (nI (RS 1 0)), .int (nI (j + 1)), .int (nI k), .int (nI (srtN (TS 0 k))), .int (nI 0)])), (Th, .inl (cI, 180, .inl (nF (TS 0))))] H := ⟨hP, hD⟩
                refine lv_goto (tgt := 110) hx hb dX3_step_150 (by decide) ?_
                exact ih_j (j + 1) ⟨(onN_s (q := (srt (TS 0) (srtN (TS 0 k)))) hq105 (decide_eq_true hq121)).symm.trans i1, by omega, by omega, fun x q1 q2 => by rcases (show x < j ∨ x = j by omega) with q | q; exact i4 x q1 q; rw [q]; exact hq121⟩ (by omega) _ _ _ hP hD hS (lv_sub hl [0] rfl)
      · skip
        refine lv_aload_n hx hb dX3_step_62 rfl (lv_at hl 0 rfl) ?_
        refine lv_iconst (v := nI 0) hx hb dX3_step_63 (by decide) ?_
        refine va_put (D := D) (ci := 3) (v := .int (nI 0)) (ty := tyX3 4) (C := RX3) (T := TX3) (N := 6) hx hb hts in_X3_step_3 tyX3 tyX3_ok nmX3 hown hK.1 hP hD hS 0 rfl rfl 4 (by decide) (hts (.fieldLink RX3 25 "ChildCoins$Reader" "token" "I") (List.mem_of_getElem? (i := 6) rfl)) (fun _ h9 => h9) rfl (tyX3_ok 4 (by decide)) rfl rfl (Nat.le_of_ble_eq_true rfl) dX3_step_64 (fun H locs hP hD hS => ?_)
        obtain ⟨hP, hD⟩ : wPD D A [(Rh, .inr (3, [.ref Th, .int (nI (RS 1 0)), .int (nI k), .int (nI k), .int (nI 0), .int (nI 0)])), (Th, .inl (cI, 180, .inl (nF (TS 0))))] H := ⟨hP, hD⟩
        exact en_v hx hb hr hlk hP hD hS (ua (ua (ua (ua RS 2 (fun _ => k)) 3 (fun _ => k)) 4 (fun _ => 0)) 5 (fun _ => 0)) [0, 1] (by decide) rfl (Nat.le_of_ble_eq_true rfl) (Nat.le_of_ble_eq_true rfl) dX3_step_67 ⟨rfl, hk.symm, (by rw [hk]; unfold tkE0; rw [if_pos (by omega)]; try rfl), (by rw [hk]; unfold tkK; rw [if_pos (by omega)]; try rfl), (by rw [hk]; unfold tkV; rw [if_pos (by omega)]; try rfl)⟩
    · skip
      refine lv_aload_n hx hb dX3_step_25 rfl (lv_at hl 0 rfl) ?_
      refine lv_dup hx hb dX3_step_26 rfl ?_
      refine va_get (D := D) (ci := 3) (v := .int (nI k)) (C := RX3) (T := TX3) (N := 6) hx hb hts in_X3_step_3 hown hK.1 hP 0 rfl rfl 2 (by decide) (hts (.fieldLink RX3 19 "ChildCoins$Reader" "at" "I") (List.mem_of_getElem? (i := 1) rfl)) (fun _ h9 => h9) rfl dX3_step_27 ?_
      refine lv_iconst (v := nI 1) hx hb dX3_step_30 (by decide) ?_
      refine lv_iadd hx hb dX3_step_31 ?_
      refine set_i (y := nI (k + 1)) (nI_add k 1) ?_
      refine va_put (D := D) (ci := 3) (v := .int (nI (k + 1))) (ty := tyX3 2) (C := RX3) (T := TX3) (N := 6) hx hb hts in_X3_step_3 tyX3 tyX3_ok nmX3 hown hK.1 hP hD hS 0 rfl rfl 2 (by decide) (hts (.fieldLink RX3 19 "ChildCoins$Reader" "at" "I") (List.mem_of_getElem? (i := 1) rfl)) (fun _ h9 => h9) rfl (tyX3_ok 2 (by decide)) rfl rfl (Nat.le_of_ble_eq_true rfl) dX3_step_32 (fun H locs hP hD hS => ?_)
      obtain ⟨hP, hD⟩ : wPD D A [(Rh, .inr (3, [.ref Th, .int (nI (RS 1 0)), .int (nI (k + 1)), .int (nI (RS 3 0)), .int (nI (RS 4 0)), .int (nI (RS 5 0))])), (Th, .inl (cI, 180, .inl (nF (TS 0))))] H := ⟨hP, hD⟩
      refine lv_goto (tgt := 0) hx hb dX3_step_35 (by decide) ?_
      exact ih_k (k + 1) ⟨(onN_s (q := blk (TS 0)) hq1 (decide_eq_true hq67)).symm.trans hI_k.1, by omega, by omega⟩ (by omega) _ _ _ hP hD hS (lv_sub hl [0] rfl)
