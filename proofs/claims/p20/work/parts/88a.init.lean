set_option maxRecDepth 20000 in
theorem dAX0_init : decA cX0_init [(0, .aload_n 0, 1), (1, .invokespecial 3, 3), (4, .aload_n 0, 1), (5, .iconst 0, 1), (6, .putfield 9, 3), (9, .aload_n 0, 1), (10, .bipush 6, 2), (12, .newarray .int, 2), (14, .putfield 15, 3), (17, .aload_n 0, 1), (18, .bipush 6, 2), (20, .newarray .int, 2), (22, .putfield 19, 3), (25, .aload_n 0, 1), (26, .iconst 0, 1), (27, .putfield 22, 3), (30, .aload_n 0, 1), (31, .iconst 5, 1), (32, .newarray .int, 2), (34, .putfield 25, 3), (37, .aload_n 0, 1), (38, .bipush 30, 2), (40, .newarray .int, 2), (42, .putfield 28, 3), (45, .aload_n 0, 1), (46, .iconst 0, 1), (47, .putfield 31, 3), (50, .aload_n 0, 1), (51, .iconst 5, 1), (52, .newarray .int, 2), (54, .putfield 34, 3), (57, .aload_n 0, 1), (58, .iconst 5, 1), (59, .newarray .int, 2), (61, .putfield 37, 3), (64, .aload_n 0, 1), (65, .iconst 5, 1), (66, .newarray .int, 2), (68, .putfield 40, 3), (71, .aload_n 0, 1), (72, .bipush 9, 2), (74, .putfield 43, 3), (77, .aload_n 0, 1), (78, .iconst 0, 1), (79, .putfield 46, 3), (82, .return_, 1)] = true := by decide +kernel
theorem dX0_init_0 : decode cX0_init 0 = .ok (.aload_n 0, 1) := decA_get dAX0_init 0 rfl
theorem dX0_init_1 : decode cX0_init 1 = .ok (.invokespecial 3, 3) := decA_get dAX0_init 1 rfl
theorem dX0_init_4 : decode cX0_init 4 = .ok (.aload_n 0, 1) := decA_get dAX0_init 2 rfl
theorem dX0_init_5 : decode cX0_init 5 = .ok (.iconst 0, 1) := decA_get dAX0_init 3 rfl
theorem dX0_init_6 : decode cX0_init 6 = .ok (.putfield 9, 3) := decA_get dAX0_init 4 rfl
theorem in_X0_init_0 : ∀ w ∈ wsX00, w ∈ wsX0_init := fun w h => (gd_ids wi_X0_init wm_X0_init wi_X00 (by decide +kernel) w h).1
theorem dX0_init_9 : decode cX0_init 9 = .ok (.aload_n 0, 1) := decA_get dAX0_init 5 rfl
theorem dX0_init_10 : decode cX0_init 10 = .ok (.bipush 6, 2) := decA_get dAX0_init 6 rfl
theorem dX0_init_12 : decode cX0_init 12 = .ok (.newarray .int, 2) := decA_get dAX0_init 7 rfl
theorem dX0_init_14 : decode cX0_init 14 = .ok (.putfield 15, 3) := decA_get dAX0_init 8 rfl
theorem dX0_init_17 : decode cX0_init 17 = .ok (.aload_n 0, 1) := decA_get dAX0_init 9 rfl
theorem dX0_init_18 : decode cX0_init 18 = .ok (.bipush 6, 2) := decA_get dAX0_init 10 rfl
theorem dX0_init_20 : decode cX0_init 20 = .ok (.newarray .int, 2) := decA_get dAX0_init 11 rfl
theorem dX0_init_22 : decode cX0_init 22 = .ok (.putfield 19, 3) := decA_get dAX0_init 12 rfl
theorem dX0_init_25 : decode cX0_init 25 = .ok (.aload_n 0, 1) := decA_get dAX0_init 13 rfl
theorem dX0_init_26 : decode cX0_init 26 = .ok (.iconst 0, 1) := decA_get dAX0_init 14 rfl
theorem dX0_init_27 : decode cX0_init 27 = .ok (.putfield 22, 3) := decA_get dAX0_init 15 rfl
theorem dX0_init_30 : decode cX0_init 30 = .ok (.aload_n 0, 1) := decA_get dAX0_init 16 rfl
theorem dX0_init_31 : decode cX0_init 31 = .ok (.iconst 5, 1) := decA_get dAX0_init 17 rfl
theorem dX0_init_32 : decode cX0_init 32 = .ok (.newarray .int, 2) := decA_get dAX0_init 18 rfl
theorem dX0_init_34 : decode cX0_init 34 = .ok (.putfield 25, 3) := decA_get dAX0_init 19 rfl
theorem dX0_init_37 : decode cX0_init 37 = .ok (.aload_n 0, 1) := decA_get dAX0_init 20 rfl
theorem dX0_init_38 : decode cX0_init 38 = .ok (.bipush 30, 2) := decA_get dAX0_init 21 rfl
theorem dX0_init_40 : decode cX0_init 40 = .ok (.newarray .int, 2) := decA_get dAX0_init 22 rfl
theorem dX0_init_42 : decode cX0_init 42 = .ok (.putfield 28, 3) := decA_get dAX0_init 23 rfl
theorem dX0_init_45 : decode cX0_init 45 = .ok (.aload_n 0, 1) := decA_get dAX0_init 24 rfl
theorem dX0_init_46 : decode cX0_init 46 = .ok (.iconst 0, 1) := decA_get dAX0_init 25 rfl
theorem dX0_init_47 : decode cX0_init 47 = .ok (.putfield 31, 3) := decA_get dAX0_init 26 rfl
theorem dX0_init_50 : decode cX0_init 50 = .ok (.aload_n 0, 1) := decA_get dAX0_init 27 rfl
theorem dX0_init_51 : decode cX0_init 51 = .ok (.iconst 5, 1) := decA_get dAX0_init 28 rfl
theorem dX0_init_52 : decode cX0_init 52 = .ok (.newarray .int, 2) := decA_get dAX0_init 29 rfl
theorem dX0_init_54 : decode cX0_init 54 = .ok (.putfield 34, 3) := decA_get dAX0_init 30 rfl
theorem dX0_init_57 : decode cX0_init 57 = .ok (.aload_n 0, 1) := decA_get dAX0_init 31 rfl
theorem dX0_init_58 : decode cX0_init 58 = .ok (.iconst 5, 1) := decA_get dAX0_init 32 rfl
theorem dX0_init_59 : decode cX0_init 59 = .ok (.newarray .int, 2) := decA_get dAX0_init 33 rfl
theorem dX0_init_61 : decode cX0_init 61 = .ok (.putfield 37, 3) := decA_get dAX0_init 34 rfl
theorem dX0_init_64 : decode cX0_init 64 = .ok (.aload_n 0, 1) := decA_get dAX0_init 35 rfl
theorem dX0_init_65 : decode cX0_init 65 = .ok (.iconst 5, 1) := decA_get dAX0_init 36 rfl
theorem dX0_init_66 : decode cX0_init 66 = .ok (.newarray .int, 2) := decA_get dAX0_init 37 rfl
theorem dX0_init_68 : decode cX0_init 68 = .ok (.putfield 40, 3) := decA_get dAX0_init 38 rfl
theorem dX0_init_71 : decode cX0_init 71 = .ok (.aload_n 0, 1) := decA_get dAX0_init 39 rfl
theorem dX0_init_72 : decode cX0_init 72 = .ok (.bipush 9, 2) := decA_get dAX0_init 40 rfl
theorem dX0_init_74 : decode cX0_init 74 = .ok (.putfield 43, 3) := decA_get dAX0_init 41 rfl
theorem dX0_init_77 : decode cX0_init 77 = .ok (.aload_n 0, 1) := decA_get dAX0_init 42 rfl
theorem dX0_init_78 : decode cX0_init 78 = .ok (.iconst 0, 1) := decA_get dAX0_init 43 rfl
theorem dX0_init_79 : decode cX0_init 79 = .ok (.putfield 46, 3) := decA_get dAX0_init 44 rfl
theorem dX0_init_82 : decode cX0_init 82 = .ok (.return_, 1) := decA_get dAX0_init 45 rfl
set_option maxHeartbeats 4000000 in
set_option maxRecDepth 100000 in
theorem c_Land_init (l : Launch) (D : va_G) (cI cB cZ cN : ClassId) (h0 : Nat)  : Cv (S := (Nat → Nat)) l D cI cB cZ cN yX0_init wsX0_init ({ frames := 1, cells := 7, slots := 62, locals := 20 } : Room) [.ref h0] [(h0, .inr (0, [.int 0, .null, .null, .int 0, .null, .null, .int 0, .null, .null, .null, .int 0, .int 0]))] (fun _ => True) (fun u => [(h0, .inr (0, [.int 0, .ref (u 0), .ref (u 1), .int 0, .ref (u 2), .ref (u 3), .int 0, .ref (u 4), .ref (u 5), .ref (u 6), .int 9, .int 0])), ((u 0), .inl (cI, 6, .inl zf)), ((u 1), .inl (cI, 6, .inl zf)), ((u 2), .inl (cI, 5, .inl zf)), ((u 3), .inl (cI, 30, .inl zf)), ((u 4), .inl (cI, 5, .inl zf)), ((u 5), .inl (cI, 5, .inl zf)), ((u 6), .inl (cI, 5, .inl zf))]) := by
  refine bx_of (D := D) (cI := cI) (cB := cB) (cZ := cZ) (cN := cN) (y := yX0_init) (wd := wsX0_init) (rm := ({ frames := 1, cells := 7, slots := 62, locals := 20 } : Room)) (av := [.ref h0]) (wc := [(h0, .inr (0, [.int 0, .null, .null, .int 0, .null, .null, .int 0, .null, .null, .null, .int 0, .int 0]))]) (cc := cX0_init) (maxL := 1) (ret := none) (Qc := fun _ A => va_Qv (S := (Nat → Nat)) (fun _ => True) (Aft D (fun (u : (Nat → Nat)) => [(h0, .inr (0, [.int 0, .ref (u 0), .ref (u 1), .int 0, .ref (u 2), .ref (u 3), .int 0, .ref (u 4), .ref (u 5), .ref (u 6), .int 9, .int 0])), ((u 0), .inl (cI, 6, .inl zf)), ((u 1), .inl (cI, 6, .inl zf)), ((u 2), .inl (cI, 5, .inl zf)), ((u 3), .inl (cI, 30, .inl zf)), ((u 4), .inl (cI, 5, .inl zf)), ((u 5), .inl (cI, 5, .inl zf)), ((u 6), .inl (cI, 5, .inl zf))]) A) A) (by decide) rfl (Nat.le_of_ble_eq_true rfl) ?_
  intro p e s m below meth c A H locs ⟨hx, hb, hr, hml, hown, hts, hlk, hnm⟩ hK hP hD hS hA ls hl
  have hl : lv_has ls 1 [(0, .ref h0)] := hl
  have hown : s.vm.findClass RX0 = some m.cls := hown
  refine lv_aload_n hx hb dX0_init_0 rfl (lv_at hl 0 rfl) ?_
  refine W.objInit hx hb hown (hts (.methodLink RX0 3 objectInit) (List.mem_of_getElem? (i := 1) rfl)) (hts (.instanceMethod objectInit) (List.mem_of_getElem? (i := 2) rfl)) (hts (.code objectInit ⟨#[0xb1]⟩ 1 none) (List.mem_of_getElem? (i := 3) rfl)) rfl (by rw [hml]; exact hl.1) rfl dX0_init_1 (Nat.le_of_ble_eq_true rfl) (Nat.le_of_ble_eq_true rfl) ?_
  refine lv_aload_n hx hb dX0_init_4 rfl (lv_at hl 0 rfl) ?_
  refine lv_iconst (v := 0) hx hb dX0_init_5 (by decide) ?_
  refine va_put (D := D) (ci := 0) (v := .int 0) (ty := tyX0 0) (C := RX0) (T := TX0) (N := 12) hx hb hts in_X0_init_0 tyX0 tyX0_ok nmX0 hown hK.1 hP hD hS 0 rfl rfl 0 (by decide) (hts (.fieldLink RX0 9 "ChildCoins$Land" "coins" "I") (List.mem_of_getElem? (i := 4) rfl)) (fun _ h9 => h9) rfl (tyX0_ok 0 (by decide)) rfl rfl (Nat.le_of_ble_eq_true rfl) dX0_init_6 (fun H locs hP hD hS => ?_)
  have hP : va_P D vwCl [(h0, .inr (0, [.int 0, .null, .null, .int 0, .null, .null, .int 0, .null, .null, .null, .int 0, .int 0]))] H := hP
  have hD : va_D A [(h0, .inr (0, [.int 0, .null, .null, .int 0, .null, .null, .int 0, .null, .null, .null, .int 0, .int 0]))] := hD
  refine lv_aload_n hx hb dX0_init_9 rfl (lv_at hl 0 rfl) ?_
  refine lv_bipush (v := 6) hx hb dX0_init_10 (by decide) ?_
  refine nw_a (atype := .int) (ty := .int) (cA := cI) (a0 := (6, .inl zf)) hx hb (hts (.arrayClass .int) (List.mem_of_getElem? (i := 5) rfl)) rfl hK 0 rfl (fun C h => by cases h) hP hD hS hA (fun _ => rfl) (k := 6) (by decide) (N' := 6) (by rfl) (by decide) (Nat.le_of_ble_eq_true (by rfl)) (Nat.le_of_ble_eq_true (by rfl)) dX0_init_12 (fun q1 H hP hD hS => ?_)
  have hP : va_P D vwCl [(h0, .inr (0, [.int 0, .null, .null, .int 0, .null, .null, .int 0, .null, .null, .null, .int 0, .int 0])), (q1, .inl (cI, 6, .inl zf))] H := hP
  have hD : va_D A [(h0, .inr (0, [.int 0, .null, .null, .int 0, .null, .null, .int 0, .null, .null, .null, .int 0, .int 0])), (q1, .inl (cI, 6, .inl zf))] := hD
  refine W.widen (k := 1) (n := 6) (Nat.le_of_ble_eq_true rfl) (Nat.le_of_ble_eq_true rfl) ?_
  refine va_putF (D := D) (ci := 0) (v := .ref q1) (ty := tyX0 1) (C := RX0) (T := TX0) (N := 12) hx hb hts in_X0_init_0 tyX0 tyX0_ok nmX0 hown hK.1 hP hD hS 0 rfl rfl 1 (by decide) (hts (.fieldLink RX0 15 "ChildCoins$Land" "struck" "[I") (List.mem_of_getElem? (i := 6) rfl)) (fun _ h9 => h9) rfl hnm rfl (tyX0_ok 1 (by decide)) rfl rfl (Nat.le_of_ble_eq_true rfl) dX0_init_14 (fun H locs hP hD hS => ?_)
  have hP : va_P D vwCl [(h0, .inr (0, [.int 0, .ref q1, .null, .int 0, .null, .null, .int 0, .null, .null, .null, .int 0, .int 0])), (q1, .inl (cI, 6, .inl zf))] H := hP
  have hD : va_D A [(h0, .inr (0, [.int 0, .ref q1, .null, .int 0, .null, .null, .int 0, .null, .null, .null, .int 0, .int 0])), (q1, .inl (cI, 6, .inl zf))] := hD
  refine lv_aload_n hx hb dX0_init_17 rfl (lv_at hl 0 rfl) ?_
  refine lv_bipush (v := 6) hx hb dX0_init_18 (by decide) ?_
  refine nw_a (atype := .int) (ty := .int) (cA := cI) (a0 := (6, .inl zf)) hx hb (hts (.arrayClass .int) (List.mem_of_getElem? (i := 5) rfl)) rfl hK 0 rfl (fun C h => by cases h) hP hD hS hA (fun _ => rfl) (k := 6) (by decide) (N' := 6) (by rfl) (by decide) (Nat.le_of_ble_eq_true (by rfl)) (Nat.le_of_ble_eq_true (by rfl)) dX0_init_20 (fun q2 H hP hD hS => ?_)
  have hP : va_P D vwCl [(h0, .inr (0, [.int 0, .ref q1, .null, .int 0, .null, .null, .int 0, .null, .null, .null, .int 0, .int 0])), (q1, .inl (cI, 6, .inl zf)), (q2, .inl (cI, 6, .inl zf))] H := hP
  have hD : va_D A [(h0, .inr (0, [.int 0, .ref q1, .null, .int 0, .null, .null, .int 0, .null, .null, .null, .int 0, .int 0])), (q1, .inl (cI, 6, .inl zf)), (q2, .inl (cI, 6, .inl zf))] := hD
  refine W.widen (k := 2) (n := 12) (Nat.le_of_ble_eq_true rfl) (Nat.le_of_ble_eq_true rfl) ?_
  refine va_putF (D := D) (ci := 0) (v := .ref q2) (ty := tyX0 2) (C := RX0) (T := TX0) (N := 12) hx hb hts in_X0_init_0 tyX0 tyX0_ok nmX0 hown hK.1 hP hD hS 0 rfl rfl 2 (by decide) (hts (.fieldLink RX0 19 "ChildCoins$Land" "worth" "[I") (List.mem_of_getElem? (i := 7) rfl)) (fun _ h9 => h9) rfl hnm rfl (tyX0_ok 2 (by decide)) rfl rfl (Nat.le_of_ble_eq_true rfl) dX0_init_22 (fun H locs hP hD hS => ?_)
  have hP : va_P D vwCl [(h0, .inr (0, [.int 0, .ref q1, .ref q2, .int 0, .null, .null, .int 0, .null, .null, .null, .int 0, .int 0])), (q1, .inl (cI, 6, .inl zf)), (q2, .inl (cI, 6, .inl zf))] H := hP
  have hD : va_D A [(h0, .inr (0, [.int 0, .ref q1, .ref q2, .int 0, .null, .null, .int 0, .null, .null, .null, .int 0, .int 0])), (q1, .inl (cI, 6, .inl zf)), (q2, .inl (cI, 6, .inl zf))] := hD
  refine lv_aload_n hx hb dX0_init_25 rfl (lv_at hl 0 rfl) ?_
  refine lv_iconst (v := 0) hx hb dX0_init_26 (by decide) ?_
  refine va_put (D := D) (ci := 0) (v := .int 0) (ty := tyX0 3) (C := RX0) (T := TX0) (N := 12) hx hb hts in_X0_init_0 tyX0 tyX0_ok nmX0 hown hK.1 hP hD hS 0 rfl rfl 3 (by decide) (hts (.fieldLink RX0 22 "ChildCoins$Land" "people" "I") (List.mem_of_getElem? (i := 8) rfl)) (fun _ h9 => h9) rfl (tyX0_ok 3 (by decide)) rfl rfl (Nat.le_of_ble_eq_true rfl) dX0_init_27 (fun H locs hP hD hS => ?_)
  have hP : va_P D vwCl [(h0, .inr (0, [.int 0, .ref q1, .ref q2, .int 0, .null, .null, .int 0, .null, .null, .null, .int 0, .int 0])), (q1, .inl (cI, 6, .inl zf)), (q2, .inl (cI, 6, .inl zf))] H := hP
  have hD : va_D A [(h0, .inr (0, [.int 0, .ref q1, .ref q2, .int 0, .null, .null, .int 0, .null, .null, .null, .int 0, .int 0])), (q1, .inl (cI, 6, .inl zf)), (q2, .inl (cI, 6, .inl zf))] := hD
  refine lv_aload_n hx hb dX0_init_30 rfl (lv_at hl 0 rfl) ?_
  refine lv_iconst (v := 5) hx hb dX0_init_31 (by decide) ?_
  refine nw_a (atype := .int) (ty := .int) (cA := cI) (a0 := (5, .inl zf)) hx hb (hts (.arrayClass .int) (List.mem_of_getElem? (i := 5) rfl)) rfl hK 0 rfl (fun C h => by cases h) hP hD hS hA (fun _ => rfl) (k := 5) (by decide) (N' := 5) (by rfl) (by decide) (Nat.le_of_ble_eq_true (by rfl)) (Nat.le_of_ble_eq_true (by rfl)) dX0_init_32 (fun q3 H hP hD hS => ?_)
  have hP : va_P D vwCl [(h0, .inr (0, [.int 0, .ref q1, .ref q2, .int 0, .null, .null, .int 0, .null, .null, .null, .int 0, .int 0])), (q1, .inl (cI, 6, .inl zf)), (q2, .inl (cI, 6, .inl zf)), (q3, .inl (cI, 5, .inl zf))] H := hP
  have hD : va_D A [(h0, .inr (0, [.int 0, .ref q1, .ref q2, .int 0, .null, .null, .int 0, .null, .null, .null, .int 0, .int 0])), (q1, .inl (cI, 6, .inl zf)), (q2, .inl (cI, 6, .inl zf)), (q3, .inl (cI, 5, .inl zf))] := hD
  refine W.widen (k := 3) (n := 17) (Nat.le_of_ble_eq_true rfl) (Nat.le_of_ble_eq_true rfl) ?_
  refine va_putF (D := D) (ci := 0) (v := .ref q3) (ty := tyX0 4) (C := RX0) (T := TX0) (N := 12) hx hb hts in_X0_init_0 tyX0 tyX0_ok nmX0 hown hK.1 hP hD hS 0 rfl rfl 4 (by decide) (hts (.fieldLink RX0 25 "ChildCoins$Land" "born" "[I") (List.mem_of_getElem? (i := 9) rfl)) (fun _ h9 => h9) rfl hnm rfl (tyX0_ok 4 (by decide)) rfl rfl (Nat.le_of_ble_eq_true rfl) dX0_init_34 (fun H locs hP hD hS => ?_)
  have hP : va_P D vwCl [(h0, .inr (0, [.int 0, .ref q1, .ref q2, .int 0, .ref q3, .null, .int 0, .null, .null, .null, .int 0, .int 0])), (q1, .inl (cI, 6, .inl zf)), (q2, .inl (cI, 6, .inl zf)), (q3, .inl (cI, 5, .inl zf))] H := hP
  have hD : va_D A [(h0, .inr (0, [.int 0, .ref q1, .ref q2, .int 0, .ref q3, .null, .int 0, .null, .null, .null, .int 0, .int 0])), (q1, .inl (cI, 6, .inl zf)), (q2, .inl (cI, 6, .inl zf)), (q3, .inl (cI, 5, .inl zf))] := hD
  refine lv_aload_n hx hb dX0_init_37 rfl (lv_at hl 0 rfl) ?_
  refine lv_bipush (v := 30) hx hb dX0_init_38 (by decide) ?_
  refine nw_a (atype := .int) (ty := .int) (cA := cI) (a0 := (30, .inl zf)) hx hb (hts (.arrayClass .int) (List.mem_of_getElem? (i := 5) rfl)) rfl hK 0 rfl (fun C h => by cases h) hP hD hS hA (fun _ => rfl) (k := 30) (by decide) (N' := 30) (by rfl) (by decide) (Nat.le_of_ble_eq_true (by rfl)) (Nat.le_of_ble_eq_true (by rfl)) dX0_init_40 (fun q4 H hP hD hS => ?_)
  have hP : va_P D vwCl [(h0, .inr (0, [.int 0, .ref q1, .ref q2, .int 0, .ref q3, .null, .int 0, .null, .null, .null, .int 0, .int 0])), (q1, .inl (cI, 6, .inl zf)), (q2, .inl (cI, 6, .inl zf)), (q3, .inl (cI, 5, .inl zf)), (q4, .inl (cI, 30, .inl zf))] H := hP
  have hD : va_D A [(h0, .inr (0, [.int 0, .ref q1, .ref q2, .int 0, .ref q3, .null, .int 0, .null, .null, .null, .int 0, .int 0])), (q1, .inl (cI, 6, .inl zf)), (q2, .inl (cI, 6, .inl zf)), (q3, .inl (cI, 5, .inl zf)), (q4, .inl (cI, 30, .inl zf))] := hD
  refine W.widen (k := 4) (n := 47) (Nat.le_of_ble_eq_true rfl) (Nat.le_of_ble_eq_true rfl) ?_
  refine va_putF (D := D) (ci := 0) (v := .ref q4) (ty := tyX0 5) (C := RX0) (T := TX0) (N := 12) hx hb hts in_X0_init_0 tyX0 tyX0_ok nmX0 hown hK.1 hP hD hS 0 rfl rfl 5 (by decide) (hts (.fieldLink RX0 28 "ChildCoins$Land" "toldHolds" "[I") (List.mem_of_getElem? (i := 10) rfl)) (fun _ h9 => h9) rfl hnm rfl (tyX0_ok 5 (by decide)) rfl rfl (Nat.le_of_ble_eq_true rfl) dX0_init_42 (fun H locs hP hD hS => ?_)
  have hP : va_P D vwCl [(h0, .inr (0, [.int 0, .ref q1, .ref q2, .int 0, .ref q3, .ref q4, .int 0, .null, .null, .null, .int 0, .int 0])), (q1, .inl (cI, 6, .inl zf)), (q2, .inl (cI, 6, .inl zf)), (q3, .inl (cI, 5, .inl zf)), (q4, .inl (cI, 30, .inl zf))] H := hP
  have hD : va_D A [(h0, .inr (0, [.int 0, .ref q1, .ref q2, .int 0, .ref q3, .ref q4, .int 0, .null, .null, .null, .int 0, .int 0])), (q1, .inl (cI, 6, .inl zf)), (q2, .inl (cI, 6, .inl zf)), (q3, .inl (cI, 5, .inl zf)), (q4, .inl (cI, 30, .inl zf))] := hD
  refine lv_aload_n hx hb dX0_init_45 rfl (lv_at hl 0 rfl) ?_
  refine lv_iconst (v := 0) hx hb dX0_init_46 (by decide) ?_
  refine va_put (D := D) (ci := 0) (v := .int 0) (ty := tyX0 6) (C := RX0) (T := TX0) (N := 12) hx hb hts in_X0_init_0 tyX0 tyX0_ok nmX0 hown hK.1 hP hD hS 0 rfl rfl 6 (by decide) (hts (.fieldLink RX0 31 "ChildCoins$Land" "debts" "I") (List.mem_of_getElem? (i := 11) rfl)) (fun _ h9 => h9) rfl (tyX0_ok 6 (by decide)) rfl rfl (Nat.le_of_ble_eq_true rfl) dX0_init_47 (fun H locs hP hD hS => ?_)
  have hP : va_P D vwCl [(h0, .inr (0, [.int 0, .ref q1, .ref q2, .int 0, .ref q3, .ref q4, .int 0, .null, .null, .null, .int 0, .int 0])), (q1, .inl (cI, 6, .inl zf)), (q2, .inl (cI, 6, .inl zf)), (q3, .inl (cI, 5, .inl zf)), (q4, .inl (cI, 30, .inl zf))] H := hP
  have hD : va_D A [(h0, .inr (0, [.int 0, .ref q1, .ref q2, .int 0, .ref q3, .ref q4, .int 0, .null, .null, .null, .int 0, .int 0])), (q1, .inl (cI, 6, .inl zf)), (q2, .inl (cI, 6, .inl zf)), (q3, .inl (cI, 5, .inl zf)), (q4, .inl (cI, 30, .inl zf))] := hD
  refine lv_aload_n hx hb dX0_init_50 rfl (lv_at hl 0 rfl) ?_
  refine lv_iconst (v := 5) hx hb dX0_init_51 (by decide) ?_
  refine nw_a (atype := .int) (ty := .int) (cA := cI) (a0 := (5, .inl zf)) hx hb (hts (.arrayClass .int) (List.mem_of_getElem? (i := 5) rfl)) rfl hK 0 rfl (fun C h => by cases h) hP hD hS hA (fun _ => rfl) (k := 5) (by decide) (N' := 5) (by rfl) (by decide) (Nat.le_of_ble_eq_true (by rfl)) (Nat.le_of_ble_eq_true (by rfl)) dX0_init_52 (fun q5 H hP hD hS => ?_)
  have hP : va_P D vwCl [(h0, .inr (0, [.int 0, .ref q1, .ref q2, .int 0, .ref q3, .ref q4, .int 0, .null, .null, .null, .int 0, .int 0])), (q1, .inl (cI, 6, .inl zf)), (q2, .inl (cI, 6, .inl zf)), (q3, .inl (cI, 5, .inl zf)), (q4, .inl (cI, 30, .inl zf)), (q5, .inl (cI, 5, .inl zf))] H := hP
  have hD : va_D A [(h0, .inr (0, [.int 0, .ref q1, .ref q2, .int 0, .ref q3, .ref q4, .int 0, .null, .null, .null, .int 0, .int 0])), (q1, .inl (cI, 6, .inl zf)), (q2, .inl (cI, 6, .inl zf)), (q3, .inl (cI, 5, .inl zf)), (q4, .inl (cI, 30, .inl zf)), (q5, .inl (cI, 5, .inl zf))] := hD
  refine W.widen (k := 5) (n := 52) (Nat.le_of_ble_eq_true rfl) (Nat.le_of_ble_eq_true rfl) ?_
  refine va_putF (D := D) (ci := 0) (v := .ref q5) (ty := tyX0 7) (C := RX0) (T := TX0) (N := 12) hx hb hts in_X0_init_0 tyX0 tyX0_ok nmX0 hown hK.1 hP hD hS 0 rfl rfl 7 (by decide) (hts (.fieldLink RX0 34 "ChildCoins$Land" "debtor" "[I") (List.mem_of_getElem? (i := 12) rfl)) (fun _ h9 => h9) rfl hnm rfl (tyX0_ok 7 (by decide)) rfl rfl (Nat.le_of_ble_eq_true rfl) dX0_init_54 (fun H locs hP hD hS => ?_)
  have hP : va_P D vwCl [(h0, .inr (0, [.int 0, .ref q1, .ref q2, .int 0, .ref q3, .ref q4, .int 0, .ref q5, .null, .null, .int 0, .int 0])), (q1, .inl (cI, 6, .inl zf)), (q2, .inl (cI, 6, .inl zf)), (q3, .inl (cI, 5, .inl zf)), (q4, .inl (cI, 30, .inl zf)), (q5, .inl (cI, 5, .inl zf))] H := hP
  have hD : va_D A [(h0, .inr (0, [.int 0, .ref q1, .ref q2, .int 0, .ref q3, .ref q4, .int 0, .ref q5, .null, .null, .int 0, .int 0])), (q1, .inl (cI, 6, .inl zf)), (q2, .inl (cI, 6, .inl zf)), (q3, .inl (cI, 5, .inl zf)), (q4, .inl (cI, 30, .inl zf)), (q5, .inl (cI, 5, .inl zf))] := hD
  refine lv_aload_n hx hb dX0_init_57 rfl (lv_at hl 0 rfl) ?_
  refine lv_iconst (v := 5) hx hb dX0_init_58 (by decide) ?_
  refine nw_a (atype := .int) (ty := .int) (cA := cI) (a0 := (5, .inl zf)) hx hb (hts (.arrayClass .int) (List.mem_of_getElem? (i := 5) rfl)) rfl hK 0 rfl (fun C h => by cases h) hP hD hS hA (fun _ => rfl) (k := 5) (by decide) (N' := 5) (by rfl) (by decide) (Nat.le_of_ble_eq_true (by rfl)) (Nat.le_of_ble_eq_true (by rfl)) dX0_init_59 (fun q6 H hP hD hS => ?_)
  have hP : va_P D vwCl [(h0, .inr (0, [.int 0, .ref q1, .ref q2, .int 0, .ref q3, .ref q4, .int 0, .ref q5, .null, .null, .int 0, .int 0])), (q1, .inl (cI, 6, .inl zf)), (q2, .inl (cI, 6, .inl zf)), (q3, .inl (cI, 5, .inl zf)), (q4, .inl (cI, 30, .inl zf)), (q5, .inl (cI, 5, .inl zf)), (q6, .inl (cI, 5, .inl zf))] H := hP
  have hD : va_D A [(h0, .inr (0, [.int 0, .ref q1, .ref q2, .int 0, .ref q3, .ref q4, .int 0, .ref q5, .null, .null, .int 0, .int 0])), (q1, .inl (cI, 6, .inl zf)), (q2, .inl (cI, 6, .inl zf)), (q3, .inl (cI, 5, .inl zf)), (q4, .inl (cI, 30, .inl zf)), (q5, .inl (cI, 5, .inl zf)), (q6, .inl (cI, 5, .inl zf))] := hD
  refine W.widen (k := 6) (n := 57) (Nat.le_of_ble_eq_true rfl) (Nat.le_of_ble_eq_true rfl) ?_
  refine va_putF (D := D) (ci := 0) (v := .ref q6) (ty := tyX0 8) (C := RX0) (T := TX0) (N := 12) hx hb hts in_X0_init_0 tyX0 tyX0_ok nmX0 hown hK.1 hP hD hS 0 rfl rfl 8 (by decide) (hts (.fieldLink RX0 37 "ChildCoins$Land" "firstCreditor" "[I") (List.mem_of_getElem? (i := 13) rfl)) (fun _ h9 => h9) rfl hnm rfl (tyX0_ok 8 (by decide)) rfl rfl (Nat.le_of_ble_eq_true rfl) dX0_init_61 (fun H locs hP hD hS => ?_)
  have hP : va_P D vwCl [(h0, .inr (0, [.int 0, .ref q1, .ref q2, .int 0, .ref q3, .ref q4, .int 0, .ref q5, .ref q6, .null, .int 0, .int 0])), (q1, .inl (cI, 6, .inl zf)), (q2, .inl (cI, 6, .inl zf)), (q3, .inl (cI, 5, .inl zf)), (q4, .inl (cI, 30, .inl zf)), (q5, .inl (cI, 5, .inl zf)), (q6, .inl (cI, 5, .inl zf))] H := hP
  have hD : va_D A [(h0, .inr (0, [.int 0, .ref q1, .ref q2, .int 0, .ref q3, .ref q4, .int 0, .ref q5, .ref q6, .null, .int 0, .int 0])), (q1, .inl (cI, 6, .inl zf)), (q2, .inl (cI, 6, .inl zf)), (q3, .inl (cI, 5, .inl zf)), (q4, .inl (cI, 30, .inl zf)), (q5, .inl (cI, 5, .inl zf)), (q6, .inl (cI, 5, .inl zf))] := hD
  refine lv_aload_n hx hb dX0_init_64 rfl (lv_at hl 0 rfl) ?_
  refine lv_iconst (v := 5) hx hb dX0_init_65 (by decide) ?_
  refine nw_a (atype := .int) (ty := .int) (cA := cI) (a0 := (5, .inl zf)) hx hb (hts (.arrayClass .int) (List.mem_of_getElem? (i := 5) rfl)) rfl hK 0 rfl (fun C h => by cases h) hP hD hS hA (fun _ => rfl) (k := 5) (by decide) (N' := 5) (by rfl) (by decide) (Nat.le_of_ble_eq_true (by rfl)) (Nat.le_of_ble_eq_true (by rfl)) dX0_init_66 (fun q7 H hP hD hS => ?_)
  have hP : va_P D vwCl [(h0, .inr (0, [.int 0, .ref q1, .ref q2, .int 0, .ref q3, .ref q4, .int 0, .ref q5, .ref q6, .null, .int 0, .int 0])), (q1, .inl (cI, 6, .inl zf)), (q2, .inl (cI, 6, .inl zf)), (q3, .inl (cI, 5, .inl zf)), (q4, .inl (cI, 30, .inl zf)), (q5, .inl (cI, 5, .inl zf)), (q6, .inl (cI, 5, .inl zf)), (q7, .inl (cI, 5, .inl zf))] H := hP
  have hD : va_D A [(h0, .inr (0, [.int 0, .ref q1, .ref q2, .int 0, .ref q3, .ref q4, .int 0, .ref q5, .ref q6, .null, .int 0, .int 0])), (q1, .inl (cI, 6, .inl zf)), (q2, .inl (cI, 6, .inl zf)), (q3, .inl (cI, 5, .inl zf)), (q4, .inl (cI, 30, .inl zf)), (q5, .inl (cI, 5, .inl zf)), (q6, .inl (cI, 5, .inl zf)), (q7, .inl (cI, 5, .inl zf))] := hD
  refine W.widen (k := 7) (n := 62) (Nat.le_of_ble_eq_true rfl) (Nat.le_of_ble_eq_true rfl) ?_
  refine va_putF (D := D) (ci := 0) (v := .ref q7) (ty := tyX0 9) (C := RX0) (T := TX0) (N := 12) hx hb hts in_X0_init_0 tyX0 tyX0_ok nmX0 hown hK.1 hP hD hS 0 rfl rfl 9 (by decide) (hts (.fieldLink RX0 40 "ChildCoins$Land" "sum" "[I") (List.mem_of_getElem? (i := 14) rfl)) (fun _ h9 => h9) rfl hnm rfl (tyX0_ok 9 (by decide)) rfl rfl (Nat.le_of_ble_eq_true rfl) dX0_init_68 (fun H locs hP hD hS => ?_)
  have hP : va_P D vwCl [(h0, .inr (0, [.int 0, .ref q1, .ref q2, .int 0, .ref q3, .ref q4, .int 0, .ref q5, .ref q6, .ref q7, .int 0, .int 0])), (q1, .inl (cI, 6, .inl zf)), (q2, .inl (cI, 6, .inl zf)), (q3, .inl (cI, 5, .inl zf)), (q4, .inl (cI, 30, .inl zf)), (q5, .inl (cI, 5, .inl zf)), (q6, .inl (cI, 5, .inl zf)), (q7, .inl (cI, 5, .inl zf))] H := hP
  have hD : va_D A [(h0, .inr (0, [.int 0, .ref q1, .ref q2, .int 0, .ref q3, .ref q4, .int 0, .ref q5, .ref q6, .ref q7, .int 0, .int 0])), (q1, .inl (cI, 6, .inl zf)), (q2, .inl (cI, 6, .inl zf)), (q3, .inl (cI, 5, .inl zf)), (q4, .inl (cI, 30, .inl zf)), (q5, .inl (cI, 5, .inl zf)), (q6, .inl (cI, 5, .inl zf)), (q7, .inl (cI, 5, .inl zf))] := hD
  refine lv_aload_n hx hb dX0_init_71 rfl (lv_at hl 0 rfl) ?_
  refine lv_bipush (v := 9) hx hb dX0_init_72 (by decide) ?_
  refine va_put (D := D) (ci := 0) (v := .int 9) (ty := tyX0 10) (C := RX0) (T := TX0) (N := 12) hx hb hts in_X0_init_0 tyX0 tyX0_ok nmX0 hown hK.1 hP hD hS 0 rfl rfl 10 (by decide) (hts (.fieldLink RX0 43 "ChildCoins$Land" "span" "I") (List.mem_of_getElem? (i := 15) rfl)) (fun _ h9 => h9) rfl (tyX0_ok 10 (by decide)) rfl rfl (Nat.le_of_ble_eq_true rfl) dX0_init_74 (fun H locs hP hD hS => ?_)
  have hP : va_P D vwCl [(h0, .inr (0, [.int 0, .ref q1, .ref q2, .int 0, .ref q3, .ref q4, .int 0, .ref q5, .ref q6, .ref q7, .int 9, .int 0])), (q1, .inl (cI, 6, .inl zf)), (q2, .inl (cI, 6, .inl zf)), (q3, .inl (cI, 5, .inl zf)), (q4, .inl (cI, 30, .inl zf)), (q5, .inl (cI, 5, .inl zf)), (q6, .inl (cI, 5, .inl zf)), (q7, .inl (cI, 5, .inl zf))] H := hP
  have hD : va_D A [(h0, .inr (0, [.int 0, .ref q1, .ref q2, .int 0, .ref q3, .ref q4, .int 0, .ref q5, .ref q6, .ref q7, .int 9, .int 0])), (q1, .inl (cI, 6, .inl zf)), (q2, .inl (cI, 6, .inl zf)), (q3, .inl (cI, 5, .inl zf)), (q4, .inl (cI, 30, .inl zf)), (q5, .inl (cI, 5, .inl zf)), (q6, .inl (cI, 5, .inl zf)), (q7, .inl (cI, 5, .inl zf))] := hD
  refine lv_aload_n hx hb dX0_init_77 rfl (lv_at hl 0 rfl) ?_
  refine lv_iconst (v := 0) hx hb dX0_init_78 (by decide) ?_
  refine va_put (D := D) (ci := 0) (v := .int 0) (ty := tyX0 11) (C := RX0) (T := TX0) (N := 12) hx hb hts in_X0_init_0 tyX0 tyX0_ok nmX0 hown hK.1 hP hD hS 0 rfl rfl 11 (by decide) (hts (.fieldLink RX0 46 "ChildCoins$Land" "spanTold" "Z") (List.mem_of_getElem? (i := 16) rfl)) (fun _ h9 => h9) rfl (tyX0_ok 11 (by decide)) rfl rfl (Nat.le_of_ble_eq_true rfl) dX0_init_79 (fun H locs hP hD hS => ?_)
  have hP : va_P D vwCl [(h0, .inr (0, [.int 0, .ref q1, .ref q2, .int 0, .ref q3, .ref q4, .int 0, .ref q5, .ref q6, .ref q7, .int 9, .int 0])), (q1, .inl (cI, 6, .inl zf)), (q2, .inl (cI, 6, .inl zf)), (q3, .inl (cI, 5, .inl zf)), (q4, .inl (cI, 30, .inl zf)), (q5, .inl (cI, 5, .inl zf)), (q6, .inl (cI, 5, .inl zf)), (q7, .inl (cI, 5, .inl zf))] H := hP
  have hD : va_D A [(h0, .inr (0, [.int 0, .ref q1, .ref q2, .int 0, .ref q3, .ref q4, .int 0, .ref q5, .ref q6, .ref q7, .int 9, .int 0])), (q1, .inl (cI, 6, .inl zf)), (q2, .inl (cI, 6, .inl zf)), (q3, .inl (cI, 5, .inl zf)), (q4, .inl (cI, 30, .inl zf)), (q5, .inl (cI, 5, .inl zf)), (q6, .inl (cI, 5, .inl zf)), (q7, .inl (cI, 5, .inl zf))] := hD
  exact en_v hx hb hr hlk hP hD hS (fun k => List.getD [q1, q2, q3, q4, q5, q6, q7] k 0) [0, 1, 2, 3, 4, 5, 6, 7] (by decide) rfl (Nat.le_of_ble_eq_true rfl) (Nat.le_of_ble_eq_true rfl) dX0_init_82 trivial
set_option maxRecDepth 20000 in
theorem dAX1_init : decA cX1_init [(0, .aload_n 0, 1), (1, .invokespecial 5, 3), (4, .aload_n 0, 1), (5, .bipush 36, 2), (7, .newarray .int, 2), (9, .putfield 11, 3), (12, .aload_n 0, 1), (13, .sipush 360, 3), (16, .newarray .int, 2), (18, .putfield 15, 3), (21, .aload_n 0, 1), (22, .iconst 0, 1), (23, .putfield 18, 3), (26, .return_, 1)] = true := by decide +kernel
theorem dX1_init_0 : decode cX1_init 0 = .ok (.aload_n 0, 1) := decA_get dAX1_init 0 rfl
theorem dX1_init_1 : decode cX1_init 1 = .ok (.invokespecial 5, 3) := decA_get dAX1_init 1 rfl
theorem dX1_init_4 : decode cX1_init 4 = .ok (.aload_n 0, 1) := decA_get dAX1_init 2 rfl
theorem dX1_init_5 : decode cX1_init 5 = .ok (.bipush 36, 2) := decA_get dAX1_init 3 rfl
theorem dX1_init_7 : decode cX1_init 7 = .ok (.newarray .int, 2) := decA_get dAX1_init 4 rfl
theorem dX1_init_9 : decode cX1_init 9 = .ok (.putfield 11, 3) := decA_get dAX1_init 5 rfl
theorem in_X1_init_1 : ∀ w ∈ wsX10, w ∈ wsX1_init := fun w h => (gd_ids wi_X1_init wm_X1_init wi_X10 (by decide +kernel) w h).1
theorem dX1_init_12 : decode cX1_init 12 = .ok (.aload_n 0, 1) := decA_get dAX1_init 6 rfl
theorem dX1_init_13 : decode cX1_init 13 = .ok (.sipush 360, 3) := decA_get dAX1_init 7 rfl
theorem dX1_init_16 : decode cX1_init 16 = .ok (.newarray .int, 2) := decA_get dAX1_init 8 rfl
theorem dX1_init_18 : decode cX1_init 18 = .ok (.putfield 15, 3) := decA_get dAX1_init 9 rfl
theorem dX1_init_21 : decode cX1_init 21 = .ok (.aload_n 0, 1) := decA_get dAX1_init 10 rfl
theorem dX1_init_22 : decode cX1_init 22 = .ok (.iconst 0, 1) := decA_get dAX1_init 11 rfl
theorem dX1_init_23 : decode cX1_init 23 = .ok (.putfield 18, 3) := decA_get dAX1_init 12 rfl
theorem dX1_init_26 : decode cX1_init 26 = .ok (.return_, 1) := decA_get dAX1_init 13 rfl
set_option maxHeartbeats 4000000 in
set_option maxRecDepth 100000 in
theorem c_Now_init (l : Launch) (D : va_G) (cI cB cZ cN : ClassId) (h0 : Nat)  : Cv (S := (Nat → Nat)) l D cI cB cZ cN yX1_init wsX1_init ({ frames := 1, cells := 2, slots := 396, locals := 20 } : Room) [.ref h0] [(h0, .inr (1, [.null, .null, .int 0]))] (fun _ => True) (fun u => [(h0, .inr (1, [.ref (u 0), .ref (u 1), .int 0])), ((u 0), .inl (cI, 36, .inl zf)), ((u 1), .inl (cI, 360, .inl zf))]) := by
  refine bx_of (D := D) (cI := cI) (cB := cB) (cZ := cZ) (cN := cN) (y := yX1_init) (wd := wsX1_init) (rm := ({ frames := 1, cells := 2, slots := 396, locals := 20 } : Room)) (av := [.ref h0]) (wc := [(h0, .inr (1, [.null, .null, .int 0]))]) (cc := cX1_init) (maxL := 1) (ret := none) (Qc := fun _ A => va_Qv (S := (Nat → Nat)) (fun _ => True) (Aft D (fun (u : (Nat → Nat)) => [(h0, .inr (1, [.ref (u 0), .ref (u 1), .int 0])), ((u 0), .inl (cI, 36, .inl zf)), ((u 1), .inl (cI, 360, .inl zf))]) A) A) (by decide) rfl (Nat.le_of_ble_eq_true rfl) ?_
  intro p e s m below meth c A H locs ⟨hx, hb, hr, hml, hown, hts, hlk, hnm⟩ hK hP hD hS hA ls hl
  have hl : lv_has ls 1 [(0, .ref h0)] := hl
  have hown : s.vm.findClass RX1 = some m.cls := hown
  refine lv_aload_n hx hb dX1_init_0 rfl (lv_at hl 0 rfl) ?_
  refine W.objInit hx hb hown (hts (.methodLink RX1 5 objectInit) (List.mem_of_getElem? (i := 1) rfl)) (hts (.instanceMethod objectInit) (List.mem_of_getElem? (i := 2) rfl)) (hts (.code objectInit ⟨#[0xb1]⟩ 1 none) (List.mem_of_getElem? (i := 3) rfl)) rfl (by rw [hml]; exact hl.1) rfl dX1_init_1 (Nat.le_of_ble_eq_true rfl) (Nat.le_of_ble_eq_true rfl) ?_
  refine lv_aload_n hx hb dX1_init_4 rfl (lv_at hl 0 rfl) ?_
  refine lv_bipush (v := 36) hx hb dX1_init_5 (by decide) ?_
  refine nw_a (atype := .int) (ty := .int) (cA := cI) (a0 := (36, .inl zf)) hx hb (hts (.arrayClass .int) (List.mem_of_getElem? (i := 4) rfl)) rfl hK 0 rfl (fun C h => by cases h) hP hD hS hA (fun _ => rfl) (k := 36) (by decide) (N' := 36) (by rfl) (by decide) (Nat.le_of_ble_eq_true (by rfl)) (Nat.le_of_ble_eq_true (by rfl)) dX1_init_7 (fun q1 H hP hD hS => ?_)
  have hP : va_P D vwCl [(h0, .inr (1, [.null, .null, .int 0])), (q1, .inl (cI, 36, .inl zf))] H := hP
  have hD : va_D A [(h0, .inr (1, [.null, .null, .int 0])), (q1, .inl (cI, 36, .inl zf))] := hD
  refine W.widen (k := 1) (n := 36) (Nat.le_of_ble_eq_true rfl) (Nat.le_of_ble_eq_true rfl) ?_
  refine va_putF (D := D) (ci := 1) (v := .ref q1) (ty := tyX1 0) (C := RX1) (T := TX1) (N := 3) hx hb hts in_X1_init_1 tyX1 tyX1_ok nmX1 hown hK.1 hP hD hS 0 rfl rfl 0 (by decide) (hts (.fieldLink RX1 11 "ChildCoins$Now" "cells" "[I") (List.mem_of_getElem? (i := 5) rfl)) (fun _ h9 => h9) rfl hnm rfl (tyX1_ok 0 (by decide)) rfl rfl (Nat.le_of_ble_eq_true rfl) dX1_init_9 (fun H locs hP hD hS => ?_)
  have hP : va_P D vwCl [(h0, .inr (1, [.ref q1, .null, .int 0])), (q1, .inl (cI, 36, .inl zf))] H := hP
  have hD : va_D A [(h0, .inr (1, [.ref q1, .null, .int 0])), (q1, .inl (cI, 36, .inl zf))] := hD
  refine lv_aload_n hx hb dX1_init_12 rfl (lv_at hl 0 rfl) ?_
  refine lv_sipush (v := 360) hx hb dX1_init_13 (by decide) ?_
  refine nw_a (atype := .int) (ty := .int) (cA := cI) (a0 := (360, .inl zf)) hx hb (hts (.arrayClass .int) (List.mem_of_getElem? (i := 4) rfl)) rfl hK 0 rfl (fun C h => by cases h) hP hD hS hA (fun _ => rfl) (k := 360) (by decide) (N' := 360) (by rfl) (by decide) (Nat.le_of_ble_eq_true (by rfl)) (Nat.le_of_ble_eq_true (by rfl)) dX1_init_16 (fun q2 H hP hD hS => ?_)
  have hP : va_P D vwCl [(h0, .inr (1, [.ref q1, .null, .int 0])), (q1, .inl (cI, 36, .inl zf)), (q2, .inl (cI, 360, .inl zf))] H := hP
  have hD : va_D A [(h0, .inr (1, [.ref q1, .null, .int 0])), (q1, .inl (cI, 36, .inl zf)), (q2, .inl (cI, 360, .inl zf))] := hD
  refine W.widen (k := 2) (n := 396) (Nat.le_of_ble_eq_true rfl) (Nat.le_of_ble_eq_true rfl) ?_
  refine va_putF (D := D) (ci := 1) (v := .ref q2) (ty := tyX1 1) (C := RX1) (T := TX1) (N := 3) hx hb hts in_X1_init_1 tyX1 tyX1_ok nmX1 hown hK.1 hP hD hS 0 rfl rfl 1 (by decide) (hts (.fieldLink RX1 15 "ChildCoins$Now" "past" "[I") (List.mem_of_getElem? (i := 6) rfl)) (fun _ h9 => h9) rfl hnm rfl (tyX1_ok 1 (by decide)) rfl rfl (Nat.le_of_ble_eq_true rfl) dX1_init_18 (fun H locs hP hD hS => ?_)
  have hP : va_P D vwCl [(h0, .inr (1, [.ref q1, .ref q2, .int 0])), (q1, .inl (cI, 36, .inl zf)), (q2, .inl (cI, 360, .inl zf))] H := hP
  have hD : va_D A [(h0, .inr (1, [.ref q1, .ref q2, .int 0])), (q1, .inl (cI, 36, .inl zf)), (q2, .inl (cI, 360, .inl zf))] := hD
  refine lv_aload_n hx hb dX1_init_21 rfl (lv_at hl 0 rfl) ?_
  refine lv_iconst (v := 0) hx hb dX1_init_22 (by decide) ?_
  refine va_put (D := D) (ci := 1) (v := .int 0) (ty := tyX1 2) (C := RX1) (T := TX1) (N := 3) hx hb hts in_X1_init_1 tyX1 tyX1_ok nmX1 hown hK.1 hP hD hS 0 rfl rfl 2 (by decide) (hts (.fieldLink RX1 18 "ChildCoins$Now" "known" "I") (List.mem_of_getElem? (i := 7) rfl)) (fun _ h9 => h9) rfl (tyX1_ok 2 (by decide)) rfl rfl (Nat.le_of_ble_eq_true rfl) dX1_init_23 (fun H locs hP hD hS => ?_)
  have hP : va_P D vwCl [(h0, .inr (1, [.ref q1, .ref q2, .int 0])), (q1, .inl (cI, 36, .inl zf)), (q2, .inl (cI, 360, .inl zf))] H := hP
  have hD : va_D A [(h0, .inr (1, [.ref q1, .ref q2, .int 0])), (q1, .inl (cI, 36, .inl zf)), (q2, .inl (cI, 360, .inl zf))] := hD
  exact en_v hx hb hr hlk hP hD hS (fun k => List.getD [q1, q2] k 0) [0, 1, 2] (by decide) rfl (Nat.le_of_ble_eq_true rfl) (Nat.le_of_ble_eq_true rfl) dX1_init_26 trivial
set_option maxRecDepth 20000 in
theorem dAX2_init : decA cX2_init [(0, .aload_n 0, 1), (1, .invokespecial 3, 3), (4, .aload_n 0, 1), (5, .bipush 6, 2), (7, .newarray .int, 2), (9, .putfield 9, 3), (12, .aload_n 0, 1), (13, .bipush 6, 2), (15, .newarray .int, 2), (17, .putfield 15, 3), (20, .aload_n 0, 1), (21, .sipush 427, 3), (24, .newarray .int, 2), (26, .putfield 18, 3), (29, .aload_n 0, 1), (30, .iconst 0, 1), (31, .putfield 21, 3), (34, .return_, 1)] = true := by decide +kernel
theorem dX2_init_0 : decode cX2_init 0 = .ok (.aload_n 0, 1) := decA_get dAX2_init 0 rfl
theorem dX2_init_1 : decode cX2_init 1 = .ok (.invokespecial 3, 3) := decA_get dAX2_init 1 rfl
theorem dX2_init_4 : decode cX2_init 4 = .ok (.aload_n 0, 1) := decA_get dAX2_init 2 rfl
theorem dX2_init_5 : decode cX2_init 5 = .ok (.bipush 6, 2) := decA_get dAX2_init 3 rfl
theorem dX2_init_7 : decode cX2_init 7 = .ok (.newarray .int, 2) := decA_get dAX2_init 4 rfl
theorem dX2_init_9 : decode cX2_init 9 = .ok (.putfield 9, 3) := decA_get dAX2_init 5 rfl
theorem in_X2_init_2 : ∀ w ∈ wsX20, w ∈ wsX2_init := fun w h => (gd_ids wi_X2_init wm_X2_init wi_X20 (by decide +kernel) w h).1
theorem dX2_init_12 : decode cX2_init 12 = .ok (.aload_n 0, 1) := decA_get dAX2_init 6 rfl
theorem dX2_init_13 : decode cX2_init 13 = .ok (.bipush 6, 2) := decA_get dAX2_init 7 rfl
theorem dX2_init_15 : decode cX2_init 15 = .ok (.newarray .int, 2) := decA_get dAX2_init 8 rfl
theorem dX2_init_17 : decode cX2_init 17 = .ok (.putfield 15, 3) := decA_get dAX2_init 9 rfl
theorem dX2_init_20 : decode cX2_init 20 = .ok (.aload_n 0, 1) := decA_get dAX2_init 10 rfl
theorem dX2_init_21 : decode cX2_init 21 = .ok (.sipush 427, 3) := decA_get dAX2_init 11 rfl
theorem dX2_init_24 : decode cX2_init 24 = .ok (.newarray .int, 2) := decA_get dAX2_init 12 rfl
theorem dX2_init_26 : decode cX2_init 26 = .ok (.putfield 18, 3) := decA_get dAX2_init 13 rfl
theorem dX2_init_29 : decode cX2_init 29 = .ok (.aload_n 0, 1) := decA_get dAX2_init 14 rfl
theorem dX2_init_30 : decode cX2_init 30 = .ok (.iconst 0, 1) := decA_get dAX2_init 15 rfl
theorem dX2_init_31 : decode cX2_init 31 = .ok (.putfield 21, 3) := decA_get dAX2_init 16 rfl
theorem dX2_init_34 : decode cX2_init 34 = .ok (.return_, 1) := decA_get dAX2_init 17 rfl
set_option maxHeartbeats 4000000 in
set_option maxRecDepth 100000 in
theorem c_Pay_init (l : Launch) (D : va_G) (cI cB cZ cN : ClassId) (h0 : Nat)  : Cv (S := (Nat → Nat)) l D cI cB cZ cN yX2_init wsX2_init ({ frames := 1, cells := 3, slots := 439, locals := 20 } : Room) [.ref h0] [(h0, .inr (2, [.null, .null, .null, .int 0]))] (fun _ => True) (fun u => [(h0, .inr (2, [.ref (u 0), .ref (u 1), .ref (u 2), .int 0])), ((u 0), .inl (cI, 6, .inl zf)), ((u 1), .inl (cI, 6, .inl zf)), ((u 2), .inl (cI, 427, .inl zf))]) := by
  refine bx_of (D := D) (cI := cI) (cB := cB) (cZ := cZ) (cN := cN) (y := yX2_init) (wd := wsX2_init) (rm := ({ frames := 1, cells := 3, slots := 439, locals := 20 } : Room)) (av := [.ref h0]) (wc := [(h0, .inr (2, [.null, .null, .null, .int 0]))]) (cc := cX2_init) (maxL := 1) (ret := none) (Qc := fun _ A => va_Qv (S := (Nat → Nat)) (fun _ => True) (Aft D (fun (u : (Nat → Nat)) => [(h0, .inr (2, [.ref (u 0), .ref (u 1), .ref (u 2), .int 0])), ((u 0), .inl (cI, 6, .inl zf)), ((u 1), .inl (cI, 6, .inl zf)), ((u 2), .inl (cI, 427, .inl zf))]) A) A) (by decide) rfl (Nat.le_of_ble_eq_true rfl) ?_
  intro p e s m below meth c A H locs ⟨hx, hb, hr, hml, hown, hts, hlk, hnm⟩ hK hP hD hS hA ls hl
  have hl : lv_has ls 1 [(0, .ref h0)] := hl
  have hown : s.vm.findClass RX2 = some m.cls := hown
  refine lv_aload_n hx hb dX2_init_0 rfl (lv_at hl 0 rfl) ?_
  refine W.objInit hx hb hown (hts (.methodLink RX2 3 objectInit) (List.mem_of_getElem? (i := 1) rfl)) (hts (.instanceMethod objectInit) (List.mem_of_getElem? (i := 2) rfl)) (hts (.code objectInit ⟨#[0xb1]⟩ 1 none) (List.mem_of_getElem? (i := 3) rfl)) rfl (by rw [hml]; exact hl.1) rfl dX2_init_1 (Nat.le_of_ble_eq_true rfl) (Nat.le_of_ble_eq_true rfl) ?_
  refine lv_aload_n hx hb dX2_init_4 rfl (lv_at hl 0 rfl) ?_
  refine lv_bipush (v := 6) hx hb dX2_init_5 (by decide) ?_
  refine nw_a (atype := .int) (ty := .int) (cA := cI) (a0 := (6, .inl zf)) hx hb (hts (.arrayClass .int) (List.mem_of_getElem? (i := 4) rfl)) rfl hK 0 rfl (fun C h => by cases h) hP hD hS hA (fun _ => rfl) (k := 6) (by decide) (N' := 6) (by rfl) (by decide) (Nat.le_of_ble_eq_true (by rfl)) (Nat.le_of_ble_eq_true (by rfl)) dX2_init_7 (fun q1 H hP hD hS => ?_)
  have hP : va_P D vwCl [(h0, .inr (2, [.null, .null, .null, .int 0])), (q1, .inl (cI, 6, .inl zf))] H := hP
  have hD : va_D A [(h0, .inr (2, [.null, .null, .null, .int 0])), (q1, .inl (cI, 6, .inl zf))] := hD
  refine W.widen (k := 1) (n := 6) (Nat.le_of_ble_eq_true rfl) (Nat.le_of_ble_eq_true rfl) ?_
  refine va_putF (D := D) (ci := 2) (v := .ref q1) (ty := tyX2 0) (C := RX2) (T := TX2) (N := 4) hx hb hts in_X2_init_2 tyX2 tyX2_ok nmX2 hown hK.1 hP hD hS 0 rfl rfl 0 (by decide) (hts (.fieldLink RX2 9 "ChildCoins$Payment" "stock" "[I") (List.mem_of_getElem? (i := 5) rfl)) (fun _ h9 => h9) rfl hnm rfl (tyX2_ok 0 (by decide)) rfl rfl (Nat.le_of_ble_eq_true rfl) dX2_init_9 (fun H locs hP hD hS => ?_)
  have hP : va_P D vwCl [(h0, .inr (2, [.ref q1, .null, .null, .int 0])), (q1, .inl (cI, 6, .inl zf))] H := hP
  have hD : va_D A [(h0, .inr (2, [.ref q1, .null, .null, .int 0])), (q1, .inl (cI, 6, .inl zf))] := hD
  refine lv_aload_n hx hb dX2_init_12 rfl (lv_at hl 0 rfl) ?_
  refine lv_bipush (v := 6) hx hb dX2_init_13 (by decide) ?_
  refine nw_a (atype := .int) (ty := .int) (cA := cI) (a0 := (6, .inl zf)) hx hb (hts (.arrayClass .int) (List.mem_of_getElem? (i := 4) rfl)) rfl hK 0 rfl (fun C h => by cases h) hP hD hS hA (fun _ => rfl) (k := 6) (by decide) (N' := 6) (by rfl) (by decide) (Nat.le_of_ble_eq_true (by rfl)) (Nat.le_of_ble_eq_true (by rfl)) dX2_init_15 (fun q2 H hP hD hS => ?_)
  have hP : va_P D vwCl [(h0, .inr (2, [.ref q1, .null, .null, .int 0])), (q1, .inl (cI, 6, .inl zf)), (q2, .inl (cI, 6, .inl zf))] H := hP
  have hD : va_D A [(h0, .inr (2, [.ref q1, .null, .null, .int 0])), (q1, .inl (cI, 6, .inl zf)), (q2, .inl (cI, 6, .inl zf))] := hD
  refine W.widen (k := 2) (n := 12) (Nat.le_of_ble_eq_true rfl) (Nat.le_of_ble_eq_true rfl) ?_
  refine va_putF (D := D) (ci := 2) (v := .ref q2) (ty := tyX2 1) (C := RX2) (T := TX2) (N := 4) hx hb hts in_X2_init_2 tyX2 tyX2_ok nmX2 hown hK.1 hP hD hS 0 rfl rfl 1 (by decide) (hts (.fieldLink RX2 15 "ChildCoins$Payment" "used" "[I") (List.mem_of_getElem? (i := 6) rfl)) (fun _ h9 => h9) rfl hnm rfl (tyX2_ok 1 (by decide)) rfl rfl (Nat.le_of_ble_eq_true rfl) dX2_init_17 (fun H locs hP hD hS => ?_)
  have hP : va_P D vwCl [(h0, .inr (2, [.ref q1, .ref q2, .null, .int 0])), (q1, .inl (cI, 6, .inl zf)), (q2, .inl (cI, 6, .inl zf))] H := hP
  have hD : va_D A [(h0, .inr (2, [.ref q1, .ref q2, .null, .int 0])), (q1, .inl (cI, 6, .inl zf)), (q2, .inl (cI, 6, .inl zf))] := hD
  refine lv_aload_n hx hb dX2_init_20 rfl (lv_at hl 0 rfl) ?_
  refine lv_sipush (v := 427) hx hb dX2_init_21 (by decide) ?_
  refine nw_a (atype := .int) (ty := .int) (cA := cI) (a0 := (427, .inl zf)) hx hb (hts (.arrayClass .int) (List.mem_of_getElem? (i := 4) rfl)) rfl hK 0 rfl (fun C h => by cases h) hP hD hS hA (fun _ => rfl) (k := 427) (by decide) (N' := 427) (by rfl) (by decide) (Nat.le_of_ble_eq_true (by rfl)) (Nat.le_of_ble_eq_true (by rfl)) dX2_init_24 (fun q3 H hP hD hS => ?_)
  have hP : va_P D vwCl [(h0, .inr (2, [.ref q1, .ref q2, .null, .int 0])), (q1, .inl (cI, 6, .inl zf)), (q2, .inl (cI, 6, .inl zf)), (q3, .inl (cI, 427, .inl zf))] H := hP
  have hD : va_D A [(h0, .inr (2, [.ref q1, .ref q2, .null, .int 0])), (q1, .inl (cI, 6, .inl zf)), (q2, .inl (cI, 6, .inl zf)), (q3, .inl (cI, 427, .inl zf))] := hD
  refine W.widen (k := 3) (n := 439) (Nat.le_of_ble_eq_true rfl) (Nat.le_of_ble_eq_true rfl) ?_
  refine va_putF (D := D) (ci := 2) (v := .ref q3) (ty := tyX2 2) (C := RX2) (T := TX2) (N := 4) hx hb hts in_X2_init_2 tyX2 tyX2_ok nmX2 hown hK.1 hP hD hS 0 rfl rfl 2 (by decide) (hts (.fieldLink RX2 18 "ChildCoins$Payment" "fewest" "[I") (List.mem_of_getElem? (i := 7) rfl)) (fun _ h9 => h9) rfl hnm rfl (tyX2_ok 2 (by decide)) rfl rfl (Nat.le_of_ble_eq_true rfl) dX2_init_26 (fun H locs hP hD hS => ?_)
  have hP : va_P D vwCl [(h0, .inr (2, [.ref q1, .ref q2, .ref q3, .int 0])), (q1, .inl (cI, 6, .inl zf)), (q2, .inl (cI, 6, .inl zf)), (q3, .inl (cI, 427, .inl zf))] H := hP
  have hD : va_D A [(h0, .inr (2, [.ref q1, .ref q2, .ref q3, .int 0])), (q1, .inl (cI, 6, .inl zf)), (q2, .inl (cI, 6, .inl zf)), (q3, .inl (cI, 427, .inl zf))] := hD
  refine lv_aload_n hx hb dX2_init_29 rfl (lv_at hl 0 rfl) ?_
  refine lv_iconst (v := 0) hx hb dX2_init_30 (by decide) ?_
  refine va_put (D := D) (ci := 2) (v := .int 0) (ty := tyX2 3) (C := RX2) (T := TX2) (N := 4) hx hb hts in_X2_init_2 tyX2 tyX2_ok nmX2 hown hK.1 hP hD hS 0 rfl rfl 3 (by decide) (hts (.fieldLink RX2 21 "ChildCoins$Payment" "total" "I") (List.mem_of_getElem? (i := 8) rfl)) (fun _ h9 => h9) rfl (tyX2_ok 3 (by decide)) rfl rfl (Nat.le_of_ble_eq_true rfl) dX2_init_31 (fun H locs hP hD hS => ?_)
  have hP : va_P D vwCl [(h0, .inr (2, [.ref q1, .ref q2, .ref q3, .int 0])), (q1, .inl (cI, 6, .inl zf)), (q2, .inl (cI, 6, .inl zf)), (q3, .inl (cI, 427, .inl zf))] H := hP
  have hD : va_D A [(h0, .inr (2, [.ref q1, .ref q2, .ref q3, .int 0])), (q1, .inl (cI, 6, .inl zf)), (q2, .inl (cI, 6, .inl zf)), (q3, .inl (cI, 427, .inl zf))] := hD
  exact en_v hx hb hr hlk hP hD hS (fun k => List.getD [q1, q2, q3] k 0) [0, 1, 2, 3] (by decide) rfl (Nat.le_of_ble_eq_true rfl) (Nat.le_of_ble_eq_true rfl) dX2_init_34 trivial
set_option maxRecDepth 20000 in
theorem dAX3_init : decA cX3_init [(0, .aload_n 0, 1), (1, .invokespecial 3, 3), (4, .aload_n 0, 1), (5, .iconst 0, 1), (6, .newarray .int, 2), (8, .putfield 9, 3), (11, .aload_n 0, 1), (12, .iconst 0, 1), (13, .putfield 15, 3), (16, .aload_n 0, 1), (17, .iconst 0, 1), (18, .putfield 19, 3), (21, .aload_n 0, 1), (22, .iconst 0, 1), (23, .putfield 22, 3), (26, .aload_n 0, 1), (27, .iconst 0, 1), (28, .putfield 25, 3), (31, .aload_n 0, 1), (32, .iconst 0, 1), (33, .putfield 28, 3), (36, .return_, 1)] = true := by decide +kernel
theorem dX3_init_0 : decode cX3_init 0 = .ok (.aload_n 0, 1) := decA_get dAX3_init 0 rfl
theorem dX3_init_1 : decode cX3_init 1 = .ok (.invokespecial 3, 3) := decA_get dAX3_init 1 rfl
theorem dX3_init_4 : decode cX3_init 4 = .ok (.aload_n 0, 1) := decA_get dAX3_init 2 rfl
theorem dX3_init_5 : decode cX3_init 5 = .ok (.iconst 0, 1) := decA_get dAX3_init 3 rfl
theorem dX3_init_6 : decode cX3_init 6 = .ok (.newarray .int, 2) := decA_get dAX3_init 4 rfl
theorem dX3_init_8 : decode cX3_init 8 = .ok (.putfield 9, 3) := decA_get dAX3_init 5 rfl
theorem in_X3_init_3 : ∀ w ∈ wsX30, w ∈ wsX3_init := fun w h => (gd_ids wi_X3_init wm_X3_init wi_X30 (by decide +kernel) w h).1
theorem dX3_init_11 : decode cX3_init 11 = .ok (.aload_n 0, 1) := decA_get dAX3_init 6 rfl
theorem dX3_init_12 : decode cX3_init 12 = .ok (.iconst 0, 1) := decA_get dAX3_init 7 rfl
theorem dX3_init_13 : decode cX3_init 13 = .ok (.putfield 15, 3) := decA_get dAX3_init 8 rfl
theorem dX3_init_16 : decode cX3_init 16 = .ok (.aload_n 0, 1) := decA_get dAX3_init 9 rfl
theorem dX3_init_17 : decode cX3_init 17 = .ok (.iconst 0, 1) := decA_get dAX3_init 10 rfl
theorem dX3_init_18 : decode cX3_init 18 = .ok (.putfield 19, 3) := decA_get dAX3_init 11 rfl
theorem dX3_init_21 : decode cX3_init 21 = .ok (.aload_n 0, 1) := decA_get dAX3_init 12 rfl
theorem dX3_init_22 : decode cX3_init 22 = .ok (.iconst 0, 1) := decA_get dAX3_init 13 rfl
theorem dX3_init_23 : decode cX3_init 23 = .ok (.putfield 22, 3) := decA_get dAX3_init 14 rfl
theorem dX3_init_26 : decode cX3_init 26 = .ok (.aload_n 0, 1) := decA_get dAX3_init 15 rfl
theorem dX3_init_27 : decode cX3_init 27 = .ok (.iconst 0, 1) := decA_get dAX3_init 16 rfl
theorem dX3_init_28 : decode cX3_init 28 = .ok (.putfield 25, 3) := decA_get dAX3_init 17 rfl
theorem dX3_init_31 : decode cX3_init 31 = .ok (.aload_n 0, 1) := decA_get dAX3_init 18 rfl
theorem dX3_init_32 : decode cX3_init 32 = .ok (.iconst 0, 1) := decA_get dAX3_init 19 rfl
theorem dX3_init_33 : decode cX3_init 33 = .ok (.putfield 28, 3) := decA_get dAX3_init 20 rfl
theorem dX3_init_36 : decode cX3_init 36 = .ok (.return_, 1) := decA_get dAX3_init 21 rfl
set_option maxHeartbeats 4000000 in
set_option maxRecDepth 100000 in
theorem c_Rea_init (l : Launch) (D : va_G) (cI cB cZ cN : ClassId) (h0 : Nat)  : Cv (S := (Nat → Nat)) l D cI cB cZ cN yX3_init wsX3_init ({ frames := 1, cells := 1, slots := 0, locals := 20 } : Room) [.ref h0] [(h0, .inr (3, [.null, .int 0, .int 0, .int 0, .int 0, .int 0]))] (fun _ => True) (fun u => [(h0, .inr (3, [.ref (u 0), .int 0, .int 0, .int 0, .int 0, .int 0])), ((u 0), .inl (cI, 0, .inl zf))]) := by
  refine bx_of (D := D) (cI := cI) (cB := cB) (cZ := cZ) (cN := cN) (y := yX3_init) (wd := wsX3_init) (rm := ({ frames := 1, cells := 1, slots := 0, locals := 20 } : Room)) (av := [.ref h0]) (wc := [(h0, .inr (3, [.null, .int 0, .int 0, .int 0, .int 0, .int 0]))]) (cc := cX3_init) (maxL := 1) (ret := none) (Qc := fun _ A => va_Qv (S := (Nat → Nat)) (fun _ => True) (Aft D (fun (u : (Nat → Nat)) => [(h0, .inr (3, [.ref (u 0), .int 0, .int 0, .int 0, .int 0, .int 0])), ((u 0), .inl (cI, 0, .inl zf))]) A) A) (by decide) rfl (Nat.le_of_ble_eq_true rfl) ?_
  intro p e s m below meth c A H locs ⟨hx, hb, hr, hml, hown, hts, hlk, hnm⟩ hK hP hD hS hA ls hl
  have hl : lv_has ls 1 [(0, .ref h0)] := hl
  have hown : s.vm.findClass RX3 = some m.cls := hown
  refine lv_aload_n hx hb dX3_init_0 rfl (lv_at hl 0 rfl) ?_
  refine W.objInit hx hb hown (hts (.methodLink RX3 3 objectInit) (List.mem_of_getElem? (i := 1) rfl)) (hts (.instanceMethod objectInit) (List.mem_of_getElem? (i := 2) rfl)) (hts (.code objectInit ⟨#[0xb1]⟩ 1 none) (List.mem_of_getElem? (i := 3) rfl)) rfl (by rw [hml]; exact hl.1) rfl dX3_init_1 (Nat.le_of_ble_eq_true rfl) (Nat.le_of_ble_eq_true rfl) ?_
  refine lv_aload_n hx hb dX3_init_4 rfl (lv_at hl 0 rfl) ?_
  refine lv_iconst (v := 0) hx hb dX3_init_5 (by decide) ?_
  refine nw_a (atype := .int) (ty := .int) (cA := cI) (a0 := (0, .inl zf)) hx hb (hts (.arrayClass .int) (List.mem_of_getElem? (i := 4) rfl)) rfl hK 0 rfl (fun C h => by cases h) hP hD hS hA (fun _ => rfl) (k := 0) (by decide) (N' := 0) (by rfl) (by decide) (Nat.le_of_ble_eq_true (by rfl)) (Nat.le_of_ble_eq_true (by rfl)) dX3_init_6 (fun q1 H hP hD hS => ?_)
  have hP : va_P D vwCl [(h0, .inr (3, [.null, .int 0, .int 0, .int 0, .int 0, .int 0])), (q1, .inl (cI, 0, .inl zf))] H := hP
  have hD : va_D A [(h0, .inr (3, [.null, .int 0, .int 0, .int 0, .int 0, .int 0])), (q1, .inl (cI, 0, .inl zf))] := hD
  refine W.widen (k := 1) (n := 0) (Nat.le_of_ble_eq_true rfl) (Nat.le_of_ble_eq_true rfl) ?_
  refine va_put (D := D) (ci := 3) (v := .ref q1) (ty := tyX3 0) (C := RX3) (T := TX3) (N := 6) hx hb hts in_X3_init_3 tyX3 tyX3_ok nmX3 hown hK.1 hP hD hS 0 rfl rfl 0 (by decide) (hts (.fieldLink RX3 9 "ChildCoins$Reader" "bytes" "[I") (List.mem_of_getElem? (i := 5) rfl)) (fun _ h9 => h9) rfl (tyX3_ok 0 (by decide)) rfl rfl (Nat.le_of_ble_eq_true rfl) dX3_init_8 (fun H locs hP hD hS => ?_)
  have hP : va_P D vwCl [(h0, .inr (3, [.ref q1, .int 0, .int 0, .int 0, .int 0, .int 0])), (q1, .inl (cI, 0, .inl zf))] H := hP
  have hD : va_D A [(h0, .inr (3, [.ref q1, .int 0, .int 0, .int 0, .int 0, .int 0])), (q1, .inl (cI, 0, .inl zf))] := hD
  refine lv_aload_n hx hb dX3_init_11 rfl (lv_at hl 0 rfl) ?_
  refine lv_iconst (v := 0) hx hb dX3_init_12 (by decide) ?_
  refine va_put (D := D) (ci := 3) (v := .int 0) (ty := tyX3 1) (C := RX3) (T := TX3) (N := 6) hx hb hts in_X3_init_3 tyX3 tyX3_ok nmX3 hown hK.1 hP hD hS 0 rfl rfl 1 (by decide) (hts (.fieldLink RX3 15 "ChildCoins$Reader" "length" "I") (List.mem_of_getElem? (i := 6) rfl)) (fun _ h9 => h9) rfl (tyX3_ok 1 (by decide)) rfl rfl (Nat.le_of_ble_eq_true rfl) dX3_init_13 (fun H locs hP hD hS => ?_)
  have hP : va_P D vwCl [(h0, .inr (3, [.ref q1, .int 0, .int 0, .int 0, .int 0, .int 0])), (q1, .inl (cI, 0, .inl zf))] H := hP
  have hD : va_D A [(h0, .inr (3, [.ref q1, .int 0, .int 0, .int 0, .int 0, .int 0])), (q1, .inl (cI, 0, .inl zf))] := hD
  refine lv_aload_n hx hb dX3_init_16 rfl (lv_at hl 0 rfl) ?_
  refine lv_iconst (v := 0) hx hb dX3_init_17 (by decide) ?_
  refine va_put (D := D) (ci := 3) (v := .int 0) (ty := tyX3 2) (C := RX3) (T := TX3) (N := 6) hx hb hts in_X3_init_3 tyX3 tyX3_ok nmX3 hown hK.1 hP hD hS 0 rfl rfl 2 (by decide) (hts (.fieldLink RX3 19 "ChildCoins$Reader" "at" "I") (List.mem_of_getElem? (i := 7) rfl)) (fun _ h9 => h9) rfl (tyX3_ok 2 (by decide)) rfl rfl (Nat.le_of_ble_eq_true rfl) dX3_init_18 (fun H locs hP hD hS => ?_)
  have hP : va_P D vwCl [(h0, .inr (3, [.ref q1, .int 0, .int 0, .int 0, .int 0, .int 0])), (q1, .inl (cI, 0, .inl zf))] H := hP
  have hD : va_D A [(h0, .inr (3, [.ref q1, .int 0, .int 0, .int 0, .int 0, .int 0])), (q1, .inl (cI, 0, .inl zf))] := hD
  refine lv_aload_n hx hb dX3_init_21 rfl (lv_at hl 0 rfl) ?_
  refine lv_iconst (v := 0) hx hb dX3_init_22 (by decide) ?_
  refine va_put (D := D) (ci := 3) (v := .int 0) (ty := tyX3 3) (C := RX3) (T := TX3) (N := 6) hx hb hts in_X3_init_3 tyX3 tyX3_ok nmX3 hown hK.1 hP hD hS 0 rfl rfl 3 (by decide) (hts (.fieldLink RX3 22 "ChildCoins$Reader" "start" "I") (List.mem_of_getElem? (i := 8) rfl)) (fun _ h9 => h9) rfl (tyX3_ok 3 (by decide)) rfl rfl (Nat.le_of_ble_eq_true rfl) dX3_init_23 (fun H locs hP hD hS => ?_)
  have hP : va_P D vwCl [(h0, .inr (3, [.ref q1, .int 0, .int 0, .int 0, .int 0, .int 0])), (q1, .inl (cI, 0, .inl zf))] H := hP
  have hD : va_D A [(h0, .inr (3, [.ref q1, .int 0, .int 0, .int 0, .int 0, .int 0])), (q1, .inl (cI, 0, .inl zf))] := hD
  refine lv_aload_n hx hb dX3_init_26 rfl (lv_at hl 0 rfl) ?_
  refine lv_iconst (v := 0) hx hb dX3_init_27 (by decide) ?_
  refine va_put (D := D) (ci := 3) (v := .int 0) (ty := tyX3 4) (C := RX3) (T := TX3) (N := 6) hx hb hts in_X3_init_3 tyX3 tyX3_ok nmX3 hown hK.1 hP hD hS 0 rfl rfl 4 (by decide) (hts (.fieldLink RX3 25 "ChildCoins$Reader" "token" "I") (List.mem_of_getElem? (i := 9) rfl)) (fun _ h9 => h9) rfl (tyX3_ok 4 (by decide)) rfl rfl (Nat.le_of_ble_eq_true rfl) dX3_init_28 (fun H locs hP hD hS => ?_)
  have hP : va_P D vwCl [(h0, .inr (3, [.ref q1, .int 0, .int 0, .int 0, .int 0, .int 0])), (q1, .inl (cI, 0, .inl zf))] H := hP
  have hD : va_D A [(h0, .inr (3, [.ref q1, .int 0, .int 0, .int 0, .int 0, .int 0])), (q1, .inl (cI, 0, .inl zf))] := hD
  refine lv_aload_n hx hb dX3_init_31 rfl (lv_at hl 0 rfl) ?_
  refine lv_iconst (v := 0) hx hb dX3_init_32 (by decide) ?_
  refine va_put (D := D) (ci := 3) (v := .int 0) (ty := tyX3 5) (C := RX3) (T := TX3) (N := 6) hx hb hts in_X3_init_3 tyX3 tyX3_ok nmX3 hown hK.1 hP hD hS 0 rfl rfl 5 (by decide) (hts (.fieldLink RX3 28 "ChildCoins$Reader" "value" "I") (List.mem_of_getElem? (i := 10) rfl)) (fun _ h9 => h9) rfl (tyX3_ok 5 (by decide)) rfl rfl (Nat.le_of_ble_eq_true rfl) dX3_init_33 (fun H locs hP hD hS => ?_)
  have hP : va_P D vwCl [(h0, .inr (3, [.ref q1, .int 0, .int 0, .int 0, .int 0, .int 0])), (q1, .inl (cI, 0, .inl zf))] H := hP
  have hD : va_D A [(h0, .inr (3, [.ref q1, .int 0, .int 0, .int 0, .int 0, .int 0])), (q1, .inl (cI, 0, .inl zf))] := hD
  exact en_v hx hb hr hlk hP hD hS (fun k => List.getD [q1] k 0) [0, 1] (by decide) rfl (Nat.le_of_ble_eq_true rfl) (Nat.le_of_ble_eq_true rfl) dX3_init_36 trivial
set_option maxRecDepth 20000 in
theorem dAX5_init : decA cX5_init [(0, .aload_n 0, 1), (1, .invokespecial 3, 3), (4, .aload_n 0, 1), (5, .bipush 6, 2), (7, .newarray .int, 2), (9, .putfield 9, 3), (12, .aload_n 0, 1), (13, .bipush 6, 2), (15, .newarray .int, 2), (17, .putfield 15, 3), (20, .aload_n 0, 1), (21, .iconst 0, 1), (22, .putfield 18, 3), (25, .aload_n 0, 1), (26, .iconst 0, 1), (27, .putfield 22, 3), (30, .return_, 1)] = true := by decide +kernel
theorem dX5_init_0 : decode cX5_init 0 = .ok (.aload_n 0, 1) := decA_get dAX5_init 0 rfl
theorem dX5_init_1 : decode cX5_init 1 = .ok (.invokespecial 3, 3) := decA_get dAX5_init 1 rfl
theorem dX5_init_4 : decode cX5_init 4 = .ok (.aload_n 0, 1) := decA_get dAX5_init 2 rfl
theorem dX5_init_5 : decode cX5_init 5 = .ok (.bipush 6, 2) := decA_get dAX5_init 3 rfl
theorem dX5_init_7 : decode cX5_init 7 = .ok (.newarray .int, 2) := decA_get dAX5_init 4 rfl
theorem dX5_init_9 : decode cX5_init 9 = .ok (.putfield 9, 3) := decA_get dAX5_init 5 rfl
theorem in_X5_init_5 : ∀ w ∈ wsX50, w ∈ wsX5_init := fun w h => (gd_ids wi_X5_init wm_X5_init wi_X50 (by decide +kernel) w h).1
theorem dX5_init_12 : decode cX5_init 12 = .ok (.aload_n 0, 1) := decA_get dAX5_init 6 rfl
theorem dX5_init_13 : decode cX5_init 13 = .ok (.bipush 6, 2) := decA_get dAX5_init 7 rfl
theorem dX5_init_15 : decode cX5_init 15 = .ok (.newarray .int, 2) := decA_get dAX5_init 8 rfl
theorem dX5_init_17 : decode cX5_init 17 = .ok (.putfield 15, 3) := decA_get dAX5_init 9 rfl
theorem dX5_init_20 : decode cX5_init 20 = .ok (.aload_n 0, 1) := decA_get dAX5_init 10 rfl
theorem dX5_init_21 : decode cX5_init 21 = .ok (.iconst 0, 1) := decA_get dAX5_init 11 rfl
theorem dX5_init_22 : decode cX5_init 22 = .ok (.putfield 18, 3) := decA_get dAX5_init 12 rfl
theorem dX5_init_25 : decode cX5_init 25 = .ok (.aload_n 0, 1) := decA_get dAX5_init 13 rfl
theorem dX5_init_26 : decode cX5_init 26 = .ok (.iconst 0, 1) := decA_get dAX5_init 14 rfl
theorem dX5_init_27 : decode cX5_init 27 = .ok (.putfield 22, 3) := decA_get dAX5_init 15 rfl
theorem dX5_init_30 : decode cX5_init 30 = .ok (.return_, 1) := decA_get dAX5_init 16 rfl
set_option maxHeartbeats 4000000 in
set_option maxRecDepth 100000 in
theorem c_Wor_init (l : Launch) (D : va_G) (cI cB cZ cN : ClassId) (h0 : Nat)  : Cv (S := (Nat → Nat)) l D cI cB cZ cN yX5_init wsX5_init ({ frames := 1, cells := 2, slots := 12, locals := 20 } : Room) [.ref h0] [(h0, .inr (5, [.null, .null, .int 0, .int 0]))] (fun _ => True) (fun u => [(h0, .inr (5, [.ref (u 0), .ref (u 1), .int 0, .int 0])), ((u 0), .inl (cI, 6, .inl zf)), ((u 1), .inl (cI, 6, .inl zf))]) := by
  refine bx_of (D := D) (cI := cI) (cB := cB) (cZ := cZ) (cN := cN) (y := yX5_init) (wd := wsX5_init) (rm := ({ frames := 1, cells := 2, slots := 12, locals := 20 } : Room)) (av := [.ref h0]) (wc := [(h0, .inr (5, [.null, .null, .int 0, .int 0]))]) (cc := cX5_init) (maxL := 1) (ret := none) (Qc := fun _ A => va_Qv (S := (Nat → Nat)) (fun _ => True) (Aft D (fun (u : (Nat → Nat)) => [(h0, .inr (5, [.ref (u 0), .ref (u 1), .int 0, .int 0])), ((u 0), .inl (cI, 6, .inl zf)), ((u 1), .inl (cI, 6, .inl zf))]) A) A) (by decide) rfl (Nat.le_of_ble_eq_true rfl) ?_
  intro p e s m below meth c A H locs ⟨hx, hb, hr, hml, hown, hts, hlk, hnm⟩ hK hP hD hS hA ls hl
  have hl : lv_has ls 1 [(0, .ref h0)] := hl
  have hown : s.vm.findClass RX5 = some m.cls := hown
  refine lv_aload_n hx hb dX5_init_0 rfl (lv_at hl 0 rfl) ?_
  refine W.objInit hx hb hown (hts (.methodLink RX5 3 objectInit) (List.mem_of_getElem? (i := 1) rfl)) (hts (.instanceMethod objectInit) (List.mem_of_getElem? (i := 2) rfl)) (hts (.code objectInit ⟨#[0xb1]⟩ 1 none) (List.mem_of_getElem? (i := 3) rfl)) rfl (by rw [hml]; exact hl.1) rfl dX5_init_1 (Nat.le_of_ble_eq_true rfl) (Nat.le_of_ble_eq_true rfl) ?_
  refine lv_aload_n hx hb dX5_init_4 rfl (lv_at hl 0 rfl) ?_
  refine lv_bipush (v := 6) hx hb dX5_init_5 (by decide) ?_
  refine nw_a (atype := .int) (ty := .int) (cA := cI) (a0 := (6, .inl zf)) hx hb (hts (.arrayClass .int) (List.mem_of_getElem? (i := 4) rfl)) rfl hK 0 rfl (fun C h => by cases h) hP hD hS hA (fun _ => rfl) (k := 6) (by decide) (N' := 6) (by rfl) (by decide) (Nat.le_of_ble_eq_true (by rfl)) (Nat.le_of_ble_eq_true (by rfl)) dX5_init_7 (fun q1 H hP hD hS => ?_)
  have hP : va_P D vwCl [(h0, .inr (5, [.null, .null, .int 0, .int 0])), (q1, .inl (cI, 6, .inl zf))] H := hP
  have hD : va_D A [(h0, .inr (5, [.null, .null, .int 0, .int 0])), (q1, .inl (cI, 6, .inl zf))] := hD
  refine W.widen (k := 1) (n := 6) (Nat.le_of_ble_eq_true rfl) (Nat.le_of_ble_eq_true rfl) ?_
  refine va_putF (D := D) (ci := 5) (v := .ref q1) (ty := tyX5 0) (C := RX5) (T := TX5) (N := 4) hx hb hts in_X5_init_5 tyX5 tyX5_ok nmX5 hown hK.1 hP hD hS 0 rfl rfl 0 (by decide) (hts (.fieldLink RX5 9 "ChildCoins$World" "stock" "[I") (List.mem_of_getElem? (i := 5) rfl)) (fun _ h9 => h9) rfl hnm rfl (tyX5_ok 0 (by decide)) rfl rfl (Nat.le_of_ble_eq_true rfl) dX5_init_9 (fun H locs hP hD hS => ?_)
  have hP : va_P D vwCl [(h0, .inr (5, [.ref q1, .null, .int 0, .int 0])), (q1, .inl (cI, 6, .inl zf))] H := hP
  have hD : va_D A [(h0, .inr (5, [.ref q1, .null, .int 0, .int 0])), (q1, .inl (cI, 6, .inl zf))] := hD
  refine lv_aload_n hx hb dX5_init_12 rfl (lv_at hl 0 rfl) ?_
  refine lv_bipush (v := 6) hx hb dX5_init_13 (by decide) ?_
  refine nw_a (atype := .int) (ty := .int) (cA := cI) (a0 := (6, .inl zf)) hx hb (hts (.arrayClass .int) (List.mem_of_getElem? (i := 4) rfl)) rfl hK 0 rfl (fun C h => by cases h) hP hD hS hA (fun _ => rfl) (k := 6) (by decide) (N' := 6) (by rfl) (by decide) (Nat.le_of_ble_eq_true (by rfl)) (Nat.le_of_ble_eq_true (by rfl)) dX5_init_15 (fun q2 H hP hD hS => ?_)
  have hP : va_P D vwCl [(h0, .inr (5, [.ref q1, .null, .int 0, .int 0])), (q1, .inl (cI, 6, .inl zf)), (q2, .inl (cI, 6, .inl zf))] H := hP
  have hD : va_D A [(h0, .inr (5, [.ref q1, .null, .int 0, .int 0])), (q1, .inl (cI, 6, .inl zf)), (q2, .inl (cI, 6, .inl zf))] := hD
  refine W.widen (k := 2) (n := 12) (Nat.le_of_ble_eq_true rfl) (Nat.le_of_ble_eq_true rfl) ?_
  refine va_putF (D := D) (ci := 5) (v := .ref q2) (ty := tyX5 1) (C := RX5) (T := TX5) (N := 4) hx hb hts in_X5_init_5 tyX5 tyX5_ok nmX5 hown hK.1 hP hD hS 0 rfl rfl 1 (by decide) (hts (.fieldLink RX5 15 "ChildCoins$World" "worth" "[I") (List.mem_of_getElem? (i := 6) rfl)) (fun _ h9 => h9) rfl hnm rfl (tyX5_ok 1 (by decide)) rfl rfl (Nat.le_of_ble_eq_true rfl) dX5_init_17 (fun H locs hP hD hS => ?_)
  have hP : va_P D vwCl [(h0, .inr (5, [.ref q1, .ref q2, .int 0, .int 0])), (q1, .inl (cI, 6, .inl zf)), (q2, .inl (cI, 6, .inl zf))] H := hP
  have hD : va_D A [(h0, .inr (5, [.ref q1, .ref q2, .int 0, .int 0])), (q1, .inl (cI, 6, .inl zf)), (q2, .inl (cI, 6, .inl zf))] := hD
  refine lv_aload_n hx hb dX5_init_20 rfl (lv_at hl 0 rfl) ?_
  refine lv_iconst (v := 0) hx hb dX5_init_21 (by decide) ?_
  refine va_put (D := D) (ci := 5) (v := .int 0) (ty := tyX5 2) (C := RX5) (T := TX5) (N := 4) hx hb hts in_X5_init_5 tyX5 tyX5_ok nmX5 hown hK.1 hP hD hS 0 rfl rfl 2 (by decide) (hts (.fieldLink RX5 18 "ChildCoins$World" "coins" "I") (List.mem_of_getElem? (i := 7) rfl)) (fun _ h9 => h9) rfl (tyX5_ok 2 (by decide)) rfl rfl (Nat.le_of_ble_eq_true rfl) dX5_init_22 (fun H locs hP hD hS => ?_)
  have hP : va_P D vwCl [(h0, .inr (5, [.ref q1, .ref q2, .int 0, .int 0])), (q1, .inl (cI, 6, .inl zf)), (q2, .inl (cI, 6, .inl zf))] H := hP
  have hD : va_D A [(h0, .inr (5, [.ref q1, .ref q2, .int 0, .int 0])), (q1, .inl (cI, 6, .inl zf)), (q2, .inl (cI, 6, .inl zf))] := hD
  refine lv_aload_n hx hb dX5_init_25 rfl (lv_at hl 0 rfl) ?_
  refine lv_iconst (v := 0) hx hb dX5_init_26 (by decide) ?_
  refine va_put (D := D) (ci := 5) (v := .int 0) (ty := tyX5 3) (C := RX5) (T := TX5) (N := 4) hx hb hts in_X5_init_5 tyX5 tyX5_ok nmX5 hown hK.1 hP hD hS 0 rfl rfl 3 (by decide) (hts (.fieldLink RX5 22 "ChildCoins$World" "sum" "I") (List.mem_of_getElem? (i := 8) rfl)) (fun _ h9 => h9) rfl (tyX5_ok 3 (by decide)) rfl rfl (Nat.le_of_ble_eq_true rfl) dX5_init_27 (fun H locs hP hD hS => ?_)
  have hP : va_P D vwCl [(h0, .inr (5, [.ref q1, .ref q2, .int 0, .int 0])), (q1, .inl (cI, 6, .inl zf)), (q2, .inl (cI, 6, .inl zf))] H := hP
  have hD : va_D A [(h0, .inr (5, [.ref q1, .ref q2, .int 0, .int 0])), (q1, .inl (cI, 6, .inl zf)), (q2, .inl (cI, 6, .inl zf))] := hD
  exact en_v hx hb hr hlk hP hD hS (fun k => List.getD [q1, q2] k 0) [0, 1, 2] (by decide) rfl (Nat.le_of_ble_eq_true rfl) (Nat.le_of_ble_eq_true rfl) dX5_init_30 trivial
set_option maxRecDepth 20000 in
theorem dAX4_init : decA cX4_init [(0, .aload_n 0, 1), (1, .invokespecial 3, 3), (4, .aload_n 0, 1), (5, .new 9, 3), (8, .dup, 1), (9, .invokespecial 11, 3), (12, .putfield 12, 3), (15, .aload_n 0, 1), (16, .iconst 5, 1), (17, .newarray .int, 2), (19, .putfield 18, 3), (22, .aload_n 0, 1), (23, .iconst 5, 1), (24, .newarray .int, 2), (26, .putfield 22, 3), (29, .aload_n 0, 1), (30, .iconst 0, 1), (31, .putfield 25, 3), (34, .return_, 1)] = true := by decide +kernel
theorem dX4_init_0 : decode cX4_init 0 = .ok (.aload_n 0, 1) := decA_get dAX4_init 0 rfl
theorem dX4_init_1 : decode cX4_init 1 = .ok (.invokespecial 3, 3) := decA_get dAX4_init 1 rfl
theorem dX4_init_4 : decode cX4_init 4 = .ok (.aload_n 0, 1) := decA_get dAX4_init 2 rfl
theorem dX4_init_5 : decode cX4_init 5 = .ok (.new 9, 3) := decA_get dAX4_init 3 rfl
theorem in_X4_init_1 : ∀ w ∈ wsX10, w ∈ wsX4_init := fun w h => (gd_ids wi_X4_init wm_X4_init wi_X10 (by decide +kernel) w h).1
theorem dX4_init_8 : decode cX4_init 8 = .ok (.dup, 1) := decA_get dAX4_init 4 rfl
theorem dX4_init_9 : decode cX4_init 9 = .ok (.invokespecial 11, 3) := decA_get dAX4_init 5 rfl
set_option maxRecDepth 20000 in
theorem ggX4_init_X1_init : GoodIn wsX4_init wsX1_init := gd_ids wi_X4_init wm_X4_init wi_X1_init (by decide +kernel)
theorem dX4_init_12 : decode cX4_init 12 = .ok (.putfield 12, 3) := decA_get dAX4_init 6 rfl
theorem in_X4_init_4 : ∀ w ∈ wsX40, w ∈ wsX4_init := fun w h => (gd_ids wi_X4_init wm_X4_init wi_X40 (by decide +kernel) w h).1
theorem dX4_init_15 : decode cX4_init 15 = .ok (.aload_n 0, 1) := decA_get dAX4_init 7 rfl
theorem dX4_init_16 : decode cX4_init 16 = .ok (.iconst 5, 1) := decA_get dAX4_init 8 rfl
theorem dX4_init_17 : decode cX4_init 17 = .ok (.newarray .int, 2) := decA_get dAX4_init 9 rfl
theorem dX4_init_19 : decode cX4_init 19 = .ok (.putfield 18, 3) := decA_get dAX4_init 10 rfl
theorem dX4_init_22 : decode cX4_init 22 = .ok (.aload_n 0, 1) := decA_get dAX4_init 11 rfl
theorem dX4_init_23 : decode cX4_init 23 = .ok (.iconst 5, 1) := decA_get dAX4_init 12 rfl
theorem dX4_init_24 : decode cX4_init 24 = .ok (.newarray .int, 2) := decA_get dAX4_init 13 rfl
theorem dX4_init_26 : decode cX4_init 26 = .ok (.putfield 22, 3) := decA_get dAX4_init 14 rfl
theorem dX4_init_29 : decode cX4_init 29 = .ok (.aload_n 0, 1) := decA_get dAX4_init 15 rfl
theorem dX4_init_30 : decode cX4_init 30 = .ok (.iconst 0, 1) := decA_get dAX4_init 16 rfl
theorem dX4_init_31 : decode cX4_init 31 = .ok (.putfield 25, 3) := decA_get dAX4_init 17 rfl
theorem dX4_init_34 : decode cX4_init 34 = .ok (.return_, 1) := decA_get dAX4_init 18 rfl
set_option maxHeartbeats 4000000 in
set_option maxRecDepth 100000 in
theorem c_Row_init (l : Launch) (D : va_G) (cI cB cZ cN : ClassId) (h0 : Nat)  : Cv (S := (Nat → Nat)) l D cI cB cZ cN yX4_init wsX4_init ({ frames := 2, cells := 5, slots := 409, locals := 40 } : Room) [.ref h0] [(h0, .inr (4, [.null, .null, .null, .int 0]))] (fun _ => True) (fun u => [(h0, .inr (4, [.ref (u 0), .ref (u 1), .ref (u 2), .int 0])), ((u 0), .inr (1, [.ref (u 3), .ref (u 4), .int 0])), ((u 3), .inl (cI, 36, .inl zf)), ((u 4), .inl (cI, 360, .inl zf)), ((u 1), .inl (cI, 5, .inl zf)), ((u 2), .inl (cI, 5, .inl zf))]) := by
  refine bx_of (D := D) (cI := cI) (cB := cB) (cZ := cZ) (cN := cN) (y := yX4_init) (wd := wsX4_init) (rm := ({ frames := 2, cells := 5, slots := 409, locals := 40 } : Room)) (av := [.ref h0]) (wc := [(h0, .inr (4, [.null, .null, .null, .int 0]))]) (cc := cX4_init) (maxL := 1) (ret := none) (Qc := fun _ A => va_Qv (S := (Nat → Nat)) (fun _ => True) (Aft D (fun (u : (Nat → Nat)) => [(h0, .inr (4, [.ref (u 0), .ref (u 1), .ref (u 2), .int 0])), ((u 0), .inr (1, [.ref (u 3), .ref (u 4), .int 0])), ((u 3), .inl (cI, 36, .inl zf)), ((u 4), .inl (cI, 360, .inl zf)), ((u 1), .inl (cI, 5, .inl zf)), ((u 2), .inl (cI, 5, .inl zf))]) A) A) (by decide) rfl (Nat.le_of_ble_eq_true rfl) ?_
  intro p e s m below meth c A H locs ⟨hx, hb, hr, hml, hown, hts, hlk, hnm⟩ hK hP hD hS hA ls hl
  have hl : lv_has ls 1 [(0, .ref h0)] := hl
  have hown : s.vm.findClass RX4 = some m.cls := hown
  refine lv_aload_n hx hb dX4_init_0 rfl (lv_at hl 0 rfl) ?_
  refine W.objInit hx hb hown (hts (.methodLink RX4 3 objectInit) (List.mem_of_getElem? (i := 1) rfl)) (hts (.instanceMethod objectInit) (List.mem_of_getElem? (i := 2) rfl)) (hts (.code objectInit ⟨#[0xb1]⟩ 1 none) (List.mem_of_getElem? (i := 3) rfl)) rfl (by rw [hml]; exact hl.1) rfl dX4_init_1 (Nat.le_of_ble_eq_true rfl) (Nat.le_of_ble_eq_true rfl) ?_
  refine lv_aload_n hx hb dX4_init_4 rfl (lv_at hl 0 rfl) ?_
  refine va_new (ci := 1) (fs := [.null, .null, .int 0]) (C := RX1) (T := TX1) (N := 3) hx hb hts in_X4_init_1 tyX1 tyX1_ok hown (hts (.classLink RX4 9 RX1) (List.mem_of_getElem? (i := 4) rfl)) (hts (.instantiable RX1 3) (List.mem_of_getElem? (i := 5) rfl)) (hts (.initialized RX1) (List.mem_of_getElem? (i := 6) rfl)) hK.1 hP hD hS hA rfl (dfX1) (Nat.le_of_ble_eq_true rfl) (Nat.le_of_ble_eq_true rfl) dX4_init_5 (fun q1 H hP hD hS => ?_)
  have hP : va_P D vwCl [(h0, .inr (4, [.null, .null, .null, .int 0])), (q1, .inr (1, [.null, .null, .int 0]))] H := hP
  have hD : va_D A [(h0, .inr (4, [.null, .null, .null, .int 0])), (q1, .inr (1, [.null, .null, .int 0]))] := hD
  refine W.widen (k := 1) (n := 3) (Nat.le_of_ble_eq_true rfl) (Nat.le_of_ble_eq_true rfl) ?_
  refine lv_dup hx hb dX4_init_8 rfl ?_
  refine be_v (free := va_A [(q1, .inr (1, [.null, .null, .int 0]))] H.size) (wc := [(q1, .inr (1, [.null, .null, .int 0]))]) (wr := [(h0, .inr (4, [.null, .null, .null, .int 0]))]) (ru_IN (host := "ChildCoins") (As := []) (rest := [.ref q1, .ref h0]) ⟨hx, hb, hml, hown, hts⟩ (c_Now_init l D cI cB cZ cN q1 H.size) ggX4_init_X1_init rfl (nmX4_11 hK.2) (hts (.initialized RX1) (List.mem_of_getElem? (i := 6) rfl)) (hts (.instanceMethod yX1_init) (List.mem_of_getElem? (i := 12) rfl)) rfl ⟨by decide, by decide, (show Option.map (fun d => d.parameters.length) (parseMethodDescriptor yX1_init.desc) = some 0 by decide +kernel)⟩ ⟨Nat.le_of_ble_eq_true rfl, Nat.le_of_ble_eq_true rfl⟩ hK hP hD [1] (by decide) rfl hl.1 rfl (Nat.le_of_ble_eq_true rfl) dX4_init_9 ⟨Nat.le_of_ble_eq_true rfl, Nat.le_of_ble_eq_true rfl⟩) hP hD hS hA [1] [0] rfl rfl (by decide) (by decide) (fun u2 H locs w4 hP hD hS => ?_)
  have hP : va_P D vwCl [(h0, .inr (4, [.null, .null, .null, .int 0])), (q1, .inr (1, [.ref (u2 0), .ref (u2 1), .int 0])), ((u2 0), .inl (cI, 36, .inl zf)), ((u2 1), .inl (cI, 360, .inl zf))] H := hP
  have hD : va_D A [(h0, .inr (4, [.null, .null, .null, .int 0])), (q1, .inr (1, [.ref (u2 0), .ref (u2 1), .int 0])), ((u2 0), .inl (cI, 36, .inl zf)), ((u2 1), .inl (cI, 360, .inl zf))] := hD
  refine W.widen (k := 3) (n := 399) (Nat.le_of_ble_eq_true rfl) (Nat.le_of_ble_eq_true rfl) ?_
  refine va_putF (D := D) (ci := 4) (v := .ref q1) (ty := tyX4 0) (C := RX4) (T := TX4) (N := 4) hx hb hts in_X4_init_4 tyX4 tyX4_ok nmX4 hown hK.1 hP hD hS 0 rfl rfl 0 (by decide) (hts (.fieldLink RX4 12 "ChildCoins$Rows" "trial" "LChildCoins$Now;") (List.mem_of_getElem? (i := 7) rfl)) (fun _ h9 => h9) rfl hnm rfl (tyX4_ok 0 (by decide)) rfl rfl (Nat.le_of_ble_eq_true rfl) dX4_init_12 (fun H locs hP hD hS => ?_)
  have hP : va_P D vwCl [(h0, .inr (4, [.ref q1, .null, .null, .int 0])), (q1, .inr (1, [.ref (u2 0), .ref (u2 1), .int 0])), ((u2 0), .inl (cI, 36, .inl zf)), ((u2 1), .inl (cI, 360, .inl zf))] H := hP
  have hD : va_D A [(h0, .inr (4, [.ref q1, .null, .null, .int 0])), (q1, .inr (1, [.ref (u2 0), .ref (u2 1), .int 0])), ((u2 0), .inl (cI, 36, .inl zf)), ((u2 1), .inl (cI, 360, .inl zf))] := hD
  refine lv_aload_n hx hb dX4_init_15 rfl (lv_at hl 0 rfl) ?_
  refine lv_iconst (v := 5) hx hb dX4_init_16 (by decide) ?_
  refine nw_a (atype := .int) (ty := .int) (cA := cI) (a0 := (5, .inl zf)) hx hb (hts (.arrayClass .int) (List.mem_of_getElem? (i := 8) rfl)) rfl hK 0 rfl (fun C h => by cases h) hP hD hS hA (fun _ => rfl) (k := 5) (by decide) (N' := 5) (by rfl) (by decide) (Nat.le_of_ble_eq_true (by rfl)) (Nat.le_of_ble_eq_true (by rfl)) dX4_init_17 (fun q5 H hP hD hS => ?_)
  have hP : va_P D vwCl [(h0, .inr (4, [.ref q1, .null, .null, .int 0])), (q1, .inr (1, [.ref (u2 0), .ref (u2 1), .int 0])), ((u2 0), .inl (cI, 36, .inl zf)), ((u2 1), .inl (cI, 360, .inl zf)), (q5, .inl (cI, 5, .inl zf))] H := hP
  have hD : va_D A [(h0, .inr (4, [.ref q1, .null, .null, .int 0])), (q1, .inr (1, [.ref (u2 0), .ref (u2 1), .int 0])), ((u2 0), .inl (cI, 36, .inl zf)), ((u2 1), .inl (cI, 360, .inl zf)), (q5, .inl (cI, 5, .inl zf))] := hD
  refine W.widen (k := 4) (n := 404) (Nat.le_of_ble_eq_true rfl) (Nat.le_of_ble_eq_true rfl) ?_
  refine va_putF (D := D) (ci := 4) (v := .ref q5) (ty := tyX4 1) (C := RX4) (T := TX4) (N := 4) hx hb hts in_X4_init_4 tyX4 tyX4_ok nmX4 hown hK.1 hP hD hS 0 rfl rfl 1 (by decide) (hts (.fieldLink RX4 18 "ChildCoins$Rows" "row" "[I") (List.mem_of_getElem? (i := 9) rfl)) (fun _ h9 => h9) rfl hnm rfl (tyX4_ok 1 (by decide)) rfl rfl (Nat.le_of_ble_eq_true rfl) dX4_init_19 (fun H locs hP hD hS => ?_)
  have hP : va_P D vwCl [(h0, .inr (4, [.ref q1, .ref q5, .null, .int 0])), (q1, .inr (1, [.ref (u2 0), .ref (u2 1), .int 0])), ((u2 0), .inl (cI, 36, .inl zf)), ((u2 1), .inl (cI, 360, .inl zf)), (q5, .inl (cI, 5, .inl zf))] H := hP
  have hD : va_D A [(h0, .inr (4, [.ref q1, .ref q5, .null, .int 0])), (q1, .inr (1, [.ref (u2 0), .ref (u2 1), .int 0])), ((u2 0), .inl (cI, 36, .inl zf)), ((u2 1), .inl (cI, 360, .inl zf)), (q5, .inl (cI, 5, .inl zf))] := hD
  refine lv_aload_n hx hb dX4_init_22 rfl (lv_at hl 0 rfl) ?_
  refine lv_iconst (v := 5) hx hb dX4_init_23 (by decide) ?_
  refine nw_a (atype := .int) (ty := .int) (cA := cI) (a0 := (5, .inl zf)) hx hb (hts (.arrayClass .int) (List.mem_of_getElem? (i := 8) rfl)) rfl hK 0 rfl (fun C h => by cases h) hP hD hS hA (fun _ => rfl) (k := 5) (by decide) (N' := 5) (by rfl) (by decide) (Nat.le_of_ble_eq_true (by rfl)) (Nat.le_of_ble_eq_true (by rfl)) dX4_init_24 (fun q6 H hP hD hS => ?_)
  have hP : va_P D vwCl [(h0, .inr (4, [.ref q1, .ref q5, .null, .int 0])), (q1, .inr (1, [.ref (u2 0), .ref (u2 1), .int 0])), ((u2 0), .inl (cI, 36, .inl zf)), ((u2 1), .inl (cI, 360, .inl zf)), (q5, .inl (cI, 5, .inl zf)), (q6, .inl (cI, 5, .inl zf))] H := hP
  have hD : va_D A [(h0, .inr (4, [.ref q1, .ref q5, .null, .int 0])), (q1, .inr (1, [.ref (u2 0), .ref (u2 1), .int 0])), ((u2 0), .inl (cI, 36, .inl zf)), ((u2 1), .inl (cI, 360, .inl zf)), (q5, .inl (cI, 5, .inl zf)), (q6, .inl (cI, 5, .inl zf))] := hD
  refine W.widen (k := 5) (n := 409) (Nat.le_of_ble_eq_true rfl) (Nat.le_of_ble_eq_true rfl) ?_
  refine va_putF (D := D) (ci := 4) (v := .ref q6) (ty := tyX4 2) (C := RX4) (T := TX4) (N := 4) hx hb hts in_X4_init_4 tyX4 tyX4_ok nmX4 hown hK.1 hP hD hS 0 rfl rfl 2 (by decide) (hts (.fieldLink RX4 22 "ChildCoins$Rows" "best" "[I") (List.mem_of_getElem? (i := 10) rfl)) (fun _ h9 => h9) rfl hnm rfl (tyX4_ok 2 (by decide)) rfl rfl (Nat.le_of_ble_eq_true rfl) dX4_init_26 (fun H locs hP hD hS => ?_)
  have hP : va_P D vwCl [(h0, .inr (4, [.ref q1, .ref q5, .ref q6, .int 0])), (q1, .inr (1, [.ref (u2 0), .ref (u2 1), .int 0])), ((u2 0), .inl (cI, 36, .inl zf)), ((u2 1), .inl (cI, 360, .inl zf)), (q5, .inl (cI, 5, .inl zf)), (q6, .inl (cI, 5, .inl zf))] H := hP
  have hD : va_D A [(h0, .inr (4, [.ref q1, .ref q5, .ref q6, .int 0])), (q1, .inr (1, [.ref (u2 0), .ref (u2 1), .int 0])), ((u2 0), .inl (cI, 36, .inl zf)), ((u2 1), .inl (cI, 360, .inl zf)), (q5, .inl (cI, 5, .inl zf)), (q6, .inl (cI, 5, .inl zf))] := hD
  refine lv_aload_n hx hb dX4_init_29 rfl (lv_at hl 0 rfl) ?_
  refine lv_iconst (v := 0) hx hb dX4_init_30 (by decide) ?_
  refine va_put (D := D) (ci := 4) (v := .int 0) (ty := tyX4 3) (C := RX4) (T := TX4) (N := 4) hx hb hts in_X4_init_4 tyX4 tyX4_ok nmX4 hown hK.1 hP hD hS 0 rfl rfl 3 (by decide) (hts (.fieldLink RX4 25 "ChildCoins$Rows" "bestLength" "I") (List.mem_of_getElem? (i := 11) rfl)) (fun _ h9 => h9) rfl (tyX4_ok 3 (by decide)) rfl rfl (Nat.le_of_ble_eq_true rfl) dX4_init_31 (fun H locs hP hD hS => ?_)
  have hP : va_P D vwCl [(h0, .inr (4, [.ref q1, .ref q5, .ref q6, .int 0])), (q1, .inr (1, [.ref (u2 0), .ref (u2 1), .int 0])), ((u2 0), .inl (cI, 36, .inl zf)), ((u2 1), .inl (cI, 360, .inl zf)), (q5, .inl (cI, 5, .inl zf)), (q6, .inl (cI, 5, .inl zf))] H := hP
  have hD : va_D A [(h0, .inr (4, [.ref q1, .ref q5, .ref q6, .int 0])), (q1, .inr (1, [.ref (u2 0), .ref (u2 1), .int 0])), ((u2 0), .inl (cI, 36, .inl zf)), ((u2 1), .inl (cI, 360, .inl zf)), (q5, .inl (cI, 5, .inl zf)), (q6, .inl (cI, 5, .inl zf))] := hD
  exact en_v hx hb hr hlk hP hD hS (fun k => List.getD [q1, q5, q6, (u2 0), (u2 1)] k 0) [0, 1, 2, 3, 4, 5] (by decide) rfl (Nat.le_of_ble_eq_true rfl) (Nat.le_of_ble_eq_true rfl) dX4_init_34 trivial
