set_option maxRecDepth 20000 in
theorem dAX6_commonDivisor : decA cX6_commonDivisor [(0, .iload_n 0, 1), (1, .istore_n 2, 1), (2, .iload_n 1, 1), (3, .istore_n 3, 1), (4, .iconst 0, 1), (5, .istore 4, 2), (7, .iload 4, 2), (9, .bipush 64, 2), (11, .if_icmp .ge 23, 3), (14, .iload_n 3, 1), (15, .ifCond .eq 19, 3), (18, .iload_n 2, 1), (19, .iload_n 3, 1), (20, .irem, 1), (21, .istore 5, 2), (23, .iload_n 3, 1), (24, .istore_n 2, 1), (25, .iload 5, 2), (27, .istore_n 3, 1), (28, .iinc 4 1, 3), (31, .goto (-24), 3), (34, .iload_n 2, 1), (35, .ireturn, 1)] = true := by decide +kernel
theorem dX6_commonDivisor_0 : decode cX6_commonDivisor 0 = .ok (.iload_n 0, 1) := decA_get dAX6_commonDivisor 0 rfl
theorem dX6_commonDivisor_1 : decode cX6_commonDivisor 1 = .ok (.istore_n 2, 1) := decA_get dAX6_commonDivisor 1 rfl
theorem dX6_commonDivisor_2 : decode cX6_commonDivisor 2 = .ok (.iload_n 1, 1) := decA_get dAX6_commonDivisor 2 rfl
theorem dX6_commonDivisor_3 : decode cX6_commonDivisor 3 = .ok (.istore_n 3, 1) := decA_get dAX6_commonDivisor 3 rfl
theorem dX6_commonDivisor_4 : decode cX6_commonDivisor 4 = .ok (.iconst 0, 1) := decA_get dAX6_commonDivisor 4 rfl
theorem dX6_commonDivisor_5 : decode cX6_commonDivisor 5 = .ok (.istore 4, 2) := decA_get dAX6_commonDivisor 5 rfl
theorem dX6_commonDivisor_7 : decode cX6_commonDivisor 7 = .ok (.iload 4, 2) := decA_get dAX6_commonDivisor 6 rfl
theorem dX6_commonDivisor_9 : decode cX6_commonDivisor 9 = .ok (.bipush 64, 2) := decA_get dAX6_commonDivisor 7 rfl
theorem dX6_commonDivisor_11 : decode cX6_commonDivisor 11 = .ok (.if_icmp .ge 23, 3) := decA_get dAX6_commonDivisor 8 rfl
theorem dX6_commonDivisor_34 : decode cX6_commonDivisor 34 = .ok (.iload_n 2, 1) := decA_get dAX6_commonDivisor 21 rfl
theorem dX6_commonDivisor_35 : decode cX6_commonDivisor 35 = .ok (.ireturn, 1) := decA_get dAX6_commonDivisor 22 rfl
theorem dX6_commonDivisor_14 : decode cX6_commonDivisor 14 = .ok (.iload_n 3, 1) := decA_get dAX6_commonDivisor 9 rfl
theorem dX6_commonDivisor_15 : decode cX6_commonDivisor 15 = .ok (.ifCond .eq 19, 3) := decA_get dAX6_commonDivisor 10 rfl
theorem dX6_commonDivisor_18 : decode cX6_commonDivisor 18 = .ok (.iload_n 2, 1) := decA_get dAX6_commonDivisor 11 rfl
theorem dX6_commonDivisor_19 : decode cX6_commonDivisor 19 = .ok (.iload_n 3, 1) := decA_get dAX6_commonDivisor 12 rfl
theorem dX6_commonDivisor_20 : decode cX6_commonDivisor 20 = .ok (.irem, 1) := decA_get dAX6_commonDivisor 13 rfl
theorem dX6_commonDivisor_21 : decode cX6_commonDivisor 21 = .ok (.istore 5, 2) := decA_get dAX6_commonDivisor 14 rfl
theorem dX6_commonDivisor_23 : decode cX6_commonDivisor 23 = .ok (.iload_n 3, 1) := decA_get dAX6_commonDivisor 15 rfl
theorem dX6_commonDivisor_24 : decode cX6_commonDivisor 24 = .ok (.istore_n 2, 1) := decA_get dAX6_commonDivisor 16 rfl
theorem dX6_commonDivisor_25 : decode cX6_commonDivisor 25 = .ok (.iload 5, 2) := decA_get dAX6_commonDivisor 17 rfl
theorem dX6_commonDivisor_27 : decode cX6_commonDivisor 27 = .ok (.istore_n 3, 1) := decA_get dAX6_commonDivisor 18 rfl
theorem dX6_commonDivisor_28 : decode cX6_commonDivisor 28 = .ok (.iinc 4 1, 3) := decA_get dAX6_commonDivisor 19 rfl
theorem dX6_commonDivisor_31 : decode cX6_commonDivisor 31 = .ok (.goto (-24), 3) := decA_get dAX6_commonDivisor 20 rfl
set_option maxHeartbeats 4000000 in
set_option maxRecDepth 100000 in
theorem g_commonDivisor (l : Launch) (D : va_G) (cI cB cZ cN : ClassId) (v_x : Nat) (v_y : Nat) (hx0 : v_x ≤ 64000000) (hy0 : v_y ≤ 64000000) : Ci (S := Unit) l D cI cB cZ cN yX6_commonDivisor wsX6_commonDivisor ({ frames := 0, cells := 0, slots := 0, locals := 0 } : Room) [.int (nI v_x), .int (nI v_y)] [] (fun (r : Int32) (_ : Unit) => ∃ k, k ≤ 64000000 ∧ r = nI k) (fun u => []) := by
  refine bx_of (D := D) (cI := cI) (cB := cB) (cZ := cZ) (cN := cN) (y := yX6_commonDivisor) (wd := wsX6_commonDivisor) (rm := ({ frames := 0, cells := 0, slots := 0, locals := 0 } : Room)) (av := [.int (nI v_x), .int (nI v_y)]) (wc := []) (cc := cX6_commonDivisor) (maxL := 6) (ret := (some .int)) (Qc := fun _ A => va_Qi (S := Unit) (fun (r : Int32) (_ : Unit) => ∃ k, k ≤ 64000000 ∧ r = nI k) (Aft D (fun (u : Unit) => []) A) A) (by decide) rfl (Nat.le_of_ble_eq_true rfl) ?_
  intro p e s m below meth c A H locs ⟨hx, hb, hr, hml, hown, hts, hlk, hnm⟩ hK hP hD hS hA ls hl
  have hl : lv_has ls 6 [(0, .int (nI v_x)), (1, .int (nI v_y))] := hl
  have hown : s.vm.findClass RX6 = some m.cls := hown
  refine lv_iload_n hx hb dX6_commonDivisor_0 rfl (lv_at hl 0 rfl) ?_
  refine lv_istore_n (lv' := [(2, .int (nI v_x)), (0, .int (nI v_x)), (1, .int (nI v_y))]) hx hb dX6_commonDivisor_1 rfl hl (by decide) rfl (fun ls hl => ?_)
  refine lv_iload_n hx hb dX6_commonDivisor_2 rfl (lv_at hl 2 rfl) ?_
  refine lv_istore_n (lv' := [(3, .int (nI v_y)), (2, .int (nI v_x)), (0, .int (nI v_x)), (1, .int (nI v_y))]) hx hb dX6_commonDivisor_3 rfl hl (by decide) rfl (fun ls hl => ?_)
  refine lv_iconst (v := nI 0) hx hb dX6_commonDivisor_4 (by decide) ?_
  refine lv_istore (lv' := [(4, .int (nI 0)), (3, .int (nI v_y)), (2, .int (nI v_x)), (0, .int (nI v_x)), (1, .int (nI v_y))]) hx hb dX6_commonDivisor_5 hl (by decide) rfl (fun ls hl => ?_)
  refine loopS (σ := Nat × Nat) (D := D) (A := A) (fun i1 z1 => z1.1 ≤ 64000000 ∧ z1.2 ≤ 64000000) (fun i1 z1 => []) (fun i1 z1 => [(0, .int (nI v_x)), (1, .int (nI v_y)), (2, .int (nI z1.1)), (3, .int (nI z1.2)), (4, .int (nI i1))]) 7 6 64 0 (Nat.zero_le _) ?_ ?_ (v_x, v_y) ⟨hx0, hy0⟩ _ _ ls (by first | exact hP) (by first | exact hD) hS (lv_sub hl [3, 4, 2, 1, 0] rfl)
  · intro z1 hI1 H locs ls hP hD hS hl
    have hl : lv_has ls 6 [(0, .int (nI v_x)), (1, .int (nI v_y)), (2, .int (nI z1.1)), (3, .int (nI z1.2)), (4, .int (nI 64))] := hl
    have hr1 := hI1
    obtain ⟨hr1a, hr1b⟩ := hI1
    obtain ⟨hP, hD⟩ : wPD D A [] H := ⟨hP, hD⟩
    refine lv_iload hx hb dX6_commonDivisor_7 (lv_at hl 4 rfl) ?_
    refine lv_bipush (v := nI 64) hx hb dX6_commonDivisor_9 (by decide) ?_
    refine nb_icmp_ge (tgt := 34) hx hb dX6_commonDivisor_11 (by decide) (by omega) (by omega) (fun hq1 => ?_) (fun hq1 => absurd hq1 (by omega))
    refine lv_iload_n hx hb dX6_commonDivisor_34 rfl (lv_at hl 2 rfl) ?_
    exact en_i hx hb hr hlk hP hD hS () [] (by decide) rfl (Nat.le_of_ble_eq_true rfl) (Nat.le_of_ble_eq_true rfl) dX6_commonDivisor_35 ⟨_, hr1.1, rfl⟩
  · intro i1 hi01 hi1 z1 hI1 ih1 H locs ls hP hD hS hl
    have hl : lv_has ls 6 [(0, .int (nI v_x)), (1, .int (nI v_y)), (2, .int (nI z1.1)), (3, .int (nI z1.2)), (4, .int (nI i1))] := hl
    have hr1 := hI1
    obtain ⟨hr1a, hr1b⟩ := hI1
    obtain ⟨hP, hD⟩ : wPD D A [] H := ⟨hP, hD⟩
    refine lv_iload hx hb dX6_commonDivisor_7 (lv_at hl 4 rfl) ?_
    refine lv_bipush (v := nI 64) hx hb dX6_commonDivisor_9 (by decide) ?_
    refine nb_icmp_ge (tgt := 34) hx hb dX6_commonDivisor_11 (by decide) (by omega) (by omega) (fun hq2 => absurd hq2 (by omega)) (fun hq2 => ?_)
    refine lv_iload_n hx hb dX6_commonDivisor_14 rfl (lv_at hl 3 rfl) ?_
    refine nb_if_eq (tgt := 34) hx hb dX6_commonDivisor_15 (by decide) (by omega) (fun hq3 => ?_) (fun hq3 => ?_)
    · skip
      refine lv_iload_n hx hb dX6_commonDivisor_34 rfl (lv_at hl 2 rfl) ?_
      exact en_i hx hb hr hlk hP hD hS () [] (by decide) rfl (Nat.le_of_ble_eq_true rfl) (Nat.le_of_ble_eq_true rfl) dX6_commonDivisor_35 ⟨_, hr1.1, rfl⟩
    · skip
      refine lv_iload_n hx hb dX6_commonDivisor_18 rfl (lv_at hl 2 rfl) ?_
      refine lv_iload_n hx hb dX6_commonDivisor_19 rfl (lv_at hl 3 rfl) ?_
      refine lv_irem hx hb dX6_commonDivisor_20 (nI_ne0 (by omega) (by omega)) ?_
      refine set_i (y := nI (z1.1 % z1.2)) (pk_rem (by omega) (by omega) (by omega)) ?_
      refine lv_istore (lv' := [(5, .int (nI (z1.1 % z1.2))), (0, .int (nI v_x)), (1, .int (nI v_y)), (2, .int (nI z1.1)), (3, .int (nI z1.2)), (4, .int (nI i1))]) hx hb dX6_commonDivisor_21 hl (by decide) rfl (fun ls hl => ?_)
      refine lv_iload_n hx hb dX6_commonDivisor_23 rfl (lv_at hl 4 rfl) ?_
      refine lv_istore_n (lv' := [(2, .int (nI z1.2)), (5, .int (nI (z1.1 % z1.2))), (0, .int (nI v_x)), (1, .int (nI v_y)), (3, .int (nI z1.2)), (4, .int (nI i1))]) hx hb dX6_commonDivisor_24 rfl hl (by decide) rfl (fun ls hl => ?_)
      refine lv_iload hx hb dX6_commonDivisor_25 (lv_at hl 1 rfl) ?_
      refine lv_istore_n (lv' := [(3, .int (nI (z1.1 % z1.2))), (2, .int (nI z1.2)), (5, .int (nI (z1.1 % z1.2))), (0, .int (nI v_x)), (1, .int (nI v_y)), (4, .int (nI i1))]) hx hb dX6_commonDivisor_27 rfl hl (by decide) rfl (fun ls hl => ?_)
      refine lv_iinc (v := nI (i1 + 1)) (lv' := [(4, .int (nI (i1 + 1))), (3, .int (nI (z1.1 % z1.2))), (2, .int (nI z1.2)), (5, .int (nI (z1.1 % z1.2))), (0, .int (nI v_x)), (1, .int (nI v_y))]) hx hb dX6_commonDivisor_28 hl (k := 5) rfl (nI_add i1 1) (by decide) rfl (fun ls hl => ?_)
      refine lv_goto (tgt := 7) hx hb dX6_commonDivisor_31 (by decide) ?_
      have hl : lv_has ls 6 [(0, .int (nI v_x)), (1, .int (nI v_y)), (2, .int (nI z1.2)), (3, .int (nI (z1.1 % z1.2))), (4, .int (nI (i1 + 1)))] := lv_sub hl [4, 5, 2, 1, 0] rfl
      exact ih1 (z1.2, z1.1 % z1.2) ⟨by show z1.2 ≤ _; omega, Nat.le_trans (Nat.mod_le _ _) hr1.1⟩ _ _ _ hP hD hS hl
