set_option maxRecDepth 20000 in
theorem dAX1_held : decA cX1_held [(0, .aload_n 0, 1), (1, .getfield 11, 3), (4, .iload_n 1, 1), (5, .bipush 6, 2), (7, .imul, 1), (8, .iload_n 2, 1), (9, .iadd, 1), (10, .iaload, 1), (11, .ireturn, 1)] = true := by decide +kernel
theorem dX1_held_0 : decode cX1_held 0 = .ok (.aload_n 0, 1) := decA_get dAX1_held 0 rfl
theorem dX1_held_1 : decode cX1_held 1 = .ok (.getfield 11, 3) := decA_get dAX1_held 1 rfl
theorem in_X1_held_1 : ∀ w ∈ wsX10, w ∈ wsX1_held := fun w h => (gd_ids wi_X1_held wm_X1_held wi_X10 (by decide +kernel) w h).1
theorem dX1_held_4 : decode cX1_held 4 = .ok (.iload_n 1, 1) := decA_get dAX1_held 2 rfl
theorem dX1_held_5 : decode cX1_held 5 = .ok (.bipush 6, 2) := decA_get dAX1_held 3 rfl
theorem dX1_held_7 : decode cX1_held 7 = .ok (.imul, 1) := decA_get dAX1_held 4 rfl
theorem dX1_held_8 : decode cX1_held 8 = .ok (.iload_n 2, 1) := decA_get dAX1_held 5 rfl
theorem dX1_held_9 : decode cX1_held 9 = .ok (.iadd, 1) := decA_get dAX1_held 6 rfl
theorem dX1_held_10 : decode cX1_held 10 = .ok (.iaload, 1) := decA_get dAX1_held 7 rfl
theorem dX1_held_11 : decode cX1_held 11 = .ok (.ireturn, 1) := decA_get dAX1_held 8 rfl
set_option maxHeartbeats 4000000 in
set_option maxRecDepth 100000 in
theorem g_held (l : Launch) (D : va_G) (cI cB cZ cN : ClassId) (Nh : Nat) (Na0 : Nat) (Na1 : Nat) (NS : Nat → Nat → Nat) (v_q : Nat) (v_c : Nat) (hN : NowOk NS) (hq : v_q < 5) (hc : v_c < 6) : Ci (S := Unit) l D cI cB cZ cN yX1_held wsX1_held ({ frames := 0, cells := 0, slots := 0, locals := 0 } : Room) [.ref Nh, .int (nI v_q), .int (nI v_c)] [(Nh, .inr (1, [.ref Na0, .ref Na1, .int (nI (NS 2 0))])), (Na0, .inl (cI, 36, .inl (nF (NS 0)))), (Na1, .inl (cI, 360, .inl (nF (NS 1))))] (fun (r : Int32) (_ : Unit) => r = nI (NS 0 (v_q * 6 + v_c))) (fun u => [(Nh, .inr (1, [.ref Na0, .ref Na1, .int (nI (NS 2 0))])), (Na0, .inl (cI, 36, .inl (nF (NS 0)))), (Na1, .inl (cI, 360, .inl (nF (NS 1))))]) := by
  refine bx_of (D := D) (cI := cI) (cB := cB) (cZ := cZ) (cN := cN) (y := yX1_held) (wd := wsX1_held) (rm := ({ frames := 0, cells := 0, slots := 0, locals := 0 } : Room)) (av := [.ref Nh, .int (nI v_q), .int (nI v_c)]) (wc := [(Nh, .inr (1, [.ref Na0, .ref Na1, .int (nI (NS 2 0))])), (Na0, .inl (cI, 36, .inl (nF (NS 0)))), (Na1, .inl (cI, 360, .inl (nF (NS 1))))]) (cc := cX1_held) (maxL := 3) (ret := (some .int)) (Qc := fun _ A => va_Qi (S := Unit) (fun (r : Int32) (_ : Unit) => r = nI (NS 0 (v_q * 6 + v_c))) (Aft D (fun (u : Unit) => [(Nh, .inr (1, [.ref Na0, .ref Na1, .int (nI (NS 2 0))])), (Na0, .inl (cI, 36, .inl (nF (NS 0)))), (Na1, .inl (cI, 360, .inl (nF (NS 1))))]) A) A) (by decide) rfl (Nat.le_of_ble_eq_true rfl) ?_
  intro p e s m below meth c A H locs ⟨hx, hb, hr, hml, hown, hts, hlk, hnm⟩ hK hP hD hS hA ls hl
  have hl : lv_has ls 3 [(0, .ref Nh), (1, .int (nI v_q)), (2, .int (nI v_c))] := hl
  have hown : s.vm.findClass RX1 = some m.cls := hown
  have hN0 := hN
  have bn0 := hN.c99
  have bn1 := hN.p99
  have bn2 := hN.2.2
  refine lv_aload_n hx hb dX1_held_0 rfl (lv_at hl 0 rfl) ?_
  refine va_get (D := D) (ci := 1) (v := .ref Na0) (C := RX1) (T := TX1) (N := 3) hx hb hts in_X1_held_1 hown hK.1 hP 0 rfl rfl 0 (by decide) (hts (.fieldLink RX1 11 "ChildCoins$Now" "cells" "[I") (List.mem_of_getElem? (i := 1) rfl)) (fun _ h9 => h9) rfl dX1_held_1 ?_
  refine lv_iload_n hx hb dX1_held_4 rfl (lv_at hl 1 rfl) ?_
  refine lv_bipush (v := nI 6) hx hb dX1_held_5 (by decide) ?_
  refine lv_imul hx hb dX1_held_7 ?_
  refine set_i (y := nI (v_q * 6)) (pk_mul v_q 6) ?_
  refine lv_iload_n hx hb dX1_held_8 rfl (lv_at hl 2 rfl) ?_
  refine lv_iadd hx hb dX1_held_9 ?_
  refine set_i (y := nI ((v_q * 6) + v_c)) (nI_add (v_q * 6) v_c) ?_
  refine va_iald hx hb hK.1 hP 1 0 rfl rfl (vp_in_nI (n := (v_q * 6) + v_c) (N := 36) (by omega) (by decide)) dX1_held_10 ?_
  refine set_i (y := nI (NS 0 ((v_q * 6) + v_c))) (nF_ld (by omega)) ?_
  have b1 := bn0 ((v_q * 6) + v_c)
  exact en_i hx hb hr hlk hP hD hS () [0, 1, 2] (by decide) rfl (Nat.le_of_ble_eq_true rfl) (Nat.le_of_ble_eq_true rfl) dX1_held_11 rfl
set_option maxRecDepth 20000 in
theorem dAX1_creditor : decA cX1_creditor [(0, .aload_n 0, 1), (1, .getfield 11, 3), (4, .bipush 30, 2), (6, .iload_n 1, 1), (7, .iadd, 1), (8, .iaload, 1), (9, .ireturn, 1)] = true := by decide +kernel
theorem dX1_creditor_0 : decode cX1_creditor 0 = .ok (.aload_n 0, 1) := decA_get dAX1_creditor 0 rfl
theorem dX1_creditor_1 : decode cX1_creditor 1 = .ok (.getfield 11, 3) := decA_get dAX1_creditor 1 rfl
theorem in_X1_creditor_1 : ∀ w ∈ wsX10, w ∈ wsX1_creditor := fun w h => (gd_ids wi_X1_creditor wm_X1_creditor wi_X10 (by decide +kernel) w h).1
theorem dX1_creditor_4 : decode cX1_creditor 4 = .ok (.bipush 30, 2) := decA_get dAX1_creditor 2 rfl
theorem dX1_creditor_6 : decode cX1_creditor 6 = .ok (.iload_n 1, 1) := decA_get dAX1_creditor 3 rfl
theorem dX1_creditor_7 : decode cX1_creditor 7 = .ok (.iadd, 1) := decA_get dAX1_creditor 4 rfl
theorem dX1_creditor_8 : decode cX1_creditor 8 = .ok (.iaload, 1) := decA_get dAX1_creditor 5 rfl
theorem dX1_creditor_9 : decode cX1_creditor 9 = .ok (.ireturn, 1) := decA_get dAX1_creditor 6 rfl
set_option maxHeartbeats 4000000 in
set_option maxRecDepth 100000 in
theorem g_creditor (l : Launch) (D : va_G) (cI cB cZ cN : ClassId) (Nh : Nat) (Na0 : Nat) (Na1 : Nat) (NS : Nat → Nat → Nat) (v_d : Nat) (hN : NowOk NS) (hd : v_d < 5) : Ci (S := Unit) l D cI cB cZ cN yX1_creditor wsX1_creditor ({ frames := 0, cells := 0, slots := 0, locals := 0 } : Room) [.ref Nh, .int (nI v_d)] [(Nh, .inr (1, [.ref Na0, .ref Na1, .int (nI (NS 2 0))])), (Na0, .inl (cI, 36, .inl (nF (NS 0)))), (Na1, .inl (cI, 360, .inl (nF (NS 1))))] (fun (r : Int32) (_ : Unit) => r = nI (NS 0 (30 + v_d))) (fun u => [(Nh, .inr (1, [.ref Na0, .ref Na1, .int (nI (NS 2 0))])), (Na0, .inl (cI, 36, .inl (nF (NS 0)))), (Na1, .inl (cI, 360, .inl (nF (NS 1))))]) := by
  refine bx_of (D := D) (cI := cI) (cB := cB) (cZ := cZ) (cN := cN) (y := yX1_creditor) (wd := wsX1_creditor) (rm := ({ frames := 0, cells := 0, slots := 0, locals := 0 } : Room)) (av := [.ref Nh, .int (nI v_d)]) (wc := [(Nh, .inr (1, [.ref Na0, .ref Na1, .int (nI (NS 2 0))])), (Na0, .inl (cI, 36, .inl (nF (NS 0)))), (Na1, .inl (cI, 360, .inl (nF (NS 1))))]) (cc := cX1_creditor) (maxL := 2) (ret := (some .int)) (Qc := fun _ A => va_Qi (S := Unit) (fun (r : Int32) (_ : Unit) => r = nI (NS 0 (30 + v_d))) (Aft D (fun (u : Unit) => [(Nh, .inr (1, [.ref Na0, .ref Na1, .int (nI (NS 2 0))])), (Na0, .inl (cI, 36, .inl (nF (NS 0)))), (Na1, .inl (cI, 360, .inl (nF (NS 1))))]) A) A) (by decide) rfl (Nat.le_of_ble_eq_true rfl) ?_
  intro p e s m below meth c A H locs ⟨hx, hb, hr, hml, hown, hts, hlk, hnm⟩ hK hP hD hS hA ls hl
  have hl : lv_has ls 2 [(0, .ref Nh), (1, .int (nI v_d))] := hl
  have hown : s.vm.findClass RX1 = some m.cls := hown
  have hN0 := hN
  have bn0 := hN.c99
  have bn1 := hN.p99
  have bn2 := hN.2.2
  refine lv_aload_n hx hb dX1_creditor_0 rfl (lv_at hl 0 rfl) ?_
  refine va_get (D := D) (ci := 1) (v := .ref Na0) (C := RX1) (T := TX1) (N := 3) hx hb hts in_X1_creditor_1 hown hK.1 hP 0 rfl rfl 0 (by decide) (hts (.fieldLink RX1 11 "ChildCoins$Now" "cells" "[I") (List.mem_of_getElem? (i := 1) rfl)) (fun _ h9 => h9) rfl dX1_creditor_1 ?_
  refine lv_bipush (v := nI 30) hx hb dX1_creditor_4 (by decide) ?_
  refine lv_iload_n hx hb dX1_creditor_6 rfl (lv_at hl 1 rfl) ?_
  refine lv_iadd hx hb dX1_creditor_7 ?_
  refine set_i (y := nI (30 + v_d)) (nI_add 30 v_d) ?_
  refine va_iald hx hb hK.1 hP 1 0 rfl rfl (vp_in_nI (n := 30 + v_d) (N := 36) (by omega) (by decide)) dX1_creditor_8 ?_
  refine set_i (y := nI (NS 0 (30 + v_d))) (nF_ld (by omega)) ?_
  have b1 := bn0 (30 + v_d)
  exact en_i hx hb hr hlk hP hD hS () [0, 1, 2] (by decide) rfl (Nat.le_of_ble_eq_true rfl) (Nat.le_of_ble_eq_true rfl) dX1_creditor_9 rfl
set_option maxRecDepth 20000 in
theorem dAX1_openBits : decA cX1_openBits [(0, .aload_n 0, 1), (1, .getfield 11, 3), (4, .bipush 35, 2), (6, .iaload, 1), (7, .ireturn, 1)] = true := by decide +kernel
theorem dX1_openBits_0 : decode cX1_openBits 0 = .ok (.aload_n 0, 1) := decA_get dAX1_openBits 0 rfl
theorem dX1_openBits_1 : decode cX1_openBits 1 = .ok (.getfield 11, 3) := decA_get dAX1_openBits 1 rfl
theorem in_X1_openBits_1 : ∀ w ∈ wsX10, w ∈ wsX1_openBits := fun w h => (gd_ids wi_X1_openBits wm_X1_openBits wi_X10 (by decide +kernel) w h).1
theorem dX1_openBits_4 : decode cX1_openBits 4 = .ok (.bipush 35, 2) := decA_get dAX1_openBits 2 rfl
theorem dX1_openBits_6 : decode cX1_openBits 6 = .ok (.iaload, 1) := decA_get dAX1_openBits 3 rfl
theorem dX1_openBits_7 : decode cX1_openBits 7 = .ok (.ireturn, 1) := decA_get dAX1_openBits 4 rfl
set_option maxHeartbeats 4000000 in
set_option maxRecDepth 100000 in
theorem g_openBits (l : Launch) (D : va_G) (cI cB cZ cN : ClassId) (Nh : Nat) (Na0 : Nat) (Na1 : Nat) (NS : Nat → Nat → Nat) (hN : NowOk NS) : Ci (S := Unit) l D cI cB cZ cN yX1_openBits wsX1_openBits ({ frames := 0, cells := 0, slots := 0, locals := 0 } : Room) [.ref Nh] [(Nh, .inr (1, [.ref Na0, .ref Na1, .int (nI (NS 2 0))])), (Na0, .inl (cI, 36, .inl (nF (NS 0)))), (Na1, .inl (cI, 360, .inl (nF (NS 1))))] (fun (r : Int32) (_ : Unit) => r = nI (NS 0 35)) (fun u => [(Nh, .inr (1, [.ref Na0, .ref Na1, .int (nI (NS 2 0))])), (Na0, .inl (cI, 36, .inl (nF (NS 0)))), (Na1, .inl (cI, 360, .inl (nF (NS 1))))]) := by
  refine bx_of (D := D) (cI := cI) (cB := cB) (cZ := cZ) (cN := cN) (y := yX1_openBits) (wd := wsX1_openBits) (rm := ({ frames := 0, cells := 0, slots := 0, locals := 0 } : Room)) (av := [.ref Nh]) (wc := [(Nh, .inr (1, [.ref Na0, .ref Na1, .int (nI (NS 2 0))])), (Na0, .inl (cI, 36, .inl (nF (NS 0)))), (Na1, .inl (cI, 360, .inl (nF (NS 1))))]) (cc := cX1_openBits) (maxL := 1) (ret := (some .int)) (Qc := fun _ A => va_Qi (S := Unit) (fun (r : Int32) (_ : Unit) => r = nI (NS 0 35)) (Aft D (fun (u : Unit) => [(Nh, .inr (1, [.ref Na0, .ref Na1, .int (nI (NS 2 0))])), (Na0, .inl (cI, 36, .inl (nF (NS 0)))), (Na1, .inl (cI, 360, .inl (nF (NS 1))))]) A) A) (by decide) rfl (Nat.le_of_ble_eq_true rfl) ?_
  intro p e s m below meth c A H locs ⟨hx, hb, hr, hml, hown, hts, hlk, hnm⟩ hK hP hD hS hA ls hl
  have hl : lv_has ls 1 [(0, .ref Nh)] := hl
  have hown : s.vm.findClass RX1 = some m.cls := hown
  have hN0 := hN
  have bn0 := hN.c99
  have bn1 := hN.p99
  have bn2 := hN.2.2
  refine lv_aload_n hx hb dX1_openBits_0 rfl (lv_at hl 0 rfl) ?_
  refine va_get (D := D) (ci := 1) (v := .ref Na0) (C := RX1) (T := TX1) (N := 3) hx hb hts in_X1_openBits_1 hown hK.1 hP 0 rfl rfl 0 (by decide) (hts (.fieldLink RX1 11 "ChildCoins$Now" "cells" "[I") (List.mem_of_getElem? (i := 1) rfl)) (fun _ h9 => h9) rfl dX1_openBits_1 ?_
  refine lv_bipush (v := nI 35) hx hb dX1_openBits_4 (by decide) ?_
  refine va_iald hx hb hK.1 hP 1 0 rfl rfl (vp_in_nI (n := 35) (N := 36) (by omega) (by decide)) dX1_openBits_6 ?_
  refine set_i (y := nI (NS 0 35)) (nF_ld (by omega)) ?_
  have b1 := bn0 35
  exact en_i hx hb hr hlk hP hD hS () [0, 1, 2] (by decide) rfl (Nat.le_of_ble_eq_true rfl) (Nat.le_of_ble_eq_true rfl) dX1_openBits_7 rfl
set_option maxRecDepth 20000 in
theorem dAX1_isOpen : decA cX1_isOpen [(0, .aload_n 0, 1), (1, .getfield 11, 3), (4, .bipush 35, 2), (6, .iaload, 1), (7, .iload_n 1, 1), (8, .ishr, 1), (9, .iconst 1, 1), (10, .iand, 1), (11, .iconst 1, 1), (12, .if_icmp .ne 7, 3), (15, .iconst 1, 1), (16, .goto 4, 3), (19, .iconst 0, 1), (20, .ireturn, 1)] = true := by decide +kernel
theorem dX1_isOpen_0 : decode cX1_isOpen 0 = .ok (.aload_n 0, 1) := decA_get dAX1_isOpen 0 rfl
theorem dX1_isOpen_1 : decode cX1_isOpen 1 = .ok (.getfield 11, 3) := decA_get dAX1_isOpen 1 rfl
theorem in_X1_isOpen_1 : ∀ w ∈ wsX10, w ∈ wsX1_isOpen := fun w h => (gd_ids wi_X1_isOpen wm_X1_isOpen wi_X10 (by decide +kernel) w h).1
theorem dX1_isOpen_4 : decode cX1_isOpen 4 = .ok (.bipush 35, 2) := decA_get dAX1_isOpen 2 rfl
theorem dX1_isOpen_6 : decode cX1_isOpen 6 = .ok (.iaload, 1) := decA_get dAX1_isOpen 3 rfl
theorem dX1_isOpen_7 : decode cX1_isOpen 7 = .ok (.iload_n 1, 1) := decA_get dAX1_isOpen 4 rfl
theorem dX1_isOpen_8 : decode cX1_isOpen 8 = .ok (.ishr, 1) := decA_get dAX1_isOpen 5 rfl
theorem dX1_isOpen_9 : decode cX1_isOpen 9 = .ok (.iconst 1, 1) := decA_get dAX1_isOpen 6 rfl
theorem dX1_isOpen_10 : decode cX1_isOpen 10 = .ok (.iand, 1) := decA_get dAX1_isOpen 7 rfl
theorem dX1_isOpen_11 : decode cX1_isOpen 11 = .ok (.iconst 1, 1) := decA_get dAX1_isOpen 8 rfl
theorem dX1_isOpen_12 : decode cX1_isOpen 12 = .ok (.if_icmp .ne 7, 3) := decA_get dAX1_isOpen 9 rfl
theorem dX1_isOpen_19 : decode cX1_isOpen 19 = .ok (.iconst 0, 1) := decA_get dAX1_isOpen 12 rfl
theorem dX1_isOpen_20 : decode cX1_isOpen 20 = .ok (.ireturn, 1) := decA_get dAX1_isOpen 13 rfl
theorem dX1_isOpen_15 : decode cX1_isOpen 15 = .ok (.iconst 1, 1) := decA_get dAX1_isOpen 10 rfl
theorem dX1_isOpen_16 : decode cX1_isOpen 16 = .ok (.goto 4, 3) := decA_get dAX1_isOpen 11 rfl
set_option maxHeartbeats 4000000 in
set_option maxRecDepth 100000 in
theorem g_isOpen (l : Launch) (D : va_G) (cI cB cZ cN : ClassId) (Nh : Nat) (Na0 : Nat) (Na1 : Nat) (NS : Nat → Nat → Nat) (v_d : Nat) (hN : NowOk NS) (hd : v_d < 5) : Ci (S := Unit) l D cI cB cZ cN yX1_isOpen wsX1_isOpen ({ frames := 0, cells := 0, slots := 0, locals := 0 } : Room) [.ref Nh, .int (nI v_d)] [(Nh, .inr (1, [.ref Na0, .ref Na1, .int (nI (NS 2 0))])), (Na0, .inl (cI, 36, .inl (nF (NS 0)))), (Na1, .inl (cI, 360, .inl (nF (NS 1))))] (fun (r : Int32) (_ : Unit) => r = nI (NS 0 35 / 2 ^ v_d % 2)) (fun u => [(Nh, .inr (1, [.ref Na0, .ref Na1, .int (nI (NS 2 0))])), (Na0, .inl (cI, 36, .inl (nF (NS 0)))), (Na1, .inl (cI, 360, .inl (nF (NS 1))))]) := by
  refine bx_of (D := D) (cI := cI) (cB := cB) (cZ := cZ) (cN := cN) (y := yX1_isOpen) (wd := wsX1_isOpen) (rm := ({ frames := 0, cells := 0, slots := 0, locals := 0 } : Room)) (av := [.ref Nh, .int (nI v_d)]) (wc := [(Nh, .inr (1, [.ref Na0, .ref Na1, .int (nI (NS 2 0))])), (Na0, .inl (cI, 36, .inl (nF (NS 0)))), (Na1, .inl (cI, 360, .inl (nF (NS 1))))]) (cc := cX1_isOpen) (maxL := 2) (ret := (some .boolean)) (Qc := fun _ A => va_Qi (S := Unit) (fun (r : Int32) (_ : Unit) => r = nI (NS 0 35 / 2 ^ v_d % 2)) (Aft D (fun (u : Unit) => [(Nh, .inr (1, [.ref Na0, .ref Na1, .int (nI (NS 2 0))])), (Na0, .inl (cI, 36, .inl (nF (NS 0)))), (Na1, .inl (cI, 360, .inl (nF (NS 1))))]) A) A) (by decide) rfl (Nat.le_of_ble_eq_true rfl) ?_
  intro p e s m below meth c A H locs ⟨hx, hb, hr, hml, hown, hts, hlk, hnm⟩ hK hP hD hS hA ls hl
  have hl : lv_has ls 2 [(0, .ref Nh), (1, .int (nI v_d))] := hl
  have hown : s.vm.findClass RX1 = some m.cls := hown
  have hN0 := hN
  have bn0 := hN.c99
  have bn1 := hN.p99
  have bn2 := hN.2.2
  have bd := div_le99 (d := v_d) (bn0 35)
  refine lv_aload_n hx hb dX1_isOpen_0 rfl (lv_at hl 0 rfl) ?_
  refine va_get (D := D) (ci := 1) (v := .ref Na0) (C := RX1) (T := TX1) (N := 3) hx hb hts in_X1_isOpen_1 hown hK.1 hP 0 rfl rfl 0 (by decide) (hts (.fieldLink RX1 11 "ChildCoins$Now" "cells" "[I") (List.mem_of_getElem? (i := 1) rfl)) (fun _ h9 => h9) rfl dX1_isOpen_1 ?_
  refine lv_bipush (v := nI 35) hx hb dX1_isOpen_4 (by decide) ?_
  refine va_iald hx hb hK.1 hP 1 0 rfl rfl (vp_in_nI (n := 35) (N := 36) (by omega) (by decide)) dX1_isOpen_6 ?_
  refine set_i (y := nI (NS 0 35)) (nF_ld (by omega)) ?_
  have b1 := bn0 35
  refine lv_iload_n hx hb dX1_isOpen_7 rfl (lv_at hl 1 rfl) ?_
  refine lv_ishr hx hb dX1_isOpen_8 ?_
  refine set_i (y := nI ((NS 0 35) / 2 ^ v_d)) (nI_shr (by omega) (by omega)) ?_
  refine lv_iconst (v := nI 1) hx hb dX1_isOpen_9 (by decide) ?_
  refine lv_iand hx hb dX1_isOpen_10 ?_
  refine set_i (y := nI (((NS 0 35) / 2 ^ v_d) % 2)) (nI_and1 (by omega)) ?_
  refine lv_iconst (v := nI 1) hx hb dX1_isOpen_11 (by decide) ?_
  refine nb_icmp_ne (tgt := 19) hx hb dX1_isOpen_12 (by decide) (by omega) (by omega) (fun hq2 => ?_) (fun hq2 => ?_)
  · skip
    refine lv_iconst (v := nI 0) hx hb dX1_isOpen_19 (by decide) ?_
    exact en_z hx hb hr hlk hP hD hS () [0, 1, 2] (by decide) rfl (Nat.le_of_ble_eq_true rfl) (Nat.le_of_ble_eq_true rfl) dX1_isOpen_20 rfl (congrArg nI (by omega))
  · skip
    refine lv_iconst (v := nI 1) hx hb dX1_isOpen_15 (by decide) ?_
    refine lv_goto (tgt := 20) hx hb dX1_isOpen_16 (by decide) ?_
    exact en_z hx hb hr hlk hP hD hS () [0, 1, 2] (by decide) rfl (Nat.le_of_ble_eq_true rfl) (Nat.le_of_ble_eq_true rfl) dX1_isOpen_20 rfl (congrArg nI (by omega))
set_option maxRecDepth 20000 in
theorem dAX1_setCreditor : decA cX1_setCreditor [(0, .aload_n 0, 1), (1, .getfield 11, 3), (4, .bipush 30, 2), (6, .iload_n 1, 1), (7, .iadd, 1), (8, .iload_n 2, 1), (9, .iastore, 1), (10, .return_, 1)] = true := by decide +kernel
theorem dX1_setCreditor_0 : decode cX1_setCreditor 0 = .ok (.aload_n 0, 1) := decA_get dAX1_setCreditor 0 rfl
theorem dX1_setCreditor_1 : decode cX1_setCreditor 1 = .ok (.getfield 11, 3) := decA_get dAX1_setCreditor 1 rfl
theorem in_X1_setCreditor_1 : ∀ w ∈ wsX10, w ∈ wsX1_setCreditor := fun w h => (gd_ids wi_X1_setCreditor wm_X1_setCreditor wi_X10 (by decide +kernel) w h).1
theorem dX1_setCreditor_4 : decode cX1_setCreditor 4 = .ok (.bipush 30, 2) := decA_get dAX1_setCreditor 2 rfl
theorem dX1_setCreditor_6 : decode cX1_setCreditor 6 = .ok (.iload_n 1, 1) := decA_get dAX1_setCreditor 3 rfl
theorem dX1_setCreditor_7 : decode cX1_setCreditor 7 = .ok (.iadd, 1) := decA_get dAX1_setCreditor 4 rfl
theorem dX1_setCreditor_8 : decode cX1_setCreditor 8 = .ok (.iload_n 2, 1) := decA_get dAX1_setCreditor 5 rfl
theorem dX1_setCreditor_9 : decode cX1_setCreditor 9 = .ok (.iastore, 1) := decA_get dAX1_setCreditor 6 rfl
theorem dX1_setCreditor_10 : decode cX1_setCreditor 10 = .ok (.return_, 1) := decA_get dAX1_setCreditor 7 rfl
set_option maxHeartbeats 4000000 in
set_option maxRecDepth 100000 in
theorem g_setCreditor (l : Launch) (D : va_G) (cI cB cZ cN : ClassId) (Nh : Nat) (Na0 : Nat) (Na1 : Nat) (NS : Nat → Nat → Nat) (v_d : Nat) (v_q : Nat) (hd : v_d < 5) : Cv (S := (Nat → Nat → Nat)) l D cI cB cZ cN yX1_setCreditor wsX1_setCreditor ({ frames := 0, cells := 0, slots := 0, locals := 0 } : Room) [.ref Nh, .int (nI v_d), .int (nI v_q)] [(Nh, .inr (1, [.ref Na0, .ref Na1, .int (nI (NS 2 0))])), (Na0, .inl (cI, 36, .inl (nF (NS 0)))), (Na1, .inl (cI, 360, .inl (nF (NS 1))))] (fun (u : (Nat → Nat → Nat)) => u = ua NS 0 (un (NS 0) (30 + v_d) v_q)) (fun u => [(Nh, .inr (1, [.ref Na0, .ref Na1, .int (nI (u 2 0))])), (Na0, .inl (cI, 36, .inl (nF (u 0)))), (Na1, .inl (cI, 360, .inl (nF (u 1))))]) := by
  refine bx_of (D := D) (cI := cI) (cB := cB) (cZ := cZ) (cN := cN) (y := yX1_setCreditor) (wd := wsX1_setCreditor) (rm := ({ frames := 0, cells := 0, slots := 0, locals := 0 } : Room)) (av := [.ref Nh, .int (nI v_d), .int (nI v_q)]) (wc := [(Nh, .inr (1, [.ref Na0, .ref Na1, .int (nI (NS 2 0))])), (Na0, .inl (cI, 36, .inl (nF (NS 0)))), (Na1, .inl (cI, 360, .inl (nF (NS 1))))]) (cc := cX1_setCreditor) (maxL := 3) (ret := none) (Qc := fun _ A => va_Qv (S := (Nat → Nat → Nat)) (fun (u : (Nat → Nat → Nat)) => u = ua NS 0 (un (NS 0) (30 + v_d) v_q)) (Aft D (fun (u : (Nat → Nat → Nat)) => [(Nh, .inr (1, [.ref Na0, .ref Na1, .int (nI (u 2 0))])), (Na0, .inl (cI, 36, .inl (nF (u 0)))), (Na1, .inl (cI, 360, .inl (nF (u 1))))]) A) A) (by decide) rfl (Nat.le_of_ble_eq_true rfl) ?_
  intro p e s m below meth c A H locs ⟨hx, hb, hr, hml, hown, hts, hlk, hnm⟩ hK hP hD hS hA ls hl
  have hl : lv_has ls 3 [(0, .ref Nh), (1, .int (nI v_d)), (2, .int (nI v_q))] := hl
  have hown : s.vm.findClass RX1 = some m.cls := hown
  refine lv_aload_n hx hb dX1_setCreditor_0 rfl (lv_at hl 0 rfl) ?_
  refine va_get (D := D) (ci := 1) (v := .ref Na0) (C := RX1) (T := TX1) (N := 3) hx hb hts in_X1_setCreditor_1 hown hK.1 hP 0 rfl rfl 0 (by decide) (hts (.fieldLink RX1 11 "ChildCoins$Now" "cells" "[I") (List.mem_of_getElem? (i := 1) rfl)) (fun _ h9 => h9) rfl dX1_setCreditor_1 ?_
  refine lv_bipush (v := nI 30) hx hb dX1_setCreditor_4 (by decide) ?_
  refine lv_iload_n hx hb dX1_setCreditor_6 rfl (lv_at hl 1 rfl) ?_
  refine lv_iadd hx hb dX1_setCreditor_7 ?_
  refine set_i (y := nI (30 + v_d)) (nI_add 30 v_d) ?_
  refine lv_iload_n hx hb dX1_setCreditor_8 rfl (lv_at hl 2 rfl) ?_
  refine va_iast hx hb hK.1 hP hD hS 1 0 rfl rfl (vp_in_nI (n := 30 + v_d) (N := 36) (by omega) (by decide)) dX1_setCreditor_9 (fun H locs hP hD hS => ?_)
  obtain ⟨hP, hD⟩ : wPD D A [(Nh, .inr (1, [.ref Na0, .ref Na1, .int (nI (NS 2 0))])), (Na0, .inl (cI, 36, .inl (upd (nF (NS 0)) (nI (30 + v_d)).toNatClampNeg (nI v_q)))), (Na1, .inl (cI, 360, .inl (nF (NS 1))))] H := ⟨hP, hD⟩
  rw [nF_st (by omega)] at hP hD
  exact en_v hx hb hr hlk hP hD hS (ua NS 0 (un (NS 0) (30 + v_d) v_q)) [0, 1, 2] (by decide) rfl (Nat.le_of_ble_eq_true rfl) (Nat.le_of_ble_eq_true rfl) dX1_setCreditor_10 rfl
set_option maxRecDepth 20000 in
theorem dAX1_inAll : decA cX1_inAll [(0, .iconst 0, 1), (1, .istore_n 2, 1), (2, .iconst 0, 1), (3, .istore_n 3, 1), (4, .iload_n 3, 1), (5, .iconst 5, 1), (6, .if_icmp .ge 18, 3), (9, .iload_n 2, 1), (10, .aload_n 0, 1), (11, .iload_n 3, 1), (12, .iload_n 1, 1), (13, .invokevirtual 39, 3), (16, .iadd, 1), (17, .istore_n 2, 1), (18, .iinc 3 1, 3), (21, .goto (-17), 3), (24, .iload_n 2, 1), (25, .ireturn, 1)] = true := by decide +kernel
theorem dX1_inAll_0 : decode cX1_inAll 0 = .ok (.iconst 0, 1) := decA_get dAX1_inAll 0 rfl
theorem dX1_inAll_1 : decode cX1_inAll 1 = .ok (.istore_n 2, 1) := decA_get dAX1_inAll 1 rfl
theorem dX1_inAll_2 : decode cX1_inAll 2 = .ok (.iconst 0, 1) := decA_get dAX1_inAll 2 rfl
theorem dX1_inAll_3 : decode cX1_inAll 3 = .ok (.istore_n 3, 1) := decA_get dAX1_inAll 3 rfl
theorem dX1_inAll_4 : decode cX1_inAll 4 = .ok (.iload_n 3, 1) := decA_get dAX1_inAll 4 rfl
theorem dX1_inAll_5 : decode cX1_inAll 5 = .ok (.iconst 5, 1) := decA_get dAX1_inAll 5 rfl
theorem dX1_inAll_6 : decode cX1_inAll 6 = .ok (.if_icmp .ge 18, 3) := decA_get dAX1_inAll 6 rfl
theorem dX1_inAll_24 : decode cX1_inAll 24 = .ok (.iload_n 2, 1) := decA_get dAX1_inAll 16 rfl
theorem dX1_inAll_25 : decode cX1_inAll 25 = .ok (.ireturn, 1) := decA_get dAX1_inAll 17 rfl
theorem dX1_inAll_9 : decode cX1_inAll 9 = .ok (.iload_n 2, 1) := decA_get dAX1_inAll 7 rfl
theorem dX1_inAll_10 : decode cX1_inAll 10 = .ok (.aload_n 0, 1) := decA_get dAX1_inAll 8 rfl
theorem dX1_inAll_11 : decode cX1_inAll 11 = .ok (.iload_n 3, 1) := decA_get dAX1_inAll 9 rfl
theorem dX1_inAll_12 : decode cX1_inAll 12 = .ok (.iload_n 1, 1) := decA_get dAX1_inAll 10 rfl
theorem dX1_inAll_13 : decode cX1_inAll 13 = .ok (.invokevirtual 39, 3) := decA_get dAX1_inAll 11 rfl
set_option maxRecDepth 20000 in
theorem ggX1_inAll_X1_held : GoodIn wsX1_inAll wsX1_held := gd_ids wi_X1_inAll wm_X1_inAll wi_X1_held (by decide +kernel)
set_option maxRecDepth 20000 in
theorem gX1_inAll_X1_held : GoodIn wsX1_inAll (wsV RX1 39 RX1 yX1_held wsX1_held) := goodIn_app (gd_ids wi_X1_inAll wm_X1_inAll (b := [125, 126, 127, 128]) rfl (by decide +kernel)) ggX1_inAll_X1_held
theorem dX1_inAll_16 : decode cX1_inAll 16 = .ok (.iadd, 1) := decA_get dAX1_inAll 12 rfl
theorem dX1_inAll_17 : decode cX1_inAll 17 = .ok (.istore_n 2, 1) := decA_get dAX1_inAll 13 rfl
theorem dX1_inAll_18 : decode cX1_inAll 18 = .ok (.iinc 3 1, 3) := decA_get dAX1_inAll 14 rfl
theorem dX1_inAll_21 : decode cX1_inAll 21 = .ok (.goto (-17), 3) := decA_get dAX1_inAll 15 rfl
set_option maxHeartbeats 4000000 in
set_option maxRecDepth 100000 in
theorem g_inAll (l : Launch) (D : va_G) (cI cB cZ cN : ClassId) (Nh : Nat) (Na0 : Nat) (Na1 : Nat) (NS : Nat → Nat → Nat) (v_c : Nat) (hN : NowOk NS) (hc : v_c < 6) : Ci (S := Unit) l D cI cB cZ cN yX1_inAll wsX1_inAll ({ frames := 1, cells := 0, slots := 0, locals := 22 } : Room) [.ref Nh, .int (nI v_c)] [(Nh, .inr (1, [.ref Na0, .ref Na1, .int (nI (NS 2 0))])), (Na0, .inl (cI, 36, .inl (nF (NS 0)))), (Na1, .inl (cI, 360, .inl (nF (NS 1))))] (fun (r : Int32) (_ : Unit) => r = nI (sumN (fun q => NS 0 (q * 6 + v_c)) 5)) (fun u => [(Nh, .inr (1, [.ref Na0, .ref Na1, .int (nI (NS 2 0))])), (Na0, .inl (cI, 36, .inl (nF (NS 0)))), (Na1, .inl (cI, 360, .inl (nF (NS 1))))]) := by
  refine bx_of (D := D) (cI := cI) (cB := cB) (cZ := cZ) (cN := cN) (y := yX1_inAll) (wd := wsX1_inAll) (rm := ({ frames := 1, cells := 0, slots := 0, locals := 22 } : Room)) (av := [.ref Nh, .int (nI v_c)]) (wc := [(Nh, .inr (1, [.ref Na0, .ref Na1, .int (nI (NS 2 0))])), (Na0, .inl (cI, 36, .inl (nF (NS 0)))), (Na1, .inl (cI, 360, .inl (nF (NS 1))))]) (cc := cX1_inAll) (maxL := 4) (ret := (some .int)) (Qc := fun _ A => va_Qi (S := Unit) (fun (r : Int32) (_ : Unit) => r = nI (sumN (fun q => NS 0 (q * 6 + v_c)) 5)) (Aft D (fun (u : Unit) => [(Nh, .inr (1, [.ref Na0, .ref Na1, .int (nI (NS 2 0))])), (Na0, .inl (cI, 36, .inl (nF (NS 0)))), (Na1, .inl (cI, 360, .inl (nF (NS 1))))]) A) A) (by decide) rfl (Nat.le_of_ble_eq_true rfl) ?_
  intro p e s m below meth c A H locs ⟨hx, hb, hr, hml, hown, hts, hlk, hnm⟩ hK hP hD hS hA ls hl
  have hl : lv_has ls 4 [(0, .ref Nh), (1, .int (nI v_c))] := hl
  have hown : s.vm.findClass RX1 = some m.cls := hown
  have hN0 := hN
  have bn0 := hN.c99
  have bn1 := hN.p99
  have bn2 := hN.2.2
  refine lv_iconst (v := nI 0) hx hb dX1_inAll_0 (by decide) ?_
  refine lv_istore_n (lv' := [(2, .int (nI 0)), (0, .ref Nh), (1, .int (nI v_c))]) hx hb dX1_inAll_1 rfl hl (by decide) rfl (fun ls hl => ?_)
  refine lv_iconst (v := nI 0) hx hb dX1_inAll_2 (by decide) ?_
  refine lv_istore_n (lv' := [(3, .int (nI 0)), (2, .int (nI 0)), (0, .ref Nh), (1, .int (nI v_c))]) hx hb dX1_inAll_3 rfl hl (by decide) rfl (fun ls hl => ?_)
  refine loopW (D := D) (A := A) (fun i => [(Nh, .inr (1, [.ref Na0, .ref Na1, .int (nI (NS 2 0))])), (Na0, .inl (cI, 36, .inl (nF (NS 0)))), (Na1, .inl (cI, 360, .inl (nF (NS 1))))]) (fun i => [(0, .ref Nh), (1, .int (nI v_c)), (2, .int (nI (sumN (fun q => NS 0 (q * 6 + v_c)) i))), (3, .int (nI i))]) 4 4 5 0 (Nat.le_of_ble_eq_true rfl) ?_ ?_ _ _ ls (by first | exact hP | (rw [fill_0]; exact hP)) (by first | exact hD | (rw [fill_0]; exact hD)) hS (lv_sub hl [2, 3, 1, 0] rfl)
  · intro H locs ls hP hD hS hl
    have hl : lv_has ls 4 [(0, .ref Nh), (1, .int (nI v_c)), (2, .int (nI (sumN (fun q => NS 0 (q * 6 + v_c)) 5))), (3, .int (nI 5))] := hl
    obtain ⟨hP, hD⟩ : wPD D A [(Nh, .inr (1, [.ref Na0, .ref Na1, .int (nI (NS 2 0))])), (Na0, .inl (cI, 36, .inl (nF (NS 0)))), (Na1, .inl (cI, 360, .inl (nF (NS 1))))] H := ⟨hP, hD⟩
    refine lv_iload_n hx hb dX1_inAll_4 rfl (lv_at hl 3 rfl) ?_
    refine lv_iconst (v := nI 5) hx hb dX1_inAll_5 (by decide) ?_
    refine nb_icmp_ge (tgt := 24) hx hb dX1_inAll_6 (by decide) (by omega) (by omega) (fun hq1 => ?_) (fun hq1 => absurd hq1 (by omega))
    refine lv_iload_n hx hb dX1_inAll_24 rfl (lv_at hl 2 rfl) ?_
    exact en_i hx hb hr hlk hP hD hS () [0, 1, 2] (by decide) rfl (Nat.le_of_ble_eq_true rfl) (Nat.le_of_ble_eq_true rfl) dX1_inAll_25 rfl
  · intro i hi0 hi ih H locs ls hP hD hS hl
    have hl : lv_has ls 4 [(0, .ref Nh), (1, .int (nI v_c)), (2, .int (nI (sumN (fun q => NS 0 (q * 6 + v_c)) i))), (3, .int (nI i))] := hl
    obtain ⟨hP, hD⟩ : wPD D A [(Nh, .inr (1, [.ref Na0, .ref Na1, .int (nI (NS 2 0))])), (Na0, .inl (cI, 36, .inl (nF (NS 0)))), (Na1, .inl (cI, 360, .inl (nF (NS 1))))] H := ⟨hP, hD⟩
    refine lv_iload_n hx hb dX1_inAll_4 rfl (lv_at hl 3 rfl) ?_
    refine lv_iconst (v := nI 5) hx hb dX1_inAll_5 (by decide) ?_
    refine nb_icmp_ge (tgt := 24) hx hb dX1_inAll_6 (by decide) (by omega) (by omega) (fun hq2 => absurd hq2 (by omega)) (fun hq2 => ?_)
    refine lv_iload_n hx hb dX1_inAll_9 rfl (lv_at hl 2 rfl) ?_
    refine lv_aload_n hx hb dX1_inAll_10 rfl (lv_at hl 0 rfl) ?_
    refine lv_iload_n hx hb dX1_inAll_11 rfl (lv_at hl 3 rfl) ?_
    refine lv_iload_n hx hb dX1_inAll_12 rfl (lv_at hl 1 rfl) ?_
    refine be_i0 (ru_V (As := [.int (nI i), .int (nI v_c)]) (rest := [.int (nI (sumN (fun q => NS 0 (q * 6 + v_c)) i))]) ⟨hx, hb, hml, hown, hts⟩ (g_held l D cI cB cZ cN Nh Na0 Na1 NS i v_c hN0 (by omega) (by omega) H.size) gX1_inAll_X1_held rfl ⟨rfl, by decide, by decide, (show Option.map (fun d => d.parameters.length) (parseMethodDescriptor yX1_held.desc) = some 2 by decide +kernel)⟩ ⟨Nat.le_of_ble_eq_true rfl, Nat.le_of_ble_eq_true rfl⟩ hK hP hD 1 0 rfl rfl [0, 1, 2] (by decide) rfl hl.1 rfl (Nat.le_of_ble_eq_true rfl) dX1_inAll_13 ⟨Nat.le_of_ble_eq_true rfl, Nat.le_of_ble_eq_true rfl⟩) hP hD hS hA [0, 1, 2] rfl (fun r4 u3 H locs w5 hP hS => ?_)
    obtain rfl : r4 = nI (NS 0 (i * 6 + v_c)) := w5
    have b6 := bn0 (i * 6 + v_c)
    refine lv_iadd hx hb dX1_inAll_16 ?_
    refine set_i (y := nI ((sumN (fun q => NS 0 (q * 6 + v_c)) i) + (NS 0 (i * 6 + v_c)))) (nI_add (sumN (fun q => NS 0 (q * 6 + v_c)) i) (NS 0 (i * 6 + v_c))) ?_
    refine lv_istore_n (lv' := [(2, .int (nI ((sumN (fun q => NS 0 (q * 6 + v_c)) i) + (NS 0 (i * 6 + v_c))))), (0, .ref Nh), (1, .int (nI v_c)), (3, .int (nI i))]) hx hb dX1_inAll_17 rfl hl (by decide) rfl (fun ls hl => ?_)
    refine lv_iinc (v := nI (i + 1)) (lv' := [(3, .int (nI (i + 1))), (2, .int (nI ((sumN (fun q => NS 0 (q * 6 + v_c)) i) + (NS 0 (i * 6 + v_c))))), (0, .ref Nh), (1, .int (nI v_c))]) hx hb dX1_inAll_18 hl (k := 3) rfl (nI_add i 1) (by decide) rfl (fun ls hl => ?_)
    refine lv_goto (tgt := 4) hx hb dX1_inAll_21 (by decide) ?_
    have hl : lv_has ls 4 [(0, .ref Nh), (1, .int (nI v_c)), (2, .int (nI ((sumN (fun q => NS 0 (q * 6 + v_c)) i) + (NS 0 (i * 6 + v_c))))), (3, .int (nI (i + 1)))] := lv_sub hl [2, 3, 1, 0] rfl
    exact ih _ _ _ hP hD hS hl
set_option maxRecDepth 20000 in
theorem dAX1_becomeAnew : decA cX1_becomeAnew [(0, .aload_n 1, 1), (1, .getfield 11, 3), (4, .iconst 0, 1), (5, .aload_n 0, 1), (6, .getfield 11, 3), (9, .iconst 0, 1), (10, .bipush 36, 2), (12, .invokestatic 27, 3), (15, .aload_n 0, 1), (16, .iconst 0, 1), (17, .putfield 18, 3), (20, .return_, 1)] = true := by decide +kernel
theorem dX1_becomeAnew_0 : decode cX1_becomeAnew 0 = .ok (.aload_n 1, 1) := decA_get dAX1_becomeAnew 0 rfl
theorem dX1_becomeAnew_1 : decode cX1_becomeAnew 1 = .ok (.getfield 11, 3) := decA_get dAX1_becomeAnew 1 rfl
theorem in_X1_becomeAnew_1 : ∀ w ∈ wsX10, w ∈ wsX1_becomeAnew := fun w h => (gd_ids wi_X1_becomeAnew wm_X1_becomeAnew wi_X10 (by decide +kernel) w h).1
theorem dX1_becomeAnew_4 : decode cX1_becomeAnew 4 = .ok (.iconst 0, 1) := decA_get dAX1_becomeAnew 2 rfl
theorem dX1_becomeAnew_5 : decode cX1_becomeAnew 5 = .ok (.aload_n 0, 1) := decA_get dAX1_becomeAnew 3 rfl
theorem dX1_becomeAnew_6 : decode cX1_becomeAnew 6 = .ok (.getfield 11, 3) := decA_get dAX1_becomeAnew 4 rfl
theorem dX1_becomeAnew_9 : decode cX1_becomeAnew 9 = .ok (.iconst 0, 1) := decA_get dAX1_becomeAnew 5 rfl
theorem dX1_becomeAnew_10 : decode cX1_becomeAnew 10 = .ok (.bipush 36, 2) := decA_get dAX1_becomeAnew 6 rfl
theorem dX1_becomeAnew_12 : decode cX1_becomeAnew 12 = .ok (.invokestatic 27, 3) := decA_get dAX1_becomeAnew 7 rfl
theorem dX1_becomeAnew_15 : decode cX1_becomeAnew 15 = .ok (.aload_n 0, 1) := decA_get dAX1_becomeAnew 8 rfl
theorem dX1_becomeAnew_16 : decode cX1_becomeAnew 16 = .ok (.iconst 0, 1) := decA_get dAX1_becomeAnew 9 rfl
theorem dX1_becomeAnew_17 : decode cX1_becomeAnew 17 = .ok (.putfield 18, 3) := decA_get dAX1_becomeAnew 10 rfl
theorem dX1_becomeAnew_20 : decode cX1_becomeAnew 20 = .ok (.return_, 1) := decA_get dAX1_becomeAnew 11 rfl
set_option maxHeartbeats 4000000 in
set_option maxRecDepth 100000 in
theorem g_becomeAnew (l : Launch) (D : va_G) (cI cB cZ cN : ClassId) (Nh : Nat) (Na0 : Nat) (Na1 : Nat) (NS : Nat → Nat → Nat) (Oh : Nat) (Oa0 : Nat) (Oa1 : Nat) (OS : Nat → Nat → Nat)  : Cv (S := (Nat → Nat → Nat)) l D cI cB cZ cN yX1_becomeAnew wsX1_becomeAnew ({ frames := 1, cells := 0, slots := 0, locals := 40 } : Room) [.ref Nh, .ref Oh] [(Nh, .inr (1, [.ref Na0, .ref Na1, .int (nI (NS 2 0))])), (Na0, .inl (cI, 36, .inl (nF (NS 0)))), (Na1, .inl (cI, 360, .inl (nF (NS 1)))), (Oh, .inr (1, [.ref Oa0, .ref Oa1, .int (nI (OS 2 0))])), (Oa0, .inl (cI, 36, .inl (nF (OS 0)))), (Oa1, .inl (cI, 360, .inl (nF (OS 1))))] (fun (u : (Nat → Nat → Nat)) => u = ua (ua NS 0 (va_cpy (OS 0) (NS 0) 0 0 36)) 2 (fun _ => 0)) (fun u => [(Nh, .inr (1, [.ref Na0, .ref Na1, .int (nI (u 2 0))])), (Na0, .inl (cI, 36, .inl (nF (u 0)))), (Na1, .inl (cI, 360, .inl (nF (u 1)))), (Oh, .inr (1, [.ref Oa0, .ref Oa1, .int (nI (OS 2 0))])), (Oa0, .inl (cI, 36, .inl (nF (OS 0)))), (Oa1, .inl (cI, 360, .inl (nF (OS 1))))]) := by
  refine bx_of (D := D) (cI := cI) (cB := cB) (cZ := cZ) (cN := cN) (y := yX1_becomeAnew) (wd := wsX1_becomeAnew) (rm := ({ frames := 1, cells := 0, slots := 0, locals := 40 } : Room)) (av := [.ref Nh, .ref Oh]) (wc := [(Nh, .inr (1, [.ref Na0, .ref Na1, .int (nI (NS 2 0))])), (Na0, .inl (cI, 36, .inl (nF (NS 0)))), (Na1, .inl (cI, 360, .inl (nF (NS 1)))), (Oh, .inr (1, [.ref Oa0, .ref Oa1, .int (nI (OS 2 0))])), (Oa0, .inl (cI, 36, .inl (nF (OS 0)))), (Oa1, .inl (cI, 360, .inl (nF (OS 1))))]) (cc := cX1_becomeAnew) (maxL := 2) (ret := none) (Qc := fun _ A => va_Qv (S := (Nat → Nat → Nat)) (fun (u : (Nat → Nat → Nat)) => u = ua (ua NS 0 (va_cpy (OS 0) (NS 0) 0 0 36)) 2 (fun _ => 0)) (Aft D (fun (u : (Nat → Nat → Nat)) => [(Nh, .inr (1, [.ref Na0, .ref Na1, .int (nI (u 2 0))])), (Na0, .inl (cI, 36, .inl (nF (u 0)))), (Na1, .inl (cI, 360, .inl (nF (u 1)))), (Oh, .inr (1, [.ref Oa0, .ref Oa1, .int (nI (OS 2 0))])), (Oa0, .inl (cI, 36, .inl (nF (OS 0)))), (Oa1, .inl (cI, 360, .inl (nF (OS 1))))]) A) A) (by decide) rfl (Nat.le_of_ble_eq_true rfl) ?_
  intro p e s m below meth c A H locs ⟨hx, hb, hr, hml, hown, hts, hlk, hnm⟩ hK hP hD hS hA ls hl
  have hl : lv_has ls 2 [(0, .ref Nh), (1, .ref Oh)] := hl
  have hown : s.vm.findClass RX1 = some m.cls := hown
  refine lv_aload_n hx hb dX1_becomeAnew_0 rfl (lv_at hl 1 rfl) ?_
  refine va_get (D := D) (ci := 1) (v := .ref Oa0) (C := RX1) (T := TX1) (N := 3) hx hb hts in_X1_becomeAnew_1 hown hK.1 hP 3 rfl rfl 0 (by decide) (hts (.fieldLink RX1 11 "ChildCoins$Now" "cells" "[I") (List.mem_of_getElem? (i := 1) rfl)) (fun _ h9 => h9) rfl dX1_becomeAnew_1 ?_
  refine lv_iconst (v := nI 0) hx hb dX1_becomeAnew_4 (by decide) ?_
  refine lv_aload_n hx hb dX1_becomeAnew_5 rfl (lv_at hl 0 rfl) ?_
  refine va_get (D := D) (ci := 1) (v := .ref Na0) (C := RX1) (T := TX1) (N := 3) hx hb hts in_X1_becomeAnew_1 hown hK.1 hP 0 rfl rfl 0 (by decide) (hts (.fieldLink RX1 11 "ChildCoins$Now" "cells" "[I") (List.mem_of_getElem? (i := 1) rfl)) (fun _ h9 => h9) rfl dX1_becomeAnew_6 ?_
  refine lv_iconst (v := nI 0) hx hb dX1_becomeAnew_9 (by decide) ?_
  refine lv_bipush (v := nI 36) hx hb dX1_becomeAnew_10 (by decide) ?_
  refine va_copyi hx hb (hml.trans hl.1.symm) hown (hts (.methodLink RX1 27 arraycopyName) (List.mem_of_getElem? (i := 2) rfl)) (hts (.native arraycopyName) (List.mem_of_getElem? (i := 3) rfl)) (hts (.static arraycopyName) (List.mem_of_getElem? (i := 4) rfl)) (hts (.initialized "java/lang/System") (List.mem_of_getElem? (i := 5) rfl)) hK.1 hP hD hS 4 1 0 0 rfl rfl rfl rfl rfl (nI_pos (by omega)) (nI_pos (by omega)) (nI_pos (by omega)) (by rw [nI_clamp (by omega), nI_clamp (by omega)]; omega) (by rw [nI_clamp (by omega), nI_clamp (by omega)]; omega) (fun i _ => rfl) (Nat.le_of_ble_eq_true rfl) (Nat.le_of_ble_eq_true rfl) dX1_becomeAnew_12 (fun H locs hP hD hS => ?_)
  obtain ⟨hP, hD⟩ : wPD D A [(Nh, .inr (1, [.ref Na0, .ref Na1, .int (nI (NS 2 0))])), (Na0, .inl (cI, 36, .inl (va_cpy (nF (OS 0)) (nF (NS 0)) (nI 0).toNatClampNeg (nI 0).toNatClampNeg (nI 36).toNatClampNeg))), (Na1, .inl (cI, 360, .inl (nF (NS 1)))), (Oh, .inr (1, [.ref Oa0, .ref Oa1, .int (nI (OS 2 0))])), (Oa0, .inl (cI, 36, .inl (nF (OS 0)))), (Oa1, .inl (cI, 360, .inl (nF (OS 1))))] H := ⟨hP, hD⟩
  rw [nF_cp (by omega) (by omega) (by omega)] at hP hD
  obtain ⟨hP, hD⟩ : wPD D A [(Nh, .inr (1, [.ref Na0, .ref Na1, .int (nI (NS 2 0))])), (Na0, .inl (cI, 36, .inl (nF (va_cpy (OS 0) (NS 0) 0 0 36)))), (Na1, .inl (cI, 360, .inl (nF (NS 1)))), (Oh, .inr (1, [.ref Oa0, .ref Oa1, .int (nI (OS 2 0))])), (Oa0, .inl (cI, 36, .inl (nF (OS 0)))), (Oa1, .inl (cI, 360, .inl (nF (OS 1))))] H := ⟨hP, hD⟩
  refine lv_aload_n hx hb dX1_becomeAnew_15 rfl (lv_at hl 0 rfl) ?_
  refine lv_iconst (v := nI 0) hx hb dX1_becomeAnew_16 (by decide) ?_
  refine va_put (D := D) (ci := 1) (v := .int (nI 0)) (ty := tyX1 2) (C := RX1) (T := TX1) (N := 3) hx hb hts in_X1_becomeAnew_1 tyX1 tyX1_ok nmX1 hown hK.1 hP hD hS 0 rfl rfl 2 (by decide) (hts (.fieldLink RX1 18 "ChildCoins$Now" "known" "I") (List.mem_of_getElem? (i := 6) rfl)) (fun _ h9 => h9) rfl (tyX1_ok 2 (by decide)) rfl rfl (Nat.le_of_ble_eq_true rfl) dX1_becomeAnew_17 (fun H locs hP hD hS => ?_)
  obtain ⟨hP, hD⟩ : wPD D A [(Nh, .inr (1, [.ref Na0, .ref Na1, .int (nI 0)])), (Na0, .inl (cI, 36, .inl (nF (va_cpy (OS 0) (NS 0) 0 0 36)))), (Na1, .inl (cI, 360, .inl (nF (NS 1)))), (Oh, .inr (1, [.ref Oa0, .ref Oa1, .int (nI (OS 2 0))])), (Oa0, .inl (cI, 36, .inl (nF (OS 0)))), (Oa1, .inl (cI, 360, .inl (nF (OS 1))))] H := ⟨hP, hD⟩
  exact en_v hx hb hr hlk hP hD hS (ua (ua NS 0 (va_cpy (OS 0) (NS 0) 0 0 36)) 2 (fun _ => 0)) [0, 1, 2, 3, 4, 5] (by decide) rfl (Nat.le_of_ble_eq_true rfl) (Nat.le_of_ble_eq_true rfl) dX1_becomeAnew_20 rfl
set_option maxRecDepth 20000 in
theorem dAX1_become : decA cX1_become [(0, .aload_n 1, 1), (1, .getfield 11, 3), (4, .iconst 0, 1), (5, .aload_n 0, 1), (6, .getfield 11, 3), (9, .iconst 0, 1), (10, .bipush 36, 2), (12, .invokestatic 27, 3), (15, .aload_n 1, 1), (16, .getfield 15, 3), (19, .iconst 0, 1), (20, .aload_n 0, 1), (21, .getfield 15, 3), (24, .iconst 0, 1), (25, .aload_n 0, 1), (26, .getfield 15, 3), (29, .arraylength, 1), (30, .invokestatic 27, 3), (33, .aload_n 0, 1), (34, .aload_n 1, 1), (35, .getfield 18, 3), (38, .putfield 18, 3), (41, .return_, 1)] = true := by decide +kernel
theorem dX1_become_0 : decode cX1_become 0 = .ok (.aload_n 1, 1) := decA_get dAX1_become 0 rfl
theorem dX1_become_1 : decode cX1_become 1 = .ok (.getfield 11, 3) := decA_get dAX1_become 1 rfl
theorem in_X1_become_1 : ∀ w ∈ wsX10, w ∈ wsX1_become := fun w h => (gd_ids wi_X1_become wm_X1_become wi_X10 (by decide +kernel) w h).1
theorem dX1_become_4 : decode cX1_become 4 = .ok (.iconst 0, 1) := decA_get dAX1_become 2 rfl
theorem dX1_become_5 : decode cX1_become 5 = .ok (.aload_n 0, 1) := decA_get dAX1_become 3 rfl
theorem dX1_become_6 : decode cX1_become 6 = .ok (.getfield 11, 3) := decA_get dAX1_become 4 rfl
theorem dX1_become_9 : decode cX1_become 9 = .ok (.iconst 0, 1) := decA_get dAX1_become 5 rfl
theorem dX1_become_10 : decode cX1_become 10 = .ok (.bipush 36, 2) := decA_get dAX1_become 6 rfl
theorem dX1_become_12 : decode cX1_become 12 = .ok (.invokestatic 27, 3) := decA_get dAX1_become 7 rfl
theorem dX1_become_15 : decode cX1_become 15 = .ok (.aload_n 1, 1) := decA_get dAX1_become 8 rfl
theorem dX1_become_16 : decode cX1_become 16 = .ok (.getfield 15, 3) := decA_get dAX1_become 9 rfl
theorem dX1_become_19 : decode cX1_become 19 = .ok (.iconst 0, 1) := decA_get dAX1_become 10 rfl
theorem dX1_become_20 : decode cX1_become 20 = .ok (.aload_n 0, 1) := decA_get dAX1_become 11 rfl
theorem dX1_become_21 : decode cX1_become 21 = .ok (.getfield 15, 3) := decA_get dAX1_become 12 rfl
theorem dX1_become_24 : decode cX1_become 24 = .ok (.iconst 0, 1) := decA_get dAX1_become 13 rfl
theorem dX1_become_25 : decode cX1_become 25 = .ok (.aload_n 0, 1) := decA_get dAX1_become 14 rfl
theorem dX1_become_26 : decode cX1_become 26 = .ok (.getfield 15, 3) := decA_get dAX1_become 15 rfl
theorem dX1_become_29 : decode cX1_become 29 = .ok (.arraylength, 1) := decA_get dAX1_become 16 rfl
theorem dX1_become_30 : decode cX1_become 30 = .ok (.invokestatic 27, 3) := decA_get dAX1_become 17 rfl
theorem dX1_become_33 : decode cX1_become 33 = .ok (.aload_n 0, 1) := decA_get dAX1_become 18 rfl
theorem dX1_become_34 : decode cX1_become 34 = .ok (.aload_n 1, 1) := decA_get dAX1_become 19 rfl
theorem dX1_become_35 : decode cX1_become 35 = .ok (.getfield 18, 3) := decA_get dAX1_become 20 rfl
theorem dX1_become_38 : decode cX1_become 38 = .ok (.putfield 18, 3) := decA_get dAX1_become 21 rfl
theorem dX1_become_41 : decode cX1_become 41 = .ok (.return_, 1) := decA_get dAX1_become 22 rfl
set_option maxHeartbeats 4000000 in
set_option maxRecDepth 100000 in
theorem g_become (l : Launch) (D : va_G) (cI cB cZ cN : ClassId) (Nh : Nat) (Na0 : Nat) (Na1 : Nat) (NS : Nat → Nat → Nat) (Oh : Nat) (Oa0 : Nat) (Oa1 : Nat) (OS : Nat → Nat → Nat)  : Cv (S := (Nat → Nat → Nat)) l D cI cB cZ cN yX1_become wsX1_become ({ frames := 1, cells := 0, slots := 0, locals := 40 } : Room) [.ref Nh, .ref Oh] [(Nh, .inr (1, [.ref Na0, .ref Na1, .int (nI (NS 2 0))])), (Na0, .inl (cI, 36, .inl (nF (NS 0)))), (Na1, .inl (cI, 360, .inl (nF (NS 1)))), (Oh, .inr (1, [.ref Oa0, .ref Oa1, .int (nI (OS 2 0))])), (Oa0, .inl (cI, 36, .inl (nF (OS 0)))), (Oa1, .inl (cI, 360, .inl (nF (OS 1))))] (fun (u : (Nat → Nat → Nat)) => u = ua (ua (ua NS 0 (va_cpy (OS 0) (NS 0) 0 0 36)) 1 (va_cpy (OS 1) (NS 1) 0 0 360)) 2 (fun _ => OS 2 0)) (fun u => [(Nh, .inr (1, [.ref Na0, .ref Na1, .int (nI (u 2 0))])), (Na0, .inl (cI, 36, .inl (nF (u 0)))), (Na1, .inl (cI, 360, .inl (nF (u 1)))), (Oh, .inr (1, [.ref Oa0, .ref Oa1, .int (nI (OS 2 0))])), (Oa0, .inl (cI, 36, .inl (nF (OS 0)))), (Oa1, .inl (cI, 360, .inl (nF (OS 1))))]) := by
  refine bx_of (D := D) (cI := cI) (cB := cB) (cZ := cZ) (cN := cN) (y := yX1_become) (wd := wsX1_become) (rm := ({ frames := 1, cells := 0, slots := 0, locals := 40 } : Room)) (av := [.ref Nh, .ref Oh]) (wc := [(Nh, .inr (1, [.ref Na0, .ref Na1, .int (nI (NS 2 0))])), (Na0, .inl (cI, 36, .inl (nF (NS 0)))), (Na1, .inl (cI, 360, .inl (nF (NS 1)))), (Oh, .inr (1, [.ref Oa0, .ref Oa1, .int (nI (OS 2 0))])), (Oa0, .inl (cI, 36, .inl (nF (OS 0)))), (Oa1, .inl (cI, 360, .inl (nF (OS 1))))]) (cc := cX1_become) (maxL := 2) (ret := none) (Qc := fun _ A => va_Qv (S := (Nat → Nat → Nat)) (fun (u : (Nat → Nat → Nat)) => u = ua (ua (ua NS 0 (va_cpy (OS 0) (NS 0) 0 0 36)) 1 (va_cpy (OS 1) (NS 1) 0 0 360)) 2 (fun _ => OS 2 0)) (Aft D (fun (u : (Nat → Nat → Nat)) => [(Nh, .inr (1, [.ref Na0, .ref Na1, .int (nI (u 2 0))])), (Na0, .inl (cI, 36, .inl (nF (u 0)))), (Na1, .inl (cI, 360, .inl (nF (u 1)))), (Oh, .inr (1, [.ref Oa0, .ref Oa1, .int (nI (OS 2 0))])), (Oa0, .inl (cI, 36, .inl (nF (OS 0)))), (Oa1, .inl (cI, 360, .inl (nF (OS 1))))]) A) A) (by decide) rfl (Nat.le_of_ble_eq_true rfl) ?_
  intro p e s m below meth c A H locs ⟨hx, hb, hr, hml, hown, hts, hlk, hnm⟩ hK hP hD hS hA ls hl
  have hl : lv_has ls 2 [(0, .ref Nh), (1, .ref Oh)] := hl
  have hown : s.vm.findClass RX1 = some m.cls := hown
  refine lv_aload_n hx hb dX1_become_0 rfl (lv_at hl 1 rfl) ?_
  refine va_get (D := D) (ci := 1) (v := .ref Oa0) (C := RX1) (T := TX1) (N := 3) hx hb hts in_X1_become_1 hown hK.1 hP 3 rfl rfl 0 (by decide) (hts (.fieldLink RX1 11 "ChildCoins$Now" "cells" "[I") (List.mem_of_getElem? (i := 1) rfl)) (fun _ h9 => h9) rfl dX1_become_1 ?_
  refine lv_iconst (v := nI 0) hx hb dX1_become_4 (by decide) ?_
  refine lv_aload_n hx hb dX1_become_5 rfl (lv_at hl 0 rfl) ?_
  refine va_get (D := D) (ci := 1) (v := .ref Na0) (C := RX1) (T := TX1) (N := 3) hx hb hts in_X1_become_1 hown hK.1 hP 0 rfl rfl 0 (by decide) (hts (.fieldLink RX1 11 "ChildCoins$Now" "cells" "[I") (List.mem_of_getElem? (i := 1) rfl)) (fun _ h9 => h9) rfl dX1_become_6 ?_
  refine lv_iconst (v := nI 0) hx hb dX1_become_9 (by decide) ?_
  refine lv_bipush (v := nI 36) hx hb dX1_become_10 (by decide) ?_
  refine va_copyi hx hb (hml.trans hl.1.symm) hown (hts (.methodLink RX1 27 arraycopyName) (List.mem_of_getElem? (i := 2) rfl)) (hts (.native arraycopyName) (List.mem_of_getElem? (i := 3) rfl)) (hts (.static arraycopyName) (List.mem_of_getElem? (i := 4) rfl)) (hts (.initialized "java/lang/System") (List.mem_of_getElem? (i := 5) rfl)) hK.1 hP hD hS 4 1 0 0 rfl rfl rfl rfl rfl (nI_pos (by omega)) (nI_pos (by omega)) (nI_pos (by omega)) (by rw [nI_clamp (by omega), nI_clamp (by omega)]; omega) (by rw [nI_clamp (by omega), nI_clamp (by omega)]; omega) (fun i _ => rfl) (Nat.le_of_ble_eq_true rfl) (Nat.le_of_ble_eq_true rfl) dX1_become_12 (fun H locs hP hD hS => ?_)
  obtain ⟨hP, hD⟩ : wPD D A [(Nh, .inr (1, [.ref Na0, .ref Na1, .int (nI (NS 2 0))])), (Na0, .inl (cI, 36, .inl (va_cpy (nF (OS 0)) (nF (NS 0)) (nI 0).toNatClampNeg (nI 0).toNatClampNeg (nI 36).toNatClampNeg))), (Na1, .inl (cI, 360, .inl (nF (NS 1)))), (Oh, .inr (1, [.ref Oa0, .ref Oa1, .int (nI (OS 2 0))])), (Oa0, .inl (cI, 36, .inl (nF (OS 0)))), (Oa1, .inl (cI, 360, .inl (nF (OS 1))))] H := ⟨hP, hD⟩
  rw [nF_cp (by omega) (by omega) (by omega)] at hP hD
  obtain ⟨hP, hD⟩ : wPD D A [(Nh, .inr (1, [.ref Na0, .ref Na1, .int (nI (NS 2 0))])), (Na0, .inl (cI, 36, .inl (nF (va_cpy (OS 0) (NS 0) 0 0 36)))), (Na1, .inl (cI, 360, .inl (nF (NS 1)))), (Oh, .inr (1, [.ref Oa0, .ref Oa1, .int (nI (OS 2 0))])), (Oa0, .inl (cI, 36, .inl (nF (OS 0)))), (Oa1, .inl (cI, 360, .inl (nF (OS 1))))] H := ⟨hP, hD⟩
  refine lv_aload_n hx hb dX1_become_15 rfl (lv_at hl 1 rfl) ?_
  refine va_get (D := D) (ci := 1) (v := .ref Oa1) (C := RX1) (T := TX1) (N := 3) hx hb hts in_X1_become_1 hown hK.1 hP 3 rfl rfl 1 (by decide) (hts (.fieldLink RX1 15 "ChildCoins$Now" "past" "[I") (List.mem_of_getElem? (i := 6) rfl)) (fun _ h9 => h9) rfl dX1_become_16 ?_
  refine lv_iconst (v := nI 0) hx hb dX1_become_19 (by decide) ?_
  refine lv_aload_n hx hb dX1_become_20 rfl (lv_at hl 0 rfl) ?_
  refine va_get (D := D) (ci := 1) (v := .ref Na1) (C := RX1) (T := TX1) (N := 3) hx hb hts in_X1_become_1 hown hK.1 hP 0 rfl rfl 1 (by decide) (hts (.fieldLink RX1 15 "ChildCoins$Now" "past" "[I") (List.mem_of_getElem? (i := 6) rfl)) (fun _ h9 => h9) rfl dX1_become_21 ?_
  refine lv_iconst (v := nI 0) hx hb dX1_become_24 (by decide) ?_
  refine lv_aload_n hx hb dX1_become_25 rfl (lv_at hl 0 rfl) ?_
  refine va_get (D := D) (ci := 1) (v := .ref Na1) (C := RX1) (T := TX1) (N := 3) hx hb hts in_X1_become_1 hown hK.1 hP 0 rfl rfl 1 (by decide) (hts (.fieldLink RX1 15 "ChildCoins$Now" "past" "[I") (List.mem_of_getElem? (i := 6) rfl)) (fun _ h9 => h9) rfl dX1_become_26 ?_
  refine va_alen hx hb hK.1 hP 2 0 rfl rfl (v := nI 360) rfl dX1_become_29 ?_
  refine va_copyi hx hb (hml.trans hl.1.symm) hown (hts (.methodLink RX1 27 arraycopyName) (List.mem_of_getElem? (i := 2) rfl)) (hts (.native arraycopyName) (List.mem_of_getElem? (i := 3) rfl)) (hts (.static arraycopyName) (List.mem_of_getElem? (i := 4) rfl)) (hts (.initialized "java/lang/System") (List.mem_of_getElem? (i := 5) rfl)) hK.1 hP hD hS 5 2 0 0 rfl rfl rfl rfl rfl (nI_pos (by omega)) (nI_pos (by omega)) (nI_pos (by omega)) (by rw [nI_clamp (by omega), nI_clamp (by omega)]; omega) (by rw [nI_clamp (by omega), nI_clamp (by omega)]; omega) (fun i _ => rfl) (Nat.le_of_ble_eq_true rfl) (Nat.le_of_ble_eq_true rfl) dX1_become_30 (fun H locs hP hD hS => ?_)
  obtain ⟨hP, hD⟩ : wPD D A [(Nh, .inr (1, [.ref Na0, .ref Na1, .int (nI (NS 2 0))])), (Na0, .inl (cI, 36, .inl (nF (va_cpy (OS 0) (NS 0) 0 0 36)))), (Na1, .inl (cI, 360, .inl (va_cpy (nF (OS 1)) (nF (NS 1)) (nI 0).toNatClampNeg (nI 0).toNatClampNeg (nI 360).toNatClampNeg))), (Oh, .inr (1, [.ref Oa0, .ref Oa1, .int (nI (OS 2 0))])), (Oa0, .inl (cI, 36, .inl (nF (OS 0)))), (Oa1, .inl (cI, 360, .inl (nF (OS 1))))] H := ⟨hP, hD⟩
  rw [nF_cp (by omega) (by omega) (by omega)] at hP hD
  obtain ⟨hP, hD⟩ : wPD D A [(Nh, .inr (1, [.ref Na0, .ref Na1, .int (nI (NS 2 0))])), (Na0, .inl (cI, 36, .inl (nF (va_cpy (OS 0) (NS 0) 0 0 36)))), (Na1, .inl (cI, 360, .inl (nF (va_cpy (OS 1) (NS 1) 0 0 360)))), (Oh, .inr (1, [.ref Oa0, .ref Oa1, .int (nI (OS 2 0))])), (Oa0, .inl (cI, 36, .inl (nF (OS 0)))), (Oa1, .inl (cI, 360, .inl (nF (OS 1))))] H := ⟨hP, hD⟩
  refine lv_aload_n hx hb dX1_become_33 rfl (lv_at hl 0 rfl) ?_
  refine lv_aload_n hx hb dX1_become_34 rfl (lv_at hl 1 rfl) ?_
  refine va_get (D := D) (ci := 1) (v := .int (nI (OS 2 0))) (C := RX1) (T := TX1) (N := 3) hx hb hts in_X1_become_1 hown hK.1 hP 3 rfl rfl 2 (by decide) (hts (.fieldLink RX1 18 "ChildCoins$Now" "known" "I") (List.mem_of_getElem? (i := 7) rfl)) (fun _ h9 => h9) rfl dX1_become_35 ?_
  refine va_put (D := D) (ci := 1) (v := .int (nI (OS 2 0))) (ty := tyX1 2) (C := RX1) (T := TX1) (N := 3) hx hb hts in_X1_become_1 tyX1 tyX1_ok nmX1 hown hK.1 hP hD hS 0 rfl rfl 2 (by decide) (hts (.fieldLink RX1 18 "ChildCoins$Now" "known" "I") (List.mem_of_getElem? (i := 7) rfl)) (fun _ h9 => h9) rfl (tyX1_ok 2 (by decide)) rfl rfl (Nat.le_of_ble_eq_true rfl) dX1_become_38 (fun H locs hP hD hS => ?_)
  obtain ⟨hP, hD⟩ : wPD D A [(Nh, .inr (1, [.ref Na0, .ref Na1, .int (nI (OS 2 0))])), (Na0, .inl (cI, 36, .inl (nF (va_cpy (OS 0) (NS 0) 0 0 36)))), (Na1, .inl (cI, 360, .inl (nF (va_cpy (OS 1) (NS 1) 0 0 360)))), (Oh, .inr (1, [.ref Oa0, .ref Oa1, .int (nI (OS 2 0))])), (Oa0, .inl (cI, 36, .inl (nF (OS 0)))), (Oa1, .inl (cI, 360, .inl (nF (OS 1))))] H := ⟨hP, hD⟩
  exact en_v hx hb hr hlk hP hD hS (ua (ua (ua NS 0 (va_cpy (OS 0) (NS 0) 0 0 36)) 1 (va_cpy (OS 1) (NS 1) 0 0 360)) 2 (fun _ => OS 2 0)) [0, 1, 2, 3, 4, 5] (by decide) rfl (Nat.le_of_ble_eq_true rfl) (Nat.le_of_ble_eq_true rfl) dX1_become_41 rfl
set_option maxRecDepth 20000 in
theorem dAX1_stepBack : decA cX1_stepBack [(0, .aload_n 0, 1), (1, .getfield 18, 3), (4, .iconst 1, 1), (5, .if_icmp .ge 4, 3), (8, .return_, 1), (9, .aload_n 0, 1), (10, .dup, 1), (11, .getfield 18, 3), (14, .iconst 1, 1), (15, .isub, 1), (16, .putfield 18, 3), (19, .aload_n 0, 1), (20, .getfield 15, 3), (23, .aload_n 0, 1), (24, .getfield 18, 3), (27, .bipush 36, 2), (29, .imul, 1), (30, .aload_n 0, 1), (31, .getfield 11, 3), (34, .iconst 0, 1), (35, .bipush 36, 2), (37, .invokestatic 27, 3), (40, .return_, 1)] = true := by decide +kernel
theorem dX1_stepBack_0 : decode cX1_stepBack 0 = .ok (.aload_n 0, 1) := decA_get dAX1_stepBack 0 rfl
theorem dX1_stepBack_1 : decode cX1_stepBack 1 = .ok (.getfield 18, 3) := decA_get dAX1_stepBack 1 rfl
theorem in_X1_stepBack_1 : ∀ w ∈ wsX10, w ∈ wsX1_stepBack := fun w h => (gd_ids wi_X1_stepBack wm_X1_stepBack wi_X10 (by decide +kernel) w h).1
theorem dX1_stepBack_4 : decode cX1_stepBack 4 = .ok (.iconst 1, 1) := decA_get dAX1_stepBack 2 rfl
theorem dX1_stepBack_5 : decode cX1_stepBack 5 = .ok (.if_icmp .ge 4, 3) := decA_get dAX1_stepBack 3 rfl
theorem dX1_stepBack_9 : decode cX1_stepBack 9 = .ok (.aload_n 0, 1) := decA_get dAX1_stepBack 5 rfl
theorem dX1_stepBack_10 : decode cX1_stepBack 10 = .ok (.dup, 1) := decA_get dAX1_stepBack 6 rfl
theorem dX1_stepBack_11 : decode cX1_stepBack 11 = .ok (.getfield 18, 3) := decA_get dAX1_stepBack 7 rfl
theorem dX1_stepBack_14 : decode cX1_stepBack 14 = .ok (.iconst 1, 1) := decA_get dAX1_stepBack 8 rfl
theorem dX1_stepBack_15 : decode cX1_stepBack 15 = .ok (.isub, 1) := decA_get dAX1_stepBack 9 rfl
theorem dX1_stepBack_16 : decode cX1_stepBack 16 = .ok (.putfield 18, 3) := decA_get dAX1_stepBack 10 rfl
theorem dX1_stepBack_19 : decode cX1_stepBack 19 = .ok (.aload_n 0, 1) := decA_get dAX1_stepBack 11 rfl
theorem dX1_stepBack_20 : decode cX1_stepBack 20 = .ok (.getfield 15, 3) := decA_get dAX1_stepBack 12 rfl
theorem dX1_stepBack_23 : decode cX1_stepBack 23 = .ok (.aload_n 0, 1) := decA_get dAX1_stepBack 13 rfl
theorem dX1_stepBack_24 : decode cX1_stepBack 24 = .ok (.getfield 18, 3) := decA_get dAX1_stepBack 14 rfl
theorem dX1_stepBack_27 : decode cX1_stepBack 27 = .ok (.bipush 36, 2) := decA_get dAX1_stepBack 15 rfl
theorem dX1_stepBack_29 : decode cX1_stepBack 29 = .ok (.imul, 1) := decA_get dAX1_stepBack 16 rfl
theorem dX1_stepBack_30 : decode cX1_stepBack 30 = .ok (.aload_n 0, 1) := decA_get dAX1_stepBack 17 rfl
theorem dX1_stepBack_31 : decode cX1_stepBack 31 = .ok (.getfield 11, 3) := decA_get dAX1_stepBack 18 rfl
theorem dX1_stepBack_34 : decode cX1_stepBack 34 = .ok (.iconst 0, 1) := decA_get dAX1_stepBack 19 rfl
theorem dX1_stepBack_35 : decode cX1_stepBack 35 = .ok (.bipush 36, 2) := decA_get dAX1_stepBack 20 rfl
theorem dX1_stepBack_37 : decode cX1_stepBack 37 = .ok (.invokestatic 27, 3) := decA_get dAX1_stepBack 21 rfl
theorem dX1_stepBack_40 : decode cX1_stepBack 40 = .ok (.return_, 1) := decA_get dAX1_stepBack 22 rfl
set_option maxHeartbeats 4000000 in
set_option maxRecDepth 100000 in
theorem g_stepBack (l : Launch) (D : va_G) (cI cB cZ cN : ClassId) (Nh : Nat) (Na0 : Nat) (Na1 : Nat) (NS : Nat → Nat → Nat) (hk : 0 < NS 2 0) (hk2 : NS 2 0 ≤ 10) : Cv (S := (Nat → Nat → Nat)) l D cI cB cZ cN yX1_stepBack wsX1_stepBack ({ frames := 1, cells := 0, slots := 0, locals := 40 } : Room) [.ref Nh] [(Nh, .inr (1, [.ref Na0, .ref Na1, .int (nI (NS 2 0))])), (Na0, .inl (cI, 36, .inl (nF (NS 0)))), (Na1, .inl (cI, 360, .inl (nF (NS 1))))] (fun (u : (Nat → Nat → Nat)) => u = ua (ua NS 0 (va_cpy (NS 1) (NS 0) ((NS 2 0 - 1) * 36) 0 36)) 2 (fun _ => NS 2 0 - 1)) (fun u => [(Nh, .inr (1, [.ref Na0, .ref Na1, .int (nI (u 2 0))])), (Na0, .inl (cI, 36, .inl (nF (u 0)))), (Na1, .inl (cI, 360, .inl (nF (u 1))))]) := by
  refine bx_of (D := D) (cI := cI) (cB := cB) (cZ := cZ) (cN := cN) (y := yX1_stepBack) (wd := wsX1_stepBack) (rm := ({ frames := 1, cells := 0, slots := 0, locals := 40 } : Room)) (av := [.ref Nh]) (wc := [(Nh, .inr (1, [.ref Na0, .ref Na1, .int (nI (NS 2 0))])), (Na0, .inl (cI, 36, .inl (nF (NS 0)))), (Na1, .inl (cI, 360, .inl (nF (NS 1))))]) (cc := cX1_stepBack) (maxL := 1) (ret := none) (Qc := fun _ A => va_Qv (S := (Nat → Nat → Nat)) (fun (u : (Nat → Nat → Nat)) => u = ua (ua NS 0 (va_cpy (NS 1) (NS 0) ((NS 2 0 - 1) * 36) 0 36)) 2 (fun _ => NS 2 0 - 1)) (Aft D (fun (u : (Nat → Nat → Nat)) => [(Nh, .inr (1, [.ref Na0, .ref Na1, .int (nI (u 2 0))])), (Na0, .inl (cI, 36, .inl (nF (u 0)))), (Na1, .inl (cI, 360, .inl (nF (u 1))))]) A) A) (by decide) rfl (Nat.le_of_ble_eq_true rfl) ?_
  intro p e s m below meth c A H locs ⟨hx, hb, hr, hml, hown, hts, hlk, hnm⟩ hK hP hD hS hA ls hl
  have hl : lv_has ls 1 [(0, .ref Nh)] := hl
  have hown : s.vm.findClass RX1 = some m.cls := hown
  refine lv_aload_n hx hb dX1_stepBack_0 rfl (lv_at hl 0 rfl) ?_
  refine va_get (D := D) (ci := 1) (v := .int (nI (NS 2 0))) (C := RX1) (T := TX1) (N := 3) hx hb hts in_X1_stepBack_1 hown hK.1 hP 0 rfl rfl 2 (by decide) (hts (.fieldLink RX1 18 "ChildCoins$Now" "known" "I") (List.mem_of_getElem? (i := 1) rfl)) (fun _ h9 => h9) rfl dX1_stepBack_1 ?_
  refine lv_iconst (v := nI 1) hx hb dX1_stepBack_4 (by decide) ?_
  refine nb_icmp_ge (tgt := 9) hx hb dX1_stepBack_5 (by decide) (by omega) (by omega) (fun hq1 => ?_) (fun hq1 => absurd hq1 (by omega))
  refine lv_aload_n hx hb dX1_stepBack_9 rfl (lv_at hl 0 rfl) ?_
  refine lv_dup hx hb dX1_stepBack_10 rfl ?_
  refine va_get (D := D) (ci := 1) (v := .int (nI (NS 2 0))) (C := RX1) (T := TX1) (N := 3) hx hb hts in_X1_stepBack_1 hown hK.1 hP 0 rfl rfl 2 (by decide) (hts (.fieldLink RX1 18 "ChildCoins$Now" "known" "I") (List.mem_of_getElem? (i := 1) rfl)) (fun _ h9 => h9) rfl dX1_stepBack_11 ?_
  refine lv_iconst (v := nI 1) hx hb dX1_stepBack_14 (by decide) ?_
  refine lv_isub hx hb dX1_stepBack_15 ?_
  refine set_i (y := nI ((NS 2 0) - 1)) (pk_sub (by omega)) ?_
  refine va_put (D := D) (ci := 1) (v := .int (nI ((NS 2 0) - 1))) (ty := tyX1 2) (C := RX1) (T := TX1) (N := 3) hx hb hts in_X1_stepBack_1 tyX1 tyX1_ok nmX1 hown hK.1 hP hD hS 0 rfl rfl 2 (by decide) (hts (.fieldLink RX1 18 "ChildCoins$Now" "known" "I") (List.mem_of_getElem? (i := 1) rfl)) (fun _ h9 => h9) rfl (tyX1_ok 2 (by decide)) rfl rfl (Nat.le_of_ble_eq_true rfl) dX1_stepBack_16 (fun H locs hP hD hS => ?_)
  obtain ⟨hP, hD⟩ : wPD D A [(Nh, .inr (1, [.ref Na0, .ref Na1, .int (nI ((NS 2 0) - 1))])), (Na0, .inl (cI, 36, .inl (nF (NS 0)))), (Na1, .inl (cI, 360, .inl (nF (NS 1))))] H := ⟨hP, hD⟩
  refine lv_aload_n hx hb dX1_stepBack_19 rfl (lv_at hl 0 rfl) ?_
  refine va_get (D := D) (ci := 1) (v := .ref Na1) (C := RX1) (T := TX1) (N := 3) hx hb hts in_X1_stepBack_1 hown hK.1 hP 0 rfl rfl 1 (by decide) (hts (.fieldLink RX1 15 "ChildCoins$Now" "past" "[I") (List.mem_of_getElem? (i := 2) rfl)) (fun _ h9 => h9) rfl dX1_stepBack_20 ?_
  refine lv_aload_n hx hb dX1_stepBack_23 rfl (lv_at hl 0 rfl) ?_
  refine va_get (D := D) (ci := 1) (v := .int (nI ((NS 2 0) - 1))) (C := RX1) (T := TX1) (N := 3) hx hb hts in_X1_stepBack_1 hown hK.1 hP 0 rfl rfl 2 (by decide) (hts (.fieldLink RX1 18 "ChildCoins$Now" "known" "I") (List.mem_of_getElem? (i := 1) rfl)) (fun _ h9 => h9) rfl dX1_stepBack_24 ?_
  refine lv_bipush (v := nI 36) hx hb dX1_stepBack_27 (by decide) ?_
  refine lv_imul hx hb dX1_stepBack_29 ?_
  refine set_i (y := nI (((NS 2 0) - 1) * 36)) (pk_mul ((NS 2 0) - 1) 36) ?_
  refine lv_aload_n hx hb dX1_stepBack_30 rfl (lv_at hl 0 rfl) ?_
  refine va_get (D := D) (ci := 1) (v := .ref Na0) (C := RX1) (T := TX1) (N := 3) hx hb hts in_X1_stepBack_1 hown hK.1 hP 0 rfl rfl 0 (by decide) (hts (.fieldLink RX1 11 "ChildCoins$Now" "cells" "[I") (List.mem_of_getElem? (i := 3) rfl)) (fun _ h9 => h9) rfl dX1_stepBack_31 ?_
  refine lv_iconst (v := nI 0) hx hb dX1_stepBack_34 (by decide) ?_
  refine lv_bipush (v := nI 36) hx hb dX1_stepBack_35 (by decide) ?_
  refine va_copyi hx hb (hml.trans hl.1.symm) hown (hts (.methodLink RX1 27 arraycopyName) (List.mem_of_getElem? (i := 4) rfl)) (hts (.native arraycopyName) (List.mem_of_getElem? (i := 5) rfl)) (hts (.static arraycopyName) (List.mem_of_getElem? (i := 6) rfl)) (hts (.initialized "java/lang/System") (List.mem_of_getElem? (i := 7) rfl)) hK.1 hP hD hS 2 1 0 0 rfl rfl rfl rfl rfl (nI_pos (by omega)) (nI_pos (by omega)) (nI_pos (by omega)) (by rw [nI_clamp (by omega), nI_clamp (by omega)]; omega) (by rw [nI_clamp (by omega), nI_clamp (by omega)]; omega) (fun i _ => rfl) (Nat.le_of_ble_eq_true rfl) (Nat.le_of_ble_eq_true rfl) dX1_stepBack_37 (fun H locs hP hD hS => ?_)
  obtain ⟨hP, hD⟩ : wPD D A [(Nh, .inr (1, [.ref Na0, .ref Na1, .int (nI ((NS 2 0) - 1))])), (Na0, .inl (cI, 36, .inl (va_cpy (nF (NS 1)) (nF (NS 0)) (nI (((NS 2 0) - 1) * 36)).toNatClampNeg (nI 0).toNatClampNeg (nI 36).toNatClampNeg))), (Na1, .inl (cI, 360, .inl (nF (NS 1))))] H := ⟨hP, hD⟩
  rw [nF_cp (by omega) (by omega) (by omega)] at hP hD
  obtain ⟨hP, hD⟩ : wPD D A [(Nh, .inr (1, [.ref Na0, .ref Na1, .int (nI ((NS 2 0) - 1))])), (Na0, .inl (cI, 36, .inl (nF (va_cpy (NS 1) (NS 0) (((NS 2 0) - 1) * 36) 0 36)))), (Na1, .inl (cI, 360, .inl (nF (NS 1))))] H := ⟨hP, hD⟩
  exact en_v hx hb hr hlk hP hD hS (ua (ua NS 0 (va_cpy (NS 1) (NS 0) (((NS 2 0) - 1) * 36) 0 36)) 2 (fun _ => (NS 2 0) - 1)) [0, 1, 2] (by decide) rfl (Nat.le_of_ble_eq_true rfl) (Nat.le_of_ble_eq_true rfl) dX1_stepBack_40 rfl
set_option maxRecDepth 20000 in
theorem dAX1_remember : decA cX1_remember [(0, .aload_n 0, 1), (1, .getfield 18, 3), (4, .bipush 10, 2), (6, .if_icmp .lt 30, 3), (9, .aload_n 0, 1), (10, .bipush 9, 2), (12, .putfield 18, 3), (15, .aload_n 0, 1), (16, .getfield 15, 3), (19, .bipush 36, 2), (21, .aload_n 0, 1), (22, .getfield 15, 3), (25, .iconst 0, 1), (26, .aload_n 0, 1), (27, .getfield 18, 3), (30, .bipush 36, 2), (32, .imul, 1), (33, .invokestatic 27, 3), (36, .aload_n 0, 1), (37, .getfield 11, 3), (40, .iconst 0, 1), (41, .aload_n 0, 1), (42, .getfield 15, 3), (45, .aload_n 0, 1), (46, .getfield 18, 3), (49, .bipush 36, 2), (51, .imul, 1), (52, .bipush 36, 2), (54, .invokestatic 27, 3), (57, .aload_n 0, 1), (58, .dup, 1), (59, .getfield 18, 3), (62, .iconst 1, 1), (63, .iadd, 1), (64, .putfield 18, 3), (67, .return_, 1)] = true := by decide +kernel
theorem dX1_remember_0 : decode cX1_remember 0 = .ok (.aload_n 0, 1) := decA_get dAX1_remember 0 rfl
theorem dX1_remember_1 : decode cX1_remember 1 = .ok (.getfield 18, 3) := decA_get dAX1_remember 1 rfl
theorem in_X1_remember_1 : ∀ w ∈ wsX10, w ∈ wsX1_remember := fun w h => (gd_ids wi_X1_remember wm_X1_remember wi_X10 (by decide +kernel) w h).1
theorem dX1_remember_4 : decode cX1_remember 4 = .ok (.bipush 10, 2) := decA_get dAX1_remember 2 rfl
theorem dX1_remember_6 : decode cX1_remember 6 = .ok (.if_icmp .lt 30, 3) := decA_get dAX1_remember 3 rfl
theorem dX1_remember_36 : decode cX1_remember 36 = .ok (.aload_n 0, 1) := decA_get dAX1_remember 18 rfl
theorem dX1_remember_37 : decode cX1_remember 37 = .ok (.getfield 11, 3) := decA_get dAX1_remember 19 rfl
theorem dX1_remember_40 : decode cX1_remember 40 = .ok (.iconst 0, 1) := decA_get dAX1_remember 20 rfl
theorem dX1_remember_41 : decode cX1_remember 41 = .ok (.aload_n 0, 1) := decA_get dAX1_remember 21 rfl
theorem dX1_remember_42 : decode cX1_remember 42 = .ok (.getfield 15, 3) := decA_get dAX1_remember 22 rfl
theorem dX1_remember_45 : decode cX1_remember 45 = .ok (.aload_n 0, 1) := decA_get dAX1_remember 23 rfl
theorem dX1_remember_46 : decode cX1_remember 46 = .ok (.getfield 18, 3) := decA_get dAX1_remember 24 rfl
theorem dX1_remember_49 : decode cX1_remember 49 = .ok (.bipush 36, 2) := decA_get dAX1_remember 25 rfl
theorem dX1_remember_51 : decode cX1_remember 51 = .ok (.imul, 1) := decA_get dAX1_remember 26 rfl
theorem dX1_remember_52 : decode cX1_remember 52 = .ok (.bipush 36, 2) := decA_get dAX1_remember 27 rfl
theorem dX1_remember_54 : decode cX1_remember 54 = .ok (.invokestatic 27, 3) := decA_get dAX1_remember 28 rfl
theorem dX1_remember_57 : decode cX1_remember 57 = .ok (.aload_n 0, 1) := decA_get dAX1_remember 29 rfl
theorem dX1_remember_58 : decode cX1_remember 58 = .ok (.dup, 1) := decA_get dAX1_remember 30 rfl
theorem dX1_remember_59 : decode cX1_remember 59 = .ok (.getfield 18, 3) := decA_get dAX1_remember 31 rfl
theorem dX1_remember_62 : decode cX1_remember 62 = .ok (.iconst 1, 1) := decA_get dAX1_remember 32 rfl
theorem dX1_remember_63 : decode cX1_remember 63 = .ok (.iadd, 1) := decA_get dAX1_remember 33 rfl
theorem dX1_remember_64 : decode cX1_remember 64 = .ok (.putfield 18, 3) := decA_get dAX1_remember 34 rfl
theorem dX1_remember_67 : decode cX1_remember 67 = .ok (.return_, 1) := decA_get dAX1_remember 35 rfl
theorem dX1_remember_9 : decode cX1_remember 9 = .ok (.aload_n 0, 1) := decA_get dAX1_remember 4 rfl
theorem dX1_remember_10 : decode cX1_remember 10 = .ok (.bipush 9, 2) := decA_get dAX1_remember 5 rfl
theorem dX1_remember_12 : decode cX1_remember 12 = .ok (.putfield 18, 3) := decA_get dAX1_remember 6 rfl
theorem dX1_remember_15 : decode cX1_remember 15 = .ok (.aload_n 0, 1) := decA_get dAX1_remember 7 rfl
theorem dX1_remember_16 : decode cX1_remember 16 = .ok (.getfield 15, 3) := decA_get dAX1_remember 8 rfl
theorem dX1_remember_19 : decode cX1_remember 19 = .ok (.bipush 36, 2) := decA_get dAX1_remember 9 rfl
theorem dX1_remember_21 : decode cX1_remember 21 = .ok (.aload_n 0, 1) := decA_get dAX1_remember 10 rfl
theorem dX1_remember_22 : decode cX1_remember 22 = .ok (.getfield 15, 3) := decA_get dAX1_remember 11 rfl
theorem dX1_remember_25 : decode cX1_remember 25 = .ok (.iconst 0, 1) := decA_get dAX1_remember 12 rfl
theorem dX1_remember_26 : decode cX1_remember 26 = .ok (.aload_n 0, 1) := decA_get dAX1_remember 13 rfl
theorem dX1_remember_27 : decode cX1_remember 27 = .ok (.getfield 18, 3) := decA_get dAX1_remember 14 rfl
theorem dX1_remember_30 : decode cX1_remember 30 = .ok (.bipush 36, 2) := decA_get dAX1_remember 15 rfl
theorem dX1_remember_32 : decode cX1_remember 32 = .ok (.imul, 1) := decA_get dAX1_remember 16 rfl
theorem dX1_remember_33 : decode cX1_remember 33 = .ok (.invokestatic 27, 3) := decA_get dAX1_remember 17 rfl
set_option maxHeartbeats 4000000 in
set_option maxRecDepth 100000 in
theorem g_remember (l : Launch) (D : va_G) (cI cB cZ cN : ClassId) (Nh : Nat) (Na0 : Nat) (Na1 : Nat) (NS : Nat → Nat → Nat) (hk2 : NS 2 0 ≤ 10) : Cv (S := (Nat → Nat → Nat)) l D cI cB cZ cN yX1_remember wsX1_remember ({ frames := 1, cells := 0, slots := 0, locals := 40 } : Room) [.ref Nh] [(Nh, .inr (1, [.ref Na0, .ref Na1, .int (nI (NS 2 0))])), (Na0, .inl (cI, 36, .inl (nF (NS 0)))), (Na1, .inl (cI, 360, .inl (nF (NS 1))))] (fun (u : (Nat → Nat → Nat)) => u = remN NS) (fun u => [(Nh, .inr (1, [.ref Na0, .ref Na1, .int (nI (u 2 0))])), (Na0, .inl (cI, 36, .inl (nF (u 0)))), (Na1, .inl (cI, 360, .inl (nF (u 1))))]) := by
  refine bx_of (D := D) (cI := cI) (cB := cB) (cZ := cZ) (cN := cN) (y := yX1_remember) (wd := wsX1_remember) (rm := ({ frames := 1, cells := 0, slots := 0, locals := 40 } : Room)) (av := [.ref Nh]) (wc := [(Nh, .inr (1, [.ref Na0, .ref Na1, .int (nI (NS 2 0))])), (Na0, .inl (cI, 36, .inl (nF (NS 0)))), (Na1, .inl (cI, 360, .inl (nF (NS 1))))]) (cc := cX1_remember) (maxL := 1) (ret := none) (Qc := fun _ A => va_Qv (S := (Nat → Nat → Nat)) (fun (u : (Nat → Nat → Nat)) => u = remN NS) (Aft D (fun (u : (Nat → Nat → Nat)) => [(Nh, .inr (1, [.ref Na0, .ref Na1, .int (nI (u 2 0))])), (Na0, .inl (cI, 36, .inl (nF (u 0)))), (Na1, .inl (cI, 360, .inl (nF (u 1))))]) A) A) (by decide) rfl (Nat.le_of_ble_eq_true rfl) ?_
  intro p e s m below meth c A H locs ⟨hx, hb, hr, hml, hown, hts, hlk, hnm⟩ hK hP hD hS hA ls hl
  have hl : lv_has ls 1 [(0, .ref Nh)] := hl
  have hown : s.vm.findClass RX1 = some m.cls := hown
  refine lv_aload_n hx hb dX1_remember_0 rfl (lv_at hl 0 rfl) ?_
  refine va_get (D := D) (ci := 1) (v := .int (nI (NS 2 0))) (C := RX1) (T := TX1) (N := 3) hx hb hts in_X1_remember_1 hown hK.1 hP 0 rfl rfl 2 (by decide) (hts (.fieldLink RX1 18 "ChildCoins$Now" "known" "I") (List.mem_of_getElem? (i := 1) rfl)) (fun _ h9 => h9) rfl dX1_remember_1 ?_
  refine lv_bipush (v := nI 10) hx hb dX1_remember_4 (by decide) ?_
  refine nb_icmp_lt (tgt := 36) hx hb dX1_remember_6 (by decide) (by omega) (by omega) (fun hq1 => ?_) (fun hq1 => ?_)
  · skip
    refine lv_aload_n hx hb dX1_remember_36 rfl (lv_at hl 0 rfl) ?_
    refine va_get (D := D) (ci := 1) (v := .ref Na0) (C := RX1) (T := TX1) (N := 3) hx hb hts in_X1_remember_1 hown hK.1 hP 0 rfl rfl 0 (by decide) (hts (.fieldLink RX1 11 "ChildCoins$Now" "cells" "[I") (List.mem_of_getElem? (i := 7) rfl)) (fun _ h9 => h9) rfl dX1_remember_37 ?_
    refine lv_iconst (v := nI 0) hx hb dX1_remember_40 (by decide) ?_
    refine lv_aload_n hx hb dX1_remember_41 rfl (lv_at hl 0 rfl) ?_
    refine va_get (D := D) (ci := 1) (v := .ref Na1) (C := RX1) (T := TX1) (N := 3) hx hb hts in_X1_remember_1 hown hK.1 hP 0 rfl rfl 1 (by decide) (hts (.fieldLink RX1 15 "ChildCoins$Now" "past" "[I") (List.mem_of_getElem? (i := 2) rfl)) (fun _ h9 => h9) rfl dX1_remember_42 ?_
    refine lv_aload_n hx hb dX1_remember_45 rfl (lv_at hl 0 rfl) ?_
    refine va_get (D := D) (ci := 1) (v := .int (nI (NS 2 0))) (C := RX1) (T := TX1) (N := 3) hx hb hts in_X1_remember_1 hown hK.1 hP 0 rfl rfl 2 (by decide) (hts (.fieldLink RX1 18 "ChildCoins$Now" "known" "I") (List.mem_of_getElem? (i := 1) rfl)) (fun _ h9 => h9) rfl dX1_remember_46 ?_
    refine lv_bipush (v := nI 36) hx hb dX1_remember_49 (by decide) ?_
    refine lv_imul hx hb dX1_remember_51 ?_
    refine set_i (y := nI ((NS 2 0) * 36)) (pk_mul (NS 2 0) 36) ?_
    refine lv_bipush (v := nI 36) hx hb dX1_remember_52 (by decide) ?_
    refine va_copyi hx hb (hml.trans hl.1.symm) hown (hts (.methodLink RX1 27 arraycopyName) (List.mem_of_getElem? (i := 3) rfl)) (hts (.native arraycopyName) (List.mem_of_getElem? (i := 4) rfl)) (hts (.static arraycopyName) (List.mem_of_getElem? (i := 5) rfl)) (hts (.initialized "java/lang/System") (List.mem_of_getElem? (i := 6) rfl)) hK.1 hP hD hS 1 2 0 0 rfl rfl rfl rfl rfl (nI_pos (by omega)) (nI_pos (by omega)) (nI_pos (by omega)) (by rw [nI_clamp (by omega), nI_clamp (by omega)]; omega) (by rw [nI_clamp (by omega), nI_clamp (by omega)]; omega) (fun i _ => rfl) (Nat.le_of_ble_eq_true rfl) (Nat.le_of_ble_eq_true rfl) dX1_remember_54 (fun H locs hP hD hS => ?_)
    obtain ⟨hP, hD⟩ : wPD D A [(Nh, .inr (1, [.ref Na0, .ref Na1, .int (nI (NS 2 0))])), (Na0, .inl (cI, 36, .inl (nF (NS 0)))), (Na1, .inl (cI, 360, .inl (va_cpy (nF (NS 0)) (nF (NS 1)) (nI 0).toNatClampNeg (nI ((NS 2 0) * 36)).toNatClampNeg (nI 36).toNatClampNeg)))] H := ⟨hP, hD⟩
    rw [nF_cp (by omega) (by omega) (by omega)] at hP hD
    obtain ⟨hP, hD⟩ : wPD D A [(Nh, .inr (1, [.ref Na0, .ref Na1, .int (nI (NS 2 0))])), (Na0, .inl (cI, 36, .inl (nF (NS 0)))), (Na1, .inl (cI, 360, .inl (nF (va_cpy (NS 0) (NS 1) 0 ((NS 2 0) * 36) 36))))] H := ⟨hP, hD⟩
    refine lv_aload_n hx hb dX1_remember_57 rfl (lv_at hl 0 rfl) ?_
    refine lv_dup hx hb dX1_remember_58 rfl ?_
    refine va_get (D := D) (ci := 1) (v := .int (nI (NS 2 0))) (C := RX1) (T := TX1) (N := 3) hx hb hts in_X1_remember_1 hown hK.1 hP 0 rfl rfl 2 (by decide) (hts (.fieldLink RX1 18 "ChildCoins$Now" "known" "I") (List.mem_of_getElem? (i := 1) rfl)) (fun _ h9 => h9) rfl dX1_remember_59 ?_
    refine lv_iconst (v := nI 1) hx hb dX1_remember_62 (by decide) ?_
    refine lv_iadd hx hb dX1_remember_63 ?_
    refine set_i (y := nI ((NS 2 0) + 1)) (nI_add (NS 2 0) 1) ?_
    refine va_put (D := D) (ci := 1) (v := .int (nI ((NS 2 0) + 1))) (ty := tyX1 2) (C := RX1) (T := TX1) (N := 3) hx hb hts in_X1_remember_1 tyX1 tyX1_ok nmX1 hown hK.1 hP hD hS 0 rfl rfl 2 (by decide) (hts (.fieldLink RX1 18 "ChildCoins$Now" "known" "I") (List.mem_of_getElem? (i := 1) rfl)) (fun _ h9 => h9) rfl (tyX1_ok 2 (by decide)) rfl rfl (Nat.le_of_ble_eq_true rfl) dX1_remember_64 (fun H locs hP hD hS => ?_)
    obtain ⟨hP, hD⟩ : wPD D A [(Nh, .inr (1, [.ref Na0, .ref Na1, .int (nI ((NS 2 0) + 1))])), (Na0, .inl (cI, 36, .inl (nF (NS 0)))), (Na1, .inl (cI, 360, .inl (nF (va_cpy (NS 0) (NS 1) 0 ((NS 2 0) * 36) 36))))] H := ⟨hP, hD⟩
    exact en_v hx hb hr hlk hP hD hS (ua (ua NS 1 (va_cpy (NS 0) (NS 1) 0 ((NS 2 0) * 36) 36)) 2 (fun _ => (NS 2 0) + 1)) [0, 1, 2] (by decide) rfl (Nat.le_of_ble_eq_true rfl) (Nat.le_of_ble_eq_true rfl) dX1_remember_67 (by unfold remN; rw [if_pos (by omega)])
  · skip
    refine lv_aload_n hx hb dX1_remember_9 rfl (lv_at hl 0 rfl) ?_
    refine lv_bipush (v := nI 9) hx hb dX1_remember_10 (by decide) ?_
    refine va_put (D := D) (ci := 1) (v := .int (nI 9)) (ty := tyX1 2) (C := RX1) (T := TX1) (N := 3) hx hb hts in_X1_remember_1 tyX1 tyX1_ok nmX1 hown hK.1 hP hD hS 0 rfl rfl 2 (by decide) (hts (.fieldLink RX1 18 "ChildCoins$Now" "known" "I") (List.mem_of_getElem? (i := 1) rfl)) (fun _ h9 => h9) rfl (tyX1_ok 2 (by decide)) rfl rfl (Nat.le_of_ble_eq_true rfl) dX1_remember_12 (fun H locs hP hD hS => ?_)
    obtain ⟨hP, hD⟩ : wPD D A [(Nh, .inr (1, [.ref Na0, .ref Na1, .int (nI 9)])), (Na0, .inl (cI, 36, .inl (nF (NS 0)))), (Na1, .inl (cI, 360, .inl (nF (NS 1))))] H := ⟨hP, hD⟩
    refine lv_aload_n hx hb dX1_remember_15 rfl (lv_at hl 0 rfl) ?_
    refine va_get (D := D) (ci := 1) (v := .ref Na1) (C := RX1) (T := TX1) (N := 3) hx hb hts in_X1_remember_1 hown hK.1 hP 0 rfl rfl 1 (by decide) (hts (.fieldLink RX1 15 "ChildCoins$Now" "past" "[I") (List.mem_of_getElem? (i := 2) rfl)) (fun _ h9 => h9) rfl dX1_remember_16 ?_
    refine lv_bipush (v := nI 36) hx hb dX1_remember_19 (by decide) ?_
    refine lv_aload_n hx hb dX1_remember_21 rfl (lv_at hl 0 rfl) ?_
    refine va_get (D := D) (ci := 1) (v := .ref Na1) (C := RX1) (T := TX1) (N := 3) hx hb hts in_X1_remember_1 hown hK.1 hP 0 rfl rfl 1 (by decide) (hts (.fieldLink RX1 15 "ChildCoins$Now" "past" "[I") (List.mem_of_getElem? (i := 2) rfl)) (fun _ h9 => h9) rfl dX1_remember_22 ?_
    refine lv_iconst (v := nI 0) hx hb dX1_remember_25 (by decide) ?_
    refine lv_aload_n hx hb dX1_remember_26 rfl (lv_at hl 0 rfl) ?_
    refine va_get (D := D) (ci := 1) (v := .int (nI 9)) (C := RX1) (T := TX1) (N := 3) hx hb hts in_X1_remember_1 hown hK.1 hP 0 rfl rfl 2 (by decide) (hts (.fieldLink RX1 18 "ChildCoins$Now" "known" "I") (List.mem_of_getElem? (i := 1) rfl)) (fun _ h9 => h9) rfl dX1_remember_27 ?_
    refine lv_bipush (v := nI 36) hx hb dX1_remember_30 (by decide) ?_
    refine lv_imul hx hb dX1_remember_32 ?_
    refine set_i (y := nI 324) (by decide) ?_
    refine va_copyi hx hb (hml.trans hl.1.symm) hown (hts (.methodLink RX1 27 arraycopyName) (List.mem_of_getElem? (i := 3) rfl)) (hts (.native arraycopyName) (List.mem_of_getElem? (i := 4) rfl)) (hts (.static arraycopyName) (List.mem_of_getElem? (i := 5) rfl)) (hts (.initialized "java/lang/System") (List.mem_of_getElem? (i := 6) rfl)) hK.1 hP hD hS 2 2 0 0 rfl rfl rfl rfl rfl (nI_pos (by omega)) (nI_pos (by omega)) (nI_pos (by omega)) (by rw [nI_clamp (by omega), nI_clamp (by omega)]; omega) (by rw [nI_clamp (by omega), nI_clamp (by omega)]; omega) (fun i _ => rfl) (Nat.le_of_ble_eq_true rfl) (Nat.le_of_ble_eq_true rfl) dX1_remember_33 (fun H locs hP hD hS => ?_)
    obtain ⟨hP, hD⟩ : wPD D A [(Nh, .inr (1, [.ref Na0, .ref Na1, .int (nI 9)])), (Na0, .inl (cI, 36, .inl (nF (NS 0)))), (Na1, .inl (cI, 360, .inl (va_cpy (nF (NS 1)) (nF (NS 1)) (nI 36).toNatClampNeg (nI 0).toNatClampNeg (nI 324).toNatClampNeg)))] H := ⟨hP, hD⟩
    rw [nF_cp (by omega) (by omega) (by omega)] at hP hD
    obtain ⟨hP, hD⟩ : wPD D A [(Nh, .inr (1, [.ref Na0, .ref Na1, .int (nI 9)])), (Na0, .inl (cI, 36, .inl (nF (NS 0)))), (Na1, .inl (cI, 360, .inl (nF (va_cpy (NS 1) (NS 1) 36 0 324))))] H := ⟨hP, hD⟩
    refine lv_aload_n hx hb dX1_remember_36 rfl (lv_at hl 0 rfl) ?_
    refine va_get (D := D) (ci := 1) (v := .ref Na0) (C := RX1) (T := TX1) (N := 3) hx hb hts in_X1_remember_1 hown hK.1 hP 0 rfl rfl 0 (by decide) (hts (.fieldLink RX1 11 "ChildCoins$Now" "cells" "[I") (List.mem_of_getElem? (i := 7) rfl)) (fun _ h9 => h9) rfl dX1_remember_37 ?_
    refine lv_iconst (v := nI 0) hx hb dX1_remember_40 (by decide) ?_
    refine lv_aload_n hx hb dX1_remember_41 rfl (lv_at hl 0 rfl) ?_
    refine va_get (D := D) (ci := 1) (v := .ref Na1) (C := RX1) (T := TX1) (N := 3) hx hb hts in_X1_remember_1 hown hK.1 hP 0 rfl rfl 1 (by decide) (hts (.fieldLink RX1 15 "ChildCoins$Now" "past" "[I") (List.mem_of_getElem? (i := 2) rfl)) (fun _ h9 => h9) rfl dX1_remember_42 ?_
    refine lv_aload_n hx hb dX1_remember_45 rfl (lv_at hl 0 rfl) ?_
    refine va_get (D := D) (ci := 1) (v := .int (nI 9)) (C := RX1) (T := TX1) (N := 3) hx hb hts in_X1_remember_1 hown hK.1 hP 0 rfl rfl 2 (by decide) (hts (.fieldLink RX1 18 "ChildCoins$Now" "known" "I") (List.mem_of_getElem? (i := 1) rfl)) (fun _ h9 => h9) rfl dX1_remember_46 ?_
    refine lv_bipush (v := nI 36) hx hb dX1_remember_49 (by decide) ?_
    refine lv_imul hx hb dX1_remember_51 ?_
    refine set_i (y := nI 324) (by decide) ?_
    refine lv_bipush (v := nI 36) hx hb dX1_remember_52 (by decide) ?_
    refine va_copyi hx hb (hml.trans hl.1.symm) hown (hts (.methodLink RX1 27 arraycopyName) (List.mem_of_getElem? (i := 3) rfl)) (hts (.native arraycopyName) (List.mem_of_getElem? (i := 4) rfl)) (hts (.static arraycopyName) (List.mem_of_getElem? (i := 5) rfl)) (hts (.initialized "java/lang/System") (List.mem_of_getElem? (i := 6) rfl)) hK.1 hP hD hS 1 2 0 0 rfl rfl rfl rfl rfl (nI_pos (by omega)) (nI_pos (by omega)) (nI_pos (by omega)) (by rw [nI_clamp (by omega), nI_clamp (by omega)]; omega) (by rw [nI_clamp (by omega), nI_clamp (by omega)]; omega) (fun i _ => rfl) (Nat.le_of_ble_eq_true rfl) (Nat.le_of_ble_eq_true rfl) dX1_remember_54 (fun H locs hP hD hS => ?_)
    obtain ⟨hP, hD⟩ : wPD D A [(Nh, .inr (1, [.ref Na0, .ref Na1, .int (nI 9)])), (Na0, .inl (cI, 36, .inl (nF (NS 0)))), (Na1, .inl (cI, 360, .inl (va_cpy (nF (NS 0)) (nF (va_cpy (NS 1) (NS 1) 36 0 324)) (nI 0).toNatClampNeg (nI 324).toNatClampNeg (nI 36).toNatClampNeg)))] H := ⟨hP, hD⟩
    rw [nF_cp (by omega) (by omega) (by omega)] at hP hD
    obtain ⟨hP, hD⟩ : wPD D A [(Nh, .inr (1, [.ref Na0, .ref Na1, .int (nI 9)])), (Na0, .inl (cI, 36, .inl (nF (NS 0)))), (Na1, .inl (cI, 360, .inl (nF (va_cpy (NS 0) (va_cpy (NS 1) (NS 1) 36 0 324) 0 324 36))))] H := ⟨hP, hD⟩
    refine lv_aload_n hx hb dX1_remember_57 rfl (lv_at hl 0 rfl) ?_
    refine lv_dup hx hb dX1_remember_58 rfl ?_
    refine va_get (D := D) (ci := 1) (v := .int (nI 9)) (C := RX1) (T := TX1) (N := 3) hx hb hts in_X1_remember_1 hown hK.1 hP 0 rfl rfl 2 (by decide) (hts (.fieldLink RX1 18 "ChildCoins$Now" "known" "I") (List.mem_of_getElem? (i := 1) rfl)) (fun _ h9 => h9) rfl dX1_remember_59 ?_
    refine lv_iconst (v := nI 1) hx hb dX1_remember_62 (by decide) ?_
    refine lv_iadd hx hb dX1_remember_63 ?_
    refine set_i (y := nI 10) (by decide) ?_
    refine va_put (D := D) (ci := 1) (v := .int (nI 10)) (ty := tyX1 2) (C := RX1) (T := TX1) (N := 3) hx hb hts in_X1_remember_1 tyX1 tyX1_ok nmX1 hown hK.1 hP hD hS 0 rfl rfl 2 (by decide) (hts (.fieldLink RX1 18 "ChildCoins$Now" "known" "I") (List.mem_of_getElem? (i := 1) rfl)) (fun _ h9 => h9) rfl (tyX1_ok 2 (by decide)) rfl rfl (Nat.le_of_ble_eq_true rfl) dX1_remember_64 (fun H locs hP hD hS => ?_)
    obtain ⟨hP, hD⟩ : wPD D A [(Nh, .inr (1, [.ref Na0, .ref Na1, .int (nI 10)])), (Na0, .inl (cI, 36, .inl (nF (NS 0)))), (Na1, .inl (cI, 360, .inl (nF (va_cpy (NS 0) (va_cpy (NS 1) (NS 1) 36 0 324) 0 324 36))))] H := ⟨hP, hD⟩
    exact en_v hx hb hr hlk hP hD hS (ua (ua NS 1 (va_cpy (NS 0) (va_cpy (NS 1) (NS 1) 36 0 324) 0 324 36)) 2 (fun _ => 10)) [0, 1, 2] (by decide) rfl (Nat.le_of_ble_eq_true rfl) (Nat.le_of_ble_eq_true rfl) dX1_remember_67 (by unfold remN; rw [if_neg (by omega)])
set_option maxRecDepth 20000 in
theorem dAX1_begin : decA cX1_begin [(0, .aload_n 1, 1), (1, .getfield 22, 3), (4, .iconst 0, 1), (5, .aload_n 0, 1), (6, .getfield 11, 3), (9, .iconst 0, 1), (10, .bipush 30, 2), (12, .invokestatic 27, 3), (15, .aload_n 1, 1), (16, .getfield 33, 3), (19, .iconst 0, 1), (20, .aload_n 0, 1), (21, .getfield 11, 3), (24, .bipush 30, 2), (26, .iconst 5, 1), (27, .invokestatic 27, 3), (30, .aload_n 0, 1), (31, .getfield 11, 3), (34, .bipush 35, 2), (36, .iconst 1, 1), (37, .aload_n 1, 1), (38, .getfield 36, 3), (41, .ishl, 1), (42, .iconst 1, 1), (43, .isub, 1), (44, .iastore, 1), (45, .aload_n 0, 1), (46, .iconst 0, 1), (47, .putfield 18, 3), (50, .return_, 1)] = true := by decide +kernel
theorem dX1_begin_0 : decode cX1_begin 0 = .ok (.aload_n 1, 1) := decA_get dAX1_begin 0 rfl
theorem dX1_begin_1 : decode cX1_begin 1 = .ok (.getfield 22, 3) := decA_get dAX1_begin 1 rfl
theorem in_X1_begin_0 : ∀ w ∈ wsX00, w ∈ wsX1_begin := fun w h => (gd_ids wi_X1_begin wm_X1_begin wi_X00 (by decide +kernel) w h).1
theorem dX1_begin_4 : decode cX1_begin 4 = .ok (.iconst 0, 1) := decA_get dAX1_begin 2 rfl
theorem dX1_begin_5 : decode cX1_begin 5 = .ok (.aload_n 0, 1) := decA_get dAX1_begin 3 rfl
theorem dX1_begin_6 : decode cX1_begin 6 = .ok (.getfield 11, 3) := decA_get dAX1_begin 4 rfl
theorem in_X1_begin_1 : ∀ w ∈ wsX10, w ∈ wsX1_begin := fun w h => (gd_ids wi_X1_begin wm_X1_begin wi_X10 (by decide +kernel) w h).1
theorem dX1_begin_9 : decode cX1_begin 9 = .ok (.iconst 0, 1) := decA_get dAX1_begin 5 rfl
theorem dX1_begin_10 : decode cX1_begin 10 = .ok (.bipush 30, 2) := decA_get dAX1_begin 6 rfl
theorem dX1_begin_12 : decode cX1_begin 12 = .ok (.invokestatic 27, 3) := decA_get dAX1_begin 7 rfl
theorem dX1_begin_15 : decode cX1_begin 15 = .ok (.aload_n 1, 1) := decA_get dAX1_begin 8 rfl
theorem dX1_begin_16 : decode cX1_begin 16 = .ok (.getfield 33, 3) := decA_get dAX1_begin 9 rfl
theorem dX1_begin_19 : decode cX1_begin 19 = .ok (.iconst 0, 1) := decA_get dAX1_begin 10 rfl
theorem dX1_begin_20 : decode cX1_begin 20 = .ok (.aload_n 0, 1) := decA_get dAX1_begin 11 rfl
theorem dX1_begin_21 : decode cX1_begin 21 = .ok (.getfield 11, 3) := decA_get dAX1_begin 12 rfl
theorem dX1_begin_24 : decode cX1_begin 24 = .ok (.bipush 30, 2) := decA_get dAX1_begin 13 rfl
theorem dX1_begin_26 : decode cX1_begin 26 = .ok (.iconst 5, 1) := decA_get dAX1_begin 14 rfl
theorem dX1_begin_27 : decode cX1_begin 27 = .ok (.invokestatic 27, 3) := decA_get dAX1_begin 15 rfl
theorem dX1_begin_30 : decode cX1_begin 30 = .ok (.aload_n 0, 1) := decA_get dAX1_begin 16 rfl
theorem dX1_begin_31 : decode cX1_begin 31 = .ok (.getfield 11, 3) := decA_get dAX1_begin 17 rfl
theorem dX1_begin_34 : decode cX1_begin 34 = .ok (.bipush 35, 2) := decA_get dAX1_begin 18 rfl
theorem dX1_begin_36 : decode cX1_begin 36 = .ok (.iconst 1, 1) := decA_get dAX1_begin 19 rfl
theorem dX1_begin_37 : decode cX1_begin 37 = .ok (.aload_n 1, 1) := decA_get dAX1_begin 20 rfl
theorem dX1_begin_38 : decode cX1_begin 38 = .ok (.getfield 36, 3) := decA_get dAX1_begin 21 rfl
theorem dX1_begin_41 : decode cX1_begin 41 = .ok (.ishl, 1) := decA_get dAX1_begin 22 rfl
theorem dX1_begin_42 : decode cX1_begin 42 = .ok (.iconst 1, 1) := decA_get dAX1_begin 23 rfl
theorem dX1_begin_43 : decode cX1_begin 43 = .ok (.isub, 1) := decA_get dAX1_begin 24 rfl
theorem dX1_begin_44 : decode cX1_begin 44 = .ok (.iastore, 1) := decA_get dAX1_begin 25 rfl
theorem dX1_begin_45 : decode cX1_begin 45 = .ok (.aload_n 0, 1) := decA_get dAX1_begin 26 rfl
theorem dX1_begin_46 : decode cX1_begin 46 = .ok (.iconst 0, 1) := decA_get dAX1_begin 27 rfl
theorem dX1_begin_47 : decode cX1_begin 47 = .ok (.putfield 18, 3) := decA_get dAX1_begin 28 rfl
theorem dX1_begin_50 : decode cX1_begin 50 = .ok (.return_, 1) := decA_get dAX1_begin 29 rfl
set_option maxHeartbeats 4000000 in
set_option maxRecDepth 100000 in
theorem g_begin (l : Launch) (D : va_G) (cI cB cZ cN : ClassId) (Nh : Nat) (Na0 : Nat) (Na1 : Nat) (NS : Nat → Nat → Nat) (Lh : Nat) (La1 : Nat) (La2 : Nat) (La4 : Nat) (La5 : Nat) (La7 : Nat) (La8 : Nat) (La9 : Nat) (LS : Nat → Nat → Nat) (hL : LandOk LS) : Cv (S := (Nat → Nat → Nat)) l D cI cB cZ cN yX1_begin wsX1_begin ({ frames := 1, cells := 0, slots := 0, locals := 40 } : Room) [.ref Nh, .ref Lh] [(Nh, .inr (1, [.ref Na0, .ref Na1, .int (nI (NS 2 0))])), (Na0, .inl (cI, 36, .inl (nF (NS 0)))), (Na1, .inl (cI, 360, .inl (nF (NS 1)))), (Lh, .inr (0, [.int (nI (LS 0 0)), .ref La1, .ref La2, .int (nI (LS 3 0)), .ref La4, .ref La5, .int (nI (LS 6 0)), .ref La7, .ref La8, .ref La9, .int (nI (LS 10 0)), .int (nI (LS 11 0))])), (La1, .inl (cI, 6, .inl (nF (LS 1)))), (La2, .inl (cI, 6, .inl (nF (LS 2)))), (La4, .inl (cI, 5, .inl (nF (LS 4)))), (La5, .inl (cI, 30, .inl (nF (LS 5)))), (La7, .inl (cI, 5, .inl (nF (LS 7)))), (La8, .inl (cI, 5, .inl (nF (LS 8)))), (La9, .inl (cI, 5, .inl (nF (LS 9))))] (fun (u : (Nat → Nat → Nat)) => u = begN NS LS) (fun u => [(Nh, .inr (1, [.ref Na0, .ref Na1, .int (nI (u 2 0))])), (Na0, .inl (cI, 36, .inl (nF (u 0)))), (Na1, .inl (cI, 360, .inl (nF (u 1)))), (Lh, .inr (0, [.int (nI (LS 0 0)), .ref La1, .ref La2, .int (nI (LS 3 0)), .ref La4, .ref La5, .int (nI (LS 6 0)), .ref La7, .ref La8, .ref La9, .int (nI (LS 10 0)), .int (nI (LS 11 0))])), (La1, .inl (cI, 6, .inl (nF (LS 1)))), (La2, .inl (cI, 6, .inl (nF (LS 2)))), (La4, .inl (cI, 5, .inl (nF (LS 4)))), (La5, .inl (cI, 30, .inl (nF (LS 5)))), (La7, .inl (cI, 5, .inl (nF (LS 7)))), (La8, .inl (cI, 5, .inl (nF (LS 8)))), (La9, .inl (cI, 5, .inl (nF (LS 9))))]) := by
  refine bx_of (D := D) (cI := cI) (cB := cB) (cZ := cZ) (cN := cN) (y := yX1_begin) (wd := wsX1_begin) (rm := ({ frames := 1, cells := 0, slots := 0, locals := 40 } : Room)) (av := [.ref Nh, .ref Lh]) (wc := [(Nh, .inr (1, [.ref Na0, .ref Na1, .int (nI (NS 2 0))])), (Na0, .inl (cI, 36, .inl (nF (NS 0)))), (Na1, .inl (cI, 360, .inl (nF (NS 1)))), (Lh, .inr (0, [.int (nI (LS 0 0)), .ref La1, .ref La2, .int (nI (LS 3 0)), .ref La4, .ref La5, .int (nI (LS 6 0)), .ref La7, .ref La8, .ref La9, .int (nI (LS 10 0)), .int (nI (LS 11 0))])), (La1, .inl (cI, 6, .inl (nF (LS 1)))), (La2, .inl (cI, 6, .inl (nF (LS 2)))), (La4, .inl (cI, 5, .inl (nF (LS 4)))), (La5, .inl (cI, 30, .inl (nF (LS 5)))), (La7, .inl (cI, 5, .inl (nF (LS 7)))), (La8, .inl (cI, 5, .inl (nF (LS 8)))), (La9, .inl (cI, 5, .inl (nF (LS 9))))]) (cc := cX1_begin) (maxL := 2) (ret := none) (Qc := fun _ A => va_Qv (S := (Nat → Nat → Nat)) (fun (u : (Nat → Nat → Nat)) => u = begN NS LS) (Aft D (fun (u : (Nat → Nat → Nat)) => [(Nh, .inr (1, [.ref Na0, .ref Na1, .int (nI (u 2 0))])), (Na0, .inl (cI, 36, .inl (nF (u 0)))), (Na1, .inl (cI, 360, .inl (nF (u 1)))), (Lh, .inr (0, [.int (nI (LS 0 0)), .ref La1, .ref La2, .int (nI (LS 3 0)), .ref La4, .ref La5, .int (nI (LS 6 0)), .ref La7, .ref La8, .ref La9, .int (nI (LS 10 0)), .int (nI (LS 11 0))])), (La1, .inl (cI, 6, .inl (nF (LS 1)))), (La2, .inl (cI, 6, .inl (nF (LS 2)))), (La4, .inl (cI, 5, .inl (nF (LS 4)))), (La5, .inl (cI, 30, .inl (nF (LS 5)))), (La7, .inl (cI, 5, .inl (nF (LS 7)))), (La8, .inl (cI, 5, .inl (nF (LS 8)))), (La9, .inl (cI, 5, .inl (nF (LS 9))))]) A) A) (by decide) rfl (Nat.le_of_ble_eq_true rfl) ?_
  intro p e s m below meth c A H locs ⟨hx, hb, hr, hml, hown, hts, hlk, hnm⟩ hK hP hD hS hA ls hl
  have hl : lv_has ls 2 [(0, .ref Nh), (1, .ref Lh)] := hl
  have hown : s.vm.findClass RX1 = some m.cls := hown
  obtain ⟨bl0, bl3, bl6, bl10, bl11, bl1, bl2, bl4, bl5, bl7, bl8, bl9⟩ := hL
  have bp := Nat.one_le_two_pow (n := LS 6 0)
  refine lv_aload_n hx hb dX1_begin_0 rfl (lv_at hl 1 rfl) ?_
  refine va_getN (D := D) (ci := 0) (v := .ref La5) (C := RX0) (T := TX0) (N := 12) hx hb hts in_X1_begin_0 hown hK.1 hP 3 rfl rfl 5 (by decide) (nfX1_22 hK.2) (fun _ h9 => h9) rfl dX1_begin_1 ?_
  refine lv_iconst (v := nI 0) hx hb dX1_begin_4 (by decide) ?_
  refine lv_aload_n hx hb dX1_begin_5 rfl (lv_at hl 0 rfl) ?_
  refine va_get (D := D) (ci := 1) (v := .ref Na0) (C := RX1) (T := TX1) (N := 3) hx hb hts in_X1_begin_1 hown hK.1 hP 0 rfl rfl 0 (by decide) (hts (.fieldLink RX1 11 "ChildCoins$Now" "cells" "[I") (List.mem_of_getElem? (i := 1) rfl)) (fun _ h9 => h9) rfl dX1_begin_6 ?_
  refine lv_iconst (v := nI 0) hx hb dX1_begin_9 (by decide) ?_
  refine lv_bipush (v := nI 30) hx hb dX1_begin_10 (by decide) ?_
  refine va_copyi hx hb (hml.trans hl.1.symm) hown (hts (.methodLink RX1 27 arraycopyName) (List.mem_of_getElem? (i := 2) rfl)) (hts (.native arraycopyName) (List.mem_of_getElem? (i := 3) rfl)) (hts (.static arraycopyName) (List.mem_of_getElem? (i := 4) rfl)) (hts (.initialized "java/lang/System") (List.mem_of_getElem? (i := 5) rfl)) hK.1 hP hD hS 7 1 0 0 rfl rfl rfl rfl rfl (nI_pos (by omega)) (nI_pos (by omega)) (nI_pos (by omega)) (by rw [nI_clamp (by omega), nI_clamp (by omega)]; omega) (by rw [nI_clamp (by omega), nI_clamp (by omega)]; omega) (fun i _ => rfl) (Nat.le_of_ble_eq_true rfl) (Nat.le_of_ble_eq_true rfl) dX1_begin_12 (fun H locs hP hD hS => ?_)
  obtain ⟨hP, hD⟩ : wPD D A [(Nh, .inr (1, [.ref Na0, .ref Na1, .int (nI (NS 2 0))])), (Na0, .inl (cI, 36, .inl (va_cpy (nF (LS 5)) (nF (NS 0)) (nI 0).toNatClampNeg (nI 0).toNatClampNeg (nI 30).toNatClampNeg))), (Na1, .inl (cI, 360, .inl (nF (NS 1)))), (Lh, .inr (0, [.int (nI (LS 0 0)), .ref La1, .ref La2, .int (nI (LS 3 0)), .ref La4, .ref La5, .int (nI (LS 6 0)), .ref La7, .ref La8, .ref La9, .int (nI (LS 10 0)), .int (nI (LS 11 0))])), (La1, .inl (cI, 6, .inl (nF (LS 1)))), (La2, .inl (cI, 6, .inl (nF (LS 2)))), (La4, .inl (cI, 5, .inl (nF (LS 4)))), (La5, .inl (cI, 30, .inl (nF (LS 5)))), (La7, .inl (cI, 5, .inl (nF (LS 7)))), (La8, .inl (cI, 5, .inl (nF (LS 8)))), (La9, .inl (cI, 5, .inl (nF (LS 9))))] H := ⟨hP, hD⟩
  rw [nF_cp (by omega) (by omega) (by omega)] at hP hD
  obtain ⟨hP, hD⟩ : wPD D A [(Nh, .inr (1, [.ref Na0, .ref Na1, .int (nI (NS 2 0))])), (Na0, .inl (cI, 36, .inl (nF (va_cpy (LS 5) (NS 0) 0 0 30)))), (Na1, .inl (cI, 360, .inl (nF (NS 1)))), (Lh, .inr (0, [.int (nI (LS 0 0)), .ref La1, .ref La2, .int (nI (LS 3 0)), .ref La4, .ref La5, .int (nI (LS 6 0)), .ref La7, .ref La8, .ref La9, .int (nI (LS 10 0)), .int (nI (LS 11 0))])), (La1, .inl (cI, 6, .inl (nF (LS 1)))), (La2, .inl (cI, 6, .inl (nF (LS 2)))), (La4, .inl (cI, 5, .inl (nF (LS 4)))), (La5, .inl (cI, 30, .inl (nF (LS 5)))), (La7, .inl (cI, 5, .inl (nF (LS 7)))), (La8, .inl (cI, 5, .inl (nF (LS 8)))), (La9, .inl (cI, 5, .inl (nF (LS 9))))] H := ⟨hP, hD⟩
  refine lv_aload_n hx hb dX1_begin_15 rfl (lv_at hl 1 rfl) ?_
  refine va_getN (D := D) (ci := 0) (v := .ref La8) (C := RX0) (T := TX0) (N := 12) hx hb hts in_X1_begin_0 hown hK.1 hP 3 rfl rfl 8 (by decide) (nfX1_33 hK.2) (fun _ h9 => h9) rfl dX1_begin_16 ?_
  refine lv_iconst (v := nI 0) hx hb dX1_begin_19 (by decide) ?_
  refine lv_aload_n hx hb dX1_begin_20 rfl (lv_at hl 0 rfl) ?_
  refine va_get (D := D) (ci := 1) (v := .ref Na0) (C := RX1) (T := TX1) (N := 3) hx hb hts in_X1_begin_1 hown hK.1 hP 0 rfl rfl 0 (by decide) (hts (.fieldLink RX1 11 "ChildCoins$Now" "cells" "[I") (List.mem_of_getElem? (i := 1) rfl)) (fun _ h9 => h9) rfl dX1_begin_21 ?_
  refine lv_bipush (v := nI 30) hx hb dX1_begin_24 (by decide) ?_
  refine lv_iconst (v := nI 5) hx hb dX1_begin_26 (by decide) ?_
  refine va_copyi hx hb (hml.trans hl.1.symm) hown (hts (.methodLink RX1 27 arraycopyName) (List.mem_of_getElem? (i := 2) rfl)) (hts (.native arraycopyName) (List.mem_of_getElem? (i := 3) rfl)) (hts (.static arraycopyName) (List.mem_of_getElem? (i := 4) rfl)) (hts (.initialized "java/lang/System") (List.mem_of_getElem? (i := 5) rfl)) hK.1 hP hD hS 9 1 0 0 rfl rfl rfl rfl rfl (nI_pos (by omega)) (nI_pos (by omega)) (nI_pos (by omega)) (by rw [nI_clamp (by omega), nI_clamp (by omega)]; omega) (by rw [nI_clamp (by omega), nI_clamp (by omega)]; omega) (fun i _ => rfl) (Nat.le_of_ble_eq_true rfl) (Nat.le_of_ble_eq_true rfl) dX1_begin_27 (fun H locs hP hD hS => ?_)
  obtain ⟨hP, hD⟩ : wPD D A [(Nh, .inr (1, [.ref Na0, .ref Na1, .int (nI (NS 2 0))])), (Na0, .inl (cI, 36, .inl (va_cpy (nF (LS 8)) (nF (va_cpy (LS 5) (NS 0) 0 0 30)) (nI 0).toNatClampNeg (nI 30).toNatClampNeg (nI 5).toNatClampNeg))), (Na1, .inl (cI, 360, .inl (nF (NS 1)))), (Lh, .inr (0, [.int (nI (LS 0 0)), .ref La1, .ref La2, .int (nI (LS 3 0)), .ref La4, .ref La5, .int (nI (LS 6 0)), .ref La7, .ref La8, .ref La9, .int (nI (LS 10 0)), .int (nI (LS 11 0))])), (La1, .inl (cI, 6, .inl (nF (LS 1)))), (La2, .inl (cI, 6, .inl (nF (LS 2)))), (La4, .inl (cI, 5, .inl (nF (LS 4)))), (La5, .inl (cI, 30, .inl (nF (LS 5)))), (La7, .inl (cI, 5, .inl (nF (LS 7)))), (La8, .inl (cI, 5, .inl (nF (LS 8)))), (La9, .inl (cI, 5, .inl (nF (LS 9))))] H := ⟨hP, hD⟩
  rw [nF_cp (by omega) (by omega) (by omega)] at hP hD
  obtain ⟨hP, hD⟩ : wPD D A [(Nh, .inr (1, [.ref Na0, .ref Na1, .int (nI (NS 2 0))])), (Na0, .inl (cI, 36, .inl (nF (va_cpy (LS 8) (va_cpy (LS 5) (NS 0) 0 0 30) 0 30 5)))), (Na1, .inl (cI, 360, .inl (nF (NS 1)))), (Lh, .inr (0, [.int (nI (LS 0 0)), .ref La1, .ref La2, .int (nI (LS 3 0)), .ref La4, .ref La5, .int (nI (LS 6 0)), .ref La7, .ref La8, .ref La9, .int (nI (LS 10 0)), .int (nI (LS 11 0))])), (La1, .inl (cI, 6, .inl (nF (LS 1)))), (La2, .inl (cI, 6, .inl (nF (LS 2)))), (La4, .inl (cI, 5, .inl (nF (LS 4)))), (La5, .inl (cI, 30, .inl (nF (LS 5)))), (La7, .inl (cI, 5, .inl (nF (LS 7)))), (La8, .inl (cI, 5, .inl (nF (LS 8)))), (La9, .inl (cI, 5, .inl (nF (LS 9))))] H := ⟨hP, hD⟩
  refine lv_aload_n hx hb dX1_begin_30 rfl (lv_at hl 0 rfl) ?_
  refine va_get (D := D) (ci := 1) (v := .ref Na0) (C := RX1) (T := TX1) (N := 3) hx hb hts in_X1_begin_1 hown hK.1 hP 0 rfl rfl 0 (by decide) (hts (.fieldLink RX1 11 "ChildCoins$Now" "cells" "[I") (List.mem_of_getElem? (i := 1) rfl)) (fun _ h9 => h9) rfl dX1_begin_31 ?_
  refine lv_bipush (v := nI 35) hx hb dX1_begin_34 (by decide) ?_
  refine lv_iconst (v := nI 1) hx hb dX1_begin_36 (by decide) ?_
  refine lv_aload_n hx hb dX1_begin_37 rfl (lv_at hl 1 rfl) ?_
  refine va_getN (D := D) (ci := 0) (v := .int (nI (LS 6 0))) (C := RX0) (T := TX0) (N := 12) hx hb hts in_X1_begin_0 hown hK.1 hP 3 rfl rfl 6 (by decide) (nfX1_36 hK.2) (fun _ h9 => h9) rfl dX1_begin_38 ?_
  refine lv_ishl hx hb dX1_begin_41 ?_
  refine set_i (y := nI (2 ^ (LS 6 0))) (shl_1 (by omega)) ?_
  refine lv_iconst (v := nI 1) hx hb dX1_begin_42 (by decide) ?_
  refine lv_isub hx hb dX1_begin_43 ?_
  refine set_i (y := nI ((2 ^ (LS 6 0)) - 1)) (pk_sub (by omega)) ?_
  refine va_iast hx hb hK.1 hP hD hS 1 0 rfl rfl (vp_in_nI (n := 35) (N := 36) (by omega) (by decide)) dX1_begin_44 (fun H locs hP hD hS => ?_)
  obtain ⟨hP, hD⟩ : wPD D A [(Nh, .inr (1, [.ref Na0, .ref Na1, .int (nI (NS 2 0))])), (Na0, .inl (cI, 36, .inl (upd (nF (va_cpy (LS 8) (va_cpy (LS 5) (NS 0) 0 0 30) 0 30 5)) (nI 35).toNatClampNeg (nI ((2 ^ (LS 6 0)) - 1))))), (Na1, .inl (cI, 360, .inl (nF (NS 1)))), (Lh, .inr (0, [.int (nI (LS 0 0)), .ref La1, .ref La2, .int (nI (LS 3 0)), .ref La4, .ref La5, .int (nI (LS 6 0)), .ref La7, .ref La8, .ref La9, .int (nI (LS 10 0)), .int (nI (LS 11 0))])), (La1, .inl (cI, 6, .inl (nF (LS 1)))), (La2, .inl (cI, 6, .inl (nF (LS 2)))), (La4, .inl (cI, 5, .inl (nF (LS 4)))), (La5, .inl (cI, 30, .inl (nF (LS 5)))), (La7, .inl (cI, 5, .inl (nF (LS 7)))), (La8, .inl (cI, 5, .inl (nF (LS 8)))), (La9, .inl (cI, 5, .inl (nF (LS 9))))] H := ⟨hP, hD⟩
  rw [nF_st (by omega)] at hP hD
  refine lv_aload_n hx hb dX1_begin_45 rfl (lv_at hl 0 rfl) ?_
  refine lv_iconst (v := nI 0) hx hb dX1_begin_46 (by decide) ?_
  refine va_put (D := D) (ci := 1) (v := .int (nI 0)) (ty := tyX1 2) (C := RX1) (T := TX1) (N := 3) hx hb hts in_X1_begin_1 tyX1 tyX1_ok nmX1 hown hK.1 hP hD hS 0 rfl rfl 2 (by decide) (hts (.fieldLink RX1 18 "ChildCoins$Now" "known" "I") (List.mem_of_getElem? (i := 6) rfl)) (fun _ h9 => h9) rfl (tyX1_ok 2 (by decide)) rfl rfl (Nat.le_of_ble_eq_true rfl) dX1_begin_47 (fun H locs hP hD hS => ?_)
  obtain ⟨hP, hD⟩ : wPD D A [(Nh, .inr (1, [.ref Na0, .ref Na1, .int (nI 0)])), (Na0, .inl (cI, 36, .inl (nF (un (va_cpy (LS 8) (va_cpy (LS 5) (NS 0) 0 0 30) 0 30 5) 35 ((2 ^ (LS 6 0)) - 1))))), (Na1, .inl (cI, 360, .inl (nF (NS 1)))), (Lh, .inr (0, [.int (nI (LS 0 0)), .ref La1, .ref La2, .int (nI (LS 3 0)), .ref La4, .ref La5, .int (nI (LS 6 0)), .ref La7, .ref La8, .ref La9, .int (nI (LS 10 0)), .int (nI (LS 11 0))])), (La1, .inl (cI, 6, .inl (nF (LS 1)))), (La2, .inl (cI, 6, .inl (nF (LS 2)))), (La4, .inl (cI, 5, .inl (nF (LS 4)))), (La5, .inl (cI, 30, .inl (nF (LS 5)))), (La7, .inl (cI, 5, .inl (nF (LS 7)))), (La8, .inl (cI, 5, .inl (nF (LS 8)))), (La9, .inl (cI, 5, .inl (nF (LS 9))))] H := ⟨hP, hD⟩
  exact en_v hx hb hr hlk hP hD hS (ua (ua NS 0 (un (va_cpy (LS 8) (va_cpy (LS 5) (NS 0) 0 0 30) 0 30 5) 35 ((2 ^ (LS 6 0)) - 1))) 2 (fun _ => 0)) [0, 1, 2, 3, 4, 5, 6, 7, 8, 9, 10] (by decide) rfl (Nat.le_of_ble_eq_true rfl) (Nat.le_of_ble_eq_true rfl) dX1_begin_50 rfl
