set_option maxRecDepth 20000 in
theorem dAX1_add : decA cX1_add [(0, .aload_n 0, 1), (1, .getfield 11, 3), (4, .iload_n 1, 1), (5, .bipush 6, 2), (7, .imul, 1), (8, .iload_n 2, 1), (9, .iadd, 1), (10, .dup2, 1), (11, .iaload, 1), (12, .iload_n 3, 1), (13, .iadd, 1), (14, .iastore, 1), (15, .return_, 1)] = true := by decide +kernel
theorem dX1_add_0 : decode cX1_add 0 = .ok (.aload_n 0, 1) := decA_get dAX1_add 0 rfl
theorem dX1_add_1 : decode cX1_add 1 = .ok (.getfield 11, 3) := decA_get dAX1_add 1 rfl
theorem in_X1_add_1 : ∀ w ∈ wsX10, w ∈ wsX1_add := fun w h => (gd_ids wi_X1_add wm_X1_add wi_X10 (by decide +kernel) w h).1
theorem dX1_add_4 : decode cX1_add 4 = .ok (.iload_n 1, 1) := decA_get dAX1_add 2 rfl
theorem dX1_add_5 : decode cX1_add 5 = .ok (.bipush 6, 2) := decA_get dAX1_add 3 rfl
theorem dX1_add_7 : decode cX1_add 7 = .ok (.imul, 1) := decA_get dAX1_add 4 rfl
theorem dX1_add_8 : decode cX1_add 8 = .ok (.iload_n 2, 1) := decA_get dAX1_add 5 rfl
theorem dX1_add_9 : decode cX1_add 9 = .ok (.iadd, 1) := decA_get dAX1_add 6 rfl
theorem dX1_add_10 : decode cX1_add 10 = .ok (.dup2, 1) := decA_get dAX1_add 7 rfl
theorem dX1_add_11 : decode cX1_add 11 = .ok (.iaload, 1) := decA_get dAX1_add 8 rfl
theorem dX1_add_12 : decode cX1_add 12 = .ok (.iload_n 3, 1) := decA_get dAX1_add 9 rfl
theorem dX1_add_13 : decode cX1_add 13 = .ok (.iadd, 1) := decA_get dAX1_add 10 rfl
theorem dX1_add_14 : decode cX1_add 14 = .ok (.iastore, 1) := decA_get dAX1_add 11 rfl
theorem dX1_add_15 : decode cX1_add 15 = .ok (.return_, 1) := decA_get dAX1_add 12 rfl
set_option maxHeartbeats 4000000 in
set_option maxRecDepth 100000 in
theorem g_addp (l : Launch) (D : va_G) (cI cB cZ cN : ClassId) (Nh : Nat) (Na0 : Nat) (Na1 : Nat) (NS : Nat → Nat → Nat) (v_q : Nat) (v_c : Nat) (v_k : Nat) (hq : v_q < 5) (hc : v_c < 6) : Cv (S := (Nat → Nat → Nat)) l D cI cB cZ cN yX1_add wsX1_add ({ frames := 0, cells := 0, slots := 0, locals := 0 } : Room) [.ref Nh, .int (nI v_q), .int (nI v_c), .int (nI v_k)] [(Nh, .inr (1, [.ref Na0, .ref Na1, .int (nI (NS 2 0))])), (Na0, .inl (cI, 36, .inl (nF (NS 0)))), (Na1, .inl (cI, 360, .inl (nF (NS 1))))] (fun (u : (Nat → Nat → Nat)) => u = ua NS 0 (un (NS 0) (v_q * 6 + v_c) (NS 0 (v_q * 6 + v_c) + v_k))) (fun u => [(Nh, .inr (1, [.ref Na0, .ref Na1, .int (nI (u 2 0))])), (Na0, .inl (cI, 36, .inl (nF (u 0)))), (Na1, .inl (cI, 360, .inl (nF (u 1))))]) := by
  refine bx_of (D := D) (cI := cI) (cB := cB) (cZ := cZ) (cN := cN) (y := yX1_add) (wd := wsX1_add) (rm := ({ frames := 0, cells := 0, slots := 0, locals := 0 } : Room)) (av := [.ref Nh, .int (nI v_q), .int (nI v_c), .int (nI v_k)]) (wc := [(Nh, .inr (1, [.ref Na0, .ref Na1, .int (nI (NS 2 0))])), (Na0, .inl (cI, 36, .inl (nF (NS 0)))), (Na1, .inl (cI, 360, .inl (nF (NS 1))))]) (cc := cX1_add) (maxL := 4) (ret := none) (Qc := fun _ A => va_Qv (S := (Nat → Nat → Nat)) (fun (u : (Nat → Nat → Nat)) => u = ua NS 0 (un (NS 0) (v_q * 6 + v_c) (NS 0 (v_q * 6 + v_c) + v_k))) (Aft D (fun (u : (Nat → Nat → Nat)) => [(Nh, .inr (1, [.ref Na0, .ref Na1, .int (nI (u 2 0))])), (Na0, .inl (cI, 36, .inl (nF (u 0)))), (Na1, .inl (cI, 360, .inl (nF (u 1))))]) A) A) (by decide) rfl (Nat.le_of_ble_eq_true rfl) ?_
  intro p e s m below meth c A H locs ⟨hx, hb, hr, hml, hown, hts, hlk, hnm⟩ hK hP hD hS hA ls hl
  have hl : lv_has ls 4 [(0, .ref Nh), (1, .int (nI v_q)), (2, .int (nI v_c)), (3, .int (nI v_k))] := hl
  have hown : s.vm.findClass RX1 = some m.cls := hown
  refine lv_aload_n hx hb dX1_add_0 rfl (lv_at hl 0 rfl) ?_
  refine va_get (D := D) (ci := 1) (v := .ref Na0) (C := RX1) (T := TX1) (N := 3) hx hb hts in_X1_add_1 hown hK.1 hP 0 rfl rfl 0 (by decide) (hts (.fieldLink RX1 11 "ChildCoins$Now" "cells" "[I") (List.mem_of_getElem? (i := 1) rfl)) (fun _ h9 => h9) rfl dX1_add_1 ?_
  refine lv_iload_n hx hb dX1_add_4 rfl (lv_at hl 1 rfl) ?_
  refine lv_bipush (v := nI 6) hx hb dX1_add_5 (by decide) ?_
  refine lv_imul hx hb dX1_add_7 ?_
  refine set_i (y := nI (v_q * 6)) (pk_mul v_q 6) ?_
  refine lv_iload_n hx hb dX1_add_8 rfl (lv_at hl 2 rfl) ?_
  refine lv_iadd hx hb dX1_add_9 ?_
  refine set_i (y := nI ((v_q * 6) + v_c)) (nI_add (v_q * 6) v_c) ?_
  refine lv_dup2_11 hx hb dX1_add_10 rfl rfl ?_
  refine va_iald hx hb hK.1 hP 1 0 rfl rfl (vp_in_nI (n := (v_q * 6) + v_c) (N := 36) (by omega) (by decide)) dX1_add_11 ?_
  refine set_i (y := nI (NS 0 ((v_q * 6) + v_c))) (nF_ld (by omega)) ?_
  refine lv_iload_n hx hb dX1_add_12 rfl (lv_at hl 3 rfl) ?_
  refine lv_iadd hx hb dX1_add_13 ?_
  refine set_i (y := nI ((NS 0 ((v_q * 6) + v_c)) + v_k)) (nI_add (NS 0 ((v_q * 6) + v_c)) v_k) ?_
  refine va_iast hx hb hK.1 hP hD hS 1 0 rfl rfl (vp_in_nI (n := (v_q * 6) + v_c) (N := 36) (by omega) (by decide)) dX1_add_14 (fun H locs hP hD hS => ?_)
  obtain ⟨hP, hD⟩ : wPD D A [(Nh, .inr (1, [.ref Na0, .ref Na1, .int (nI (NS 2 0))])), (Na0, .inl (cI, 36, .inl (upd (nF (NS 0)) (nI ((v_q * 6) + v_c)).toNatClampNeg (nI ((NS 0 ((v_q * 6) + v_c)) + v_k))))), (Na1, .inl (cI, 360, .inl (nF (NS 1))))] H := ⟨hP, hD⟩
  rw [nF_st (by omega)] at hP hD
  exact en_v hx hb hr hlk hP hD hS (ua NS 0 (un (NS 0) ((v_q * 6) + v_c) ((NS 0 ((v_q * 6) + v_c)) + v_k))) [0, 1, 2] (by decide) rfl (Nat.le_of_ble_eq_true rfl) (Nat.le_of_ble_eq_true rfl) dX1_add_15 rfl
set_option maxHeartbeats 4000000 in
set_option maxRecDepth 100000 in
theorem g_addm (l : Launch) (D : va_G) (cI cB cZ cN : ClassId) (Nh : Nat) (Na0 : Nat) (Na1 : Nat) (NS : Nat → Nat → Nat) (v_q : Nat) (v_c : Nat) (v_k : Nat) (hq : v_q < 5) (hc : v_c < 6) (hk : v_k ≤ NS 0 (v_q * 6 + v_c)) : Cv (S := (Nat → Nat → Nat)) l D cI cB cZ cN yX1_add wsX1_add ({ frames := 0, cells := 0, slots := 0, locals := 0 } : Room) [.ref Nh, .int (nI v_q), .int (nI v_c), .int (-nI v_k)] [(Nh, .inr (1, [.ref Na0, .ref Na1, .int (nI (NS 2 0))])), (Na0, .inl (cI, 36, .inl (nF (NS 0)))), (Na1, .inl (cI, 360, .inl (nF (NS 1))))] (fun (u : (Nat → Nat → Nat)) => u = ua NS 0 (un (NS 0) (v_q * 6 + v_c) (NS 0 (v_q * 6 + v_c) - v_k))) (fun u => [(Nh, .inr (1, [.ref Na0, .ref Na1, .int (nI (u 2 0))])), (Na0, .inl (cI, 36, .inl (nF (u 0)))), (Na1, .inl (cI, 360, .inl (nF (u 1))))]) := by
  refine bx_of (D := D) (cI := cI) (cB := cB) (cZ := cZ) (cN := cN) (y := yX1_add) (wd := wsX1_add) (rm := ({ frames := 0, cells := 0, slots := 0, locals := 0 } : Room)) (av := [.ref Nh, .int (nI v_q), .int (nI v_c), .int (-nI v_k)]) (wc := [(Nh, .inr (1, [.ref Na0, .ref Na1, .int (nI (NS 2 0))])), (Na0, .inl (cI, 36, .inl (nF (NS 0)))), (Na1, .inl (cI, 360, .inl (nF (NS 1))))]) (cc := cX1_add) (maxL := 4) (ret := none) (Qc := fun _ A => va_Qv (S := (Nat → Nat → Nat)) (fun (u : (Nat → Nat → Nat)) => u = ua NS 0 (un (NS 0) (v_q * 6 + v_c) (NS 0 (v_q * 6 + v_c) - v_k))) (Aft D (fun (u : (Nat → Nat → Nat)) => [(Nh, .inr (1, [.ref Na0, .ref Na1, .int (nI (u 2 0))])), (Na0, .inl (cI, 36, .inl (nF (u 0)))), (Na1, .inl (cI, 360, .inl (nF (u 1))))]) A) A) (by decide) rfl (Nat.le_of_ble_eq_true rfl) ?_
  intro p e s m below meth c A H locs ⟨hx, hb, hr, hml, hown, hts, hlk, hnm⟩ hK hP hD hS hA ls hl
  have hl : lv_has ls 4 [(0, .ref Nh), (1, .int (nI v_q)), (2, .int (nI v_c)), (3, .int (-nI v_k))] := hl
  have hown : s.vm.findClass RX1 = some m.cls := hown
  refine lv_aload_n hx hb dX1_add_0 rfl (lv_at hl 0 rfl) ?_
  refine va_get (D := D) (ci := 1) (v := .ref Na0) (C := RX1) (T := TX1) (N := 3) hx hb hts in_X1_add_1 hown hK.1 hP 0 rfl rfl 0 (by decide) (hts (.fieldLink RX1 11 "ChildCoins$Now" "cells" "[I") (List.mem_of_getElem? (i := 1) rfl)) (fun _ h9 => h9) rfl dX1_add_1 ?_
  refine lv_iload_n hx hb dX1_add_4 rfl (lv_at hl 1 rfl) ?_
  refine lv_bipush (v := nI 6) hx hb dX1_add_5 (by decide) ?_
  refine lv_imul hx hb dX1_add_7 ?_
  refine set_i (y := nI (v_q * 6)) (pk_mul v_q 6) ?_
  refine lv_iload_n hx hb dX1_add_8 rfl (lv_at hl 2 rfl) ?_
  refine lv_iadd hx hb dX1_add_9 ?_
  refine set_i (y := nI ((v_q * 6) + v_c)) (nI_add (v_q * 6) v_c) ?_
  refine lv_dup2_11 hx hb dX1_add_10 rfl rfl ?_
  refine va_iald hx hb hK.1 hP 1 0 rfl rfl (vp_in_nI (n := (v_q * 6) + v_c) (N := 36) (by omega) (by decide)) dX1_add_11 ?_
  refine set_i (y := nI (NS 0 ((v_q * 6) + v_c))) (nF_ld (by omega)) ?_
  refine lv_iload_n hx hb dX1_add_12 rfl (lv_at hl 3 rfl) ?_
  refine lv_iadd hx hb dX1_add_13 ?_
  refine set_i (y := nI ((NS 0 ((v_q * 6) + v_c)) - v_k)) (nI_addneg (by omega)) ?_
  refine va_iast hx hb hK.1 hP hD hS 1 0 rfl rfl (vp_in_nI (n := (v_q * 6) + v_c) (N := 36) (by omega) (by decide)) dX1_add_14 (fun H locs hP hD hS => ?_)
  obtain ⟨hP, hD⟩ : wPD D A [(Nh, .inr (1, [.ref Na0, .ref Na1, .int (nI (NS 2 0))])), (Na0, .inl (cI, 36, .inl (upd (nF (NS 0)) (nI ((v_q * 6) + v_c)).toNatClampNeg (nI ((NS 0 ((v_q * 6) + v_c)) - v_k))))), (Na1, .inl (cI, 360, .inl (nF (NS 1))))] H := ⟨hP, hD⟩
  rw [nF_st (by omega)] at hP hD
  exact en_v hx hb hr hlk hP hD hS (ua NS 0 (un (NS 0) ((v_q * 6) + v_c) ((NS 0 ((v_q * 6) + v_c)) - v_k))) [0, 1, 2] (by decide) rfl (Nat.le_of_ble_eq_true rfl) (Nat.le_of_ble_eq_true rfl) dX1_add_15 rfl
set_option maxRecDepth 20000 in
theorem dAX1_settle : decA cX1_settle [(0, .aload_n 0, 1), (1, .iload_n 1, 1), (2, .invokevirtual 43, 3), (5, .istore 4, 2), (7, .iconst 0, 1), (8, .istore 5, 2), (10, .iload 5, 2), (12, .bipush 6, 2), (14, .if_icmp .ge 33, 3), (17, .aload_n 0, 1), (18, .iload_n 2, 1), (19, .iload 5, 2), (21, .aload_n 3, 1), (22, .iload 5, 2), (24, .iaload, 1), (25, .ineg, 1), (26, .invokevirtual 47, 3), (29, .aload_n 0, 1), (30, .iload 4, 2), (32, .iload 5, 2), (34, .aload_n 3, 1), (35, .iload 5, 2), (37, .iaload, 1), (38, .invokevirtual 47, 3), (41, .iinc 5 1, 3), (44, .goto (-34), 3), (47, .aload_n 0, 1), (48, .getfield 11, 3), (51, .bipush 35, 2), (53, .dup2, 1), (54, .iaload, 1), (55, .iconst 1, 1), (56, .iload_n 1, 1), (57, .ishl, 1), (58, .iconst (-1), 1), (59, .ixor, 1), (60, .iand, 1), (61, .iastore, 1), (62, .return_, 1)] = true := by decide +kernel
theorem dX1_settle_0 : decode cX1_settle 0 = .ok (.aload_n 0, 1) := decA_get dAX1_settle 0 rfl
theorem dX1_settle_1 : decode cX1_settle 1 = .ok (.iload_n 1, 1) := decA_get dAX1_settle 1 rfl
theorem dX1_settle_2 : decode cX1_settle 2 = .ok (.invokevirtual 43, 3) := decA_get dAX1_settle 2 rfl
set_option maxRecDepth 20000 in
theorem ggX1_settle_X1_creditor : GoodIn wsX1_settle wsX1_creditor := gd_ids wi_X1_settle wm_X1_settle wi_X1_creditor (by decide +kernel)
set_option maxRecDepth 20000 in
theorem gX1_settle_X1_creditor : GoodIn wsX1_settle (wsV RX1 43 RX1 yX1_creditor wsX1_creditor) := goodIn_app (gd_ids wi_X1_settle wm_X1_settle (b := [135, 136, 137, 128]) rfl (by decide +kernel)) ggX1_settle_X1_creditor
theorem dX1_settle_5 : decode cX1_settle 5 = .ok (.istore 4, 2) := decA_get dAX1_settle 3 rfl
theorem dX1_settle_7 : decode cX1_settle 7 = .ok (.iconst 0, 1) := decA_get dAX1_settle 4 rfl
theorem dX1_settle_8 : decode cX1_settle 8 = .ok (.istore 5, 2) := decA_get dAX1_settle 5 rfl
theorem dX1_settle_10 : decode cX1_settle 10 = .ok (.iload 5, 2) := decA_get dAX1_settle 6 rfl
theorem dX1_settle_12 : decode cX1_settle 12 = .ok (.bipush 6, 2) := decA_get dAX1_settle 7 rfl
theorem dX1_settle_14 : decode cX1_settle 14 = .ok (.if_icmp .ge 33, 3) := decA_get dAX1_settle 8 rfl
theorem dX1_settle_47 : decode cX1_settle 47 = .ok (.aload_n 0, 1) := decA_get dAX1_settle 26 rfl
theorem dX1_settle_48 : decode cX1_settle 48 = .ok (.getfield 11, 3) := decA_get dAX1_settle 27 rfl
theorem in_X1_settle_1 : ∀ w ∈ wsX10, w ∈ wsX1_settle := fun w h => (gd_ids wi_X1_settle wm_X1_settle wi_X10 (by decide +kernel) w h).1
theorem dX1_settle_51 : decode cX1_settle 51 = .ok (.bipush 35, 2) := decA_get dAX1_settle 28 rfl
theorem dX1_settle_53 : decode cX1_settle 53 = .ok (.dup2, 1) := decA_get dAX1_settle 29 rfl
theorem dX1_settle_54 : decode cX1_settle 54 = .ok (.iaload, 1) := decA_get dAX1_settle 30 rfl
theorem dX1_settle_55 : decode cX1_settle 55 = .ok (.iconst 1, 1) := decA_get dAX1_settle 31 rfl
theorem dX1_settle_56 : decode cX1_settle 56 = .ok (.iload_n 1, 1) := decA_get dAX1_settle 32 rfl
theorem dX1_settle_57 : decode cX1_settle 57 = .ok (.ishl, 1) := decA_get dAX1_settle 33 rfl
theorem dX1_settle_58 : decode cX1_settle 58 = .ok (.iconst (-1), 1) := decA_get dAX1_settle 34 rfl
theorem dX1_settle_59 : decode cX1_settle 59 = .ok (.ixor, 1) := decA_get dAX1_settle 35 rfl
theorem dX1_settle_60 : decode cX1_settle 60 = .ok (.iand, 1) := decA_get dAX1_settle 36 rfl
theorem dX1_settle_61 : decode cX1_settle 61 = .ok (.iastore, 1) := decA_get dAX1_settle 37 rfl
theorem dX1_settle_62 : decode cX1_settle 62 = .ok (.return_, 1) := decA_get dAX1_settle 38 rfl
theorem dX1_settle_17 : decode cX1_settle 17 = .ok (.aload_n 0, 1) := decA_get dAX1_settle 9 rfl
theorem dX1_settle_18 : decode cX1_settle 18 = .ok (.iload_n 2, 1) := decA_get dAX1_settle 10 rfl
theorem dX1_settle_19 : decode cX1_settle 19 = .ok (.iload 5, 2) := decA_get dAX1_settle 11 rfl
theorem dX1_settle_21 : decode cX1_settle 21 = .ok (.aload_n 3, 1) := decA_get dAX1_settle 12 rfl
theorem dX1_settle_22 : decode cX1_settle 22 = .ok (.iload 5, 2) := decA_get dAX1_settle 13 rfl
theorem dX1_settle_24 : decode cX1_settle 24 = .ok (.iaload, 1) := decA_get dAX1_settle 14 rfl
theorem dX1_settle_25 : decode cX1_settle 25 = .ok (.ineg, 1) := decA_get dAX1_settle 15 rfl
theorem dX1_settle_26 : decode cX1_settle 26 = .ok (.invokevirtual 47, 3) := decA_get dAX1_settle 16 rfl
set_option maxRecDepth 20000 in
theorem ggX1_settle_X1_add : GoodIn wsX1_settle wsX1_add := gd_ids wi_X1_settle wm_X1_settle wi_X1_add (by decide +kernel)
set_option maxRecDepth 20000 in
theorem gX1_settle_X1_add : GoodIn wsX1_settle (wsV RX1 47 RX1 yX1_add wsX1_add) := goodIn_app (gd_ids wi_X1_settle wm_X1_settle (b := [138, 139, 140, 128]) rfl (by decide +kernel)) ggX1_settle_X1_add
theorem dX1_settle_29 : decode cX1_settle 29 = .ok (.aload_n 0, 1) := decA_get dAX1_settle 17 rfl
theorem dX1_settle_30 : decode cX1_settle 30 = .ok (.iload 4, 2) := decA_get dAX1_settle 18 rfl
theorem dX1_settle_32 : decode cX1_settle 32 = .ok (.iload 5, 2) := decA_get dAX1_settle 19 rfl
theorem dX1_settle_34 : decode cX1_settle 34 = .ok (.aload_n 3, 1) := decA_get dAX1_settle 20 rfl
theorem dX1_settle_35 : decode cX1_settle 35 = .ok (.iload 5, 2) := decA_get dAX1_settle 21 rfl
theorem dX1_settle_37 : decode cX1_settle 37 = .ok (.iaload, 1) := decA_get dAX1_settle 22 rfl
theorem dX1_settle_38 : decode cX1_settle 38 = .ok (.invokevirtual 47, 3) := decA_get dAX1_settle 23 rfl
theorem dX1_settle_41 : decode cX1_settle 41 = .ok (.iinc 5 1, 3) := decA_get dAX1_settle 24 rfl
theorem dX1_settle_44 : decode cX1_settle 44 = .ok (.goto (-34), 3) := decA_get dAX1_settle 25 rfl
set_option maxHeartbeats 4000000 in
set_option maxRecDepth 100000 in
theorem g_settle (l : Launch) (D : va_G) (cI cB cZ cN : ClassId) (Nh : Nat) (Na0 : Nat) (Na1 : Nat) (NS : Nat → Nat → Nat) (Yh : Nat) (Ya0 : Nat) (Ya1 : Nat) (Ya2 : Nat) (YS : Nat → Nat → Nat) (v_d : Nat) (v_b : Nat) (hN : NowOk NS) (hd : v_d < 5) (hb2 : v_b < 5) (hu : ∀ c, c < 6 → YS 1 c ≤ NS 0 (v_b * 6 + c)) : Cv (S := (Nat → Nat → Nat)) l D cI cB cZ cN yX1_settle wsX1_settle ({ frames := 1, cells := 0, slots := 0, locals := 23 } : Room) [.ref Nh, .int (nI v_d), .int (nI v_b), .ref Ya1] [(Nh, .inr (1, [.ref Na0, .ref Na1, .int (nI (NS 2 0))])), (Na0, .inl (cI, 36, .inl (nF (NS 0)))), (Na1, .inl (cI, 360, .inl (nF (NS 1)))), (Yh, .inr (2, [.ref Ya0, .ref Ya1, .ref Ya2, .int (nI (YS 3 0))])), (Ya0, .inl (cI, 6, .inl (nF (YS 0)))), (Ya1, .inl (cI, 6, .inl (nF (YS 1)))), (Ya2, .inl (cI, 427, .inl (nF (YS 2))))] (fun (u : (Nat → Nat → Nat)) => u = ua NS 0 (un (stlN (NS 0) (YS 1) v_b (NS 0 (30 + v_d)) 6) 35 (clrN (stlN (NS 0) (YS 1) v_b (NS 0 (30 + v_d)) 6 35) v_d))) (fun u => [(Nh, .inr (1, [.ref Na0, .ref Na1, .int (nI (u 2 0))])), (Na0, .inl (cI, 36, .inl (nF (u 0)))), (Na1, .inl (cI, 360, .inl (nF (u 1)))), (Yh, .inr (2, [.ref Ya0, .ref Ya1, .ref Ya2, .int (nI (YS 3 0))])), (Ya0, .inl (cI, 6, .inl (nF (YS 0)))), (Ya1, .inl (cI, 6, .inl (nF (YS 1)))), (Ya2, .inl (cI, 427, .inl (nF (YS 2))))]) := by
  refine bx_of (D := D) (cI := cI) (cB := cB) (cZ := cZ) (cN := cN) (y := yX1_settle) (wd := wsX1_settle) (rm := ({ frames := 1, cells := 0, slots := 0, locals := 23 } : Room)) (av := [.ref Nh, .int (nI v_d), .int (nI v_b), .ref Ya1]) (wc := [(Nh, .inr (1, [.ref Na0, .ref Na1, .int (nI (NS 2 0))])), (Na0, .inl (cI, 36, .inl (nF (NS 0)))), (Na1, .inl (cI, 360, .inl (nF (NS 1)))), (Yh, .inr (2, [.ref Ya0, .ref Ya1, .ref Ya2, .int (nI (YS 3 0))])), (Ya0, .inl (cI, 6, .inl (nF (YS 0)))), (Ya1, .inl (cI, 6, .inl (nF (YS 1)))), (Ya2, .inl (cI, 427, .inl (nF (YS 2))))]) (cc := cX1_settle) (maxL := 6) (ret := none) (Qc := fun _ A => va_Qv (S := (Nat → Nat → Nat)) (fun (u : (Nat → Nat → Nat)) => u = ua NS 0 (un (stlN (NS 0) (YS 1) v_b (NS 0 (30 + v_d)) 6) 35 (clrN (stlN (NS 0) (YS 1) v_b (NS 0 (30 + v_d)) 6 35) v_d))) (Aft D (fun (u : (Nat → Nat → Nat)) => [(Nh, .inr (1, [.ref Na0, .ref Na1, .int (nI (u 2 0))])), (Na0, .inl (cI, 36, .inl (nF (u 0)))), (Na1, .inl (cI, 360, .inl (nF (u 1)))), (Yh, .inr (2, [.ref Ya0, .ref Ya1, .ref Ya2, .int (nI (YS 3 0))])), (Ya0, .inl (cI, 6, .inl (nF (YS 0)))), (Ya1, .inl (cI, 6, .inl (nF (YS 1)))), (Ya2, .inl (cI, 427, .inl (nF (YS 2))))]) A) A) (by decide) rfl (Nat.le_of_ble_eq_true rfl) ?_
  intro p e s m below meth c A H locs ⟨hx, hb, hr, hml, hown, hts, hlk, hnm⟩ hK hP hD hS hA ls hl
  have hl : lv_has ls 6 [(0, .ref Nh), (1, .int (nI v_d)), (2, .int (nI v_b)), (3, .ref Ya1)] := hl
  have hown : s.vm.findClass RX1 = some m.cls := hown
  have hN0 := hN
  have bn0 := hN.c99
  have bn1 := hN.p99
  have bn2 := hN.2.2
  have bcr := hN.cr hd
  refine lv_aload_n hx hb dX1_settle_0 rfl (lv_at hl 0 rfl) ?_
  refine lv_iload_n hx hb dX1_settle_1 rfl (lv_at hl 1 rfl) ?_
  refine be_i0 (ru_V (As := [.int (nI v_d)]) (rest := []) ⟨hx, hb, hml, hown, hts⟩ (g_creditor l D cI cB cZ cN Nh Na0 Na1 NS v_d hN0 hd H.size) gX1_settle_X1_creditor rfl ⟨rfl, by decide, by decide, (show Option.map (fun d => d.parameters.length) (parseMethodDescriptor yX1_creditor.desc) = some 1 by decide +kernel)⟩ ⟨Nat.le_of_ble_eq_true rfl, Nat.le_of_ble_eq_true rfl⟩ hK hP hD 1 0 rfl rfl [0, 1, 2] (by decide) rfl hl.1 rfl (Nat.le_of_ble_eq_true rfl) dX1_settle_2 ⟨Nat.le_of_ble_eq_true rfl, Nat.le_of_ble_eq_true rfl⟩) hP hD hS hA [0, 1, 2] rfl (fun r2 u1 H locs w3 hP hS => ?_)
  obtain rfl : r2 = nI (NS 0 (30 + v_d)) := w3
  refine lv_istore (lv' := [(4, .int (nI (NS 0 (30 + v_d)))), (0, .ref Nh), (1, .int (nI v_d)), (2, .int (nI v_b)), (3, .ref Ya1)]) hx hb dX1_settle_5 hl (by decide) rfl (fun ls hl => ?_)
  refine lv_iconst (v := nI 0) hx hb dX1_settle_7 (by decide) ?_
  refine lv_istore (lv' := [(5, .int (nI 0)), (4, .int (nI (NS 0 (30 + v_d)))), (0, .ref Nh), (1, .int (nI v_d)), (2, .int (nI v_b)), (3, .ref Ya1)]) hx hb dX1_settle_8 hl (by decide) rfl (fun ls hl => ?_)
  refine loopW (D := D) (A := A) (fun i => [(Nh, .inr (1, [.ref Na0, .ref Na1, .int (nI (NS 2 0))])), (Na0, .inl (cI, 36, .inl (nF (stlN (NS 0) (YS 1) v_b (NS 0 (30 + v_d)) i)))), (Na1, .inl (cI, 360, .inl (nF (NS 1)))), (Yh, .inr (2, [.ref Ya0, .ref Ya1, .ref Ya2, .int (nI (YS 3 0))])), (Ya0, .inl (cI, 6, .inl (nF (YS 0)))), (Ya1, .inl (cI, 6, .inl (nF (YS 1)))), (Ya2, .inl (cI, 427, .inl (nF (YS 2))))]) (fun i => [(0, .ref Nh), (1, .int (nI v_d)), (2, .int (nI v_b)), (3, .ref Ya1), (4, .int (nI (NS 0 (30 + v_d)))), (5, .int (nI i))]) 10 6 6 0 (Nat.le_of_ble_eq_true rfl) ?_ ?_ _ _ ls (by first | exact hP | (rw [fill_0]; exact hP)) (by first | exact hD | (rw [fill_0]; exact hD)) hS (lv_sub hl [2, 3, 4, 5, 1, 0] rfl)
  · intro H locs ls hP hD hS hl
    have hl : lv_has ls 6 [(0, .ref Nh), (1, .int (nI v_d)), (2, .int (nI v_b)), (3, .ref Ya1), (4, .int (nI (NS 0 (30 + v_d)))), (5, .int (nI 6))] := hl
    obtain ⟨hP, hD⟩ : wPD D A [(Nh, .inr (1, [.ref Na0, .ref Na1, .int (nI (NS 2 0))])), (Na0, .inl (cI, 36, .inl (nF (stlN (NS 0) (YS 1) v_b (NS 0 (30 + v_d)) 6)))), (Na1, .inl (cI, 360, .inl (nF (NS 1)))), (Yh, .inr (2, [.ref Ya0, .ref Ya1, .ref Ya2, .int (nI (YS 3 0))])), (Ya0, .inl (cI, 6, .inl (nF (YS 0)))), (Ya1, .inl (cI, 6, .inl (nF (YS 1)))), (Ya2, .inl (cI, 427, .inl (nF (YS 2))))] H := ⟨hP, hD⟩
    refine lv_iload hx hb dX1_settle_10 (lv_at hl 5 rfl) ?_
    refine lv_bipush (v := nI 6) hx hb dX1_settle_12 (by decide) ?_
    refine nb_icmp_ge (tgt := 47) hx hb dX1_settle_14 (by decide) (by omega) (by omega) (fun hq4 => ?_) (fun hq4 => absurd hq4 (by omega))
    refine lv_aload_n hx hb dX1_settle_47 rfl (lv_at hl 0 rfl) ?_
    refine va_get (D := D) (ci := 1) (v := .ref Na0) (C := RX1) (T := TX1) (N := 3) hx hb hts in_X1_settle_1 hown hK.1 hP 0 rfl rfl 0 (by decide) (hts (.fieldLink RX1 11 "ChildCoins$Now" "cells" "[I") (List.mem_of_getElem? (i := 1) rfl)) (fun _ h9 => h9) rfl dX1_settle_48 ?_
    refine lv_bipush (v := nI 35) hx hb dX1_settle_51 (by decide) ?_
    refine lv_dup2_11 hx hb dX1_settle_53 rfl rfl ?_
    refine va_iald hx hb hK.1 hP 1 0 rfl rfl (vp_in_nI (n := 35) (N := 36) (by omega) (by decide)) dX1_settle_54 ?_
    refine set_i (y := nI ((stlN (NS 0) (YS 1) v_b (NS 0 (30 + v_d)) 6) 35)) (nF_ld (by omega)) ?_
    have bo : stlN (NS 0) (YS 1) v_b (NS 0 (30 + v_d)) 6 35 ≤ 31 := by rw [stl_hi hb2 (by omega) (by omega) (by omega)]; exact hN0.op
    refine lv_iconst (v := nI 1) hx hb dX1_settle_55 (by decide) ?_
    refine lv_iload_n hx hb dX1_settle_56 rfl (lv_at hl 1 rfl) ?_
    refine lv_ishl hx hb dX1_settle_57 ?_
    refine set_i (y := nI (2 ^ v_d)) (shl_1 (by omega)) ?_
    refine lv_iconst (v := -1) hx hb dX1_settle_58 (by decide) ?_
    refine lv_ixor hx hb dX1_settle_59 ?_
    refine lv_iand hx hb dX1_settle_60 ?_
    refine set_i (y := nI (clrN ((stlN (NS 0) (YS 1) v_b (NS 0 (30 + v_d)) 6) 35) v_d)) (clr_ok (by omega) (by omega)) ?_
    refine va_iast hx hb hK.1 hP hD hS 1 0 rfl rfl (vp_in_nI (n := 35) (N := 36) (by omega) (by decide)) dX1_settle_61 (fun H locs hP hD hS => ?_)
    obtain ⟨hP, hD⟩ : wPD D A [(Nh, .inr (1, [.ref Na0, .ref Na1, .int (nI (NS 2 0))])), (Na0, .inl (cI, 36, .inl (upd (nF (stlN (NS 0) (YS 1) v_b (NS 0 (30 + v_d)) 6)) (nI 35).toNatClampNeg (nI (clrN ((stlN (NS 0) (YS 1) v_b (NS 0 (30 + v_d)) 6) 35) v_d))))), (Na1, .inl (cI, 360, .inl (nF (NS 1)))), (Yh, .inr (2, [.ref Ya0, .ref Ya1, .ref Ya2, .int (nI (YS 3 0))])), (Ya0, .inl (cI, 6, .inl (nF (YS 0)))), (Ya1, .inl (cI, 6, .inl (nF (YS 1)))), (Ya2, .inl (cI, 427, .inl (nF (YS 2))))] H := ⟨hP, hD⟩
    rw [nF_st (by omega)] at hP hD
    exact en_v hx hb hr hlk hP hD hS (ua NS 0 (un (stlN (NS 0) (YS 1) v_b (NS 0 (30 + v_d)) 6) 35 (clrN ((stlN (NS 0) (YS 1) v_b (NS 0 (30 + v_d)) 6) 35) v_d))) [0, 1, 2, 3, 4, 5, 6] (by decide) rfl (Nat.le_of_ble_eq_true rfl) (Nat.le_of_ble_eq_true rfl) dX1_settle_62 rfl
  · intro i hi0 hi ih H locs ls hP hD hS hl
    have hl : lv_has ls 6 [(0, .ref Nh), (1, .int (nI v_d)), (2, .int (nI v_b)), (3, .ref Ya1), (4, .int (nI (NS 0 (30 + v_d)))), (5, .int (nI i))] := hl
    obtain ⟨hP, hD⟩ : wPD D A [(Nh, .inr (1, [.ref Na0, .ref Na1, .int (nI (NS 2 0))])), (Na0, .inl (cI, 36, .inl (nF (stlN (NS 0) (YS 1) v_b (NS 0 (30 + v_d)) i)))), (Na1, .inl (cI, 360, .inl (nF (NS 1)))), (Yh, .inr (2, [.ref Ya0, .ref Ya1, .ref Ya2, .int (nI (YS 3 0))])), (Ya0, .inl (cI, 6, .inl (nF (YS 0)))), (Ya1, .inl (cI, 6, .inl (nF (YS 1)))), (Ya2, .inl (cI, 427, .inl (nF (YS 2))))] H := ⟨hP, hD⟩
    refine lv_iload hx hb dX1_settle_10 (lv_at hl 5 rfl) ?_
    refine lv_bipush (v := nI 6) hx hb dX1_settle_12 (by decide) ?_
    refine nb_icmp_ge (tgt := 47) hx hb dX1_settle_14 (by decide) (by omega) (by omega) (fun hq5 => absurd hq5 (by omega)) (fun hq5 => ?_)
    refine lv_aload_n hx hb dX1_settle_17 rfl (lv_at hl 0 rfl) ?_
    refine lv_iload_n hx hb dX1_settle_18 rfl (lv_at hl 2 rfl) ?_
    refine lv_iload hx hb dX1_settle_19 (lv_at hl 5 rfl) ?_
    refine lv_aload_n hx hb dX1_settle_21 rfl (lv_at hl 3 rfl) ?_
    refine lv_iload hx hb dX1_settle_22 (lv_at hl 5 rfl) ?_
    refine va_iald hx hb hK.1 hP 5 0 rfl rfl (vp_in_nI (n := i) (N := 6) (by omega) (by decide)) dX1_settle_24 ?_
    refine set_i (y := nI (YS 1 i)) (nF_ld (by omega)) ?_
    refine lv_ineg hx hb dX1_settle_25 ?_
    refine be_v (free := fun _ => False) (wr := [(Yh, .inr (2, [.ref Ya0, .ref Ya1, .ref Ya2, .int (nI (YS 3 0))])), (Ya0, .inl (cI, 6, .inl (nF (YS 0)))), (Ya1, .inl (cI, 6, .inl (nF (YS 1)))), (Ya2, .inl (cI, 427, .inl (nF (YS 2))))]) (ru_V (As := [.int (nI v_b), .int (nI i), .int (-nI (YS 1 i))]) (rest := []) ⟨hx, hb, hml, hown, hts⟩ (g_addm l D cI cB cZ cN Nh Na0 Na1 (ua NS 0 (stlN (NS 0) (YS 1) v_b (NS 0 (30 + v_d)) i)) v_b i (YS 1 i) (by omega) (by omega) (by show _ ≤ stlN _ _ _ _ _ _; rw [stl_col (by omega) (by omega)]; exact hu _ (by omega)) H.size) gX1_settle_X1_add rfl ⟨rfl, by decide, by decide, (show Option.map (fun d => d.parameters.length) (parseMethodDescriptor yX1_add.desc) = some 3 by decide +kernel)⟩ ⟨Nat.le_of_ble_eq_true rfl, Nat.le_of_ble_eq_true rfl⟩ hK hP hD 1 0 rfl rfl [0, 1, 2] (by decide) rfl hl.1 rfl (Nat.le_of_ble_eq_true rfl) dX1_settle_26 ⟨Nat.le_of_ble_eq_true rfl, Nat.le_of_ble_eq_true rfl⟩) hP hD hS hA [0, 1, 2] [3, 4, 5, 6] rfl rfl (by decide) (by decide) (fun u6 H locs w8 hP hD hS => ?_)
    subst w8
    obtain ⟨hP, hD⟩ : wPD D A [(Yh, .inr (2, [.ref Ya0, .ref Ya1, .ref Ya2, .int (nI (YS 3 0))])), (Ya0, .inl (cI, 6, .inl (nF (YS 0)))), (Ya1, .inl (cI, 6, .inl (nF (YS 1)))), (Ya2, .inl (cI, 427, .inl (nF (YS 2)))), (Nh, .inr (1, [.ref Na0, .ref Na1, .int (nI (NS 2 0))])), (Na0, .inl (cI, 36, .inl (nF (un (stlN (NS 0) (YS 1) v_b (NS 0 (30 + v_d)) i) (v_b * 6 + i) ((stlN (NS 0) (YS 1) v_b (NS 0 (30 + v_d)) i) (v_b * 6 + i) - (YS 1 i)))))), (Na1, .inl (cI, 360, .inl (nF (NS 1))))] H := ⟨hP, hD⟩
    refine lv_aload_n hx hb dX1_settle_29 rfl (lv_at hl 0 rfl) ?_
    refine lv_iload hx hb dX1_settle_30 (lv_at hl 4 rfl) ?_
    refine lv_iload hx hb dX1_settle_32 (lv_at hl 5 rfl) ?_
    refine lv_aload_n hx hb dX1_settle_34 rfl (lv_at hl 3 rfl) ?_
    refine lv_iload hx hb dX1_settle_35 (lv_at hl 5 rfl) ?_
    refine va_iald hx hb hK.1 hP 2 0 rfl rfl (vp_in_nI (n := i) (N := 6) (by omega) (by decide)) dX1_settle_37 ?_
    refine set_i (y := nI (YS 1 i)) (nF_ld (by omega)) ?_
    refine be_v (free := fun _ => False) (wr := [(Yh, .inr (2, [.ref Ya0, .ref Ya1, .ref Ya2, .int (nI (YS 3 0))])), (Ya0, .inl (cI, 6, .inl (nF (YS 0)))), (Ya1, .inl (cI, 6, .inl (nF (YS 1)))), (Ya2, .inl (cI, 427, .inl (nF (YS 2))))]) (ru_V (As := [.int (nI (NS 0 (30 + v_d))), .int (nI i), .int (nI (YS 1 i))]) (rest := []) ⟨hx, hb, hml, hown, hts⟩ (g_addp l D cI cB cZ cN Nh Na0 Na1 (ua NS 0 (un (stlN (NS 0) (YS 1) v_b (NS 0 (30 + v_d)) i) (v_b * 6 + i) ((stlN (NS 0) (YS 1) v_b (NS 0 (30 + v_d)) i) (v_b * 6 + i) - (YS 1 i)))) (NS 0 (30 + v_d)) i (YS 1 i) (by omega) (by omega) H.size) gX1_settle_X1_add rfl ⟨rfl, by decide, by decide, (show Option.map (fun d => d.parameters.length) (parseMethodDescriptor yX1_add.desc) = some 3 by decide +kernel)⟩ ⟨Nat.le_of_ble_eq_true rfl, Nat.le_of_ble_eq_true rfl⟩ hK hP hD 1 4 rfl rfl [4, 5, 6] (by decide) rfl hl.1 rfl (Nat.le_of_ble_eq_true rfl) dX1_settle_38 ⟨Nat.le_of_ble_eq_true rfl, Nat.le_of_ble_eq_true rfl⟩) hP hD hS hA [4, 5, 6] [0, 1, 2, 3] rfl rfl (by decide) (by decide) (fun u9 H locs w11 hP hD hS => ?_)
    subst w11
    obtain ⟨hP, hD⟩ : wPD D A [(Yh, .inr (2, [.ref Ya0, .ref Ya1, .ref Ya2, .int (nI (YS 3 0))])), (Ya0, .inl (cI, 6, .inl (nF (YS 0)))), (Ya1, .inl (cI, 6, .inl (nF (YS 1)))), (Ya2, .inl (cI, 427, .inl (nF (YS 2)))), (Nh, .inr (1, [.ref Na0, .ref Na1, .int (nI (NS 2 0))])), (Na0, .inl (cI, 36, .inl (nF (un (un (stlN (NS 0) (YS 1) v_b (NS 0 (30 + v_d)) i) (v_b * 6 + i) ((stlN (NS 0) (YS 1) v_b (NS 0 (30 + v_d)) i) (v_b * 6 + i) - (YS 1 i))) ((NS 0 (30 + v_d)) * 6 + i) ((un (stlN (NS 0) (YS 1) v_b (NS 0 (30 + v_d)) i) (v_b * 6 + i) ((stlN (NS 0) (YS 1) v_b (NS 0 (30 + v_d)) i) (v_b * 6 + i) - (YS 1 i))) ((NS 0 (30 + v_d)) * 6 + i) + (YS 1 i)))))), (Na1, .inl (cI, 360, .inl (nF (NS 1))))] H := ⟨hP, hD⟩
    refine lv_iinc (v := nI (i + 1)) (lv' := [(5, .int (nI (i + 1))), (0, .ref Nh), (1, .int (nI v_d)), (2, .int (nI v_b)), (3, .ref Ya1), (4, .int (nI (NS 0 (30 + v_d))))]) hx hb dX1_settle_41 hl (k := 5) rfl (nI_add i 1) (by decide) rfl (fun ls hl => ?_)
    refine lv_goto (tgt := 10) hx hb dX1_settle_44 (by decide) ?_
    have hl : lv_has ls 6 [(0, .ref Nh), (1, .int (nI v_d)), (2, .int (nI v_b)), (3, .ref Ya1), (4, .int (nI (NS 0 (30 + v_d)))), (5, .int (nI (i + 1)))] := lv_sub hl [1, 2, 3, 4, 5, 0] rfl
    have hP := hP.sub (ws' := [(Nh, .inr (1, [.ref Na0, .ref Na1, .int (nI (NS 2 0))])), (Na0, .inl (cI, 36, .inl (nF (un (un (stlN (NS 0) (YS 1) v_b (NS 0 (30 + v_d)) i) (v_b * 6 + i) ((stlN (NS 0) (YS 1) v_b (NS 0 (30 + v_d)) i) (v_b * 6 + i) - (YS 1 i))) ((NS 0 (30 + v_d)) * 6 + i) ((un (stlN (NS 0) (YS 1) v_b (NS 0 (30 + v_d)) i) (v_b * 6 + i) ((stlN (NS 0) (YS 1) v_b (NS 0 (30 + v_d)) i) (v_b * 6 + i) - (YS 1 i))) ((NS 0 (30 + v_d)) * 6 + i) + (YS 1 i)))))), (Na1, .inl (cI, 360, .inl (nF (NS 1)))), (Yh, .inr (2, [.ref Ya0, .ref Ya1, .ref Ya2, .int (nI (YS 3 0))])), (Ya0, .inl (cI, 6, .inl (nF (YS 0)))), (Ya1, .inl (cI, 6, .inl (nF (YS 1)))), (Ya2, .inl (cI, 427, .inl (nF (YS 2))))]) [4, 5, 6, 0, 1, 2, 3] rfl
    have hD := hD.sub (ws' := [(Nh, .inr (1, [.ref Na0, .ref Na1, .int (nI (NS 2 0))])), (Na0, .inl (cI, 36, .inl (nF (un (un (stlN (NS 0) (YS 1) v_b (NS 0 (30 + v_d)) i) (v_b * 6 + i) ((stlN (NS 0) (YS 1) v_b (NS 0 (30 + v_d)) i) (v_b * 6 + i) - (YS 1 i))) ((NS 0 (30 + v_d)) * 6 + i) ((un (stlN (NS 0) (YS 1) v_b (NS 0 (30 + v_d)) i) (v_b * 6 + i) ((stlN (NS 0) (YS 1) v_b (NS 0 (30 + v_d)) i) (v_b * 6 + i) - (YS 1 i))) ((NS 0 (30 + v_d)) * 6 + i) + (YS 1 i)))))), (Na1, .inl (cI, 360, .inl (nF (NS 1)))), (Yh, .inr (2, [.ref Ya0, .ref Ya1, .ref Ya2, .int (nI (YS 3 0))])), (Ya0, .inl (cI, 6, .inl (nF (YS 0)))), (Ya1, .inl (cI, 6, .inl (nF (YS 1)))), (Ya2, .inl (cI, 427, .inl (nF (YS 2))))]) [4, 5, 6, 0, 1, 2, 3] (by decide) rfl
    exact ih _ _ _ hP hD hS hl
set_option maxRecDepth 20000 in
theorem dAX1_holdsAnything : decA cX1_holdsAnything [(0, .iconst 0, 1), (1, .istore_n 2, 1), (2, .iload_n 2, 1), (3, .bipush 6, 2), (5, .if_icmp .ge 20, 3), (8, .aload_n 0, 1), (9, .iload_n 1, 1), (10, .iload_n 2, 1), (11, .invokevirtual 39, 3), (14, .ifCond .le 5, 3), (17, .iconst 1, 1), (18, .ireturn, 1), (19, .iinc 2 1, 3), (22, .goto (-20), 3), (25, .iconst 0, 1), (26, .ireturn, 1)] = true := by decide +kernel
theorem dX1_holdsAnything_0 : decode cX1_holdsAnything 0 = .ok (.iconst 0, 1) := decA_get dAX1_holdsAnything 0 rfl
theorem dX1_holdsAnything_1 : decode cX1_holdsAnything 1 = .ok (.istore_n 2, 1) := decA_get dAX1_holdsAnything 1 rfl
theorem dX1_holdsAnything_2 : decode cX1_holdsAnything 2 = .ok (.iload_n 2, 1) := decA_get dAX1_holdsAnything 2 rfl
theorem dX1_holdsAnything_3 : decode cX1_holdsAnything 3 = .ok (.bipush 6, 2) := decA_get dAX1_holdsAnything 3 rfl
theorem dX1_holdsAnything_5 : decode cX1_holdsAnything 5 = .ok (.if_icmp .ge 20, 3) := decA_get dAX1_holdsAnything 4 rfl
theorem dX1_holdsAnything_25 : decode cX1_holdsAnything 25 = .ok (.iconst 0, 1) := decA_get dAX1_holdsAnything 14 rfl
theorem dX1_holdsAnything_26 : decode cX1_holdsAnything 26 = .ok (.ireturn, 1) := decA_get dAX1_holdsAnything 15 rfl
theorem dX1_holdsAnything_8 : decode cX1_holdsAnything 8 = .ok (.aload_n 0, 1) := decA_get dAX1_holdsAnything 5 rfl
theorem dX1_holdsAnything_9 : decode cX1_holdsAnything 9 = .ok (.iload_n 1, 1) := decA_get dAX1_holdsAnything 6 rfl
theorem dX1_holdsAnything_10 : decode cX1_holdsAnything 10 = .ok (.iload_n 2, 1) := decA_get dAX1_holdsAnything 7 rfl
theorem dX1_holdsAnything_11 : decode cX1_holdsAnything 11 = .ok (.invokevirtual 39, 3) := decA_get dAX1_holdsAnything 8 rfl
set_option maxRecDepth 20000 in
theorem ggX1_holdsAnything_X1_held : GoodIn wsX1_holdsAnything wsX1_held := gd_ids wi_X1_holdsAnything wm_X1_holdsAnything wi_X1_held (by decide +kernel)
set_option maxRecDepth 20000 in
theorem gX1_holdsAnything_X1_held : GoodIn wsX1_holdsAnything (wsV RX1 39 RX1 yX1_held wsX1_held) := goodIn_app (gd_ids wi_X1_holdsAnything wm_X1_holdsAnything (b := [125, 126, 127, 128]) rfl (by decide +kernel)) ggX1_holdsAnything_X1_held
theorem dX1_holdsAnything_14 : decode cX1_holdsAnything 14 = .ok (.ifCond .le 5, 3) := decA_get dAX1_holdsAnything 9 rfl
theorem dX1_holdsAnything_19 : decode cX1_holdsAnything 19 = .ok (.iinc 2 1, 3) := decA_get dAX1_holdsAnything 12 rfl
theorem dX1_holdsAnything_22 : decode cX1_holdsAnything 22 = .ok (.goto (-20), 3) := decA_get dAX1_holdsAnything 13 rfl
theorem dX1_holdsAnything_17 : decode cX1_holdsAnything 17 = .ok (.iconst 1, 1) := decA_get dAX1_holdsAnything 10 rfl
theorem dX1_holdsAnything_18 : decode cX1_holdsAnything 18 = .ok (.ireturn, 1) := decA_get dAX1_holdsAnything 11 rfl
set_option maxHeartbeats 4000000 in
set_option maxRecDepth 100000 in
theorem g_holdsAnything (l : Launch) (D : va_G) (cI cB cZ cN : ClassId) (Nh : Nat) (Na0 : Nat) (Na1 : Nat) (NS : Nat → Nat → Nat) (v_q : Nat) (hN : NowOk NS) (hq : v_q < 5) : Ci (S := Unit) l D cI cB cZ cN yX1_holdsAnything wsX1_holdsAnything ({ frames := 1, cells := 0, slots := 0, locals := 22 } : Room) [.ref Nh, .int (nI v_q)] [(Nh, .inr (1, [.ref Na0, .ref Na1, .int (nI (NS 2 0))])), (Na0, .inl (cI, 36, .inl (nF (NS 0)))), (Na1, .inl (cI, 360, .inl (nF (NS 1))))] (fun (r : Int32) (_ : Unit) => r = nI (anyN (fun c => NS 0 (v_q * 6 + c)) 6)) (fun u => [(Nh, .inr (1, [.ref Na0, .ref Na1, .int (nI (NS 2 0))])), (Na0, .inl (cI, 36, .inl (nF (NS 0)))), (Na1, .inl (cI, 360, .inl (nF (NS 1))))]) := by
  refine bx_of (D := D) (cI := cI) (cB := cB) (cZ := cZ) (cN := cN) (y := yX1_holdsAnything) (wd := wsX1_holdsAnything) (rm := ({ frames := 1, cells := 0, slots := 0, locals := 22 } : Room)) (av := [.ref Nh, .int (nI v_q)]) (wc := [(Nh, .inr (1, [.ref Na0, .ref Na1, .int (nI (NS 2 0))])), (Na0, .inl (cI, 36, .inl (nF (NS 0)))), (Na1, .inl (cI, 360, .inl (nF (NS 1))))]) (cc := cX1_holdsAnything) (maxL := 3) (ret := (some .boolean)) (Qc := fun _ A => va_Qi (S := Unit) (fun (r : Int32) (_ : Unit) => r = nI (anyN (fun c => NS 0 (v_q * 6 + c)) 6)) (Aft D (fun (u : Unit) => [(Nh, .inr (1, [.ref Na0, .ref Na1, .int (nI (NS 2 0))])), (Na0, .inl (cI, 36, .inl (nF (NS 0)))), (Na1, .inl (cI, 360, .inl (nF (NS 1))))]) A) A) (by decide) rfl (Nat.le_of_ble_eq_true rfl) ?_
  intro p e s m below meth c A H locs ⟨hx, hb, hr, hml, hown, hts, hlk, hnm⟩ hK hP hD hS hA ls hl
  have hl : lv_has ls 3 [(0, .ref Nh), (1, .int (nI v_q))] := hl
  have hown : s.vm.findClass RX1 = some m.cls := hown
  have hN0 := hN
  have bn0 := hN.c99
  have bn1 := hN.p99
  have bn2 := hN.2.2
  refine lv_iconst (v := nI 0) hx hb dX1_holdsAnything_0 (by decide) ?_
  refine lv_istore_n (lv' := [(2, .int (nI 0)), (0, .ref Nh), (1, .int (nI v_q))]) hx hb dX1_holdsAnything_1 rfl hl (by decide) rfl (fun ls hl => ?_)
  refine loopS (σ := Unit) (D := D) (A := A) (fun i _ => sumN (fun c => NS 0 (v_q * 6 + c)) i = 0) (fun i _ => [(Nh, .inr (1, [.ref Na0, .ref Na1, .int (nI (NS 2 0))])), (Na0, .inl (cI, 36, .inl (nF (NS 0)))), (Na1, .inl (cI, 360, .inl (nF (NS 1))))]) (fun i _ => [(0, .ref Nh), (1, .int (nI v_q)), (2, .int (nI i))]) 2 3 6 0 (Nat.le_of_ble_eq_true rfl) ?_ ?_ () rfl _ _ ls (by first | exact hP | (rw [fill_0]; exact hP)) (by first | exact hD | (rw [fill_0]; exact hD)) hS (lv_sub hl [1, 2, 0] rfl)
  · intro z0 hI H locs ls hP hD hS hl
    have hl : lv_has ls 3 [(0, .ref Nh), (1, .int (nI v_q)), (2, .int (nI 6))] := hl
    obtain ⟨hP, hD⟩ : wPD D A [(Nh, .inr (1, [.ref Na0, .ref Na1, .int (nI (NS 2 0))])), (Na0, .inl (cI, 36, .inl (nF (NS 0)))), (Na1, .inl (cI, 360, .inl (nF (NS 1))))] H := ⟨hP, hD⟩
    refine lv_iload_n hx hb dX1_holdsAnything_2 rfl (lv_at hl 2 rfl) ?_
    refine lv_bipush (v := nI 6) hx hb dX1_holdsAnything_3 (by decide) ?_
    refine nb_icmp_ge (tgt := 25) hx hb dX1_holdsAnything_5 (by decide) (by omega) (by omega) (fun hq1 => ?_) (fun hq1 => absurd hq1 (by omega))
    refine lv_iconst (v := nI 0) hx hb dX1_holdsAnything_25 (by decide) ?_
    exact en_z hx hb hr hlk hP hD hS () [0, 1, 2] (by decide) rfl (Nat.le_of_ble_eq_true rfl) (Nat.le_of_ble_eq_true rfl) dX1_holdsAnything_26 rfl (congrArg nI (by unfold anyN; rw [if_pos hI]))
  · intro i hi0 hi z0 hI ih H locs ls hP hD hS hl
    have hl : lv_has ls 3 [(0, .ref Nh), (1, .int (nI v_q)), (2, .int (nI i))] := hl
    obtain ⟨hP, hD⟩ : wPD D A [(Nh, .inr (1, [.ref Na0, .ref Na1, .int (nI (NS 2 0))])), (Na0, .inl (cI, 36, .inl (nF (NS 0)))), (Na1, .inl (cI, 360, .inl (nF (NS 1))))] H := ⟨hP, hD⟩
    refine lv_iload_n hx hb dX1_holdsAnything_2 rfl (lv_at hl 2 rfl) ?_
    refine lv_bipush (v := nI 6) hx hb dX1_holdsAnything_3 (by decide) ?_
    refine nb_icmp_ge (tgt := 25) hx hb dX1_holdsAnything_5 (by decide) (by omega) (by omega) (fun hq2 => absurd hq2 (by omega)) (fun hq2 => ?_)
    refine lv_aload_n hx hb dX1_holdsAnything_8 rfl (lv_at hl 0 rfl) ?_
    refine lv_iload_n hx hb dX1_holdsAnything_9 rfl (lv_at hl 1 rfl) ?_
    refine lv_iload_n hx hb dX1_holdsAnything_10 rfl (lv_at hl 2 rfl) ?_
    refine be_i0 (ru_V (As := [.int (nI v_q), .int (nI i)]) (rest := []) ⟨hx, hb, hml, hown, hts⟩ (g_held l D cI cB cZ cN Nh Na0 Na1 NS v_q i hN0 hq (by omega) H.size) gX1_holdsAnything_X1_held rfl ⟨rfl, by decide, by decide, (show Option.map (fun d => d.parameters.length) (parseMethodDescriptor yX1_held.desc) = some 2 by decide +kernel)⟩ ⟨Nat.le_of_ble_eq_true rfl, Nat.le_of_ble_eq_true rfl⟩ hK hP hD 1 0 rfl rfl [0, 1, 2] (by decide) rfl hl.1 rfl (Nat.le_of_ble_eq_true rfl) dX1_holdsAnything_11 ⟨Nat.le_of_ble_eq_true rfl, Nat.le_of_ble_eq_true rfl⟩) hP hD hS hA [0, 1, 2] rfl (fun r4 u3 H locs w5 hP hS => ?_)
    obtain rfl : r4 = nI (NS 0 (v_q * 6 + i)) := w5
    have b6 := bn0 (v_q * 6 + i)
    refine nb_if_le (tgt := 19) hx hb dX1_holdsAnything_14 (by decide) (by omega) (fun hq7 => ?_) (fun hq7 => ?_)
    · skip
      refine lv_iinc (v := nI (i + 1)) (lv' := [(2, .int (nI (i + 1))), (0, .ref Nh), (1, .int (nI v_q))]) hx hb dX1_holdsAnything_19 hl (k := 2) rfl (nI_add i 1) (by decide) rfl (fun ls hl => ?_)
      refine lv_goto (tgt := 2) hx hb dX1_holdsAnything_22 (by decide) ?_
      have hl : lv_has ls 3 [(0, .ref Nh), (1, .int (nI v_q)), (2, .int (nI (i + 1)))] := lv_sub hl [1, 2, 0] rfl
      exact ih () (by simp only [sumN] at hI ⊢; omega) _ _ _ hP hD hS hl
    · skip
      refine lv_iconst (v := nI 1) hx hb dX1_holdsAnything_17 (by decide) ?_
      exact en_z hx hb hr hlk hP hD hS () [0, 1, 2] (by decide) rfl (Nat.le_of_ble_eq_true rfl) (Nat.le_of_ble_eq_true rfl) dX1_holdsAnything_18 rfl (congrArg nI (by unfold anyN; rw [if_neg (Nat.ne_of_gt (sumN_pos (i := i) (by omega) (by omega)))]))
