set_option maxRecDepth 20000 in
theorem dAX7_in : decA cX7_in [(0, .iload_n 0, 1), (1, .iload_n 1, 1), (2, .if_icmp .lt 12, 3), (5, .iload_n 0, 1), (6, .iload_n 2, 1), (7, .if_icmp .gt 7, 3), (10, .iconst 1, 1), (11, .goto 4, 3), (14, .iconst 0, 1), (15, .ireturn, 1)] = true := by decide +kernel
theorem dX7_in_0 : decode cX7_in 0 = .ok (.iload_n 0, 1) := decA_get dAX7_in 0 rfl
theorem dX7_in_1 : decode cX7_in 1 = .ok (.iload_n 1, 1) := decA_get dAX7_in 1 rfl
theorem dX7_in_2 : decode cX7_in 2 = .ok (.if_icmp .lt 12, 3) := decA_get dAX7_in 2 rfl
theorem dX7_in_14 : decode cX7_in 14 = .ok (.iconst 0, 1) := decA_get dAX7_in 8 rfl
theorem dX7_in_15 : decode cX7_in 15 = .ok (.ireturn, 1) := decA_get dAX7_in 9 rfl
theorem dX7_in_5 : decode cX7_in 5 = .ok (.iload_n 0, 1) := decA_get dAX7_in 3 rfl
theorem dX7_in_6 : decode cX7_in 6 = .ok (.iload_n 2, 1) := decA_get dAX7_in 4 rfl
theorem dX7_in_7 : decode cX7_in 7 = .ok (.if_icmp .gt 7, 3) := decA_get dAX7_in 5 rfl
theorem dX7_in_10 : decode cX7_in 10 = .ok (.iconst 1, 1) := decA_get dAX7_in 6 rfl
theorem dX7_in_11 : decode cX7_in 11 = .ok (.goto 4, 3) := decA_get dAX7_in 7 rfl
set_option maxHeartbeats 4000000 in
set_option maxRecDepth 100000 in
theorem g_inC (l : Launch) (D : va_G) (cI cB cZ cN : ClassId) (v_a : Nat) (v_l : Nat) (v_h : Nat) (ha : v_a < 100000) (hl0 : v_l < 100000) (hh : v_h < 100000) : Ci (S := Unit) l D cI cB cZ cN yX7_in wsX7_in ({ frames := 0, cells := 0, slots := 0, locals := 0 } : Room) [.int (nI v_a), .int (nI v_l), .int (nI v_h)] [] (fun (r : Int32) (_ : Unit) => (r = nI 1 ∧ (v_l ≤ v_a ∧ v_a ≤ v_h)) ∨ (r = nI 0 ∧ ¬ (v_l ≤ v_a ∧ v_a ≤ v_h))) (fun u => []) := by
  refine bx_of (D := D) (cI := cI) (cB := cB) (cZ := cZ) (cN := cN) (y := yX7_in) (wd := wsX7_in) (rm := ({ frames := 0, cells := 0, slots := 0, locals := 0 } : Room)) (av := [.int (nI v_a), .int (nI v_l), .int (nI v_h)]) (wc := []) (cc := cX7_in) (maxL := 3) (ret := (some .boolean)) (Qc := fun _ A => va_Qi (S := Unit) (fun (r : Int32) (_ : Unit) => (r = nI 1 ∧ (v_l ≤ v_a ∧ v_a ≤ v_h)) ∨ (r = nI 0 ∧ ¬ (v_l ≤ v_a ∧ v_a ≤ v_h))) (Aft D (fun (u : Unit) => []) A) A) (by decide) rfl (Nat.le_of_ble_eq_true rfl) ?_
  intro p e s m below meth c A H locs ⟨hx, hb, hr, hml, hown, hts, hlk, hnm⟩ hK hP hD hS hA ls hl
  have hl : lv_has ls 3 [(0, .int (nI v_a)), (1, .int (nI v_l)), (2, .int (nI v_h))] := hl
  have hown : s.vm.findClass RX7 = some m.cls := hown
  refine lv_iload_n hx hb dX7_in_0 rfl (lv_at hl 0 rfl) ?_
  refine lv_iload_n hx hb dX7_in_1 rfl (lv_at hl 1 rfl) ?_
  refine nb_icmp_lt (tgt := 14) hx hb dX7_in_2 (by decide) (by omega) (by omega) (fun hq1 => ?_) (fun hq1 => ?_)
  · skip
    refine lv_iconst (v := nI 0) hx hb dX7_in_14 (by decide) ?_
    exact en_z hx hb hr hlk hP hD hS () [] (by decide) rfl (Nat.le_of_ble_eq_true rfl) (Nat.le_of_ble_eq_true rfl) dX7_in_15 rfl (Or.inr ⟨rfl, by omega⟩)
  · skip
    refine lv_iload_n hx hb dX7_in_5 rfl (lv_at hl 0 rfl) ?_
    refine lv_iload_n hx hb dX7_in_6 rfl (lv_at hl 2 rfl) ?_
    refine nb_icmp_gt (tgt := 14) hx hb dX7_in_7 (by decide) (by omega) (by omega) (fun hq2 => ?_) (fun hq2 => ?_)
    · skip
      refine lv_iconst (v := nI 0) hx hb dX7_in_14 (by decide) ?_
      exact en_z hx hb hr hlk hP hD hS () [] (by decide) rfl (Nat.le_of_ble_eq_true rfl) (Nat.le_of_ble_eq_true rfl) dX7_in_15 rfl (Or.inr ⟨rfl, by omega⟩)
    · skip
      refine lv_iconst (v := nI 1) hx hb dX7_in_10 (by decide) ?_
      refine lv_goto (tgt := 15) hx hb dX7_in_11 (by decide) ?_
      exact en_z hx hb hr hlk hP hD hS () [] (by decide) rfl (Nat.le_of_ble_eq_true rfl) (Nat.le_of_ble_eq_true rfl) dX7_in_15 rfl (Or.inl ⟨rfl, by omega⟩)
set_option maxHeartbeats 4000000 in
set_option maxRecDepth 100000 in
theorem g_inF (l : Launch) (D : va_G) (cI cB cZ cN : ClassId) (v_a : Nat) (v_l : Nat) (v_h : Nat) (ha : v_a < 100000) (hl0 : v_l < 100000) (hh : v_h < 100000) : Ci (S := Unit) l D cI cB cZ cN yX7_in wsX7_in ({ frames := 0, cells := 0, slots := 0, locals := 0 } : Room) [.int (nI v_a), .int (nI v_l), .int (nI v_h - nI 1)] [] (fun (r : Int32) (_ : Unit) => (r = nI 1 ∧ (v_l ≤ v_a ∧ v_a < v_h)) ∨ (r = nI 0 ∧ ¬ (v_l ≤ v_a ∧ v_a < v_h))) (fun u => []) := by
  refine bx_of (D := D) (cI := cI) (cB := cB) (cZ := cZ) (cN := cN) (y := yX7_in) (wd := wsX7_in) (rm := ({ frames := 0, cells := 0, slots := 0, locals := 0 } : Room)) (av := [.int (nI v_a), .int (nI v_l), .int (nI v_h - nI 1)]) (wc := []) (cc := cX7_in) (maxL := 3) (ret := (some .boolean)) (Qc := fun _ A => va_Qi (S := Unit) (fun (r : Int32) (_ : Unit) => (r = nI 1 ∧ (v_l ≤ v_a ∧ v_a < v_h)) ∨ (r = nI 0 ∧ ¬ (v_l ≤ v_a ∧ v_a < v_h))) (Aft D (fun (u : Unit) => []) A) A) (by decide) rfl (Nat.le_of_ble_eq_true rfl) ?_
  intro p e s m below meth c A H locs ⟨hx, hb, hr, hml, hown, hts, hlk, hnm⟩ hK hP hD hS hA ls hl
  have hl : lv_has ls 3 [(0, .int (nI v_a)), (1, .int (nI v_l)), (2, .int (nI v_h - nI 1))] := hl
  have hown : s.vm.findClass RX7 = some m.cls := hown
  refine lv_iload_n hx hb dX7_in_0 rfl (lv_at hl 0 rfl) ?_
  refine lv_iload_n hx hb dX7_in_1 rfl (lv_at hl 1 rfl) ?_
  refine nb_icmp_lt (tgt := 14) hx hb dX7_in_2 (by decide) (by omega) (by omega) (fun hq1 => ?_) (fun hq1 => ?_)
  · skip
    refine lv_iconst (v := nI 0) hx hb dX7_in_14 (by decide) ?_
    exact en_z hx hb hr hlk hP hD hS () [] (by decide) rfl (Nat.le_of_ble_eq_true rfl) (Nat.le_of_ble_eq_true rfl) dX7_in_15 rfl (Or.inr ⟨rfl, by omega⟩)
  · skip
    refine lv_iload_n hx hb dX7_in_5 rfl (lv_at hl 0 rfl) ?_
    refine lv_iload_n hx hb dX7_in_6 rfl (lv_at hl 2 rfl) ?_
    refine nb_icmp_gts (tgt := 14) hx hb dX7_in_7 (by decide) (by omega) (by omega) (fun hq2 => ?_) (fun hq2 => ?_)
    · skip
      refine lv_iconst (v := nI 0) hx hb dX7_in_14 (by decide) ?_
      exact en_z hx hb hr hlk hP hD hS () [] (by decide) rfl (Nat.le_of_ble_eq_true rfl) (Nat.le_of_ble_eq_true rfl) dX7_in_15 rfl (Or.inr ⟨rfl, by omega⟩)
    · skip
      refine lv_iconst (v := nI 1) hx hb dX7_in_10 (by decide) ?_
      refine lv_goto (tgt := 15) hx hb dX7_in_11 (by decide) ?_
      exact en_z hx hb hr hlk hP hD hS () [] (by decide) rfl (Nat.le_of_ble_eq_true rfl) (Nat.le_of_ble_eq_true rfl) dX7_in_15 rfl (Or.inl ⟨rfl, by omega⟩)
set_option maxHeartbeats 4000000 in
set_option maxRecDepth 100000 in
theorem g_inA (l : Launch) (D : va_G) (cI cB cZ cN : ClassId) (v_a : Int32) (v_h : Nat) (hh : v_h < 100000) : Ci (S := Unit) l D cI cB cZ cN yX7_in wsX7_in ({ frames := 0, cells := 0, slots := 0, locals := 0 } : Room) [.int v_a, .int (nI 0), .int (nI v_h)] [] (fun (r : Int32) (_ : Unit) => (r = nI 1 ∧ inN v_a (v_h + 1)) ∨ (r = nI 0 ∧ ¬ inN v_a (v_h + 1))) (fun u => []) := by
  refine bx_of (D := D) (cI := cI) (cB := cB) (cZ := cZ) (cN := cN) (y := yX7_in) (wd := wsX7_in) (rm := ({ frames := 0, cells := 0, slots := 0, locals := 0 } : Room)) (av := [.int v_a, .int (nI 0), .int (nI v_h)]) (wc := []) (cc := cX7_in) (maxL := 3) (ret := (some .boolean)) (Qc := fun _ A => va_Qi (S := Unit) (fun (r : Int32) (_ : Unit) => (r = nI 1 ∧ inN v_a (v_h + 1)) ∨ (r = nI 0 ∧ ¬ inN v_a (v_h + 1))) (Aft D (fun (u : Unit) => []) A) A) (by decide) rfl (Nat.le_of_ble_eq_true rfl) ?_
  intro p e s m below meth c A H locs ⟨hx, hb, hr, hml, hown, hts, hlk, hnm⟩ hK hP hD hS hA ls hl
  have hl : lv_has ls 3 [(0, .int v_a), (1, .int (nI 0)), (2, .int (nI v_h))] := hl
  have hown : s.vm.findClass RX7 = some m.cls := hown
  refine lv_iload_n hx hb dX7_in_0 rfl (lv_at hl 0 rfl) ?_
  refine lv_iload_n hx hb dX7_in_1 rfl (lv_at hl 1 rfl) ?_
  refine lv_icmp_lt (tgt := 14) hx hb dX7_in_2 (by decide) (fun hq1 => ?_) (fun hq1 => ?_)
  · skip
    refine lv_iconst (v := nI 0) hx hb dX7_in_14 (by decide) ?_
    exact en_z hx hb hr hlk hP hD hS () [] (by decide) rfl (Nat.le_of_ble_eq_true rfl) (Nat.le_of_ble_eq_true rfl) dX7_in_15 rfl (Or.inr ⟨rfl, inN_neg0 (by omega) hq1⟩)
  · skip
    refine lv_iload_n hx hb dX7_in_5 rfl (lv_at hl 0 rfl) ?_
    refine lv_iload_n hx hb dX7_in_6 rfl (lv_at hl 2 rfl) ?_
    refine lv_icmp_gt (tgt := 14) hx hb dX7_in_7 (by decide) (fun hq2 => ?_) (fun hq2 => ?_)
    · skip
      refine lv_iconst (v := nI 0) hx hb dX7_in_14 (by decide) ?_
      exact en_z hx hb hr hlk hP hD hS () [] (by decide) rfl (Nat.le_of_ble_eq_true rfl) (Nat.le_of_ble_eq_true rfl) dX7_in_15 rfl (Or.inr ⟨rfl, inN_gt (by omega) hq2⟩)
    · skip
      refine lv_iconst (v := nI 1) hx hb dX7_in_10 (by decide) ?_
      refine lv_goto (tgt := 15) hx hb dX7_in_11 (by decide) ?_
      exact en_z hx hb hr hlk hP hD hS () [] (by decide) rfl (Nat.le_of_ble_eq_true rfl) (Nat.le_of_ble_eq_true rfl) dX7_in_15 rfl (Or.inl ⟨rfl, inN_le0 (by omega) hq1 hq2⟩)
set_option maxHeartbeats 4000000 in
set_option maxRecDepth 100000 in
theorem g_inB (l : Launch) (D : va_G) (cI cB cZ cN : ClassId) (v_a : Int32) (v_h : Nat) (hh : v_h < 100000) : Ci (S := Unit) l D cI cB cZ cN yX7_in wsX7_in ({ frames := 0, cells := 0, slots := 0, locals := 0 } : Room) [.int v_a, .int (nI 0), .int (nI v_h - nI 1)] [] (fun (r : Int32) (_ : Unit) => (r = nI 1 ∧ inN v_a v_h) ∨ (r = nI 0 ∧ ¬ inN v_a v_h)) (fun u => []) := by
  refine bx_of (D := D) (cI := cI) (cB := cB) (cZ := cZ) (cN := cN) (y := yX7_in) (wd := wsX7_in) (rm := ({ frames := 0, cells := 0, slots := 0, locals := 0 } : Room)) (av := [.int v_a, .int (nI 0), .int (nI v_h - nI 1)]) (wc := []) (cc := cX7_in) (maxL := 3) (ret := (some .boolean)) (Qc := fun _ A => va_Qi (S := Unit) (fun (r : Int32) (_ : Unit) => (r = nI 1 ∧ inN v_a v_h) ∨ (r = nI 0 ∧ ¬ inN v_a v_h)) (Aft D (fun (u : Unit) => []) A) A) (by decide) rfl (Nat.le_of_ble_eq_true rfl) ?_
  intro p e s m below meth c A H locs ⟨hx, hb, hr, hml, hown, hts, hlk, hnm⟩ hK hP hD hS hA ls hl
  have hl : lv_has ls 3 [(0, .int v_a), (1, .int (nI 0)), (2, .int (nI v_h - nI 1))] := hl
  have hown : s.vm.findClass RX7 = some m.cls := hown
  refine lv_iload_n hx hb dX7_in_0 rfl (lv_at hl 0 rfl) ?_
  refine lv_iload_n hx hb dX7_in_1 rfl (lv_at hl 1 rfl) ?_
  refine lv_icmp_lt (tgt := 14) hx hb dX7_in_2 (by decide) (fun hq1 => ?_) (fun hq1 => ?_)
  · skip
    refine lv_iconst (v := nI 0) hx hb dX7_in_14 (by decide) ?_
    exact en_z hx hb hr hlk hP hD hS () [] (by decide) rfl (Nat.le_of_ble_eq_true rfl) (Nat.le_of_ble_eq_true rfl) dX7_in_15 rfl (Or.inr ⟨rfl, inN_neg0 (by omega) hq1⟩)
  · skip
    refine lv_iload_n hx hb dX7_in_5 rfl (lv_at hl 0 rfl) ?_
    refine lv_iload_n hx hb dX7_in_6 rfl (lv_at hl 2 rfl) ?_
    refine lv_icmp_gt (tgt := 14) hx hb dX7_in_7 (by decide) (fun hq2 => ?_) (fun hq2 => ?_)
    · skip
      refine lv_iconst (v := nI 0) hx hb dX7_in_14 (by decide) ?_
      exact en_z hx hb hr hlk hP hD hS () [] (by decide) rfl (Nat.le_of_ble_eq_true rfl) (Nat.le_of_ble_eq_true rfl) dX7_in_15 rfl (Or.inr ⟨rfl, inN_subgt (by omega) hq1 hq2⟩)
    · skip
      refine lv_iconst (v := nI 1) hx hb dX7_in_10 (by decide) ?_
      refine lv_goto (tgt := 15) hx hb dX7_in_11 (by decide) ?_
      exact en_z hx hb hr hlk hP hD hS () [] (by decide) rfl (Nat.le_of_ble_eq_true rfl) (Nat.le_of_ble_eq_true rfl) dX7_in_15 rfl (Or.inl ⟨rfl, inN_subof (by omega) hq1 hq2⟩)
set_option maxHeartbeats 4000000 in
set_option maxRecDepth 100000 in
theorem g_inE (l : Launch) (D : va_G) (cI cB cZ cN : ClassId) (v_l : Nat) (v_h : Nat) (hl0 : v_l < 100000) (hh : v_h < 100000) : Ci (S := Unit) l D cI cB cZ cN yX7_in wsX7_in ({ frames := 0, cells := 0, slots := 0, locals := 0 } : Room) [.int (-1), .int (nI v_l), .int (nI v_h)] [] (fun (r : Int32) (_ : Unit) => (r = nI 1 ∧ False) ∨ (r = nI 0 ∧ True)) (fun u => []) := by
  refine bx_of (D := D) (cI := cI) (cB := cB) (cZ := cZ) (cN := cN) (y := yX7_in) (wd := wsX7_in) (rm := ({ frames := 0, cells := 0, slots := 0, locals := 0 } : Room)) (av := [.int (-1), .int (nI v_l), .int (nI v_h)]) (wc := []) (cc := cX7_in) (maxL := 3) (ret := (some .boolean)) (Qc := fun _ A => va_Qi (S := Unit) (fun (r : Int32) (_ : Unit) => (r = nI 1 ∧ False) ∨ (r = nI 0 ∧ True)) (Aft D (fun (u : Unit) => []) A) A) (by decide) rfl (Nat.le_of_ble_eq_true rfl) ?_
  intro p e s m below meth c A H locs ⟨hx, hb, hr, hml, hown, hts, hlk, hnm⟩ hK hP hD hS hA ls hl
  have hl : lv_has ls 3 [(0, .int (-1)), (1, .int (nI v_l)), (2, .int (nI v_h))] := hl
  have hown : s.vm.findClass RX7 = some m.cls := hown
  refine lv_iload_n hx hb dX7_in_0 rfl (lv_at hl 0 rfl) ?_
  refine lv_iload_n hx hb dX7_in_1 rfl (lv_at hl 1 rfl) ?_
  refine lv_icmp_lt (tgt := 14) hx hb dX7_in_2 (by decide) (fun hq1 => ?_) (fun hq1 => ?_)
  · skip
    refine lv_iconst (v := nI 0) hx hb dX7_in_14 (by decide) ?_
    exact en_z hx hb hr hlk hP hD hS () [] (by decide) rfl (Nat.le_of_ble_eq_true rfl) (Nat.le_of_ble_eq_true rfl) dX7_in_15 rfl (Or.inr ⟨rfl, trivial⟩)
  · skip
    refine lv_iload_n hx hb dX7_in_5 rfl (lv_at hl 0 rfl) ?_
    refine lv_iload_n hx hb dX7_in_6 rfl (lv_at hl 2 rfl) ?_
    refine lv_icmp_gt (tgt := 14) hx hb dX7_in_7 (by decide) (fun hq2 => ?_) (fun hq2 => ?_)
    · skip
      refine lv_iconst (v := nI 0) hx hb dX7_in_14 (by decide) ?_
      exact en_z hx hb hr hlk hP hD hS () [] (by decide) rfl (Nat.le_of_ble_eq_true rfl) (Nat.le_of_ble_eq_true rfl) dX7_in_15 rfl (Or.inr ⟨rfl, trivial⟩)
    · skip
      refine lv_iconst (v := nI 1) hx hb dX7_in_10 (by decide) ?_
      refine lv_goto (tgt := 15) hx hb dX7_in_11 (by decide) ?_
      exact en_z hx hb hr hlk hP hD hS () [] (by decide) rfl (Nat.le_of_ble_eq_true rfl) (Nat.le_of_ble_eq_true rfl) dX7_in_15 rfl (Or.inl ⟨rfl, absurd (show (-1 : Int32) < nI v_l by rw [ic_toInt_lt, ic_m1, nI_toInt (by omega)]; omega) hq1⟩)
set_option maxHeartbeats 4000000 in
set_option maxRecDepth 100000 in
theorem g_inG (l : Launch) (D : va_G) (cI cB cZ cN : ClassId) (v_a : Int32)  : Ci (S := Unit) l D cI cB cZ cN yX7_in wsX7_in ({ frames := 0, cells := 0, slots := 0, locals := 0 } : Room) [.int v_a, .int (-1), .int (nI 4)] [] (fun (r : Int32) (_ : Unit) => (r = nI 1 ∧ (v_a = -1 ∨ inN v_a 5)) ∨ (r = nI 0 ∧ ¬ (v_a = -1 ∨ inN v_a 5))) (fun u => []) := by
  refine bx_of (D := D) (cI := cI) (cB := cB) (cZ := cZ) (cN := cN) (y := yX7_in) (wd := wsX7_in) (rm := ({ frames := 0, cells := 0, slots := 0, locals := 0 } : Room)) (av := [.int v_a, .int (-1), .int (nI 4)]) (wc := []) (cc := cX7_in) (maxL := 3) (ret := (some .boolean)) (Qc := fun _ A => va_Qi (S := Unit) (fun (r : Int32) (_ : Unit) => (r = nI 1 ∧ (v_a = -1 ∨ inN v_a 5)) ∨ (r = nI 0 ∧ ¬ (v_a = -1 ∨ inN v_a 5))) (Aft D (fun (u : Unit) => []) A) A) (by decide) rfl (Nat.le_of_ble_eq_true rfl) ?_
  intro p e s m below meth c A H locs ⟨hx, hb, hr, hml, hown, hts, hlk, hnm⟩ hK hP hD hS hA ls hl
  have hl : lv_has ls 3 [(0, .int v_a), (1, .int (-1)), (2, .int (nI 4))] := hl
  have hown : s.vm.findClass RX7 = some m.cls := hown
  refine lv_iload_n hx hb dX7_in_0 rfl (lv_at hl 0 rfl) ?_
  refine lv_iload_n hx hb dX7_in_1 rfl (lv_at hl 1 rfl) ?_
  refine lv_icmp_lt (tgt := 14) hx hb dX7_in_2 (by decide) (fun hq1 => ?_) (fun hq1 => ?_)
  · skip
    refine lv_iconst (v := nI 0) hx hb dX7_in_14 (by decide) ?_
    exact en_z hx hb hr hlk hP hD hS () [] (by decide) rfl (Nat.le_of_ble_eq_true rfl) (Nat.le_of_ble_eq_true rfl) dX7_in_15 rfl (Or.inr ⟨rfl, in_G0 hq1⟩)
  · skip
    refine lv_iload_n hx hb dX7_in_5 rfl (lv_at hl 0 rfl) ?_
    refine lv_iload_n hx hb dX7_in_6 rfl (lv_at hl 2 rfl) ?_
    refine lv_icmp_gt (tgt := 14) hx hb dX7_in_7 (by decide) (fun hq2 => ?_) (fun hq2 => ?_)
    · skip
      refine lv_iconst (v := nI 0) hx hb dX7_in_14 (by decide) ?_
      exact en_z hx hb hr hlk hP hD hS () [] (by decide) rfl (Nat.le_of_ble_eq_true rfl) (Nat.le_of_ble_eq_true rfl) dX7_in_15 rfl (Or.inr ⟨rfl, in_G2 hq2⟩)
    · skip
      refine lv_iconst (v := nI 1) hx hb dX7_in_10 (by decide) ?_
      refine lv_goto (tgt := 15) hx hb dX7_in_11 (by decide) ?_
      exact en_z hx hb hr hlk hP hD hS () [] (by decide) rfl (Nat.le_of_ble_eq_true rfl) (Nat.le_of_ble_eq_true rfl) dX7_in_15 rfl (Or.inl ⟨rfl, in_G1 hq1 hq2⟩)
