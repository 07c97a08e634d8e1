/-! the odds: the sum of the chances of the sets without which the world still pays -/
def odF (p : Nat → Nat) (x n : Nat) : Nat → Nat := fun l => if p l = 0 then 0 else chN l x n
def odN (p : Nat → Nat) (x n : Nat) : Nat := sumN (odF p x n) (2 ^ n)
def odR (p : Nat → Nat) (x n w : Nat) : Nat := (if w = 0 then odN p x n else 10 ^ n) / Nat.gcd (odN p x n) (10 ^ n)
theorem gcd_st (a b : Nat) : Nat.gcd b (a % b) = Nat.gcd a b := by rw [Nat.gcd_comm b (a % b), ← Nat.gcd_rec, Nat.gcd_comm]
/-- Euclid, i steps: the product halves at each step but the first -/
def GC (a b i : Nat) (z : Nat × Nat) : Prop := Nat.gcd z.1 z.2 = Nat.gcd a b ∧ z.1 ≤ 64000000 ∧ z.2 ≤ 64000000 ∧ (i = 0 ∨ (z.2 < z.1 ∧ z.1 * z.2 * 2 ^ (i - 1) ≤ 64000000 * 64000000))
theorem gc_0 {a b : Nat} (h1 : a ≤ 64000000) (h2 : b ≤ 64000000) : GC a b 0 (a, b) := ⟨rfl, h1, h2, Or.inl rfl⟩
theorem gc_s {a b i : Nat} {z : Nat × Nat} (h : GC a b i z) (h0 : 0 < z.2) : GC a b (i + 1) (z.2, z.1 % z.2) := by
  obtain ⟨z1, z2⟩ := z
  obtain ⟨g, b1, b2, c⟩ := h
  have g : Nat.gcd z1 z2 = Nat.gcd a b := g
  have b1 : z1 ≤ 64000000 := b1
  have b2 : z2 ≤ 64000000 := b2
  have h0 : 0 < z2 := h0
  have hl : z1 % z2 < z2 := Nat.mod_lt _ h0
  refine ⟨(gcd_st z1 z2).trans g, b2, by show z1 % z2 ≤ _; omega, Or.inr ⟨hl, ?_⟩⟩
  show z2 * (z1 % z2) * 2 ^ i ≤ _
  rcases c with c | ⟨c1, c2⟩
  · subst c
    rw [Nat.pow_zero, Nat.mul_one]
    exact Nat.mul_le_mul b2 (by omega)
  · have c1 : z2 < z1 := c1
    have c2 : z1 * z2 * 2 ^ (i - 1) ≤ 64000000 * 64000000 := c2
    rcases i with _ | i
    · rw [Nat.pow_zero, Nat.mul_one]
      exact Nat.mul_le_mul b2 (by omega)
    · rw [Nat.add_sub_cancel] at c2
      have hd := Nat.div_add_mod z1 z2
      have hq : 1 ≤ z1 / z2 := (Nat.le_div_iff_mul_le h0).mpr (by omega)
      have hm : z2 * 1 ≤ z2 * (z1 / z2) := Nat.mul_le_mul_left z2 hq
      have h2 : z1 % z2 * 2 ≤ z1 := by omega
      refine Nat.le_trans ?_ c2
      rw [Nat.pow_succ, Nat.mul_comm (2 ^ i) 2, ← Nat.mul_assoc]
      refine Nat.mul_le_mul_right _ ?_
      rw [Nat.mul_assoc, Nat.mul_comm z1 z2]
      exact Nat.mul_le_mul_left z2 h2
theorem gc_z {a b i : Nat} {z : Nat × Nat} (h : GC a b i z) (h0 : z.2 = 0) : z.1 = Nat.gcd a b := by
  have g := h.1
  rw [h0, Nat.gcd_zero_right] at g
  exact g
theorem gc_e {a b : Nat} {z : Nat × Nat} (h : GC a b 64 z) : z.1 = Nat.gcd a b := by
  refine gc_z h ?_
  obtain ⟨_, _, _, c⟩ := h
  rcases c with c | ⟨c1, c2⟩
  · exact absurd c (by decide)
  · rcases Nat.eq_zero_or_pos z.2 with q | q
    · exact q
    · have h1 : 1 * 1 ≤ z.1 * z.2 := Nat.mul_le_mul (by omega) q
      have h2 := Nat.mul_le_mul_right (2 ^ (64 - 1)) h1
      have h3 := Nat.le_trans h2 c2
      exact absurd h3 (by decide)

set_option maxHeartbeats 4000000 in
set_option maxRecDepth 100000 in
theorem g_oddsUpperE (l : Launch) (D : va_G) (cI cB cZ cN : ClassId) (Wh : Nat) (Wa0 : Nat) (Wa1 : Nat) (WS : Nat → Nat → Nat) (v_x : Nat) (hW : WorldOk WS) (hx0 : v_x ≤ 10) (hw1 : ∀ c, c < WS 2 0 → 1 ≤ WS 1 c ∧ WS 1 c ≤ 9) : Ci (S := Unit) l D cI cB cZ cN yX5_oddsUpper wsX5_oddsUpper ({ frames := 1, cells := 0, slots := 0, locals := 26 } : Room) [.ref Wh, .int (nI v_x)] [(Wh, .inr (5, [.ref Wa0, .ref Wa1, .int (nI (WS 2 0)), .int (nI (WS 3 0))])), (Wa0, .inl (cI, 6, .inl (nF (WS 0)))), (Wa1, .inl (cI, 6, .inl (nF (WS 1))))] (fun (r : Int32) (_ : Unit) => r = nI (odN (pW WS) v_x (WS 2 0)) ∧ odN (pW WS) v_x (WS 2 0) ≤ 64000000) (fun u => [(Wh, .inr (5, [.ref Wa0, .ref Wa1, .int (nI (WS 2 0)), .int (nI (WS 3 0))])), (Wa0, .inl (cI, 6, .inl (nF (WS 0)))), (Wa1, .inl (cI, 6, .inl (nF (WS 1))))]) := by
  refine bx_of (D := D) (cI := cI) (cB := cB) (cZ := cZ) (cN := cN) (y := yX5_oddsUpper) (wd := wsX5_oddsUpper) (rm := ({ frames := 1, cells := 0, slots := 0, locals := 26 } : Room)) (av := [.ref Wh, .int (nI v_x)]) (wc := [(Wh, .inr (5, [.ref Wa0, .ref Wa1, .int (nI (WS 2 0)), .int (nI (WS 3 0))])), (Wa0, .inl (cI, 6, .inl (nF (WS 0)))), (Wa1, .inl (cI, 6, .inl (nF (WS 1))))]) (cc := cX5_oddsUpper) (maxL := 4) (ret := (some .int)) (Qc := fun _ A => va_Qi (S := Unit) (fun (r : Int32) (_ : Unit) => r = nI (odN (pW WS) v_x (WS 2 0)) ∧ odN (pW WS) v_x (WS 2 0) ≤ 64000000) (Aft D (fun (u : Unit) => [(Wh, .inr (5, [.ref Wa0, .ref Wa1, .int (nI (WS 2 0)), .int (nI (WS 3 0))])), (Wa0, .inl (cI, 6, .inl (nF (WS 0)))), (Wa1, .inl (cI, 6, .inl (nF (WS 1))))]) A) A) (by decide) rfl (Nat.le_of_ble_eq_true rfl) ?_
  intro p e s m below meth c A H locs ⟨hx, hb, hr, hml, hown, hts, hlk, hnm⟩ hK hP hD hS hA ls hl
  have hl : lv_has ls 4 [(0, .ref Wh), (1, .int (nI v_x))] := hl
  have hown : s.vm.findClass RX5 = some m.cls := hown
  obtain ⟨bw2, bw3, bw0, bw1⟩ := hW
  have hW0 : WorldOk WS := ⟨bw2, bw3, bw0, bw1⟩
  have bp6 := pw6 bw2
  refine lv_iconst (v := nI 0) hx hb dX5_oddsUpper_0 (by decide) ?_
  refine lv_istore_n (lv' := [(2, .int (nI 0)), (0, .ref Wh), (1, .int (nI v_x))]) hx hb dX5_oddsUpper_1 rfl hl (by decide) rfl (fun ls hl => ?_)
  refine lv_iconst (v := nI 0) hx hb dX5_oddsUpper_2 (by decide) ?_
  refine lv_istore_n (lv' := [(3, .int (nI 0)), (2, .int (nI 0)), (0, .ref Wh), (1, .int (nI v_x))]) hx hb dX5_oddsUpper_3 rfl hl (by decide) rfl (fun ls hl => ?_)
  refine loopS (σ := Nat) (D := D) (A := A) (fun i1 z1 => z1 = sumN (odF (pW WS) v_x (WS 2 0)) i1 ∧ z1 ≤ 1000000 * i1) (fun i1 z1 => [(Wh, .inr (5, [.ref Wa0, .ref Wa1, .int (nI (WS 2 0)), .int (nI (WS 3 0))])), (Wa0, .inl (cI, 6, .inl (nF (WS 0)))), (Wa1, .inl (cI, 6, .inl (nF (WS 1))))]) (fun i1 z1 => [(0, .ref Wh), (1, .int (nI v_x)), (2, .int (nI z1)), (3, .int (nI i1))]) 4 4 (2 ^ (WS 2 0)) 0 (Nat.zero_le _) ?_ ?_ 0 ⟨rfl, Nat.zero_le _⟩ _ _ ls (by first | exact hP) (by first | exact hD) hS (lv_sub hl [2, 3, 1, 0] rfl)
  · intro z1 hI1 H locs ls hP hD hS hl
    have hl : lv_has ls 4 [(0, .ref Wh), (1, .int (nI v_x)), (2, .int (nI z1)), (3, .int (nI (2 ^ (WS 2 0))))] := hl
    have hz2 := hI1.2
    obtain ⟨hP, hD⟩ : wPD D A [(Wh, .inr (5, [.ref Wa0, .ref Wa1, .int (nI (WS 2 0)), .int (nI (WS 3 0))])), (Wa0, .inl (cI, 6, .inl (nF (WS 0)))), (Wa1, .inl (cI, 6, .inl (nF (WS 1))))] H := ⟨hP, hD⟩
    refine lv_iload_n hx hb dX5_oddsUpper_4 rfl (lv_at hl 3 rfl) ?_
    refine lv_iconst (v := nI 1) hx hb dX5_oddsUpper_5 (by decide) ?_
    refine lv_aload_n hx hb dX5_oddsUpper_6 rfl (lv_at hl 0 rfl) ?_
    refine va_get (D := D) (ci := 5) (v := .int (nI (WS 2 0))) (C := RX5) (T := TX5) (N := 4) hx hb hts in_X5_oddsUpper_5 hown hK.1 hP 0 rfl rfl 2 (by decide) (hts (.fieldLink RX5 18 "ChildCoins$World" "coins" "I") (List.mem_of_getElem? (i := 1) rfl)) (fun _ h9 => h9) rfl dX5_oddsUpper_7 ?_
    refine lv_ishl hx hb dX5_oddsUpper_10 ?_
    refine set_i (y := nI (2 ^ (WS 2 0))) (shl_1 (by omega)) ?_
    refine nb_icmp_ge (tgt := 37) hx hb dX5_oddsUpper_11 (by decide) (by omega) (by omega) (fun hq1 => ?_) (fun hq1 => absurd hq1 (by omega))
    refine lv_iload_n hx hb dX5_oddsUpper_37 rfl (lv_at hl 2 rfl) ?_
    exact en_i hx hb hr hlk hP hD hS () [0, 1, 2] (by decide) rfl (Nat.le_of_ble_eq_true rfl) (Nat.le_of_ble_eq_true rfl) dX5_oddsUpper_38 ⟨congrArg nI hI1.1, (by unfold odN; rw [← hI1.1]; omega)⟩
  · intro i1 hi01 hi1 z1 hI1 ih1 H locs ls hP hD hS hl
    have hl : lv_has ls 4 [(0, .ref Wh), (1, .int (nI v_x)), (2, .int (nI z1)), (3, .int (nI i1))] := hl
    have hz2 := hI1.2
    obtain ⟨hP, hD⟩ : wPD D A [(Wh, .inr (5, [.ref Wa0, .ref Wa1, .int (nI (WS 2 0)), .int (nI (WS 3 0))])), (Wa0, .inl (cI, 6, .inl (nF (WS 0)))), (Wa1, .inl (cI, 6, .inl (nF (WS 1))))] H := ⟨hP, hD⟩
    refine lv_iload_n hx hb dX5_oddsUpper_4 rfl (lv_at hl 3 rfl) ?_
    refine lv_iconst (v := nI 1) hx hb dX5_oddsUpper_5 (by decide) ?_
    refine lv_aload_n hx hb dX5_oddsUpper_6 rfl (lv_at hl 0 rfl) ?_
    refine va_get (D := D) (ci := 5) (v := .int (nI (WS 2 0))) (C := RX5) (T := TX5) (N := 4) hx hb hts in_X5_oddsUpper_5 hown hK.1 hP 0 rfl rfl 2 (by decide) (hts (.fieldLink RX5 18 "ChildCoins$World" "coins" "I") (List.mem_of_getElem? (i := 1) rfl)) (fun _ h9 => h9) rfl dX5_oddsUpper_7 ?_
    refine lv_ishl hx hb dX5_oddsUpper_10 ?_
    refine set_i (y := nI (2 ^ (WS 2 0))) (shl_1 (by omega)) ?_
    refine nb_icmp_ge (tgt := 37) hx hb dX5_oddsUpper_11 (by decide) (by omega) (by omega) (fun hq2 => absurd hq2 (by omega)) (fun hq2 => ?_)
    refine lv_aload_n hx hb dX5_oddsUpper_14 rfl (lv_at hl 0 rfl) ?_
    refine lv_iload_n hx hb dX5_oddsUpper_15 rfl (lv_at hl 3 rfl) ?_
    refine be_i0 (ru_V (As := [.int (nI i1)]) (rest := []) ⟨hx, hb, hml, hown, hts⟩ (g_paysWithoutE l D cI cB cZ cN Wh Wa0 Wa1 WS i1 hW0 (by omega) hw1 H.size) gX5_oddsUpper_X5_paysWithout rfl ⟨rfl, by decide, by decide, (show Option.map (fun d => d.parameters.length) (parseMethodDescriptor yX5_paysWithout.desc) = some 1 by decide +kernel)⟩ ⟨Nat.le_of_ble_eq_true rfl, Nat.le_of_ble_eq_true rfl⟩ hK hP hD 5 0 rfl rfl [0, 1, 2] (by decide) rfl hl.1 rfl (Nat.le_of_ble_eq_true rfl) dX5_oddsUpper_16 ⟨Nat.le_of_ble_eq_true rfl, Nat.le_of_ble_eq_true rfl⟩) hP hD hS hA [0, 1, 2] rfl (fun r4 u3 H locs w5 hP hS => ?_)
    rcases w5 with ⟨rfl, hq6⟩ | ⟨rfl, hq6⟩
    · skip
      refine nb_if_eq (tgt := 31) hx hb dX5_oddsUpper_19 (by decide) (by omega) (fun hq7 => absurd hq7 (by omega)) (fun hq7 => ?_)
      refine lv_iload_n hx hb dX5_oddsUpper_22 rfl (lv_at hl 2 rfl) ?_
      refine lv_aload_n hx hb dX5_oddsUpper_23 rfl (lv_at hl 0 rfl) ?_
      refine lv_iload_n hx hb dX5_oddsUpper_24 rfl (lv_at hl 3 rfl) ?_
      refine lv_iload_n hx hb dX5_oddsUpper_25 rfl (lv_at hl 1 rfl) ?_
      refine be_i0 (ru_V (As := [.int (nI i1), .int (nI v_x)]) (rest := [.int (nI z1)]) ⟨hx, hb, hml, hown, hts⟩ (g_chance l D cI cB cZ cN Wh Wa0 Wa1 WS i1 v_x hW0 (by omega) hx0 H.size) gX5_oddsUpper_X5_chance rfl ⟨rfl, by decide, by decide, (show Option.map (fun d => d.parameters.length) (parseMethodDescriptor yX5_chance.desc) = some 2 by decide +kernel)⟩ ⟨Nat.le_of_ble_eq_true rfl, Nat.le_of_ble_eq_true rfl⟩ hK hP hD 5 0 rfl rfl [0, 1, 2] (by decide) rfl hl.1 rfl (Nat.le_of_ble_eq_true rfl) dX5_oddsUpper_26 ⟨Nat.le_of_ble_eq_true rfl, Nat.le_of_ble_eq_true rfl⟩) hP hD hS hA [0, 1, 2] rfl (fun r9 u8 H locs w10 hP hS => ?_)
      obtain rfl : r9 = nI (chN i1 v_x (WS 2 0)) := w10
      have b11 := Nat.le_trans (chN_le (lost := i1) hx0 (WS 2 0)) (p10 bw2)
      refine lv_iadd hx hb dX5_oddsUpper_29 ?_
      refine set_i (y := nI (z1 + (chN i1 v_x (WS 2 0)))) (nI_add z1 (chN i1 v_x (WS 2 0))) ?_
      refine lv_istore_n (lv' := [(2, .int (nI (z1 + (chN i1 v_x (WS 2 0))))), (0, .ref Wh), (1, .int (nI v_x)), (3, .int (nI i1))]) hx hb dX5_oddsUpper_30 rfl hl (by decide) rfl (fun ls hl => ?_)
      refine lv_iinc (v := nI (i1 + 1)) (lv' := [(3, .int (nI (i1 + 1))), (2, .int (nI (z1 + (chN i1 v_x (WS 2 0))))), (0, .ref Wh), (1, .int (nI v_x))]) hx hb dX5_oddsUpper_31 hl (k := 3) rfl (nI_add i1 1) (by decide) rfl (fun ls hl => ?_)
      refine lv_goto (tgt := 4) hx hb dX5_oddsUpper_34 (by decide) ?_
      have hl : lv_has ls 4 [(0, .ref Wh), (1, .int (nI v_x)), (2, .int (nI (z1 + (chN i1 v_x (WS 2 0))))), (3, .int (nI (i1 + 1)))] := lv_sub hl [2, 3, 1, 0] rfl
      exact ih1 (z1 + (chN i1 v_x (WS 2 0))) ⟨(by rw [hI1.1]; exact sumN_v (f := (odF (pW WS) v_x (WS 2 0))) (if_neg (show ¬ pW WS i1 = 0 by rw [show pW WS i1 = 1 from iP_1 hq6]; decide))), by omega⟩ _ _ _ hP hD hS hl
    · skip
      refine nb_if_eq (tgt := 31) hx hb dX5_oddsUpper_19 (by decide) (by omega) (fun hq12 => ?_) (fun hq12 => absurd hq12 (by omega))
      refine lv_iinc (v := nI (i1 + 1)) (lv' := [(3, .int (nI (i1 + 1))), (0, .ref Wh), (1, .int (nI v_x)), (2, .int (nI z1))]) hx hb dX5_oddsUpper_31 hl (k := 3) rfl (nI_add i1 1) (by decide) rfl (fun ls hl => ?_)
      refine lv_goto (tgt := 4) hx hb dX5_oddsUpper_34 (by decide) ?_
      have hl : lv_has ls 4 [(0, .ref Wh), (1, .int (nI v_x)), (2, .int (nI z1)), (3, .int (nI (i1 + 1)))] := lv_sub hl [1, 2, 3, 0] rfl
      exact ih1 z1 ⟨hI1.1.trans (sumN_0 (f := (odF (pW WS) v_x (WS 2 0))) (if_pos (show pW WS i1 = 0 from iP_0 hq6))), by omega⟩ _ _ _ hP hD hS hl
set_option maxHeartbeats 4000000 in
set_option maxRecDepth 100000 in
theorem g_commonDivisorE (l : Launch) (D : va_G) (cI cB cZ cN : ClassId) (v_x : Nat) (v_y : Nat) (hx0 : v_x ≤ 64000000) (hy0 : v_y ≤ 64000000) : Ci (S := Unit) l D cI cB cZ cN yX6_commonDivisor wsX6_commonDivisor ({ frames := 0, cells := 0, slots := 0, locals := 0 } : Room) [.int (nI v_x), .int (nI v_y)] [] (fun (r : Int32) (_ : Unit) => r = nI (Nat.gcd v_x v_y)) (fun u => []) := by
  refine bx_of (D := D) (cI := cI) (cB := cB) (cZ := cZ) (cN := cN) (y := yX6_commonDivisor) (wd := wsX6_commonDivisor) (rm := ({ frames := 0, cells := 0, slots := 0, locals := 0 } : Room)) (av := [.int (nI v_x), .int (nI v_y)]) (wc := []) (cc := cX6_commonDivisor) (maxL := 6) (ret := (some .int)) (Qc := fun _ A => va_Qi (S := Unit) (fun (r : Int32) (_ : Unit) => r = nI (Nat.gcd v_x v_y)) (Aft D (fun (u : Unit) => []) A) A) (by decide) rfl (Nat.le_of_ble_eq_true rfl) ?_
  intro p e s m below meth c A H locs ⟨hx, hb, hr, hml, hown, hts, hlk, hnm⟩ hK hP hD hS hA ls hl
  have hl : lv_has ls 6 [(0, .int (nI v_x)), (1, .int (nI v_y))] := hl
  have hown : s.vm.findClass RX6 = some m.cls := hown
  refine lv_iload_n hx hb dX6_commonDivisor_0 rfl (lv_at hl 0 rfl) ?_
  refine lv_istore_n (lv' := [(2, .int (nI v_x)), (0, .int (nI v_x)), (1, .int (nI v_y))]) hx hb dX6_commonDivisor_1 rfl hl (by decide) rfl (fun ls hl => ?_)
  refine lv_iload_n hx hb dX6_commonDivisor_2 rfl (lv_at hl 2 rfl) ?_
  refine lv_istore_n (lv' := [(3, .int (nI v_y)), (2, .int (nI v_x)), (0, .int (nI v_x)), (1, .int (nI v_y))]) hx hb dX6_commonDivisor_3 rfl hl (by decide) rfl (fun ls hl => ?_)
  refine lv_iconst (v := nI 0) hx hb dX6_commonDivisor_4 (by decide) ?_
  refine lv_istore (lv' := [(4, .int (nI 0)), (3, .int (nI v_y)), (2, .int (nI v_x)), (0, .int (nI v_x)), (1, .int (nI v_y))]) hx hb dX6_commonDivisor_5 hl (by decide) rfl (fun ls hl => ?_)
  refine loopS (σ := Nat × Nat) (D := D) (A := A) (fun i1 z1 => GC v_x v_y i1 z1) (fun i1 z1 => []) (fun i1 z1 => [(0, .int (nI v_x)), (1, .int (nI v_y)), (2, .int (nI z1.1)), (3, .int (nI z1.2)), (4, .int (nI i1))]) 7 6 64 0 (Nat.zero_le _) ?_ ?_ (v_x, v_y) (gc_0 hx0 hy0) _ _ ls (by first | exact hP) (by first | exact hD) hS (lv_sub hl [3, 4, 2, 1, 0] rfl)
  · intro z1 hI1 H locs ls hP hD hS hl
    have hl : lv_has ls 6 [(0, .int (nI v_x)), (1, .int (nI v_y)), (2, .int (nI z1.1)), (3, .int (nI z1.2)), (4, .int (nI 64))] := hl
    have hr1 := hI1.2.1
    have hr2 := hI1.2.2.1
    obtain ⟨hP, hD⟩ : wPD D A [] H := ⟨hP, hD⟩
    refine lv_iload hx hb dX6_commonDivisor_7 (lv_at hl 4 rfl) ?_
    refine lv_bipush (v := nI 64) hx hb dX6_commonDivisor_9 (by decide) ?_
    refine nb_icmp_ge (tgt := 34) hx hb dX6_commonDivisor_11 (by decide) (by omega) (by omega) (fun hq1 => ?_) (fun hq1 => absurd hq1 (by omega))
    refine lv_iload_n hx hb dX6_commonDivisor_34 rfl (lv_at hl 2 rfl) ?_
    exact en_i hx hb hr hlk hP hD hS () [] (by decide) rfl (Nat.le_of_ble_eq_true rfl) (Nat.le_of_ble_eq_true rfl) dX6_commonDivisor_35 (congrArg nI (gc_e hI1))
  · intro i1 hi01 hi1 z1 hI1 ih1 H locs ls hP hD hS hl
    have hl : lv_has ls 6 [(0, .int (nI v_x)), (1, .int (nI v_y)), (2, .int (nI z1.1)), (3, .int (nI z1.2)), (4, .int (nI i1))] := hl
    have hr1 := hI1.2.1
    have hr2 := hI1.2.2.1
    obtain ⟨hP, hD⟩ : wPD D A [] H := ⟨hP, hD⟩
    refine lv_iload hx hb dX6_commonDivisor_7 (lv_at hl 4 rfl) ?_
    refine lv_bipush (v := nI 64) hx hb dX6_commonDivisor_9 (by decide) ?_
    refine nb_icmp_ge (tgt := 34) hx hb dX6_commonDivisor_11 (by decide) (by omega) (by omega) (fun hq2 => absurd hq2 (by omega)) (fun hq2 => ?_)
    refine lv_iload_n hx hb dX6_commonDivisor_14 rfl (lv_at hl 3 rfl) ?_
    refine nb_if_eq (tgt := 34) hx hb dX6_commonDivisor_15 (by decide) (by omega) (fun hq3 => ?_) (fun hq3 => ?_)
    · skip
      refine lv_iload_n hx hb dX6_commonDivisor_34 rfl (lv_at hl 2 rfl) ?_
      exact en_i hx hb hr hlk hP hD hS () [] (by decide) rfl (Nat.le_of_ble_eq_true rfl) (Nat.le_of_ble_eq_true rfl) dX6_commonDivisor_35 (congrArg nI (gc_z hI1 (by omega)))
    · skip
      refine lv_iload_n hx hb dX6_commonDivisor_18 rfl (lv_at hl 2 rfl) ?_
      refine lv_iload_n hx hb dX6_commonDivisor_19 rfl (lv_at hl 3 rfl) ?_
      refine lv_irem hx hb dX6_commonDivisor_20 (nI_ne0 (by omega) (by omega)) ?_
      refine set_i (y := nI (z1.1 % z1.2)) (pk_rem (by omega) (by omega) (by omega)) ?_
      refine lv_istore (lv' := [(5, .int (nI (z1.1 % z1.2))), (0, .int (nI v_x)), (1, .int (nI v_y)), (2, .int (nI z1.1)), (3, .int (nI z1.2)), (4, .int (nI i1))]) hx hb dX6_commonDivisor_21 hl (by decide) rfl (fun ls hl => ?_)
      refine lv_iload_n hx hb dX6_commonDivisor_23 rfl (lv_at hl 4 rfl) ?_
      refine lv_istore_n (lv' := [(2, .int (nI z1.2)), (5, .int (nI (z1.1 % z1.2))), (0, .int (nI v_x)), (1, .int (nI v_y)), (3, .int (nI z1.2)), (4, .int (nI i1))]) hx hb dX6_commonDivisor_24 rfl hl (by decide) rfl (fun ls hl => ?_)
      refine lv_iload hx hb dX6_commonDivisor_25 (lv_at hl 1 rfl) ?_
      refine lv_istore_n (lv' := [(3, .int (nI (z1.1 % z1.2))), (2, .int (nI z1.2)), (5, .int (nI (z1.1 % z1.2))), (0, .int (nI v_x)), (1, .int (nI v_y)), (4, .int (nI i1))]) hx hb dX6_commonDivisor_27 rfl hl (by decide) rfl (fun ls hl => ?_)
      refine lv_iinc (v := nI (i1 + 1)) (lv' := [(4, .int (nI (i1 + 1))), (3, .int (nI (z1.1 % z1.2))), (2, .int (nI z1.2)), (5, .int (nI (z1.1 % z1.2))), (0, .int (nI v_x)), (1, .int (nI v_y))]) hx hb dX6_commonDivisor_28 hl (k := 5) rfl (nI_add i1 1) (by decide) rfl (fun ls hl => ?_)
      refine lv_goto (tgt := 7) hx hb dX6_commonDivisor_31 (by decide) ?_
      have hl : lv_has ls 6 [(0, .int (nI v_x)), (1, .int (nI v_y)), (2, .int (nI z1.2)), (3, .int (nI (z1.1 % z1.2))), (4, .int (nI (i1 + 1)))] := lv_sub hl [4, 5, 2, 1, 0] rfl
      exact ih1 (z1.2, z1.1 % z1.2) (gc_s hI1 (by omega)) _ _ _ hP hD hS hl
set_option maxHeartbeats 4000000 in
set_option maxRecDepth 100000 in
theorem g_oddsE (l : Launch) (D : va_G) (cI cB cZ cN : ClassId) (Xh : Nat) (Xa6 : Nat) (Xa11 : Nat) (Th : Nat) (Rh : Nat) (Mh : Nat) (Yh : Nat) (Qh : Nat) (Xt : Int64) (Ih : Nat) (Jh : Nat) (XS : Nat → Nat → Nat) (Lh : Nat) (La1 : Nat) (La2 : Nat) (La4 : Nat) (La5 : Nat) (La7 : Nat) (La8 : Nat) (La9 : Nat) (LS : Nat → Nat → Nat) (Nh : Nat) (Na0 : Nat) (Na1 : Nat) (NS : Nat → Nat → Nat) (Wh : Nat) (Wa0 : Nat) (Wa1 : Nat) (WS : Nat → Nat → Nat) (v_d : Int32) (v_x : Int32) (v_w : Int32) (hL : LandOk LS) (hN : NowOk NS) (hW : WorldOk WS) (hw9 : ∀ c, c < LS 0 0 → 1 ≤ LS 2 c ∧ LS 2 c ≤ 9) : Ci (S := (Nat → Nat → Nat)) l D cI cB cZ cN yX6_odds wsX6_odds ({ frames := 3, cells := 0, slots := 0, locals := 70 } : Room) [.ref Xh, .int v_d, .int v_x, .int v_w] [(Xh, .inr (6, [.ref Th, .int (nI (XS 1 0)), .ref Rh, .ref Lh, .ref Mh, .ref Nh, .ref Xa6, .int (nI (XS 7 0)), .ref Yh, .ref Wh, .ref Qh, .ref Xa11, .int (nI (XS 12 0)), .long Xt])), (Xa6, .inl (cN, 2, .inr (.inr (.inr (.inr (va_up (va_up (fun _ => none) 0 (some Ih)) 1 (some Jh))))))), (Xa11, .inl (cI, 6, .inl (nF (XS 11)))), (Lh, .inr (0, [.int (nI (LS 0 0)), .ref La1, .ref La2, .int (nI (LS 3 0)), .ref La4, .ref La5, .int (nI (LS 6 0)), .ref La7, .ref La8, .ref La9, .int (nI (LS 10 0)), .int (nI (LS 11 0))])), (La1, .inl (cI, 6, .inl (nF (LS 1)))), (La2, .inl (cI, 6, .inl (nF (LS 2)))), (La4, .inl (cI, 5, .inl (nF (LS 4)))), (La5, .inl (cI, 30, .inl (nF (LS 5)))), (La7, .inl (cI, 5, .inl (nF (LS 7)))), (La8, .inl (cI, 5, .inl (nF (LS 8)))), (La9, .inl (cI, 5, .inl (nF (LS 9)))), (Nh, .inr (1, [.ref Na0, .ref Na1, .int (nI (NS 2 0))])), (Na0, .inl (cI, 36, .inl (nF (NS 0)))), (Na1, .inl (cI, 360, .inl (nF (NS 1)))), (Wh, .inr (5, [.ref Wa0, .ref Wa1, .int (nI (WS 2 0)), .int (nI (WS 3 0))])), (Wa0, .inl (cI, 6, .inl (nF (WS 0)))), (Wa1, .inl (cI, 6, .inl (nF (WS 1))))] (fun (r : Int32) (u : (Nat → Nat → Nat)) => WorldOk u ∧ ((¬ (inN v_d (LS 6 0) ∧ inN v_x 11 ∧ inN v_w 2) ∧ r = -1) ∨ (∃ d x w, d < LS 6 0 ∧ x < 11 ∧ w < 2 ∧ v_d = nI d ∧ v_x = nI x ∧ v_w = nI w ∧ r = nI (odR (pwX LS NS d) x (LS 0 0) w)))) (fun u => [(Xh, .inr (6, [.ref Th, .int (nI (XS 1 0)), .ref Rh, .ref Lh, .ref Mh, .ref Nh, .ref Xa6, .int (nI (XS 7 0)), .ref Yh, .ref Wh, .ref Qh, .ref Xa11, .int (nI (XS 12 0)), .long Xt])), (Xa6, .inl (cN, 2, .inr (.inr (.inr (.inr (va_up (va_up (fun _ => none) 0 (some Ih)) 1 (some Jh))))))), (Xa11, .inl (cI, 6, .inl (nF (XS 11)))), (Lh, .inr (0, [.int (nI (LS 0 0)), .ref La1, .ref La2, .int (nI (LS 3 0)), .ref La4, .ref La5, .int (nI (LS 6 0)), .ref La7, .ref La8, .ref La9, .int (nI (LS 10 0)), .int (nI (LS 11 0))])), (La1, .inl (cI, 6, .inl (nF (LS 1)))), (La2, .inl (cI, 6, .inl (nF (LS 2)))), (La4, .inl (cI, 5, .inl (nF (LS 4)))), (La5, .inl (cI, 30, .inl (nF (LS 5)))), (La7, .inl (cI, 5, .inl (nF (LS 7)))), (La8, .inl (cI, 5, .inl (nF (LS 8)))), (La9, .inl (cI, 5, .inl (nF (LS 9)))), (Nh, .inr (1, [.ref Na0, .ref Na1, .int (nI (NS 2 0))])), (Na0, .inl (cI, 36, .inl (nF (NS 0)))), (Na1, .inl (cI, 360, .inl (nF (NS 1)))), (Wh, .inr (5, [.ref Wa0, .ref Wa1, .int (nI (u 2 0)), .int (nI (u 3 0))])), (Wa0, .inl (cI, 6, .inl (nF (u 0)))), (Wa1, .inl (cI, 6, .inl (nF (u 1))))]) := by
  refine bx_of (D := D) (cI := cI) (cB := cB) (cZ := cZ) (cN := cN) (y := yX6_odds) (wd := wsX6_odds) (rm := ({ frames := 3, cells := 0, slots := 0, locals := 70 } : Room)) (av := [.ref Xh, .int v_d, .int v_x, .int v_w]) (wc := [(Xh, .inr (6, [.ref Th, .int (nI (XS 1 0)), .ref Rh, .ref Lh, .ref Mh, .ref Nh, .ref Xa6, .int (nI (XS 7 0)), .ref Yh, .ref Wh, .ref Qh, .ref Xa11, .int (nI (XS 12 0)), .long Xt])), (Xa6, .inl (cN, 2, .inr (.inr (.inr (.inr (va_up (va_up (fun _ => none) 0 (some Ih)) 1 (some Jh))))))), (Xa11, .inl (cI, 6, .inl (nF (XS 11)))), (Lh, .inr (0, [.int (nI (LS 0 0)), .ref La1, .ref La2, .int (nI (LS 3 0)), .ref La4, .ref La5, .int (nI (LS 6 0)), .ref La7, .ref La8, .ref La9, .int (nI (LS 10 0)), .int (nI (LS 11 0))])), (La1, .inl (cI, 6, .inl (nF (LS 1)))), (La2, .inl (cI, 6, .inl (nF (LS 2)))), (La4, .inl (cI, 5, .inl (nF (LS 4)))), (La5, .inl (cI, 30, .inl (nF (LS 5)))), (La7, .inl (cI, 5, .inl (nF (LS 7)))), (La8, .inl (cI, 5, .inl (nF (LS 8)))), (La9, .inl (cI, 5, .inl (nF (LS 9)))), (Nh, .inr (1, [.ref Na0, .ref Na1, .int (nI (NS 2 0))])), (Na0, .inl (cI, 36, .inl (nF (NS 0)))), (Na1, .inl (cI, 360, .inl (nF (NS 1)))), (Wh, .inr (5, [.ref Wa0, .ref Wa1, .int (nI (WS 2 0)), .int (nI (WS 3 0))])), (Wa0, .inl (cI, 6, .inl (nF (WS 0)))), (Wa1, .inl (cI, 6, .inl (nF (WS 1))))]) (cc := cX6_odds) (maxL := 7) (ret := (some .int)) (Qc := fun _ A => va_Qi (S := (Nat → Nat → Nat)) (fun (r : Int32) (u : (Nat → Nat → Nat)) => WorldOk u ∧ ((¬ (inN v_d (LS 6 0) ∧ inN v_x 11 ∧ inN v_w 2) ∧ r = -1) ∨ (∃ d x w, d < LS 6 0 ∧ x < 11 ∧ w < 2 ∧ v_d = nI d ∧ v_x = nI x ∧ v_w = nI w ∧ r = nI (odR (pwX LS NS d) x (LS 0 0) w)))) (Aft D (fun (u : (Nat → Nat → Nat)) => [(Xh, .inr (6, [.ref Th, .int (nI (XS 1 0)), .ref Rh, .ref Lh, .ref Mh, .ref Nh, .ref Xa6, .int (nI (XS 7 0)), .ref Yh, .ref Wh, .ref Qh, .ref Xa11, .int (nI (XS 12 0)), .long Xt])), (Xa6, .inl (cN, 2, .inr (.inr (.inr (.inr (va_up (va_up (fun _ => none) 0 (some Ih)) 1 (some Jh))))))), (Xa11, .inl (cI, 6, .inl (nF (XS 11)))), (Lh, .inr (0, [.int (nI (LS 0 0)), .ref La1, .ref La2, .int (nI (LS 3 0)), .ref La4, .ref La5, .int (nI (LS 6 0)), .ref La7, .ref La8, .ref La9, .int (nI (LS 10 0)), .int (nI (LS 11 0))])), (La1, .inl (cI, 6, .inl (nF (LS 1)))), (La2, .inl (cI, 6, .inl (nF (LS 2)))), (La4, .inl (cI, 5, .inl (nF (LS 4)))), (La5, .inl (cI, 30, .inl (nF (LS 5)))), (La7, .inl (cI, 5, .inl (nF (LS 7)))), (La8, .inl (cI, 5, .inl (nF (LS 8)))), (La9, .inl (cI, 5, .inl (nF (LS 9)))), (Nh, .inr (1, [.ref Na0, .ref Na1, .int (nI (NS 2 0))])), (Na0, .inl (cI, 36, .inl (nF (NS 0)))), (Na1, .inl (cI, 360, .inl (nF (NS 1)))), (Wh, .inr (5, [.ref Wa0, .ref Wa1, .int (nI (u 2 0)), .int (nI (u 3 0))])), (Wa0, .inl (cI, 6, .inl (nF (u 0)))), (Wa1, .inl (cI, 6, .inl (nF (u 1))))]) A) A) (by decide) rfl (Nat.le_of_ble_eq_true rfl) ?_
  intro p e s m below meth c A H locs ⟨hx, hb, hr, hml, hown, hts, hlk, hnm⟩ hK hP hD hS hA ls hl
  have hl : lv_has ls 7 [(0, .ref Xh), (1, .int v_d), (2, .int v_x), (3, .int v_w)] := hl
  have hown : s.vm.findClass RX6 = some m.cls := hown
  have hL0 := hL
  obtain ⟨bl0, bl3, bl6, bl10, bl11, bl1, bl2, bl4, bl5, bl7, bl8, bl9⟩ := hL
  refine lv_aload_n hx hb dX6_odds_0 rfl (lv_at hl 0 rfl) ?_
  refine va_get (D := D) (ci := 6) (v := .ref Lh) (C := RX6) (T := TX6) (N := 14) hx hb hts in_X6_odds_6 hown hK.1 hP 0 rfl rfl 3 (by decide) (hts (.fieldLink RX6 27 "ChildCoins" "ours" "LChildCoins$Land;") (List.mem_of_getElem? (i := 1) rfl)) (fun _ h9 => h9) rfl dX6_odds_1 ?_
  refine lv_iload_n hx hb dX6_odds_4 rfl (lv_at hl 1 rfl) ?_
  refine be_i0 (ru_N (C := RX0) (host := "ChildCoins") (As := [.int v_d]) (rest := []) ⟨hx, hb, hml, hown, hts⟩ (g_hasDebt l D cI cB cZ cN Lh La1 La2 La4 La5 La7 La8 La9 LS v_d hL0 H.size) ggX6_odds_X0_hasDebt rfl (nmX6_123 hK.2) (hts (.initialized RX0) (List.mem_of_getElem? (i := 5) rfl)) (hts (.instanceMethod yX0_hasDebt) (List.mem_of_getElem? (i := 4) rfl)) (hts (.selects RX0 yX0_hasDebt yX0_hasDebt) (List.mem_of_getElem? (i := 6) rfl)) ⟨by decide, by decide, (show Option.map (fun d => d.parameters.length) (parseMethodDescriptor yX0_hasDebt.desc) = some 1 by decide +kernel)⟩ ⟨Nat.le_of_ble_eq_true rfl, Nat.le_of_ble_eq_true rfl⟩ hK hP hD 0 3 rfl rfl [3, 4, 5, 6, 7, 8, 9, 10] (by decide) rfl hl.1 rfl (Nat.le_of_ble_eq_true rfl) dX6_odds_5 ⟨Nat.le_of_ble_eq_true rfl, Nat.le_of_ble_eq_true rfl⟩) hP hD hS hA [3, 4, 5, 6, 7, 8, 9, 10] rfl (fun r2 u1 H locs w3 hP hS => ?_)
  rcases w3 with ⟨rfl, hq4⟩ | ⟨rfl, hq4⟩
  · obtain ⟨k5, hq6, rfl⟩ := hq4
    refine nb_if_eq (tgt := 30) hx hb dX6_odds_8 (by decide) (by omega) (fun hq7 => absurd hq7 (by omega)) (fun hq7 => ?_)
    refine lv_iload_n hx hb dX6_odds_11 rfl (lv_at hl 2 rfl) ?_
    refine lv_if_lt (tgt := 30) hx hb dX6_odds_12 (by decide) (fun hq8 => ?_) (fun hq8 => ?_)
    · skip
      refine lv_iconst (v := -1) hx hb dX6_odds_30 (by decide) ?_
      exact en_i hx hb hr hlk hP hD hS WS [0, 1, 2, 3, 4, 5, 6, 7, 8, 9, 10, 11, 12, 13, 14, 15, 16] (by decide) rfl (Nat.le_of_ble_eq_true rfl) (Nat.le_of_ble_eq_true rfl) dX6_odds_31 ⟨hW, Or.inl ⟨fun q => inN_neg (by decide) hq8 q.2.1, rfl⟩⟩
    · skip
      refine lv_iload_n hx hb dX6_odds_15 rfl (lv_at hl 2 rfl) ?_
      refine lv_bipush (v := nI 10) hx hb dX6_odds_16 (by decide) ?_
      refine lv_icmp_gt (tgt := 30) hx hb dX6_odds_18 (by decide) (fun hq9 => ?_) (fun hq9 => ?_)
      · skip
        refine lv_iconst (v := -1) hx hb dX6_odds_30 (by decide) ?_
        exact en_i hx hb hr hlk hP hD hS WS [0, 1, 2, 3, 4, 5, 6, 7, 8, 9, 10, 11, 12, 13, 14, 15, 16] (by decide) rfl (Nat.le_of_ble_eq_true rfl) (Nat.le_of_ble_eq_true rfl) dX6_odds_31 ⟨hW, Or.inl ⟨fun q => inN_gt (n := 10) (by decide) hq9 q.2.1, rfl⟩⟩
      · skip
        obtain ⟨kx, hkx, rfl⟩ := inN_le (n := 10) (by decide) hq8 (Int32.not_lt.mp hq9)
        refine lv_iload_n hx hb dX6_odds_21 rfl (lv_at hl 3 rfl) ?_
        refine lv_if_lt (tgt := 30) hx hb dX6_odds_22 (by decide) (fun hq10 => ?_) (fun hq10 => ?_)
        · skip
          refine lv_iconst (v := -1) hx hb dX6_odds_30 (by decide) ?_
          exact en_i hx hb hr hlk hP hD hS WS [0, 1, 2, 3, 4, 5, 6, 7, 8, 9, 10, 11, 12, 13, 14, 15, 16] (by decide) rfl (Nat.le_of_ble_eq_true rfl) (Nat.le_of_ble_eq_true rfl) dX6_odds_31 ⟨hW, Or.inl ⟨fun q => inN_neg (by decide) hq10 q.2.2, rfl⟩⟩
        · skip
          refine lv_iload_n hx hb dX6_odds_25 rfl (lv_at hl 3 rfl) ?_
          refine lv_iconst (v := nI 1) hx hb dX6_odds_26 (by decide) ?_
          refine lv_icmp_le (tgt := 32) hx hb dX6_odds_27 (by decide) (fun hq11 => ?_) (fun hq11 => ?_)
          · skip
            obtain ⟨kw, hkw, rfl⟩ := inN_le (n := 1) (by decide) hq10 hq11
            refine lv_aload_n hx hb dX6_odds_32 rfl (lv_at hl 0 rfl) ?_
            refine va_get (D := D) (ci := 6) (v := .ref Wh) (C := RX6) (T := TX6) (N := 14) hx hb hts in_X6_odds_6 hown hK.1 hP 0 rfl rfl 9 (by decide) (hts (.fieldLink RX6 58 "ChildCoins" "world" "LChildCoins$World;") (List.mem_of_getElem? (i := 2) rfl)) (fun _ h9 => h9) rfl dX6_odds_33 ?_
            refine lv_aload_n hx hb dX6_odds_36 rfl (lv_at hl 0 rfl) ?_
            refine va_get (D := D) (ci := 6) (v := .ref Lh) (C := RX6) (T := TX6) (N := 14) hx hb hts in_X6_odds_6 hown hK.1 hP 0 rfl rfl 3 (by decide) (hts (.fieldLink RX6 27 "ChildCoins" "ours" "LChildCoins$Land;") (List.mem_of_getElem? (i := 1) rfl)) (fun _ h9 => h9) rfl dX6_odds_37 ?_
            refine lv_aload_n hx hb dX6_odds_40 rfl (lv_at hl 0 rfl) ?_
            refine va_get (D := D) (ci := 6) (v := .ref Nh) (C := RX6) (T := TX6) (N := 14) hx hb hts in_X6_odds_6 hown hK.1 hP 0 rfl rfl 5 (by decide) (hts (.fieldLink RX6 37 "ChildCoins" "present" "LChildCoins$Now;") (List.mem_of_getElem? (i := 3) rfl)) (fun _ h9 => h9) rfl dX6_odds_41 ?_
            refine lv_iload_n hx hb dX6_odds_44 rfl (lv_at hl 1 rfl) ?_
            refine be_v (free := fun _ => False) (wr := [(Xh, .inr (6, [.ref Th, .int (nI (XS 1 0)), .ref Rh, .ref Lh, .ref Mh, .ref Nh, .ref Xa6, .int (nI (XS 7 0)), .ref Yh, .ref Wh, .ref Qh, .ref Xa11, .int (nI (XS 12 0)), .long Xt])), (Xa6, .inl (cN, 2, .inr (.inr (.inr (.inr (va_up (va_up (fun _ => none) 0 (some Ih)) 1 (some Jh))))))), (Xa11, .inl (cI, 6, .inl (nF (XS 11))))]) (ru_N (C := RX5) (host := "ChildCoins") (As := [.ref Lh, .ref Nh, .int (nI k5)]) (rest := []) ⟨hx, hb, hml, hown, hts⟩ (g_gather l D cI cB cZ cN Wh Wa0 Wa1 WS Lh La1 La2 La4 La5 La7 La8 La9 LS Nh Na0 Na1 NS k5 hL0 hN hW (by omega) H.size) ggX6_odds_X5_gather rfl (nmX6_207 hK.2) (hts (.initialized RX5) (List.mem_of_getElem? (i := 10) rfl)) (hts (.instanceMethod yX5_gather) (List.mem_of_getElem? (i := 9) rfl)) (hts (.selects RX5 yX5_gather yX5_gather) (List.mem_of_getElem? (i := 11) rfl)) ⟨by decide, by decide, (show Option.map (fun d => d.parameters.length) (parseMethodDescriptor yX5_gather.desc) = some 3 by decide +kernel)⟩ ⟨Nat.le_of_ble_eq_true rfl, Nat.le_of_ble_eq_true rfl⟩ hK hP hD 5 14 rfl rfl [14, 15, 16, 3, 4, 5, 6, 7, 8, 9, 10, 11, 12, 13] (by decide) rfl hl.1 rfl (Nat.le_of_ble_eq_true rfl) dX6_odds_45 ⟨Nat.le_of_ble_eq_true rfl, Nat.le_of_ble_eq_true rfl⟩) hP hD hS hA [14, 15, 16, 3, 4, 5, 6, 7, 8, 9, 10, 11, 12, 13] [0, 1, 2] rfl rfl (by decide) (by decide) (fun u12 H locs w14 hP hD hS => ?_)
            obtain ⟨hq15, hq16, hq17, hq18⟩ := w14
            have hq15b := hq15.1
            obtain ⟨hP, hD⟩ : wPD D A [(Xh, .inr (6, [.ref Th, .int (nI (XS 1 0)), .ref Rh, .ref Lh, .ref Mh, .ref Nh, .ref Xa6, .int (nI (XS 7 0)), .ref Yh, .ref Wh, .ref Qh, .ref Xa11, .int (nI (XS 12 0)), .long Xt])), (Xa6, .inl (cN, 2, .inr (.inr (.inr (.inr (va_up (va_up (fun _ => none) 0 (some Ih)) 1 (some Jh))))))), (Xa11, .inl (cI, 6, .inl (nF (XS 11)))), (Wh, .inr (5, [.ref Wa0, .ref Wa1, .int (nI (u12 2 0)), .int (nI (u12 3 0))])), (Wa0, .inl (cI, 6, .inl (nF (u12 0)))), (Wa1, .inl (cI, 6, .inl (nF (u12 1)))), (Lh, .inr (0, [.int (nI (LS 0 0)), .ref La1, .ref La2, .int (nI (LS 3 0)), .ref La4, .ref La5, .int (nI (LS 6 0)), .ref La7, .ref La8, .ref La9, .int (nI (LS 10 0)), .int (nI (LS 11 0))])), (La1, .inl (cI, 6, .inl (nF (LS 1)))), (La2, .inl (cI, 6, .inl (nF (LS 2)))), (La4, .inl (cI, 5, .inl (nF (LS 4)))), (La5, .inl (cI, 30, .inl (nF (LS 5)))), (La7, .inl (cI, 5, .inl (nF (LS 7)))), (La8, .inl (cI, 5, .inl (nF (LS 8)))), (La9, .inl (cI, 5, .inl (nF (LS 9)))), (Nh, .inr (1, [.ref Na0, .ref Na1, .int (nI (NS 2 0))])), (Na0, .inl (cI, 36, .inl (nF (NS 0)))), (Na1, .inl (cI, 360, .inl (nF (NS 1))))] H := ⟨hP, hD⟩
            refine lv_aload_n hx hb dX6_odds_48 rfl (lv_at hl 0 rfl) ?_
            refine va_get (D := D) (ci := 6) (v := .ref Wh) (C := RX6) (T := TX6) (N := 14) hx hb hts in_X6_odds_6 hown hK.1 hP 0 rfl rfl 9 (by decide) (hts (.fieldLink RX6 58 "ChildCoins" "world" "LChildCoins$World;") (List.mem_of_getElem? (i := 2) rfl)) (fun _ h9 => h9) rfl dX6_odds_49 ?_
            refine lv_iload_n hx hb dX6_odds_52 rfl (lv_at hl 2 rfl) ?_
            refine be_i0 (ru_N (C := RX5) (host := "ChildCoins") (As := [.int (nI kx)]) (rest := []) ⟨hx, hb, hml, hown, hts⟩ (g_oddsUpperE l D cI cB cZ cN Wh Wa0 Wa1 u12 kx hq15 (by omega) (fun c hc => by rw [(hq18.2.2 c (hq16 ▸ hc)).1]; exact hw9 c (hq16 ▸ hc)) H.size) ggX6_odds_X5_oddsUpper rfl (nmX6_214 hK.2) (hts (.initialized RX5) (List.mem_of_getElem? (i := 10) rfl)) (hts (.instanceMethod yX5_oddsUpper) (List.mem_of_getElem? (i := 39) rfl)) (hts (.selects RX5 yX5_oddsUpper yX5_oddsUpper) (List.mem_of_getElem? (i := 40) rfl)) ⟨by decide, by decide, (show Option.map (fun d => d.parameters.length) (parseMethodDescriptor yX5_oddsUpper.desc) = some 1 by decide +kernel)⟩ ⟨Nat.le_of_ble_eq_true rfl, Nat.le_of_ble_eq_true rfl⟩ hK hP hD 5 3 rfl rfl [3, 4, 5] (by decide) rfl hl.1 rfl (Nat.le_of_ble_eq_true rfl) dX6_odds_53 ⟨Nat.le_of_ble_eq_true rfl, Nat.le_of_ble_eq_true rfl⟩) hP hD hS hA [3, 4, 5] rfl (fun r20 u19 H locs w21 hP hS => ?_)
            obtain ⟨hq22, b23⟩ := w21
            rw [pW_X hq16 hq17 hq18, hq16] at hq22 b23
            obtain rfl : r20 = nI (odN (pwX LS NS k5) kx (LS 0 0)) := hq22
            refine lv_istore (lv' := [(4, .int (nI (odN (pwX LS NS k5) kx (LS 0 0)))), (0, .ref Xh), (1, .int (nI k5)), (2, .int (nI kx)), (3, .int (nI kw))]) hx hb dX6_odds_56 hl (by decide) rfl (fun ls hl => ?_)
            refine lv_aload_n hx hb dX6_odds_58 rfl (lv_at hl 1 rfl) ?_
            refine va_get (D := D) (ci := 6) (v := .ref Wh) (C := RX6) (T := TX6) (N := 14) hx hb hts in_X6_odds_6 hown hK.1 hP 0 rfl rfl 9 (by decide) (hts (.fieldLink RX6 58 "ChildCoins" "world" "LChildCoins$World;") (List.mem_of_getElem? (i := 2) rfl)) (fun _ h9 => h9) rfl dX6_odds_59 ?_
            refine be_i0 (ru_N (C := RX5) (host := "ChildCoins") (As := []) (rest := []) ⟨hx, hb, hml, hown, hts⟩ (g_oddsLower l D cI cB cZ cN Wh Wa0 Wa1 u12 hq15 H.size) ggX6_odds_X5_oddsLower rfl (nmX6_217 hK.2) (hts (.initialized RX5) (List.mem_of_getElem? (i := 10) rfl)) (hts (.instanceMethod yX5_oddsLower) (List.mem_of_getElem? (i := 50) rfl)) (hts (.selects RX5 yX5_oddsLower yX5_oddsLower) (List.mem_of_getElem? (i := 51) rfl)) ⟨by decide, by decide, (show Option.map (fun d => d.parameters.length) (parseMethodDescriptor yX5_oddsLower.desc) = some 0 by decide +kernel)⟩ ⟨Nat.le_of_ble_eq_true rfl, Nat.le_of_ble_eq_true rfl⟩ hK hP hD 5 3 rfl rfl [3, 4, 5] (by decide) rfl hl.1 rfl (Nat.le_of_ble_eq_true rfl) dX6_odds_62 ⟨Nat.le_of_ble_eq_true rfl, Nat.le_of_ble_eq_true rfl⟩) hP hD hS hA [3, 4, 5] rfl (fun r25 u24 H locs w26 hP hS => ?_)
            obtain rfl : r25 = nI (10 ^ (LS 0 0)) := by rw [w26, hq16]
            have q10 : 10 ^ (LS 0 0) ≤ 1000000 := p10 bl0
            have q10p : 0 < 10 ^ (LS 0 0) := Nat.pow_pos (by decide)
            refine lv_istore (lv' := [(5, .int (nI (10 ^ (LS 0 0)))), (4, .int (nI (odN (pwX LS NS k5) kx (LS 0 0)))), (0, .ref Xh), (1, .int (nI k5)), (2, .int (nI kx)), (3, .int (nI kw))]) hx hb dX6_odds_65 hl (by decide) rfl (fun ls hl => ?_)
            refine lv_iload hx hb dX6_odds_67 (lv_at hl 1 rfl) ?_
            refine lv_iload hx hb dX6_odds_69 (lv_at hl 0 rfl) ?_
            refine be_i0 (ru_S (As := [.int (nI (odN (pwX LS NS k5) kx (LS 0 0))), .int (nI (10 ^ (LS 0 0)))]) (rest := []) ⟨hx, hb, hml, hown, hts⟩ (g_commonDivisorE l D cI cB cZ cN (odN (pwX LS NS k5) kx (LS 0 0)) (10 ^ (LS 0 0)) (by omega) (by omega) H.size) ggX6_odds_X6_commonDivisor rfl (hts (.initialized RX6) (List.mem_of_getElem? (i := 55) rfl)) (hts (.methodLink RX6 220 yX6_commonDivisor) (List.mem_of_getElem? (i := 53) rfl)) (hts (.static yX6_commonDivisor) (List.mem_of_getElem? (i := 54) rfl)) ⟨by decide, by decide, (show Option.map (fun d => d.parameters.length) (parseMethodDescriptor yX6_commonDivisor.desc) = some 2 by decide +kernel)⟩ ⟨Nat.le_of_ble_eq_true rfl, Nat.le_of_ble_eq_true rfl⟩ hK hP hD [] (by decide) rfl hl.1 rfl (Nat.le_of_ble_eq_true rfl) dX6_odds_71 ⟨Nat.le_of_ble_eq_true rfl, Nat.le_of_ble_eq_true rfl⟩) hP hD hS hA [] rfl (fun r28 u27 H locs w29 hP hS => ?_)
            obtain rfl : r28 = nI (Nat.gcd (odN (pwX LS NS k5) kx (LS 0 0)) (10 ^ (LS 0 0))) := w29
            have qg : 0 < Nat.gcd (odN (pwX LS NS k5) kx (LS 0 0)) (10 ^ (LS 0 0)) := Nat.gcd_pos_of_pos_right _ q10p
            have qg2 : Nat.gcd (odN (pwX LS NS k5) kx (LS 0 0)) (10 ^ (LS 0 0)) ≤ 10 ^ (LS 0 0) := Nat.gcd_le_right _ q10p
            refine lv_istore (lv' := [(6, .int (nI (Nat.gcd (odN (pwX LS NS k5) kx (LS 0 0)) (10 ^ (LS 0 0))))), (5, .int (nI (10 ^ (LS 0 0)))), (4, .int (nI (odN (pwX LS NS k5) kx (LS 0 0)))), (0, .ref Xh), (1, .int (nI k5)), (2, .int (nI kx)), (3, .int (nI kw))]) hx hb dX6_odds_74 hl (by decide) rfl (fun ls hl => ?_)
            refine lv_iload hx hb dX6_odds_76 (lv_at hl 0 rfl) ?_
            refine lv_iconst (v := nI 1) hx hb dX6_odds_78 (by decide) ?_
            refine nb_icmp_ge (tgt := 84) hx hb dX6_odds_79 (by decide) (by omega) (by omega) (fun hq30 => ?_) (fun hq30 => absurd hq30 (by omega))
            refine lv_iload_n hx hb dX6_odds_84 rfl (lv_at hl 6 rfl) ?_
            refine nb_if_ne (tgt := 93) hx hb dX6_odds_85 (by decide) (by omega) (fun hq31 => ?_) (fun hq31 => ?_)
            · skip
              refine lv_iload hx hb dX6_odds_93 (lv_at hl 1 rfl) ?_
              refine lv_iload hx hb dX6_odds_95 (lv_at hl 0 rfl) ?_
              refine lv_idiv hx hb dX6_odds_97 (nI_ne0 (by omega) (by omega)) ?_
              refine set_i (y := nI ((10 ^ (LS 0 0)) / (Nat.gcd (odN (pwX LS NS k5) kx (LS 0 0)) (10 ^ (LS 0 0))))) (pk_div (by omega) (by omega) (by omega)) ?_
              exact en_i hx hb hr hlk hP hD hS u12 [0, 1, 2, 6, 7, 8, 9, 10, 11, 12, 13, 14, 15, 16, 3, 4, 5] (by decide) rfl (Nat.le_of_ble_eq_true rfl) (Nat.le_of_ble_eq_true rfl) dX6_odds_98 ⟨hq15, Or.inr ⟨k5, kx, kw, hq6, hkx, hkw, rfl, rfl, rfl, congrArg nI (by unfold odR; rw [if_neg (show ¬ kw = 0 by omega)])⟩⟩
            · skip
              refine lv_iload hx hb dX6_odds_88 (lv_at hl 2 rfl) ?_
              refine lv_goto (tgt := 95) hx hb dX6_odds_90 (by decide) ?_
              refine lv_iload hx hb dX6_odds_95 (lv_at hl 0 rfl) ?_
              refine lv_idiv hx hb dX6_odds_97 (nI_ne0 (by omega) (by omega)) ?_
              refine set_i (y := nI ((odN (pwX LS NS k5) kx (LS 0 0)) / (Nat.gcd (odN (pwX LS NS k5) kx (LS 0 0)) (10 ^ (LS 0 0))))) (pk_div (by omega) (by omega) (by omega)) ?_
              exact en_i hx hb hr hlk hP hD hS u12 [0, 1, 2, 6, 7, 8, 9, 10, 11, 12, 13, 14, 15, 16, 3, 4, 5] (by decide) rfl (Nat.le_of_ble_eq_true rfl) (Nat.le_of_ble_eq_true rfl) dX6_odds_98 ⟨hq15, Or.inr ⟨k5, kx, kw, hq6, hkx, hkw, rfl, rfl, rfl, congrArg nI (by unfold odR; rw [if_pos (show kw = 0 by omega)])⟩⟩
          · skip
            refine lv_iconst (v := -1) hx hb dX6_odds_30 (by decide) ?_
            exact en_i hx hb hr hlk hP hD hS WS [0, 1, 2, 3, 4, 5, 6, 7, 8, 9, 10, 11, 12, 13, 14, 15, 16] (by decide) rfl (Nat.le_of_ble_eq_true rfl) (Nat.le_of_ble_eq_true rfl) dX6_odds_31 ⟨hW, Or.inl ⟨fun q => inN_nle (n := 1) (by decide) hq11 q.2.2, rfl⟩⟩
  · skip
    refine nb_if_eq (tgt := 30) hx hb dX6_odds_8 (by decide) (by omega) (fun hq32 => ?_) (fun hq32 => absurd hq32 (by omega))
    refine lv_iconst (v := -1) hx hb dX6_odds_30 (by decide) ?_
    exact en_i hx hb hr hlk hP hD hS WS [0, 1, 2, 3, 4, 5, 6, 7, 8, 9, 10, 11, 12, 13, 14, 15, 16] (by decide) rfl (Nat.le_of_ble_eq_true rfl) (Nat.le_of_ble_eq_true rfl) dX6_odds_31 ⟨hW, Or.inl ⟨fun q => hq4 q.1, rfl⟩⟩
