/-! the two worlds beside each other -/
def us (S : Nat → Nat → Nat → Nat) (g : Nat) (f : Nat → Nat → Nat) : Nat → Nat → Nat → Nat := fun k => if k = g then f else S k
/-- the reader reads the text from now on; the two lands change places -/
def aR (a : Nat → Nat) : Nat → Nat := fun k => if k = 5 then a 3 else a k
def aS (a : Nat → Nat) : Nat → Nat := fun k => if 6 ≤ k ∧ k < 14 then a (k + 8) else if 14 ≤ k ∧ k < 22 then a (k - 8) else a k
def OkA (S : Nat → Nat → Nat → Nat) : Prop := XOk (S 0) ∧ (∀ j, S 1 0 j < 256) ∧ LandOk (S 3) ∧ LandOk (S 4) ∧ NowOk (S 5) ∧ NowOk (S 6) ∧ NowOk (S 7) ∧ PayOk (S 8) ∧ WorldOk (S 9) ∧ RowsOk (S 10) ∧ NowOk (S 11) ∧ ZOk (S 12)
def TiA (S : Nat → Nat → Nat → Nat) (tx tz : Int64) : Prop := S 0 1 0 = S 12 2 0 ∧ S 1 0 = S 12 1 ∧ S 3 0 0 = S 12 3 0 ∧ S 0 12 0 = S 12 28 0 ∧ tx = tz
def RelA (S : Nat → Nat → Nat → Nat) (tx tz : Int64) : Prop := OkA S ∧ TiA S tx tz
section REL
variable {S : Nat → Nat → Nat → Nat} {tx tz : Int64} {f : Nat → Nat → Nat}
theorem RelA.n (h : RelA S tx tz) (k : NowOk f) : RelA (us S 5 f) tx tz := by
  obtain ⟨⟨hX, hT, hL, hM, hN, hI, hJ, hY, hW, hQ, hK, hZ⟩, t⟩ := h
  exact ⟨⟨hX, hT, hL, hM, k, hI, hJ, hY, hW, hQ, hK, hZ⟩, t⟩
theorem RelA.i (h : RelA S tx tz) (k : NowOk f) : RelA (us S 6 f) tx tz := by
  obtain ⟨⟨hX, hT, hL, hM, hN, hI, hJ, hY, hW, hQ, hK, hZ⟩, t⟩ := h
  exact ⟨⟨hX, hT, hL, hM, hN, k, hJ, hY, hW, hQ, hK, hZ⟩, t⟩
theorem RelA.j (h : RelA S tx tz) (k : NowOk f) : RelA (us S 7 f) tx tz := by
  obtain ⟨⟨hX, hT, hL, hM, hN, hI, hJ, hY, hW, hQ, hK, hZ⟩, t⟩ := h
  exact ⟨⟨hX, hT, hL, hM, hN, hI, k, hY, hW, hQ, hK, hZ⟩, t⟩
theorem RelA.y (h : RelA S tx tz) (k : PayOk f) : RelA (us S 8 f) tx tz := by
  obtain ⟨⟨hX, hT, hL, hM, hN, hI, hJ, hY, hW, hQ, hK, hZ⟩, t⟩ := h
  exact ⟨⟨hX, hT, hL, hM, hN, hI, hJ, k, hW, hQ, hK, hZ⟩, t⟩
theorem RelA.w (h : RelA S tx tz) (k : WorldOk f) : RelA (us S 9 f) tx tz := by
  obtain ⟨⟨hX, hT, hL, hM, hN, hI, hJ, hY, hW, hQ, hK, hZ⟩, t⟩ := h
  exact ⟨⟨hX, hT, hL, hM, hN, hI, hJ, hY, k, hQ, hK, hZ⟩, t⟩
theorem RelA.q (h : RelA S tx tz) (k : RowsOk f) : RelA (us S 10 f) tx tz := by
  obtain ⟨⟨hX, hT, hL, hM, hN, hI, hJ, hY, hW, hQ, hK, hZ⟩, t⟩ := h
  exact ⟨⟨hX, hT, hL, hM, hN, hI, hJ, hY, hW, k, hK, hZ⟩, t⟩
theorem RelA.k (h : RelA S tx tz) (k : NowOk f) : RelA (us S 11 f) tx tz := by
  obtain ⟨⟨hX, hT, hL, hM, hN, hI, hJ, hY, hW, hQ, hK, hZ⟩, t⟩ := h
  exact ⟨⟨hX, hT, hL, hM, hN, hI, hJ, hY, hW, hQ, k, hZ⟩, t⟩
theorem RelA.zz (h : RelA S tx tz) {ks : List Nat} (k : ZP ks f (S 12)) (h1 : (1 : Nat) ∉ ks ∧ (2 : Nat) ∉ ks ∧ (3 : Nat) ∉ ks ∧ (28 : Nat) ∉ ks) : RelA (us S 12 f) tx tz := by
  obtain ⟨⟨hX, hT, hL, hM, hN, hI, hJ, hY, hW, hQ, hK, hZ⟩, t1, t2, t3, t4, t5⟩ := h
  refine ⟨⟨hX, hT, hL, hM, hN, hI, hJ, hY, hW, hQ, hK, k.1⟩, ?_, ?_, ?_, ?_, t5⟩
  · show S 0 1 0 = f 2 0; rw [k.2 2 h1.2.1]; exact t1
  · show S 1 0 = f 1; rw [k.2 1 h1.1]; exact t2
  · show S 3 0 0 = f 3 0; rw [k.2 3 h1.2.2.1]; exact t3
  · show S 0 12 0 = f 28 0; rw [k.2 28 h1.2.2.2]; exact t4
end REL
def LW13 (cI cB cZ cN : ClassId) (a : Nat → Nat) (XS TS RS LS MS NS IS JS YS WS QS KS ZS : Nat → Nat → Nat) (tx tz : Int64) : va_W := [((a 0), .inr (6, [.ref (a 3), .int (nI (XS 1 0)), .ref (a 4), .ref (a 6), .ref (a 14), .ref (a 22), .ref (a 1), .int (nI (XS 7 0)), .ref (a 31), .ref (a 35), .ref (a 38), .ref (a 2), .int (nI (XS 12 0)), .long tx])), ((a 1), .inl (cN, 2, .inr (.inr (.inr (.inr (va_up (va_up (fun _ => none) 0 (some (a 25))) 1 (some (a 28)))))))), ((a 2), .inl (cI, 6, .inl (nF (XS 11)))), ((a 3), .inl (cI, 180, .inl (nF (TS 0)))), ((a 4), .inr (3, [.ref (a 5), .int (nI (RS 1 0)), .int (nI (RS 2 0)), .int (nI (RS 3 0)), .int (nI (RS 4 0)), .int (nI (RS 5 0))])), ((a 6), .inr (0, [.int (nI (LS 0 0)), .ref (a 7), .ref (a 8), .int (nI (LS 3 0)), .ref (a 9), .ref (a 10), .int (nI (LS 6 0)), .ref (a 11), .ref (a 12), .ref (a 13), .int (nI (LS 10 0)), .int (nI (LS 11 0))])), ((a 7), .inl (cI, 6, .inl (nF (LS 1)))), ((a 8), .inl (cI, 6, .inl (nF (LS 2)))), ((a 9), .inl (cI, 5, .inl (nF (LS 4)))), ((a 10), .inl (cI, 30, .inl (nF (LS 5)))), ((a 11), .inl (cI, 5, .inl (nF (LS 7)))), ((a 12), .inl (cI, 5, .inl (nF (LS 8)))), ((a 13), .inl (cI, 5, .inl (nF (LS 9)))), ((a 14), .inr (0, [.int (nI (MS 0 0)), .ref (a 15), .ref (a 16), .int (nI (MS 3 0)), .ref (a 17), .ref (a 18), .int (nI (MS 6 0)), .ref (a 19), .ref (a 20), .ref (a 21), .int (nI (MS 10 0)), .int (nI (MS 11 0))])), ((a 15), .inl (cI, 6, .inl (nF (MS 1)))), ((a 16), .inl (cI, 6, .inl (nF (MS 2)))), ((a 17), .inl (cI, 5, .inl (nF (MS 4)))), ((a 18), .inl (cI, 30, .inl (nF (MS 5)))), ((a 19), .inl (cI, 5, .inl (nF (MS 7)))), ((a 20), .inl (cI, 5, .inl (nF (MS 8)))), ((a 21), .inl (cI, 5, .inl (nF (MS 9)))), ((a 22), .inr (1, [.ref (a 23), .ref (a 24), .int (nI (NS 2 0))])), ((a 23), .inl (cI, 36, .inl (nF (NS 0)))), ((a 24), .inl (cI, 360, .inl (nF (NS 1)))), ((a 25), .inr (1, [.ref (a 26), .ref (a 27), .int (nI (IS 2 0))])), ((a 26), .inl (cI, 36, .inl (nF (IS 0)))), ((a 27), .inl (cI, 360, .inl (nF (IS 1)))), ((a 28), .inr (1, [.ref (a 29), .ref (a 30), .int (nI (JS 2 0))])), ((a 29), .inl (cI, 36, .inl (nF (JS 0)))), ((a 30), .inl (cI, 360, .inl (nF (JS 1)))), ((a 31), .inr (2, [.ref (a 32), .ref (a 33), .ref (a 34), .int (nI (YS 3 0))])), ((a 32), .inl (cI, 6, .inl (nF (YS 0)))), ((a 33), .inl (cI, 6, .inl (nF (YS 1)))), ((a 34), .inl (cI, 427, .inl (nF (YS 2)))), ((a 35), .inr (5, [.ref (a 36), .ref (a 37), .int (nI (WS 2 0)), .int (nI (WS 3 0))])), ((a 36), .inl (cI, 6, .inl (nF (WS 0)))), ((a 37), .inl (cI, 6, .inl (nF (WS 1)))), ((a 38), .inr (4, [.ref (a 41), .ref (a 39), .ref (a 40), .int (nI (QS 3 0))])), ((a 39), .inl (cI, 5, .inl (nF (QS 1)))), ((a 40), .inl (cI, 5, .inl (nF (QS 2)))), ((a 41), .inr (1, [.ref (a 42), .ref (a 43), .int (nI (KS 2 0))])), ((a 42), .inl (cI, 36, .inl (nF (KS 0)))), ((a 43), .inl (cI, 360, .inl (nF (KS 1)))), ((a 44), .inr (7, [.long tz, .ref (a 45), .int (nI (ZS 2 0)), .ref (a 46), .ref (a 47), .ref (a 48), .ref (a 49), .ref (a 50), .ref (a 51), .ref (a 52), .ref (a 53), .ref (a 54), .ref (a 55), .ref (a 56), .int (nI (ZS 14 0)), .int (nI (ZS 15 0)), .int (nI (ZS 16 0)), .int (nI (ZS 17 0)), .int (nI (ZS 18 0)), .int (nI (ZS 19 0) - nI 9), .ref (a 57), .ref (a 58), .ref (a 59), .ref (a 60), .ref (a 61), .ref (a 62), .ref (a 63), .ref (a 64), .int (nI (ZS 28 0))])), ((a 45), .inl (cB, 180, .inl (bF (ZS 1)))), ((a 46), .inl (cI, 2, .inl (nF (ZS 3)))), ((a 47), .inl (cI, 12, .inl (nF (ZS 4)))), ((a 48), .inl (cI, 12, .inl (nF (ZS 5)))), ((a 49), .inl (cI, 2, .inl (nF (ZS 6)))), ((a 50), .inl (cI, 10, .inl (nF (ZS 7)))), ((a 51), .inl (cI, 30, .inl (nF (ZS 8)))), ((a 52), .inl (cI, 2, .inl (nF (ZS 9)))), ((a 53), .inl (cI, 10, .inl (nF (ZS 10)))), ((a 54), .inl (cI, 5, .inl (nF (ZS 11)))), ((a 55), .inl (cI, 10, .inl (nF (ZS 12)))), ((a 56), .inl (cI, 2, .inl (nF (ZS 13)))), ((a 57), .inl (cI, 1191, .inl (nF (ZS 20)))), ((a 58), .inl (cZ, 2, .inl (nF (ZS 21)))), ((a 59), .inl (cI, 36, .inl (nF (ZS 22)))), ((a 60), .inl (cI, 6, .inl (nF (ZS 23)))), ((a 61), .inl (cI, 427, .inl (nF (ZS 24)))), ((a 62), .inl (cI, 6, .inl (nF (ZS 25)))), ((a 63), .inl (cI, 5, .inl (nF (ZS 26)))), ((a 64), .inl (cI, 6, .inl (nF (ZS 27))))]
def LW (cI cB cZ cN : ClassId) (a : Nat → Nat) (S : Nat → Nat → Nat → Nat) (tx tz : Int64) : va_W := LW13 cI cB cZ cN a (S 0) (S 1) (S 2) (S 3) (S 4) (S 5) (S 6) (S 7) (S 8) (S 9) (S 10) (S 11) (S 12) tx tz
theorem rl_type {S : Nat → Nat → Nat → Nat} {tx tz : Int64} (hR : RelA S tx tz) (v_c : Int32) (r : Int32) (u : (Nat → Nat → Nat) × (Nat → Nat → Nat)) (hx : (¬ inN v_c 256 ∧ r = -1 ∧ u.1 = (S 0) ∧ u.2 = (S 1)) ∨ (inN v_c 256 ∧ (S 0) 1 0 = 180 ∧ r = -3 ∧ u.1 = (S 0) ∧ u.2 = (S 1)) ∨ (∃ k, k < 256 ∧ v_c = nI k ∧ (S 0) 1 0 < 180 ∧ r = nI ((S 0) 1 0 + 1) ∧ u.1 = ua (S 0) 1 (fun _ => (S 0) 1 0 + 1) ∧ u.2 = ua (S 1) 0 (un ((S 1) 0) ((S 0) 1 0) k))) (r' : Int32) (u' : (Nat → Nat → Nat)) (hz : (¬ inN v_c 256 ∧ r' = -1 ∧ u' = (S 12)) ∨ (inN v_c 256 ∧ (S 12) 2 0 = 180 ∧ r' = -3 ∧ u' = (S 12)) ∨ (∃ k, k < 256 ∧ v_c = nI k ∧ (S 12) 2 0 < 180 ∧ r' = nI ((S 12) 2 0 + 1) ∧ u' = ua (ua (S 12) 1 (un ((S 12) 1) ((S 12) 2 0) k)) 2 (fun _ => (S 12) 2 0 + 1))) : r = r' ∧ RelA (us (us (us S 0 u.1) 1 u.2) 12 u') tx tz := by
  obtain ⟨⟨hX, hT, hL, hM, hN, hI, hJ, hY, hW, hQ, hK, hZ⟩, t1, t2, t3, t4, t5⟩ := hR
  rcases hx with ⟨a1, a2, a3, a4⟩ | ⟨a1, a0, a2, a3, a4⟩ | ⟨k, a1, a0, a5, a2, a3, a4⟩ <;> rcases hz with ⟨b1, b2, b3⟩ | ⟨b1, b0, b2, b3⟩ | ⟨k', b1, b0, b5, b2, b3⟩
  · refine ⟨a2.trans b2.symm, ?_⟩
    rw [a3, a4, b3]; exact ⟨⟨hX, hT, hL, hM, hN, hI, hJ, hY, hW, hQ, hK, hZ⟩, t1, t2, t3, t4, t5⟩
  · exact absurd b1 a1
  · exact absurd ⟨k', b1, b0⟩ a1
  · exact absurd a1 b1
  · refine ⟨a2.trans b2.symm, ?_⟩
    rw [a3, a4, b3]; exact ⟨⟨hX, hT, hL, hM, hN, hI, hJ, hY, hW, hQ, hK, hZ⟩, t1, t2, t3, t4, t5⟩
  · omega
  · exact absurd ⟨k, a1, a0⟩ b1
  · omega
  · obtain rfl : k = k' := inN_inj (a0.symm.trans b0) (by omega) (by omega)
    refine ⟨by rw [a2, b2, t1], ?_⟩
    rw [a3, a4, b3]
    refine ⟨⟨⟨by show S 0 1 0 + 1 ≤ 180; omega, hX.2.1, hX.2.2.1, hX.2.2.2⟩, ?_, hL, hM, hN, hI, hJ, hY, hW, hQ, hK, ?_⟩, ?_, ?_, t3, t4, t5⟩
    · intro j
      show un (S 1 0) (S 0 1 0) k j < 256
      unfold un; split
      · exact a1
      · exact hT j
    · exact zok_set (k := 2) (zok_set (k := 1) hZ (un_zb (f := zb 1) (hZ 1) (show k ≤ 255 by omega))) (fun _ => (show S 12 2 0 + 1 ≤ 180 by omega))
    · show S 0 1 0 + 1 = S 12 2 0 + 1; rw [t1]
    · show un (S 1 0) (S 0 1 0) k = un (S 12 1) (S 12 2 0) k; rw [t1, t2]
theorem rl_clear {S : Nat → Nat → Nat → Nat} {tx tz : Int64} (hR : RelA S tx tz)  (r : Int32) (u : (Nat → Nat → Nat)) (hx : r = nI ((S 0) 1 0) ∧ u = ua (S 0) 1 (fun _ => 0)) (r' : Int32) (u' : (Nat → Nat → Nat)) (hz : r' = nI ((S 12) 2 0) ∧ u' = ua (S 12) 2 (fun _ => 0)) : r = r' ∧ RelA (us (us S 0 u) 12 u') tx tz := by
  obtain ⟨⟨hX, hT, hL, hM, hN, hI, hJ, hY, hW, hQ, hK, hZ⟩, t1, t2, t3, t4, t5⟩ := hR
  obtain ⟨a1, rfl⟩ := hx
  obtain ⟨b1, rfl⟩ := hz
  exact ⟨by rw [a1, b1, t1], ⟨⟨Nat.zero_le _, hX.2.1, hX.2.2.1, hX.2.2.2⟩, hT, hL, hM, hN, hI, hJ, hY, hW, hQ, hK, zok_set (k := 2) hZ (fun _ => Nat.zero_le _)⟩, rfl, t2, t3, t4, t5⟩
theorem rl_debt {S : Nat → Nat → Nat → Nat} {tx tz : Int64} (hR : RelA S tx tz) (v_c : Int32) (v_w : Int32) (r : Int32) (u : (Nat → Nat → Nat) × (Nat → Nat → Nat)) (hx : PayOk u.1 ∧ WorldOk u.2) (r' : Int32) (u' : (Nat → Nat → Nat)) (hz : ZP [23, 24, 25] u' (S 12)) : RelA (us (us (us S 8 u.1) 9 u.2) 12 u') tx tz := by
  exact ((hR.y hx.1).w hx.2).zz hz (by decide)
theorem rl_pays {S : Nat → Nat → Nat → Nat} {tx tz : Int64} (hR : RelA S tx tz) (v_d : Int32) (r : Int32) (u : (Nat → Nat → Nat) × (Nat → Nat → Nat)) (hx : NowOk u.1 ∧ PayOk u.2) (r' : Int32) (u' : (Nat → Nat → Nat)) (hz : ZP [20, 21, 22, 23, 24, 25, 26] u' (S 12) ∧ ((¬ inN v_d ((S 12) 9 0) ∧ r' = -1 ∧ u' = (S 12)) ∨ (∃ d, d < (S 12) 9 0 ∧ v_d = nI d ∧ ∃ g F P, (∀ j, g j ≤ zb 23 j) ∧ (∀ j, F j ≤ zb 24 j) ∧ (∀ j, P j ≤ zb 25 j) ∧ ((NotZ (S 12) 20 d P ∧ r' = -2 ∧ u' = ua (ua (ua (S 12) 23 g) 24 F) 25 P) ∨ (CanZ (S 12) 20 d P ∧ r' = nI (sumN P 6) ∧ u' = ua (ua (ua (ua (S 12) 20 (pyN (knN ((S 12) 20)) P ((S 12) 10 d) ((S 12) 20 (30 + d)) d)) 23 g) 24 F) 25 P))))) : RelA (us (us (us S 5 u.1) 8 u.2) 12 u') tx tz := by
  exact ((hR.n hx.1).y hx.2).zz hz.1 (by decide)
theorem rl_trades {S : Nat → Nat → Nat → Nat} {tx tz : Int64} (hR : RelA S tx tz) (v_p : Int32) (v_c : Int32) (v_q : Int32) (v_e : Int32) (r : Int32) (u : (Nat → Nat → Nat)) (hx : NowOk u) (r' : Int32) (u' : (Nat → Nat → Nat)) (hz : ZP [20, 21, 22, 23, 24, 25, 26] u' (S 12) ∧ ((¬ (inN v_p ((S 12) 6 0) ∧ inN v_c ((S 12) 3 0) ∧ inN v_q ((S 12) 6 0) ∧ inN v_e ((S 12) 3 0) ∧ v_p ≠ v_q ∧ v_c ≠ v_e) ∧ r' = -1 ∧ u' = (S 12)) ∨ (∃ p c q e, p < (S 12) 6 0 ∧ c < (S 12) 3 0 ∧ q < (S 12) 6 0 ∧ e < (S 12) 3 0 ∧ (v_p = nI p ∧ v_c = nI c ∧ v_q = nI q ∧ v_e = nI e) ∧ (p ≠ q ∧ c ≠ e) ∧ ((¬ (0 < (S 12) 20 (6 * p + c) ∧ 0 < (S 12) 20 (6 * q + e) ∧ (S 12) 5 c = (S 12) 5 e ∧ (S 12) 20 (6 * p + e) < 99 ∧ (S 12) 20 (6 * q + c) < 99) ∧ r' = -2 ∧ u' = (S 12)) ∨ ((0 < (S 12) 20 (6 * p + c) ∧ 0 < (S 12) 20 (6 * q + e) ∧ (S 12) 5 c = (S 12) 5 e ∧ (S 12) 20 (6 * p + e) < 99 ∧ (S 12) 20 (6 * q + c) < 99) ∧ r' = nI ((S 12) 20 (6 * p + e) + 1) ∧ u' = ua (S 12) 20 (un (un (un (un (knN ((S 12) 20)) (6 * p + c) ((S 12) 20 (6 * p + c) - 1)) (6 * q + c) ((S 12) 20 (6 * q + c) + 1)) (6 * q + e) ((S 12) 20 (6 * q + e) - 1)) (6 * p + e) ((S 12) 20 (6 * p + e) + 1))))))) : RelA (us (us S 5 u) 12 u') tx tz := by
  exact (hR.n hx).zz hz.1 (by decide)
theorem rl_loses {S : Nat → Nat → Nat → Nat} {tx tz : Int64} (hR : RelA S tx tz) (v_p : Int32) (v_c : Int32) (r : Int32) (u : (Nat → Nat → Nat)) (hx : NowOk u) (r' : Int32) (u' : (Nat → Nat → Nat)) (hz : ZP [20, 21, 22, 23, 24, 25, 26] u' (S 12) ∧ ((¬ (inN v_p ((S 12) 6 0) ∧ inN v_c ((S 12) 3 0)) ∧ r' = -1 ∧ u' = (S 12)) ∨ (∃ p c, p < (S 12) 6 0 ∧ c < (S 12) 3 0 ∧ v_p = nI p ∧ v_c = nI c ∧ (((S 12) 20 (6 * p + c) = 0 ∧ r' = -2 ∧ u' = (S 12)) ∨ ((S 12) 20 (6 * p + c) ≠ 0 ∧ r' = nI ((S 12) 20 (6 * p + c) - 1) ∧ u' = ua (S 12) 20 (un (knN ((S 12) 20)) (6 * p + c) ((S 12) 20 (6 * p + c) - 1))))))) : RelA (us (us S 5 u) 12 u') tx tz := by
  exact (hR.n hx).zz hz.1 (by decide)
theorem rl_finds {S : Nat → Nat → Nat → Nat} {tx tz : Int64} (hR : RelA S tx tz) (v_p : Int32) (v_c : Int32) (r : Int32) (u : (Nat → Nat → Nat)) (hx : NowOk u) (r' : Int32) (u' : (Nat → Nat → Nat)) (hz : ZP [20, 21, 22, 23, 24, 25, 26] u' (S 12) ∧ ((¬ (inN v_p ((S 12) 6 0) ∧ inN v_c ((S 12) 3 0)) ∧ r' = -1 ∧ u' = (S 12)) ∨ (∃ p c, p < (S 12) 6 0 ∧ c < (S 12) 3 0 ∧ v_p = nI p ∧ v_c = nI c ∧ (((S 12) 20 (6 * p + c) = 99 ∧ r' = -2 ∧ u' = (S 12)) ∨ ((S 12) 20 (6 * p + c) ≠ 99 ∧ r' = nI ((S 12) 20 (6 * p + c) + 1) ∧ u' = ua (S 12) 20 (un (knN ((S 12) 20)) (6 * p + c) ((S 12) 20 (6 * p + c) + 1))))))) : RelA (us (us S 5 u) 12 u') tx tz := by
  exact (hR.n hx).zz hz.1 (by decide)
theorem rl_passes {S : Nat → Nat → Nat → Nat} {tx tz : Int64} (hR : RelA S tx tz) (v_d : Int32) (v_p : Int32) (r : Int32) (u : (Nat → Nat → Nat)) (hx : NowOk u) (r' : Int32) (u' : (Nat → Nat → Nat)) (hz : ZP [20, 21, 22, 23, 24, 25, 26] u' (S 12) ∧ ((¬ (inN v_d ((S 12) 9 0) ∧ inN v_p ((S 12) 6 0)) ∧ r' = -1 ∧ u' = (S 12)) ∨ (∃ d p, d < (S 12) 9 0 ∧ p < (S 12) 6 0 ∧ v_d = nI d ∧ v_p = nI p ∧ ((¬ ((S 12) 20 35 / 2 ^ d % 2 = 1 ∧ p ≠ (S 12) 10 d ∧ p ≠ (S 12) 20 (30 + d)) ∧ r' = -2 ∧ u' = (S 12)) ∨ (((S 12) 20 35 / 2 ^ d % 2 = 1 ∧ p ≠ (S 12) 10 d ∧ p ≠ (S 12) 20 (30 + d)) ∧ r' = nI ((S 12) 20 (30 + d)) ∧ u' = ua (S 12) 20 (un (knN ((S 12) 20)) (30 + d) p)))))) : RelA (us (us S 5 u) 12 u') tx tz := by
  exact (hR.n hx).zz hz.1 (by decide)
theorem rl_undo {S : Nat → Nat → Nat → Nat} {tx tz : Int64} (hR : RelA S tx tz)  (r : Int32) (u : (Nat → Nat → Nat)) (hx : NowOk u) (r' : Int32) (u' : (Nat → Nat → Nat)) (hz : ZP [20, 21, 22, 23, 24, 25, 26] u' (S 12) ∧ (((S 12) 20 36 = 0 ∧ r' = -2 ∧ u' = (S 12)) ∨ (0 < (S 12) 20 36 ∧ r' = nI ((S 12) 20 36 - 1) ∧ u' = ua (S 12) 20 (udN ((S 12) 20) 36)))) : RelA (us (us S 5 u) 12 u') tx tz := by
  exact (hR.n hx).zz hz.1 (by decide)
theorem rl_now {S : Nat → Nat → Nat → Nat} {tx tz : Int64} (hR : RelA S tx tz) (v_w : Int32) (r : Int32) (u : (Nat → Nat → Nat)) (hx : WorldOk u) (r' : Int32) (u' : (Nat → Nat → Nat)) (hz : ZP [23, 24, 25] u' (S 12)) : RelA (us (us S 9 u) 12 u') tx tz := by
  exact (hR.w hx).zz hz (by decide)
theorem rl_pieces {S : Nat → Nat → Nat → Nat} {tx tz : Int64} (hR : RelA S tx tz) (v_d : Int32) (v_c : Int32) (r : Int32) (u : (Nat → Nat → Nat)) (hx : PayOk u) (r' : Int32) (u' : (Nat → Nat → Nat)) (hz : ZP [23, 24, 25] u' (S 12) ∧ ((¬ (inN v_d ((S 12) 9 0) ∧ inN v_c ((S 12) 3 0)) ∧ r' = -1) ∨ (∃ d c, d < (S 12) 9 0 ∧ c < (S 12) 3 0 ∧ v_d = nI d ∧ v_c = nI c ∧ ((PZ ((S 12) 5) (thN (S 12) 20 ((S 12) 10 d) ((S 12) 20 (30 + d))) ((S 12) 12 d) (-9) (u' 25) ∧ r' = -9) ∨ ((∃ n, n < 1000 ∧ PZ ((S 12) 5) (thN (S 12) 20 ((S 12) 10 d) ((S 12) 20 (30 + d))) ((S 12) 12 d) (nI n) (u' 25)) ∧ r' = nI (u' 25 c)))))) : RelA (us (us S 8 u) 12 u') tx tz := by
  exact (hR.y hx).zz hz.1 (by decide)
theorem rl_order {S : Nat → Nat → Nat → Nat} {tx tz : Int64} (hR : RelA S tx tz) (v_i : Int32) (r : Int32) (u : (Nat → Nat → Nat) × (Nat → Nat → Nat) × (Nat → Nat → Nat)) (hx : RowsOk u.1 ∧ NowOk u.2.1 ∧ PayOk u.2.2) (r' : Int32) (u' : (Nat → Nat → Nat)) (hz : ZP [22, 23, 24, 25, 26] u' (S 12)) : RelA (us (us (us (us S 10 u.1) 11 u.2.1) 8 u.2.2) 12 u') tx tz := by
  exact (((hR.q hx.1).k hx.2.1).y hx.2.2).zz hz (by decide)
theorem rl_corner {S : Nat → Nat → Nat → Nat} {tx tz : Int64} (hR : RelA S tx tz) (v_d : Int32) (r : Int32) (u : (Nat → Nat → Nat)) (hx : WorldOk u) (r' : Int32) (u' : (Nat → Nat → Nat)) (hz : ZP [23, 24, 25] u' (S 12)) : RelA (us (us S 9 u) 12 u') tx tz := by
  exact (hR.w hx).zz hz (by decide)
theorem rl_odds {S : Nat → Nat → Nat → Nat} {tx tz : Int64} (hR : RelA S tx tz) (v_d : Int32) (v_x : Int32) (v_w : Int32) (r : Int32) (u : (Nat → Nat → Nat)) (hx : WorldOk u) (r' : Int32) (u' : (Nat → Nat → Nat)) (hz : ZP [23, 24, 25] u' (S 12)) : RelA (us (us S 9 u) 12 u') tx tz := by
  exact (hR.w hx).zz hz (by decide)
theorem rl_took {S : Nat → Nat → Nat → Nat} {tx tz : Int64} (hR : RelA S tx tz) (v_c : Int32) (r : Int32) (u : (Nat → Nat → Nat)) (hx : (¬ inN v_c ((S 3) 0 0) ∧ r = -1 ∧ u = (S 0)) ∨ (inN v_c ((S 3) 0 0) ∧ (S 0) 12 0 = 6 ∧ r = -3 ∧ u = (S 0)) ∨ (∃ k, k < (S 3) 0 0 ∧ v_c = nI k ∧ (S 0) 12 0 < 6 ∧ r = nI ((S 0) 12 0 + 1) ∧ u = ua (ua (S 0) 11 (un ((S 0) 11) ((S 0) 12 0) k)) 12 (fun _ => (S 0) 12 0 + 1))) (r' : Int32) (u' : (Nat → Nat → Nat)) (hz : (¬ inN v_c ((S 12) 3 0) ∧ r' = -1 ∧ u' = (S 12)) ∨ (inN v_c ((S 12) 3 0) ∧ (S 12) 28 0 = 6 ∧ r' = -3 ∧ u' = (S 12)) ∨ (∃ k, k < (S 12) 3 0 ∧ v_c = nI k ∧ (S 12) 28 0 < 6 ∧ r' = nI ((S 12) 28 0 + 1) ∧ u' = ua (ua (S 12) 27 (un ((S 12) 27) ((S 12) 28 0) k)) 28 (fun _ => (S 12) 28 0 + 1))) : r = r' ∧ RelA (us (us S 0 u) 12 u') tx tz := by
  obtain ⟨⟨hX, hT, hL, hM, hN, hI, hJ, hY, hW, hQ, hK, hZ⟩, t1, t2, t3, t4, t5⟩ := hR
  have hc6 : S 12 3 0 ≤ 6 := hZ 3 0
  rcases hx with ⟨a1, a2, a3⟩ | ⟨a1, a0, a2, a3⟩ | ⟨k, a1, a0, a5, a2, a3⟩ <;> rcases hz with ⟨b1, b2, b3⟩ | ⟨b1, b0, b2, b3⟩ | ⟨k', b1, b0, b5, b2, b3⟩
  · refine ⟨a2.trans b2.symm, ?_⟩
    rw [a3, b3]; exact ⟨⟨hX, hT, hL, hM, hN, hI, hJ, hY, hW, hQ, hK, hZ⟩, t1, t2, t3, t4, t5⟩
  · exact absurd (t3 ▸ b1) a1
  · exact absurd ⟨k', t3 ▸ b1, b0⟩ a1
  · exact absurd (t3 ▸ a1) b1
  · refine ⟨a2.trans b2.symm, ?_⟩
    rw [a3, b3]; exact ⟨⟨hX, hT, hL, hM, hN, hI, hJ, hY, hW, hQ, hK, hZ⟩, t1, t2, t3, t4, t5⟩
  · omega
  · exact absurd ⟨k, t3 ▸ a1, a0⟩ b1
  · omega
  · obtain rfl : k = k' := inN_inj (a0.symm.trans b0) (by omega) (by omega)
    refine ⟨by rw [a2, b2, t4], ?_⟩
    rw [a3, b3]
    refine ⟨⟨⟨hX.1, hX.2.1, un_leM hX.2.2.1 (by omega), (by show S 0 12 0 + 1 ≤ 6; omega)⟩, hT, hL, hM, hN, hI, hJ, hY, hW, hQ, hK, ?_⟩, t1, t2, t3, ?_, t5⟩
    · exact zok_set (k := 28) (zok_set (k := 27) hZ (un_zb (f := zb 27) (hZ 27) (show k ≤ 5 by omega))) (fun _ => (show S 12 28 0 + 1 ≤ 6 by omega))
    · show S 0 12 0 + 1 = S 12 28 0 + 1; rw [t4]
theorem rl_forget {S : Nat → Nat → Nat → Nat} {tx tz : Int64} (hR : RelA S tx tz)  (r : Int32) (u : (Nat → Nat → Nat)) (hx : r = nI ((S 0) 12 0) ∧ u = ua (S 0) 12 (fun _ => 0)) (r' : Int32) (u' : (Nat → Nat → Nat)) (hz : r' = nI ((S 12) 28 0) ∧ u' = ua (S 12) 28 (fun _ => 0)) : r = r' ∧ RelA (us (us S 0 u) 12 u') tx tz := by
  obtain ⟨⟨hX, hT, hL, hM, hN, hI, hJ, hY, hW, hQ, hK, hZ⟩, t1, t2, t3, t4, t5⟩ := hR
  obtain ⟨a1, rfl⟩ := hx
  obtain ⟨b1, rfl⟩ := hz
  exact ⟨by rw [a1, b1, t4], ⟨⟨hX.1, hX.2.1, hX.2.2.1, Nat.zero_le _⟩, hT, hL, hM, hN, hI, hJ, hY, hW, hQ, hK, zok_set (k := 28) hZ (fun _ => Nat.zero_le _)⟩, t1, t2, t3, rfl, t5⟩
theorem rl_keep {S : Nat → Nat → Nat → Nat} {tx tz : Int64} (hR : RelA S tx tz) (v_i : Int32) (r : Int32) (u : (Nat → Nat → Nat) × (Nat → Nat → Nat) × (Nat → Nat → Nat)) (hx : NowOk u.2.1 ∧ NowOk u.2.2 ∧ (u.1 = (S 0) ∨ ∃ k, k ≤ 2 ∧ u.1 = ua (S 0) 7 (fun _ => (S 0) 7 0 ||| k))) (r' : Int32) (u' : (Nat → Nat → Nat)) (hz : ZP [20, 21, 22, 23, 24, 25, 26] u' (S 12) ∧ ((¬ inN v_i 2 ∧ r' = -1 ∧ u' = (S 12)) ∨ (∃ k, k < 2 ∧ v_i = nI k ∧ r' = nI (sumN (fun k => (S 12) 20 35 / 2 ^ k % 2) 6) ∧ u' = ua (ua (S 12) 20 (cpN ((S 12) 20) (397 * (1 + k)) 397)) 21 (un ((S 12) 21) k 1)))) : RelA (us (us (us (us S 0 u.1) 6 u.2.1) 7 u.2.2) 12 u') tx tz := by
  have h2 := ((hR.i hx.1).j hx.2.1).zz hz.1 (by decide)
  obtain ⟨⟨hX, hT, hL, hM, hN, hI, hJ, hY, hW, hQ, hK, hZ⟩, t1, t2, t3, t4, t5⟩ := h2
  rcases hx.2.2 with e | ⟨k, hk, e⟩
  · rw [e]; exact ⟨⟨hX, hT, hL, hM, hN, hI, hJ, hY, hW, hQ, hK, hZ⟩, t1, t2, t3, t4, t5⟩
  · rw [e]; exact ⟨⟨⟨hX.1, or_3 hX.2.1 (by omega), hX.2.2.1, hX.2.2.2⟩, hT, hL, hM, hN, hI, hJ, hY, hW, hQ, hK, hZ⟩, t1, t2, t3, t4, t5⟩
theorem rl_back {S : Nat → Nat → Nat → Nat} {tx tz : Int64} (hR : RelA S tx tz) (v_i : Int32) (r : Int32) (u : (Nat → Nat → Nat)) (hx : NowOk u) (r' : Int32) (u' : (Nat → Nat → Nat)) (hz : ZP [20, 21, 22, 23, 24, 25, 26] u' (S 12) ∧ ((¬ inN v_i 2 ∧ r' = -1 ∧ u' = (S 12)) ∨ (∃ k, k < 2 ∧ v_i = nI k ∧ (((S 12) 21 k = 0 ∧ r' = -2 ∧ u' = (S 12)) ∨ ((S 12) 21 k ≠ 0 ∧ r' = nI (sumN (fun b => (S 12) 20 (397 * (1 + k) + 35) / 2 ^ b % 2) 6) ∧ u' = ua (S 12) 20 (bkN ((S 12) 20) (397 * (1 + k)) 397)))))) : RelA (us (us S 5 u) 12 u') tx tz := by
  exact (hR.n hx).zz hz.1 (by decide)
theorem rl_trace {S : Nat → Nat → Nat → Nat} {tx tz : Int64} (hR : RelA S tx tz)  (r : Int64) (u : Unit) (hx : r = tx) (r' : Int64) (u' : Unit) (hz : r' = tz) : r = r' ∧ RelA (S) tx tz := by
  exact ⟨by rw [hx, hz]; exact hR.2.2.2.2.2, hR⟩
theorem rl_land {S : Nat → Nat → Nat → Nat} {tx tz : Int64} (hR : RelA S tx tz) (r : Int32) (u : (Nat → Nat → Nat) × (Nat → Nat → Nat) × (Nat → Nat → Nat) × (Nat → Nat → Nat) × Bool) (hx : LandOk u.2.2.1 ∧ NowOk u.2.2.2.1 ∧ r = (rdF ((S 1) 0) ((S 0) 1 0) 181 0 0 (emptyN (S 4))).1 ∧ u.2.2.1 = (rdF ((S 1) 0) ((S 0) 1 0) 181 0 0 (emptyN (S 4))).2 ∧ ((r < 0 ∧ u.2.2.2.2 = false ∧ u.1 = (S 0) ∧ u.2.2.2.1 = (S 5)) ∨ (¬ r < 0 ∧ u.2.2.2.2 = true ∧ u.1 = ua (ua (ua (S 0) 1 (fun _ => 0)) 7 (fun _ => 0)) 12 (fun _ => 0) ∧ u.2.2.2.1 = begN (S 5) u.2.2.1))) (r' : Int32) (u' : (Nat → Nat → Nat)) (hz : ZOk u' ∧ r' = (rdF ((S 12) 1) ((S 12) 2 0) 181 0 0 (emptyN (S 4))).1 ∧ ((r' < 0 ∧ KP u' (S 12)) ∨ (¬ r' < 0 ∧ u' 1 = (S 12) 1 ∧ u' 2 0 = 0 ∧ LR u' (rdF ((S 12) 1) ((S 12) 2 0) 181 0 0 (emptyN (S 4))).2 ∧ LN u' (rdF ((S 12) 1) ((S 12) 2 0) 181 0 0 (emptyN (S 4))).2))) : r = r' ∧ ((u.2.2.2.2 = false ∧ RelA (us (us (us (us (us S 0 u.1) 2 u.2.1) 4 u.2.2.1) 5 u.2.2.2.1) 12 u') tx tz) ∨ (u.2.2.2.2 = true ∧ RelA (us (us (us (us (us (us S 0 u.1) 2 u.2.1) 3 u.2.2.1) 4 (S 3)) 5 u.2.2.2.1) 12 u') tx tz)) := by
  obtain ⟨⟨hX, hT, hL, hM, hN, hI, hJ, hY, hW, hQ, hK, hZ⟩, t1, t2, t3, t4, t5⟩ := hR
  obtain ⟨x1, x2, x3, x4, x5⟩ := hx
  obtain ⟨z1, z2, z3⟩ := hz
  have er : r = r' := by rw [x3, z2, t1, t2]
  refine ⟨er, ?_⟩
  rcases x5 with ⟨a1, a2, a3, a4⟩ | ⟨a1, a2, a3, a4⟩ <;> rcases z3 with ⟨b1, b2⟩ | ⟨b1, b2, b3, b4, b5⟩
  · refine Or.inl ⟨a2, ?_⟩
    rw [a3, a4]
    refine ⟨⟨hX, hT, hL, x1, hN, hI, hJ, hY, hW, hQ, hK, z1⟩, ?_, ?_, ?_, ?_, t5⟩
    · show S 0 1 0 = u' 2 0; rw [b2.1 2 (Or.inr (Or.inl rfl))]; exact t1
    · show S 1 0 = u' 1; rw [b2.1 1 (Or.inl rfl)]; exact t2
    · show S 3 0 0 = u' 3 0; rw [b2.2.1]; exact t3
    · show S 0 12 0 = u' 28 0; rw [b2.1 28 (Or.inr (Or.inr (by decide)))]; exact t4
  · exact absurd (er ▸ a1) b1
  · exact absurd (er.symm ▸ b1) a1
  · refine Or.inr ⟨a2, ?_⟩
    rw [a3]
    refine ⟨⟨⟨Nat.zero_le _, Nat.zero_le _, hX.2.2.1, Nat.zero_le _⟩, hT, x1, hL, x2, hI, hJ, hY, hW, hQ, hK, z1⟩, ?_, ?_, ?_, ?_, t5⟩
    · exact b3.symm
    · show S 1 0 = u' 1; rw [b2]; exact t2
    · show u.2.2.1 0 0 = u' 3 0
      rw [x4, t1, t2]
      exact b4.1.1.symm
    · exact b5.2.2.2.2.1.symm
