def EmptyL (L : Nat → Nat → Nat) : Prop := L 0 0 = 0 ∧ L 3 0 = 0 ∧ L 6 0 = 0 ∧ L 10 0 = 9 ∧ L 11 0 = 0 ∧ ∀ j, j < 30 → L 5 j = 0
theorem empty_E (L : Nat → Nat → Nat) : EmptyL (emptyN L) := ⟨rfl, rfl, rfl, rfl, rfl, fun _ q => if_pos q⟩
theorem Dr_empty {u L : Nat → Nat → Nat} (hg : EmptyL L) (e3 : u 3 1 = 0) (e6 : u 6 1 = 0) (e9 : u 9 1 = 0) (e13 : u 13 1 = 9) (e14 : u 14 0 = 0) (e8 : ∀ j, j < 30 → u 8 j = 0) : Dr u L := by
  obtain ⟨g0, g3, g6, g10, g11, g5⟩ := hg
  exact ⟨by rw [e3, g0], by rw [e6, g3], by rw [e9, g6], by rw [e13, g10], by rw [e14, g11], fun c hc => absurd hc (by omega), fun p hp => absurd hp (by omega), fun j hj => by rw [e8 j hj, g5 j hj], fun d hd => absurd hd (by omega)⟩
theorem rd_next {t : Nat → Nat} {n f a i e : Nat} {L L1 : Ls} {R : Int32 × Ls} (hf : 0 < f) (hk : pK t n a ≠ 0) (hi : itemF t n a L = (enN t n e, e, L1)) (he : enN t n e = 1) (h : rdF t n f a i L = R) : rdF t n (f - 1) (pE t n e) (i + 1) L1 = R := by
  have h2 : 0 < (itemF t n a L).1 := by rw [hi]; show 0 < enN t n e; omega
  have h3 := rdF_s (i := i) hf (Nat.pos_of_ne_zero hk) h2
  rw [hi] at h3
  exact h3.symm.trans h
theorem rd_fail {t : Nat → Nat} {n f a i e : Nat} {L : Ls} {R : Int32 × Ls} (hf : 0 < f) (hk : pK t n a ≠ 0) (h1 : (itemF t n a L).1 = 0) (h2 : (itemF t n a L).2.1 = e) (h : rdF t n f a i L = R) : R.1 = -10 - nI (pS t n e) := by
  have h3 := rdF_b (i := i) hf (Nat.pos_of_ne_zero hk) h1
  rw [h2] at h3
  rw [← h, h3]
theorem rd_end {t : Nat → Nat} {n f a i : Nat} {L : Ls} {R : Int32 × Ls} (hf : 0 < f) (hk : pK t n a = 0) (h : rdF t n f a i L = R) : R = (nI i, L) := h.symm.trans (rdF_e hf hk)
theorem item_e {t : Nat → Nat} {n a o e : Nat} {L L1 : Ls} (ha : a ≤ n) (hL : LandOk L) (hi : itemF t n a L = (o, e, L1)) : a ≤ e ∧ e ≤ n ∧ LandOk L1 := by
  have h1 := itemF_b (t := t) (L := L) ha
  have h2 := itemF_ok (t := t) (n := n) (b := a) hL
  rw [hi] at h1 h2
  exact ⟨h1.1, h1.2, h2⟩
theorem en_1 {t : Nat → Nat} {n e s : Nat} (h : s = sM t n e) (hs : s = 2) : enN t n e = 1 ∧ pK t n e ≠ 0 := by
  have hk := sM_2.mp (h.symm.trans hs)
  exact ⟨by unfold enN; rw [if_pos hk], by omega⟩
theorem en_0 {t : Nat → Nat} {n e s : Nat} (h : s = sM t n e) (hs : s ≠ 2) : enN t n e = 0 := by
  unfold enN; rw [if_neg (fun q => hs (h.trans (sM_2.mpr q)))]
