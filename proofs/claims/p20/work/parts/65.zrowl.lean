theorem pV_let {t : Nat → Nat} {n a : Nat} (h : pK t n a = 1) : pV t n a = 0 ∨ 97 ≤ pV t n a := by
  unfold pK tkK at h
  unfold pV tkV
  split at h
  · omega
  · rename_i q
    rw [if_neg q]
    split at h
    · omega
    · rw [if_pos h]
      have := srt_1 h
      split
      · exact Or.inr this.1
      · exact Or.inl rfl
theorem sM_1 {t : Nat → Nat} {n a : Nat} : sM t n a = 1 ↔ pK t n a = 2 := by
  unfold sM srtM
  by_cases h0 : pK t n a = 0
  · rw [if_pos h0]; omega
  · rw [if_neg h0]
    by_cases h1 : pK t n a = 1
    · rw [if_pos h1]
      have := pV_let h1
      split <;> omega
    · rw [if_neg h1]
      by_cases h2 : pK t n a = 2
      · rw [if_pos h2]; omega
      · rw [if_neg h2]; split <;> omega
theorem sM_2 {t : Nat → Nat} {n a : Nat} : sM t n a = 2 ↔ pK t n a = 3 := by
  unfold sM srtM
  by_cases h0 : pK t n a = 0
  · rw [if_pos h0]; omega
  · rw [if_neg h0]
    by_cases h1 : pK t n a = 1
    · rw [if_pos h1]
      have := pV_let h1
      split <;> omega
    · rw [if_neg h1]
      by_cases h2 : pK t n a = 2
      · rw [if_pos h2]; omega
      · rw [if_neg h2]; split <;> omega
theorem sM_3 {t : Nat → Nat} {n a : Nat} : sM t n a = 3 ↔ pK t n a = 0 := by
  unfold sM srtM
  by_cases h0 : pK t n a = 0
  · rw [if_pos h0]; omega
  · rw [if_neg h0]
    by_cases h1 : pK t n a = 1
    · rw [if_pos h1]
      have := pV_let h1
      split <;> omega
    · rw [if_neg h1]
      by_cases h2 : pK t n a = 2
      · rw [if_pos h2]; omega
      · rw [if_neg h2]; split <;> omega
theorem sM_w {t : Nat → Nat} {n a : Nat} (h : 97 ≤ sM t n a) : pK t n a = 1 ∧ pV t n a = sM t n a := by
  unfold sM srtM at h ⊢
  by_cases h0 : pK t n a = 0
  · rw [if_pos h0] at h; omega
  · rw [if_neg h0] at h ⊢
    by_cases h1 : pK t n a = 1
    · rw [if_pos h1] at h ⊢
      split at h
      · omega
      · rename_i q; rw [if_neg q]; exact ⟨h1, rfl⟩
    · rw [if_neg h1] at h
      by_cases h2 : pK t n a = 2
      · rw [if_pos h2] at h; omega
      · rw [if_neg h2] at h; split at h <;> omega
theorem sM_v {t : Nat → Nat} {n a : Nat} (h : pK t n a = 1) (hv : pV t n a ≠ 0) : sM t n a = pV t n a := by
  unfold sM srtM; rw [if_neg (by omega), if_pos h, if_neg hv]
theorem sM_le {t : Nat → Nat} (ht : ∀ j, t j ≤ 255) (n a : Nat) : sM t n a ≤ 255 := by
  have hv : pK t n a = 1 → pV t n a ≤ 255 := by
    intro h
    unfold pK tkK at h
    unfold pV tkV
    split at h
    · omega
    · rename_i q
      rw [if_neg q]
      split at h
      · omega
      · rw [if_pos h]
        have := ht (tkS t n a)
        split <;> omega
  unfold sM srtM
  split
  · omega
  · split
    · rename_i q; have := hv q; split <;> omega
    · split
      · omega
      · split <;> omega
/-- the reference stands behind the token that was read at p -/
def Md (Z : Nat → Nat → Nat) (p : Nat) : Prop := Z 15 0 = pE (Z 1) (Z 2 0) p ∧ Z 16 0 = pS (Z 1) (Z 2 0) p ∧ Z 17 0 = sM (Z 1) (Z 2 0) p ∧ (pK (Z 1) (Z 2 0) p = 2 → Z 18 0 = pV (Z 1) (Z 2 0) p) ∧ p ≤ Z 2 0
def stpN (Z : Nat → Nat → Nat) (p d : Nat) : Nat → Nat → Nat := ua (ua (ua (ua Z 15 (fun _ => pE (Z 1) (Z 2 0) p)) 16 (fun _ => pS (Z 1) (Z 2 0) p)) 17 (fun _ => sM (Z 1) (Z 2 0) p)) 18 (fun _ => d)
theorem okN_of {t : Nat → Nat} {n p lo hi s v : Nat} (h17 : s = sM t n p) (h18 : pK t n p = 2 → v = pV t n p) (hs : s = 1) (hv : lo ≤ v ∧ v ≤ hi) : okN t n p lo hi = 1 := by
  have hk := sM_1.mp (h17.symm.trans hs)
  have e := h18 hk
  unfold okN; rw [if_pos ⟨hk, by omega, by omega⟩]
theorem okN_no1 {t : Nat → Nat} {n p lo hi s : Nat} (h17 : s = sM t n p) (hs : s ≠ 1) : okN t n p lo hi = 0 := by
  unfold okN; rw [if_neg (fun z => hs (h17.trans (sM_1.mpr z.1)))]
theorem okN_no2 {t : Nat → Nat} {n p lo hi s v : Nat} (h17 : s = sM t n p) (h18 : pK t n p = 2 → v = pV t n p) (hs : s = 1) (hv : ¬ (lo ≤ v ∧ v ≤ hi)) : okN t n p lo hi = 0 := by
  have hk := sM_1.mp (h17.symm.trans hs)
  have e := h18 hk
  unfold okN; rw [if_neg (fun z => hv (by omega))]
theorem ok1_of {t : Nat → Nat} {n p lo hi s v : Nat} (h17 : s = sM t n p) (h18 : pK t n p = 2 → v = pV t n p) (hs : s = 1) (hv : lo ≤ v ∧ v < hi) : ok1 t n p lo hi = 1 := by
  have hk := sM_1.mp (h17.symm.trans hs)
  have e := h18 hk
  unfold ok1; rw [if_pos ⟨hk, by omega, by omega⟩]
theorem ok1_no1 {t : Nat → Nat} {n p lo hi s : Nat} (h17 : s = sM t n p) (hs : s ≠ 1) : ok1 t n p lo hi = 0 := by
  unfold ok1; rw [if_neg (fun z => hs (h17.trans (sM_1.mpr z.1)))]
theorem ok1_no2 {t : Nat → Nat} {n p lo hi s v : Nat} (h17 : s = sM t n p) (h18 : pK t n p = 2 → v = pV t n p) (hs : s = 1) (hv : ¬ (lo ≤ v ∧ v < hi)) : ok1 t n p lo hi = 0 := by
  have hk := sM_1.mp (h17.symm.trans hs)
  have e := h18 hk
  unfold ok1; rw [if_neg (fun z => hv (by omega))]
/-- may an item of this letter come -/
def mbN (Z : Nat → Nat → Nat) (w : Nat) : Nat := if w = 99 then (if Z 3 1 < 6 then 1 else 0) else if w = 112 then (if Z 6 1 < 5 then 1 else 0) else if w = 104 then 1 else if w = 100 then (if Z 9 1 < 5 then 1 else 0) else if w = 115 then (if Z 14 0 = 0 then 1 else 0) else 0
/-- the draft of the reference beside the class's -/
def Dr (Z L : Nat → Nat → Nat) : Prop := Z 3 1 = L 0 0 ∧ Z 6 1 = L 3 0 ∧ Z 9 1 = L 6 0 ∧ Z 13 1 = L 10 0 ∧ Z 14 0 = L 11 0 ∧ (∀ c, c < L 0 0 → Z 4 (6 + c) = L 1 c ∧ Z 5 (6 + c) = L 2 c) ∧ (∀ p, p < L 3 0 → Z 7 (5 + p) = L 4 p) ∧ (∀ j, j < 30 → Z 8 j = L 5 j) ∧ (∀ d, d < L 6 0 → Z 10 (5 + d) = L 7 d ∧ Z 11 d = L 8 d ∧ Z 12 (5 + d) = L 9 d)
/-- what a reading leaves as it was -/
def KP (u Z : Nat → Nat → Nat) : Prop := (∀ k, (k = 1 ∨ k = 2 ∨ 20 ≤ k) → u k = Z k) ∧ u 3 0 = Z 3 0 ∧ u 6 0 = Z 6 0 ∧ u 9 0 = Z 9 0 ∧ u 13 0 = Z 13 0 ∧ (∀ j, j < 6 → u 4 j = Z 4 j ∧ u 5 j = Z 5 j) ∧ (∀ j, j < 5 → u 7 j = Z 7 j ∧ u 10 j = Z 10 j ∧ u 12 j = Z 12 j)
theorem KP.rf (Z : Nat → Nat → Nat) : KP Z Z := ⟨fun _ _ => rfl, rfl, rfl, rfl, rfl, fun _ _ => ⟨rfl, rfl⟩, fun _ _ => ⟨rfl, rfl, rfl⟩⟩
theorem KP.tr {u v Z : Nat → Nat → Nat} (h : KP u v) (k : KP v Z) : KP u Z := ⟨fun a q => (h.1 a q).trans (k.1 a q), h.2.1.trans k.2.1, h.2.2.1.trans k.2.2.1, h.2.2.2.1.trans k.2.2.2.1, h.2.2.2.2.1.trans k.2.2.2.2.1, fun j q => ⟨(h.2.2.2.2.2.1 j q).1.trans (k.2.2.2.2.2.1 j q).1, (h.2.2.2.2.2.1 j q).2.trans (k.2.2.2.2.2.1 j q).2⟩, fun j q => ⟨(h.2.2.2.2.2.2 j q).1.trans (k.2.2.2.2.2.2 j q).1, (h.2.2.2.2.2.2 j q).2.1.trans (k.2.2.2.2.2.2 j q).2.1, (h.2.2.2.2.2.2 j q).2.2.trans (k.2.2.2.2.2.2 j q).2.2⟩⟩
/-- a change of one row that a reading may make -/
theorem KP.set {u Z : Nat → Nat → Nat} {k : Nat} {g : Nat → Nat} (h : KP u Z) (hk : 8 = k ∨ 11 = k ∨ (14 ≤ k ∧ k < 20)) : KP (ua u k g) Z := by
  refine ⟨fun a q => by rw [ua_n (by omega)]; exact h.1 a q, ?_, ?_, ?_, ?_, fun j q => ?_, fun j q => ?_⟩
  · rw [ua_n (by omega)]; exact h.2.1
  · rw [ua_n (by omega)]; exact h.2.2.1
  · rw [ua_n (by omega)]; exact h.2.2.2.1
  · rw [ua_n (by omega)]; exact h.2.2.2.2.1
  · rw [ua_n (by omega), ua_n (by omega)]; exact h.2.2.2.2.2.1 j q
  · rw [ua_n (by omega), ua_n (by omega), ua_n (by omega)]; exact h.2.2.2.2.2.2 j q
theorem itemF_k {t : Nat → Nat} {n b : Nat} {L : Ls} (hK : pK t n b = 1) : itemF t n b L = (if pV t n b = 99 then coinF t n b L else if pV t n b = 112 then persF t n b L else if pV t n b = 104 then holdF t n b L else if pV t n b = 100 then debtF t n b L else if pV t n b = 115 then spanF t n b L else (0, b, L)) := by
  unfold itemF; rw [if_neg (by omega)]
