theorem srtN_1 {b : Nat} (h : 97 ≤ b ∧ b ≤ 122) : srtN b = 1 := if_pos h
theorem srtN_2 {b : Nat} (h : 48 ≤ b ∧ b ≤ 57) : srtN b = 2 := by unfold srtN; rw [if_neg (by omega), if_pos h]
theorem srtN_3 {b : Nat} (h1 : ¬ (97 ≤ b ∧ b ≤ 122)) (h2 : ¬ (48 ≤ b ∧ b ≤ 57)) : srtN b = (if b = 59 then 3 else 4) := by unfold srtN; rw [if_neg h1, if_neg h2]
theorem DV_a {t : Nat → Nat} {k j v : Nat} (h : DV t k (j - k) v) (hkj : k ≤ j) (hd : ∀ x, k ≤ x → x < j + 1 → 48 ≤ t x ∧ t x ≤ 57) (h9 : 99 < v) : DV t k (j + 1 - k) v := by
  have := DV_s h (fun x q1 q2 => hd x q1 (by omega))
  rw [if_pos h9, show j - k + 1 = j + 1 - k by omega] at this
  exact this
theorem DV_b {t : Nat → Nat} {k j v : Nat} (h : DV t k (j - k) v) (hkj : k ≤ j) (hd : ∀ x, k ≤ x → x < j + 1 → 48 ≤ t x ∧ t x ≤ 57) (h9 : v ≤ 99) : DV t k (j + 1 - k) (10 * v + t j - 48) := by
  have := DV_s h (fun x q1 q2 => hd x q1 (by omega))
  rw [if_neg (by omega), show j - k + 1 = j + 1 - k by omega, show k + (j - k) = j by omega] at this
  exact this
theorem pk_end {t : Nat → Nat} {n a k : Nat} (hS : tkS t n a = k) (h : n ≤ k) : pE t n a = k ∧ pS t n a = k ∧ sM t n a = 3 ∧ pK t n a ≠ 2 := by
  have e1 : tkE0 t n k = k := by unfold tkE0; rw [if_pos h]
  have e2 : pK t n a = 0 := by unfold pK tkK; rw [hS, if_pos h]
  refine ⟨by unfold pE; rw [hS, e1], hS, ?_, by omega⟩
  unfold sM srtM
  rw [if_pos e2]
theorem pk_let {t : Nat → Nat} {n a k e : Nat} (hS : tkS t n a = k) (h : k < n) (hl : srtN (t k) = 1) (he : onN (srt t 1) n k = e) : pE t n a = e ∧ pS t n a = k ∧ sM t n a = (if e - k = 1 then t k else 4) ∧ pK t n a ≠ 2 := by
  have e0 : onN (srt t 1) n (k + 1) = e := (onN_s (q := srt t 1) h (decide_eq_true hl)).symm.trans he
  have e1 : tkE0 t n k = e := by unfold tkE0; rw [if_neg (by omega), if_pos (by omega), hl]; exact e0
  have e2 : pK t n a = 1 := by unfold pK tkK; rw [hS, if_neg (by omega), if_neg (by omega)]; exact hl
  have e3 : pV t n a = (if e - k = 1 then t k else 0) := by unfold pV tkV; rw [hS, e1, if_neg (by omega), if_pos hl]
  have hb := srt_1 hl
  refine ⟨by unfold pE; rw [hS, e1], hS, ?_, by omega⟩
  unfold sM srtM
  rw [e2, e3, if_neg (by omega), if_pos rfl]
  split
  · rw [if_neg (by omega)]
  · rw [if_pos rfl]
theorem pk_num {t : Nat → Nat} {n a k e v : Nat} (hS : tkS t n a = k) (h : k < n) (hl : srtN (t k) = 2) (he : onN (srt t 2) n k = e) (hk : k < e) (hv : DV t k (e - k) v) (hd : ∀ x, k ≤ x → x < e → 48 ≤ t x ∧ t x ≤ 57) : pE t n a = e ∧ pS t n a = k ∧ sM t n a = (if 99 < v ∨ (t k = 48 ∧ 1 < e - k) then 4 else 1) ∧ (pK t n a = 2 → v = pV t n a) := by
  have e0 : onN (srt t 2) n (k + 1) = e := (onN_s (q := srt t 2) h (decide_eq_true hl)).symm.trans he
  have e1 : tkE0 t n k = e := by unfold tkE0; rw [if_neg (by omega), if_pos (by omega), hl]; exact e0
  obtain ⟨v1, v2, v3⟩ := hv
  have hd0 := hd k (by omega) (by omega)
  have key : (99 < v ∨ (t k = 48 ∧ 1 < e - k)) ↔ (2 < e - k ∨ (e - k = 2 ∧ t k = 48)) := by
    rcases (show e - k = 1 ∨ e - k = 2 ∨ 2 < e - k by omega) with q | q | q
    · have e9 := v1 (by omega)
      rw [q] at e9
      simp only [numN, Nat.add_zero] at e9
      omega
    · have e9 := v1 (by omega)
      rw [q] at e9
      have hd1 := hd (k + 1) (by omega) (by omega)
      simp only [numN, Nat.add_zero] at e9
      omega
    · by_cases q2 : t k = 48
      · omega
      · have := v2 q q2
        omega
  have eK : pK t n a = (if 2 < e - k ∨ (e - k = 2 ∧ t k = 48) then 4 else 2) := by
    unfold pK tkK
    rw [hS, e1, if_neg (show ¬ n ≤ k by omega)]
    by_cases q : 2 < e - k ∨ (e - k = 2 ∧ t k = 48)
    · rw [if_pos (show srtN (t k) = 2 ∧ (2 < e - k ∨ (e - k = 2 ∧ t k = 48)) from ⟨hl, q⟩), if_pos q]
    · rw [if_neg (show ¬ (srtN (t k) = 2 ∧ (2 < e - k ∨ (e - k = 2 ∧ t k = 48))) from fun z => q z.2), if_neg q, hl]
  refine ⟨by unfold pE; rw [hS, e1], hS, ?_, ?_⟩
  · unfold sM srtM
    by_cases q : 2 < e - k ∨ (e - k = 2 ∧ t k = 48)
    · rw [if_pos q] at eK
      rw [eK, if_pos (key.mpr q)]
      simp
    · rw [if_neg q] at eK
      rw [eK, if_neg (fun z => q (key.mp z))]
      simp
  · intro z
    by_cases q : 2 < e - k ∨ (e - k = 2 ∧ t k = 48)
    · rw [eK, if_pos q] at z
      exact absurd z (by decide)
    · unfold pV tkV
      rw [hS, e1, if_neg (show ¬ n ≤ k by omega), if_neg (show ¬ srtN (t k) = 1 by omega), if_pos (show srtN (t k) = 2 ∧ ¬ (2 < e - k ∨ (e - k = 2 ∧ t k = 48)) from ⟨hl, q⟩)]
      exact v1 (by omega)
theorem pk_oth {t : Nat → Nat} {n a k : Nat} (hS : tkS t n a = k) (h : k < n) (h1 : ¬ (97 ≤ t k ∧ t k ≤ 122)) (h2 : ¬ (48 ≤ t k ∧ t k ≤ 57)) : pE t n a = k + 1 ∧ pS t n a = k ∧ sM t n a = (if t k = 59 then 2 else 4) ∧ pK t n a ≠ 2 := by
  have hs := srtN_3 h1 h2
  have hs3 : 3 ≤ srtN (t k) := by rw [hs]; split <;> omega
  have e1 : tkE0 t n k = k + 1 := by unfold tkE0; rw [if_neg (by omega), if_neg (by omega)]
  have e2 : pK t n a = (if t k = 59 then 3 else 4) := by unfold pK tkK; rw [hS, if_neg (by omega), if_neg (by omega), hs]
  refine ⟨by unfold pE; rw [hS, e1], hS, ?_, by rw [e2]; split <;> omega⟩
  unfold sM srtM
  rw [e2]
  split <;> simp
