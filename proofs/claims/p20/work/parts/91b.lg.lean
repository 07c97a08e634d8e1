/-! what a text's land keeps to -/
def LG (L : Nat → Nat → Nat) : Prop := (∀ c, c < L 0 0 → 1 ≤ L 2 c ∧ L 2 c ≤ 9) ∧ (∀ d, d < L 6 0 → L 7 d < L 3 0 ∧ L 8 d < L 3 0 ∧ 1 ≤ L 9 d) ∧ (∀ p c, p < 5 → c < 6 → L 5 (p * 6 + c) ≠ 0 → p < L 3 0 ∧ c < L 0 0)
theorem LG_empty (L : Nat → Nat → Nat) : LG (emptyN L) := ⟨fun c h => absurd h (Nat.not_lt_zero c), fun d h => absurd h (Nat.not_lt_zero d), fun p c hp hc h => absurd (show (if p * 6 + c < 30 then 0 else L 5 (p * 6 + c)) = 0 from if_pos (by omega)) h⟩
theorem coinF_lg {t : Nat → Nat} {n b : Nat} {L : Ls} (h : LG L) : LG (coinF t n b L).2.2 := by
  obtain ⟨h1, h2, h3⟩ := h
  unfold coinF
  split
  · exact ⟨h1, h2, h3⟩
  · split
    · exact ⟨h1, h2, h3⟩
    · split
      · exact ⟨h1, h2, h3⟩
      · rename_i q3
        have z2 := okN_1 (Nat.pos_of_ne_zero q3)
        refine ⟨fun c hc => ?_, h2, fun p c hp hc hq => ?_⟩
        · have hc : c < L 0 0 + 1 := hc
          show 1 ≤ un (L 2) (L 0 0) _ c ∧ un (L 2) (L 0 0) _ c ≤ 9
          by_cases q : c = L 0 0
          · rw [q, un_s]; exact z2.2
          · rw [un_n q]; exact h1 c (by omega)
        · have := h3 p c hp hc hq
          exact ⟨this.1, Nat.lt_succ_of_lt this.2⟩
theorem persF_lg {t : Nat → Nat} {n b : Nat} {L : Ls} (h : LG L) : LG (persF t n b L).2.2 := by
  obtain ⟨h1, h2, h3⟩ := h
  unfold persF
  split
  · exact ⟨h1, h2, h3⟩
  · split
    · exact ⟨h1, h2, h3⟩
    · exact ⟨h1, fun d hd => ⟨Nat.lt_succ_of_lt (h2 d hd).1, Nat.lt_succ_of_lt (h2 d hd).2.1, (h2 d hd).2.2⟩, fun p c hp hc hq => ⟨Nat.lt_succ_of_lt (h3 p c hp hc hq).1, (h3 p c hp hc hq).2⟩⟩
theorem spanF_lg {t : Nat → Nat} {n b : Nat} {L : Ls} (h : LG L) : LG (spanF t n b L).2.2 := by
  obtain ⟨h1, h2, h3⟩ := h
  unfold spanF
  split
  · exact ⟨h1, h2, h3⟩
  · split
    · exact ⟨h1, h2, h3⟩
    · exact ⟨h1, h2, h3⟩
theorem holdF_lg {t : Nat → Nat} {n b : Nat} {L : Ls} (hO : LandOk L) (h : LG L) : LG (holdF t n b L).2.2 := by
  obtain ⟨h1, h2, h3⟩ := h
  unfold holdF
  split
  · exact ⟨h1, h2, h3⟩
  · split
    · exact ⟨h1, h2, h3⟩
    · split
      · exact ⟨h1, h2, h3⟩
      · rename_i q1 q2 q3
        have z1 := ok1_1 (Nat.pos_of_ne_zero q1)
        have z2 := ok1_1 (Nat.pos_of_ne_zero q2)
        have o0 := hO.1
        have o3 := hO.2.1
        refine ⟨h1, h2, fun p c hp hc hq => ?_⟩
        by_cases q : p * 6 + c = pV t n (pE t n b) * 6 + pV t n (pE t n (pE t n b))
        · have e1 : p = pV t n (pE t n b) := by omega
          have e2 : c = pV t n (pE t n (pE t n b)) := by omega
          exact ⟨by rw [e1]; exact z1.2.2, by rw [e2]; exact z2.2.2⟩
        · refine h3 p c hp hc ?_
          have hq : un (L 5) _ _ (p * 6 + c) ≠ 0 := hq
          rwa [un_n q] at hq
theorem debtF_lg {t : Nat → Nat} {n b : Nat} {L : Ls} (h : LG L) : LG (debtF t n b L).2.2 := by
  obtain ⟨h1, h2, h3⟩ := h
  unfold debtF
  split
  · exact ⟨h1, h2, h3⟩
  · split
    · exact ⟨h1, h2, h3⟩
    · split
      · exact ⟨h1, h2, h3⟩
      · split
        · exact ⟨h1, h2, h3⟩
        · rename_i q1 q2 q3 q4
          have z1 := ok1_1 (Nat.pos_of_ne_zero q2)
          have z2 := ok1_1 (Nat.pos_of_ne_zero (fun q => q3 (Or.inl q)))
          have z3 := okN_1 (Nat.pos_of_ne_zero q4)
          refine ⟨h1, fun d hd => ?_, h3⟩
          have hd : d < L 6 0 + 1 := hd
          show un (L 7) (L 6 0) _ d < L 3 0 ∧ un (L 8) (L 6 0) _ d < L 3 0 ∧ 1 ≤ un (L 9) (L 6 0) _ d
          by_cases q : d = L 6 0
          · rw [q, un_s, un_s, un_s]; exact ⟨z1.2.2, z2.2.2, z3.2.1⟩
          · rw [un_n q, un_n q, un_n q]; exact h2 d (by omega)
theorem itemF_lg {t : Nat → Nat} {n b : Nat} {L : Ls} (hO : LandOk L) (h : LG L) : LG (itemF t n b L).2.2 := by
  unfold itemF
  repeat' split
  all_goals first | exact h | exact coinF_lg h | exact persF_lg h | exact holdF_lg hO h | exact debtF_lg h | exact spanF_lg h
theorem rdF_lg {t : Nat → Nat} {n : Nat} : ∀ f a i (L : Ls), LandOk L → LG L → LG (rdF t n f a i L).2
  | 0, _, _, _, _, h => h
  | f + 1, a, i, L, hO, h => by
    show LG (if _ then _ else if _ then _ else _ : Int32 × Ls).2
    split
    · exact h
    · split
      · exact itemF_lg hO h
      · exact rdF_lg f _ _ _ (itemF_ok hO) (itemF_lg hO h)
