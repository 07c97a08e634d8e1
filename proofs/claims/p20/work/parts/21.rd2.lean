theorem coinF_1 (t : Nat → Nat) (n b : Nat) (L : Ls) : (coinF t n b L).1 ≤ 1 := by
  unfold coinF
  repeat' split
  all_goals first | exact Nat.zero_le _ | exact enN_le _ _ _
theorem persF_1 (t : Nat → Nat) (n b : Nat) (L : Ls) : (persF t n b L).1 ≤ 1 := by
  unfold persF
  repeat' split
  all_goals first | exact Nat.zero_le _ | exact enN_le _ _ _
theorem spanF_1 (t : Nat → Nat) (n b : Nat) (L : Ls) : (spanF t n b L).1 ≤ 1 := by
  unfold spanF
  repeat' split
  all_goals first | exact Nat.zero_le _ | exact enN_le _ _ _
theorem holdF_1 (t : Nat → Nat) (n b : Nat) (L : Ls) : (holdF t n b L).1 ≤ 1 := by
  unfold holdF
  repeat' split
  all_goals first | exact Nat.zero_le _ | exact enN_le _ _ _
theorem debtF_1 (t : Nat → Nat) (n b : Nat) (L : Ls) : (debtF t n b L).1 ≤ 1 := by
  unfold debtF
  repeat' split
  all_goals first | exact Nat.zero_le _ | exact enN_le _ _ _
def itemF (t : Nat → Nat) (n b : Nat) (L : Ls) : Nat × Nat × Ls :=
  if pK t n b ≠ 1 then (0, b, L)
  else if pV t n b = 99 then coinF t n b L
  else if pV t n b = 112 then persF t n b L
  else if pV t n b = 104 then holdF t n b L
  else if pV t n b = 100 then debtF t n b L
  else if pV t n b = 115 then spanF t n b L
  else (0, b, L)
theorem itemF_1 (t : Nat → Nat) (n b : Nat) (L : Ls) : (itemF t n b L).1 ≤ 1 := by
  unfold itemF
  repeat' split
  all_goals first | exact Nat.zero_le _ | exact coinF_1 _ _ _ _ | exact persF_1 _ _ _ _ | exact holdF_1 _ _ _ _ | exact debtF_1 _ _ _ _ | exact spanF_1 _ _ _ _
theorem lk5 (v : Nat) : v = 99 ∨ v = 100 ∨ v = 104 ∨ v = 112 ∨ v = 115 ∨ (v ≠ 99 ∧ v ≠ 100 ∧ v ≠ 104 ∧ v ≠ 112 ∧ v ≠ 115) := by omega
theorem lk5d {v : Nat} {o1 o2 o3 o4 o5 d : Int} (hv : v < 2 ^ 31) (h : v ≠ 99 ∧ v ≠ 100 ∧ v ≠ 104 ∧ v ≠ 112 ∧ v ≠ 115) : Op.lookupswitch.offset [(99, o1), (100, o2), (104, o3), (112, o4), (115, o5)] d (nI v).toInt = d := by
  have ne : ∀ k, k < 2 ^ 31 → v ≠ k → ¬ nI v = nI k := fun k hk q z => q ((nI_eq hv hk).mp z)
  rw [lv_osw (ne 99 (by decide) h.1) (by decide), lv_osw (ne 100 (by decide) h.2.1) (by decide), lv_osw (ne 104 (by decide) h.2.2.1) (by decide), lv_osw (ne 112 (by decide) h.2.2.2.1) (by decide), lv_osw (ne 115 (by decide) h.2.2.2.2) (by decide)]
  rfl
/-- lands that stay within bounds -/
theorem un_le {g : Nat → Nat} {k v M : Nat} (h : ∀ j, g j ≤ M) (hv : v ≤ M) : ∀ j, un g k v j ≤ M := fun j => by
  unfold un
  split
  · exact hv
  · exact h j
theorem un_lt {g : Nat → Nat} {k v M : Nat} (h : ∀ j, g j < M) (hv : v < M) : ∀ j, un g k v j < M := fun j => by
  unfold un
  split
  · exact hv
  · exact h j
theorem coinF_ok {t : Nat → Nat} {n b : Nat} {L : Ls} (h : LandOk L) : LandOk (coinF t n b L).2.2 := by
  obtain ⟨a0, a3, a6, a10, a11, a1, a2, a4, a5, a7, a8, a9⟩ := h
  unfold coinF
  split
  · exact ⟨a0, a3, a6, a10, a11, a1, a2, a4, a5, a7, a8, a9⟩
  · split
    · exact ⟨a0, a3, a6, a10, a11, a1, a2, a4, a5, a7, a8, a9⟩
    · rename_i q1 q2
      have z1 := okN_1 (Nat.pos_of_ne_zero q2)
      split
      · exact ⟨a0, a3, a6, a10, a11, un_le a1 (by omega), a2, a4, a5, a7, a8, a9⟩
      · rename_i q3
        have z2 := okN_1 (Nat.pos_of_ne_zero q3)
        exact ⟨(by show L 0 0 + 1 ≤ 6; omega), a3, a6, a10, a11, un_le a1 (by omega), un_le a2 (by omega), a4, a5, a7, a8, a9⟩
theorem persF_ok {t : Nat → Nat} {n b : Nat} {L : Ls} (h : LandOk L) : LandOk (persF t n b L).2.2 := by
  obtain ⟨a0, a3, a6, a10, a11, a1, a2, a4, a5, a7, a8, a9⟩ := h
  unfold persF
  split
  · exact ⟨a0, a3, a6, a10, a11, a1, a2, a4, a5, a7, a8, a9⟩
  · split
    · exact ⟨a0, a3, a6, a10, a11, a1, a2, a4, a5, a7, a8, a9⟩
    · rename_i q1 q2
      have z1 := okN_1 (Nat.pos_of_ne_zero q2)
      exact ⟨a0, (by show L 3 0 + 1 ≤ 5; omega), a6, a10, a11, a1, a2, un_le a4 (by omega), a5, a7, a8, a9⟩
theorem spanF_ok {t : Nat → Nat} {n b : Nat} {L : Ls} (h : LandOk L) : LandOk (spanF t n b L).2.2 := by
  obtain ⟨a0, a3, a6, a10, a11, a1, a2, a4, a5, a7, a8, a9⟩ := h
  unfold spanF
  split
  · exact ⟨a0, a3, a6, a10, a11, a1, a2, a4, a5, a7, a8, a9⟩
  · split
    · exact ⟨a0, a3, a6, a10, a11, a1, a2, a4, a5, a7, a8, a9⟩
    · rename_i q1 q2
      have z1 := okN_1 (Nat.pos_of_ne_zero q2)
      exact ⟨a0, a3, a6, (by show pV t n (pE t n b) ≤ 20; omega), (by show 1 ≤ 1; omega), a1, a2, a4, a5, a7, a8, a9⟩
theorem holdF_ok {t : Nat → Nat} {n b : Nat} {L : Ls} (h : LandOk L) : LandOk (holdF t n b L).2.2 := by
  obtain ⟨a0, a3, a6, a10, a11, a1, a2, a4, a5, a7, a8, a9⟩ := h
  unfold holdF
  split
  · exact ⟨a0, a3, a6, a10, a11, a1, a2, a4, a5, a7, a8, a9⟩
  · split
    · exact ⟨a0, a3, a6, a10, a11, a1, a2, a4, a5, a7, a8, a9⟩
    · split
      · exact ⟨a0, a3, a6, a10, a11, a1, a2, a4, a5, a7, a8, a9⟩
      · rename_i q3
        have z2 := okN_1 (Nat.pos_of_ne_zero q3)
        exact ⟨a0, a3, a6, a10, a11, a1, a2, a4, un_le a5 (by omega), a7, a8, a9⟩
theorem debtF_ok {t : Nat → Nat} {n b : Nat} {L : Ls} (h : LandOk L) : LandOk (debtF t n b L).2.2 := by
  obtain ⟨a0, a3, a6, a10, a11, a1, a2, a4, a5, a7, a8, a9⟩ := h
  unfold debtF
  split
  · exact ⟨a0, a3, a6, a10, a11, a1, a2, a4, a5, a7, a8, a9⟩
  · split
    · exact ⟨a0, a3, a6, a10, a11, a1, a2, a4, a5, a7, a8, a9⟩
    · rename_i q0 q1
      have z1 := ok1_1 (Nat.pos_of_ne_zero q1)
      split
      · exact ⟨a0, a3, a6, a10, a11, a1, a2, a4, a5, a7, a8, a9⟩
      · rename_i q2
        have z2 := ok1_1 (Nat.pos_of_ne_zero (fun z => q2 (Or.inl z)))
        split
        · exact ⟨a0, a3, a6, a10, a11, a1, a2, a4, a5, a7, a8, a9⟩
        · rename_i q3
          have z3 := okN_1 (Nat.pos_of_ne_zero q3)
          exact ⟨a0, a3, (by show L 6 0 + 1 ≤ 5; omega), a10, a11, a1, a2, a4, a5, un_lt a7 (by omega), un_lt a8 (by omega), un_le a9 (by omega)⟩
theorem itemF_ok {t : Nat → Nat} {n b : Nat} {L : Ls} (h : LandOk L) : LandOk (itemF t n b L).2.2 := by
  unfold itemF
  repeat' split
  all_goals first | exact h | exact coinF_ok h | exact persF_ok h | exact holdF_ok h | exact debtF_ok h | exact spanF_ok h
theorem emptyN_ok {L : Ls} (h : LandOk L) : LandOk (emptyN L) := by
  obtain ⟨a0, a3, a6, a10, a11, a1, a2, a4, a5, a7, a8, a9⟩ := h
  refine ⟨(by show 0 ≤ 6; omega), (by show 0 ≤ 5; omega), (by show 0 ≤ 5; omega), (by show 9 ≤ 20; omega), (by show 0 ≤ 1; omega), a1, a2, a4, ?_, a7, a8, a9⟩
  intro j
  show (if j < 30 then 0 else L 5 j) ≤ 9
  split
  · omega
  · exact a5 j
/-- where an item's last token was read -/
theorem itemF_b {t : Nat → Nat} {n b : Nat} {L : Ls} (h : b ≤ n) : b ≤ (itemF t n b L).2.1 ∧ (itemF t n b L).2.1 ≤ n := by
  have h1 := pE_le (t := t) h
  have h2 := pE_le (t := t) h1.2
  have h3 := pE_le (t := t) h2.2
  have h4 := pE_le (t := t) h3.2
  unfold itemF coinF persF holdF debtF spanF
  repeat' split
  all_goals (dsimp only; omega)
