/-- the whole text, item by item: the answer and the land -/
def rdF (t : Nat → Nat) (n : Nat) : Nat → Nat → Nat → Ls → Int32 × Ls
  | 0, _, i, L => (nI i, L)
  | f + 1, a, i, L => if pK t n a = 0 then (nI i, L) else if (itemF t n a L).1 = 0 then (-10 - nI (pS t n (itemF t n a L).2.1), (itemF t n a L).2.2) else rdF t n f (pE t n (itemF t n a L).2.1) (i + 1) (itemF t n a L).2.2
theorem rdF_e {t : Nat → Nat} {n f a i : Nat} {L : Ls} (hf : 0 < f) (h : pK t n a = 0) : rdF t n f a i L = (nI i, L) := by
  obtain ⟨g, rfl⟩ : ∃ g, f = g + 1 := ⟨f - 1, by omega⟩
  show (if _ then _ else _) = _
  rw [if_pos h]
theorem rdF_b {t : Nat → Nat} {n f a i : Nat} {L : Ls} (hf : 0 < f) (h : 0 < pK t n a) (h2 : (itemF t n a L).1 = 0) : rdF t n f a i L = (-10 - nI (pS t n (itemF t n a L).2.1), (itemF t n a L).2.2) := by
  obtain ⟨g, rfl⟩ : ∃ g, f = g + 1 := ⟨f - 1, by omega⟩
  show (if _ then _ else (if _ then _ else _)) = _
  rw [if_neg (by omega), if_pos h2]
theorem rdF_s {t : Nat → Nat} {n f a i : Nat} {L : Ls} (hf : 0 < f) (h : 0 < pK t n a) (h2 : 0 < (itemF t n a L).1) : rdF t n f a i L = rdF t n (f - 1) (pE t n (itemF t n a L).2.1) (i + 1) (itemF t n a L).2.2 := by
  obtain ⟨g, rfl⟩ : ∃ g, f = g + 1 := ⟨f - 1, by omega⟩
  show (if _ then _ else (if _ then _ else _)) = _
  rw [if_neg (by omega), if_neg (by omega)]
  rfl
theorem min_r {a b : Nat} (h : a ≤ b) (hb : b < 2 ^ 31) : (if nI b < nI a then nI b else nI a) = nI a := if_neg (nI_nlt h hb)
