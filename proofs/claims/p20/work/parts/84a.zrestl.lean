theorem cq_s {f z : Nat → Nat} {o i : Nat} (h : z = cpN f o i) (hi : i < o) : un z (o + i) (z i) = cpN f o (i + 1) := by
  rw [h, cp_lo hi]
  funext j
  unfold un
  by_cases q : j = o + i
  · rw [if_pos q, q]
    unfold cpN
    rw [if_pos (by omega)]
    exact congrArg f (by omega)
  · rw [if_neg q]
    unfold cpN
    by_cases y : o ≤ j ∧ j < o + i
    · rw [if_pos y, if_pos (by omega)]
    · rw [if_neg y, if_neg (by omega)]
theorem cq_b {f : Nat → Nat} {k i : Nat} (h : ∀ j, f j ≤ nbd j) : ∀ j, cpN f (397 * (1 + k)) i j ≤ nbd j := fun j => by
  unfold cpN
  split
  · rename_i q
    have h1 := h (j - 397 * (1 + k))
    rw [← nbd_per (1 + k) (j - 397 * (1 + k)), show 397 * (1 + k) + (j - 397 * (1 + k)) = j by omega] at h1
    exact h1
  · exact h j
/-- an image comes back -/
def bkN (f : Nat → Nat) (o i : Nat) : Nat → Nat := fun j => if j < i then f (o + j) else f j
theorem bk_0 (f : Nat → Nat) (o : Nat) : bkN f o 0 = f := funext (fun j => if_neg (Nat.not_lt_zero j))
theorem bk_s {f z : Nat → Nat} {o i : Nat} (h : z = bkN f o i) (hi : i ≤ o) : un z i (z (o + i)) = bkN f o (i + 1) := by
  rw [h]
  funext j
  unfold un
  by_cases q : j = i
  · rw [if_pos q, q]
    unfold bkN
    by_cases y : o + i < i
    · omega
    · rw [if_neg y, if_pos (by omega)]
  · rw [if_neg q]
    unfold bkN
    by_cases y : j < i
    · rw [if_pos y, if_pos (by omega)]
    · rw [if_neg y, if_neg (by omega)]
theorem bk_b {f : Nat → Nat} {k i : Nat} (h : ∀ j, f j ≤ nbd j) : ∀ j, bkN f (397 * (1 + k)) i j ≤ nbd j := fun j => by
  unfold bkN
  split
  · have h1 := h (397 * (1 + k) + j)
    rw [nbd_per] at h1
    exact h1
  · exact h j
/-- the first of those with the most ease, less one; 0: none -/
def ldN (E H : Nat → Nat) (p : Nat) : Nat → Nat
  | 0 => 0
  | o + 1 => if o ≠ p ∧ 0 < H o ∧ (ldN E H p o = 0 ∨ E (ldN E H p o - 1) < E o) then o + 1 else ldN E H p o
def ldI (z : Nat) : Int32 := if z = 0 then -9 else nI (z - 1)
theorem ldN_le (E H : Nat → Nat) (p : Nat) : ∀ i, ldN E H p i ≤ i
  | 0 => Nat.le_refl _
  | o + 1 => by
    have := ldN_le E H p o
    show (if _ then _ else _) ≤ _
    split
    · exact Nat.le_refl _
    · exact Nat.le_succ_of_le this
theorem ldN_t {E H : Nat → Nat} {p o z : Nat} (hz : z = ldN E H p o) (h1 : o ≠ p) (h2 : 0 < H o) (h3 : z = 0 ∨ E (z - 1) < E o) : o + 1 = ldN E H p (o + 1) := by
  subst hz
  exact (if_pos ⟨h1, h2, h3⟩).symm
theorem ldN_f {E H : Nat → Nat} {p o z : Nat} (hz : z = ldN E H p o) (h : ¬ (o ≠ p ∧ 0 < H o ∧ (z = 0 ∨ E (z - 1) < E o))) : z = ldN E H p (o + 1) := by
  subst hz
  exact (if_neg h).symm
theorem z_cases (z : Nat) : z = 0 ∨ ∃ k, z = k + 1 := by
  rcases z with _ | k
  · exact Or.inl rfl
  · exact Or.inr ⟨k, rfl⟩
theorem pw_1 (k : Nat) : 1 ≤ 2 ^ k := Nat.one_le_two_pow
theorem or32 {a b : Nat} (ha : a < 32) (hb : b < 5) : a ||| 2 ^ b < 32 := Nat.or_lt_two_pow (n := 5) ha (by
  rcases (show b = 0 ∨ b = 1 ∨ b = 2 ∨ b = 3 ∨ b = 4 by omega) with rfl | rfl | rfl | rfl | rfl <;> decide)
theorem p5 {k : Nat} (h : k ≤ 5) : 5 ^ k ≤ 3125 := Nat.pow_le_pow_right (n := 5) (by decide) h
theorem tk_b {f : Nat → Nat} (h : ∀ j, f j ≤ nbd j) {i : Nat} (hi : i < 36) : f i ≤ zb 22 i := by
  have := h i
  rw [nbd_lo hi] at this
  exact this
