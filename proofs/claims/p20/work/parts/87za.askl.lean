def cnX (L N : Nat → Nat → Nat) (c k : Nat) : Nat := if k = 0 then L 1 c else if k = 1 then L 2 c else if k = 2 then bitsN (fun q => doN L c q) (L 3 0) else sumN (fun q => N 0 (q * 6 + c)) 5
def pnX (L N : Nat → Nat → Nat) (p k : Nat) : Nat := if k = 0 then L 4 p else if k = 1 then bitsN (fun c => doN L c p) (L 0 0) else if k = 2 then sumN (fun c => N 0 (p * 6 + c) * L 2 c) (L 0 0) else sumN (fun c => if doN L c p = 0 then 0 else sumN (fun q => N 0 (q * 6 + c)) 5 * L 2 c) (L 0 0)
def gz (Z : Nat → Nat → Nat) (c p : Nat) : Nat := if Z 4 c ≤ Z 7 p + 7 ∧ Z 7 p + 7 < Z 4 c + Z 13 0 then 1 else 0
def cnZ (Z : Nat → Nat → Nat) (c k : Nat) : Nat := if k = 0 then Z 4 c else if k = 1 then Z 5 c else if k = 2 then bitsN (fun p => gz Z c p) (Z 6 0) else sumN (fun p => Z 20 (6 * p + c)) (Z 6 0)
def pnZ (Z : Nat → Nat → Nat) (p k : Nat) : Nat := if k = 0 then Z 7 p else if k = 1 then bitsN (fun c => gz Z c p) (Z 3 0) else if k = 2 then sumN (fun c => Z 20 (6 * p + c) * Z 5 c) (Z 3 0) else sumN (fun c => if Z 4 c ≤ Z 7 p + 7 ∧ Z 7 p + 7 < Z 4 c + Z 13 0 then sumN (fun q => Z 20 (6 * q + c)) (Z 6 0) * Z 5 c else 0) (Z 3 0)
theorem bits_y {f : Nat → Nat} {i z : Nat} (hz : z = bitsN f i) (h : f i ≠ 0) : z ||| 2 ^ i = bitsN f (i + 1) := by rw [hz]; show _ = bitsN f i ||| _; rw [if_neg h]
theorem bits_n {f : Nat → Nat} {i z : Nat} (hz : z = bitsN f i) (h : f i = 0) : z ||| 0 = bitsN f (i + 1) := by rw [hz]; show _ = bitsN f i ||| _; rw [if_pos h]
theorem gz_1 {Z : Nat → Nat → Nat} {c p : Nat} (h : Z 4 c ≤ Z 7 p + 7 ∧ Z 7 p + 7 < Z 4 c + Z 13 0) : gz Z c p ≠ 0 := by unfold gz; rw [if_pos h]; decide
theorem gz_0 {Z : Nat → Nat → Nat} {c p : Nat} (h : ¬ (Z 4 c ≤ Z 7 p + 7 ∧ Z 7 p + 7 < Z 4 c + Z 13 0)) : gz Z c p = 0 := by unfold gz; rw [if_neg h]
/-- all of them -/
def andN (f : Nat → Nat) : Nat → Nat
  | 0 => 1
  | n + 1 => if f n = 0 then 0 else andN f n
theorem andN_1 (f : Nat → Nat) : ∀ n, andN f n ≤ 1
  | 0 => Nat.le_refl _
  | n + 1 => by show (if _ then _ else _) ≤ 1; split; exact Nat.zero_le _; exact andN_1 f n
theorem andN_z {f : Nat → Nat} {i : Nat} (h : f i = 0) : ∀ k, andN f (i + 1 + k) = 0
  | 0 => by show (if _ then _ else _) = 0; rw [if_pos h]
  | k + 1 => by
    show (if f (i + 1 + k) = 0 then 0 else andN f (i + 1 + k)) = 0
    rw [andN_z h k]; split <;> rfl
theorem andN_zN {f : Nat → Nat} {i n : Nat} (h : f i = 0) (hi : i < n) : andN f n = 0 := by
  have := andN_z h (n - (i + 1))
  rwa [show i + 1 + (n - (i + 1)) = n by omega] at this
theorem andN_s {f : Nat → Nat} {i : Nat} (h : f i ≠ 0) (hz : andN f i = 1) : andN f (i + 1) = 1 := by show (if _ then _ else _) = 1; rw [if_neg h]; exact hz
theorem andN_y {f : Nat → Nat} {i z : Nat} (hz : z = andN f i) (h0 : 0 < z) (h : f i ≠ 0) : 1 = andN f (i + 1) := by
  have := andN_1 f i
  show _ = (if _ then _ else _); rw [if_neg h]; omega
theorem andN_n {f : Nat → Nat} {i : Nat} (h : f i = 0) : 0 = andN f (i + 1) := by show _ = (if _ then _ else _); rw [if_pos h]
theorem andN_k {f : Nat → Nat} {i z : Nat} (hz : z = andN f i) (h : z = 0) : 0 = andN f (i + 1) := by
  show _ = (if _ then _ else _)
  split
  · rfl
  · omega
/-- the years: how many, the first and the last, less one; 0: none -/
def yrN (g : Nat → Nat) : Nat → Nat × Nat × Nat
  | 0 => (0, 0, 0)
  | y + 1 => if g y = 0 then yrN g y else ((yrN g y).1 + 1, if (yrN g y).1 = 0 then y + 1 else (yrN g y).2.1, y + 1)
theorem yr_n {g : Nat → Nat} {y : Nat} {z : Nat × Nat × Nat} (hz : z = yrN g y) (h : g y = 0) : z = yrN g (y + 1) := by rw [hz]; exact (if_pos h).symm
theorem yr_a {g : Nat → Nat} {y : Nat} {z : Nat × Nat × Nat} (hz : z = yrN g y) (h : g y ≠ 0) (h0 : z.1 = 0) : (z.1 + 1, y + 1, y + 1) = yrN g (y + 1) := by
  subst hz
  show _ = (if _ then _ else _)
  rw [if_neg h, if_pos h0]
theorem yr_b {g : Nat → Nat} {y : Nat} {z : Nat × Nat × Nat} (hz : z = yrN g y) (h : g y ≠ 0) (h0 : z.1 ≠ 0) : (z.1 + 1, z.2.1, y + 1) = yrN g (y + 1) := by
  subst hz
  show _ = (if _ then _ else _)
  rw [if_neg h, if_neg h0]
theorem yr_le (g : Nat → Nat) : ∀ i, (yrN g i).1 ≤ i
  | 0 => Nat.le_refl _
  | y + 1 => by
    have := yr_le g y
    show (if _ then _ else _ : Nat × Nat × Nat).1 ≤ _
    split
    · exact Nat.le_succ_of_le this
    · exact Nat.succ_le_succ this
def yrR (t : Nat × Nat × Nat) (k : Nat) : Int32 := if k = 0 then nI t.1 else if k = 1 then ldI t.2.1 else ldI t.2.2
def mkX (L N : Nat → Nat → Nat) (c k : Nat) : Int32 := if k = 0 then nI (L 2 c) else if k = 1 then nI (L 2 c + sumN (fun q => N 0 (q * 6 + c)) 5) else if k = 2 then nI (L 2 c) - nI (L 1 c) else if k = 3 then nI ((L 2 c + sumN (fun q => N 0 (q * 6 + c)) 5) * 2) else if k = 4 then nI (L 2 c) - nI (L 1 c) + nI (popN (bitsN (fun q => doN L c q) (L 3 0))) else nI (L 2 c + popN (N 0 35))
def mkZ (Z : Nat → Nat → Nat) (c k : Nat) : Int32 := if k = 0 then nI (Z 5 c) else if k = 1 then nI (Z 5 c + sumN (fun p => Z 20 (6 * p + c)) (Z 6 0)) else if k = 2 then nI (Z 5 c) - nI (Z 4 c) else if k = 3 then nI (2 * (Z 5 c + sumN (fun p => Z 20 (6 * p + c)) (Z 6 0))) else if k = 4 then nI (Z 5 c) - nI (Z 4 c) + nI (sumN (fun b => bitsN (fun p => gz Z c p) (Z 6 0) / 2 ^ b % 2) 6) else nI (Z 5 c + sumN (fun b => Z 20 35 / 2 ^ b % 2) 6)
def leI (E : Nat → Nat) (z : Nat) : Int32 := if z = 0 then -1 else nI (E (z - 1))
theorem nI_nle1 {a : Nat} (h : a < 2 ^ 31) : ¬ nI a ≤ -1 := fun q => by
  rw [Int32.le_iff_toInt_le, nI_toInt h] at q
  have : (-1 : Int32).toInt = -1 := by decide
  omega
theorem ldN_cg {E E' H H' : Nat → Nat} {p : Nat} : ∀ n, (∀ o, o < n → E o = E' o) → (∀ o, o < n → (0 < H o ↔ 0 < H' o)) → ldN E H p n = ldN E' H' p n
  | 0, _, _ => rfl
  | o + 1, hE, hH => by
    have ih := ldN_cg (p := p) o (fun i hi => hE i (by omega)) (fun i hi => hH i (by omega))
    have le := ldN_le E' H' p o
    show (if _ then _ else _) = (if _ then _ else _)
    rw [ih]
    have e1 := hE o (by omega)
    have e2 := hH o (by omega)
    have key : (o ≠ p ∧ 0 < H o ∧ (ldN E' H' p o = 0 ∨ E (ldN E' H' p o - 1) < E o)) ↔ (o ≠ p ∧ 0 < H' o ∧ (ldN E' H' p o = 0 ∨ E' (ldN E' H' p o - 1) < E' o)) := by
      rw [e1, e2]
      by_cases q : ldN E' H' p o = 0
      · simp [q]
      · rw [hE (ldN E' H' p o - 1) (by omega)]
    by_cases q : (o ≠ p ∧ 0 < H' o ∧ (ldN E' H' p o = 0 ∨ E' (ldN E' H' p o - 1) < E' o))
    · rw [if_pos q, if_pos (key.mpr q)]
    · rw [if_neg q, if_neg (fun y => q (key.mp y))]
def gy (Z : Nat → Nat → Nat) (y i : Nat) : Nat := if Z 4 (Z 27 i) ≤ y + 7 ∧ y + 7 < Z 4 (Z 27 i) + Z 13 0 then 1 else 0
theorem gy_1 {Z : Nat → Nat → Nat} {y i : Nat} (h : Z 4 (Z 27 i) ≤ y + 7 ∧ y + 7 < Z 4 (Z 27 i) + Z 13 0) : gy Z y i ≠ 0 := by unfold gy; rw [if_pos h]; decide
theorem gy_0 {Z : Nat → Nat → Nat} {y i : Nat} (h : ¬ (Z 4 (Z 27 i) ≤ y + 7 ∧ y + 7 < Z 4 (Z 27 i) + Z 13 0)) : gy Z y i = 0 := by unfold gy; rw [if_neg h]
