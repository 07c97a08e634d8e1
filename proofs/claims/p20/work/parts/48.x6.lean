def XOk (X : Nat → Nat → Nat) : Prop := X 1 0 ≤ 180 ∧ X 7 0 ≤ 3 ∧ (∀ j, X 11 j ≤ 5) ∧ X 12 0 ≤ 6
theorem swn4 (n : Nat) : n = 0 ∨ n = 1 ∨ n = 2 ∨ n = 3 ∨ n = 4 ∨ 4 < n := by omega
theorem nsp2 {k : Nat} (h : k < 2) : k = 0 ∨ k = 1 := by omega
theorem or_3 {a b : Nat} (ha : a ≤ 3) (hb : b ≤ 3) : a ||| b ≤ 3 := Nat.le_of_lt_succ (Nat.or_lt_two_pow (n := 2) (by omega) (by omega))
theorem inN_le {v : Int32} {n : Nat} (hn : n < 2 ^ 31) (h1 : ¬ v < 0) (h2 : v ≤ nI n) : inN v (n + 1) := by
  obtain ⟨j, hj, e⟩ := nI_of h1
  refine ⟨j, ?_, e⟩
  rw [e] at h2
  exact Nat.lt_succ_of_le ((nI_leI hj hn).mp h2)
theorem inN_lt {v : Int32} {n : Nat} (hn : n < 2 ^ 31) (h1 : ¬ v < 0) (h2 : v < nI n) : inN v n := by
  obtain ⟨j, hj, e⟩ := nI_of h1
  refine ⟨j, ?_, e⟩
  rw [e] at h2
  exact (nI_ltI hj hn).mp h2
theorem inN_nle {v : Int32} {n : Nat} (hn : n < 2 ^ 31) (h : ¬ v ≤ nI n) : ¬ inN v (n + 1) := fun ⟨k, hk, e⟩ => h (e ▸ nI_le (by omega) hn)
theorem inN_nlt {v : Int32} {n : Nat} (hn : n < 2 ^ 31) (h : ¬ v < nI n) : ¬ inN v n := fun ⟨k, hk, e⟩ => h (e ▸ nI_lt hk hn)
theorem inN_gt {v : Int32} {n : Nat} (hn : n < 2 ^ 31) (h : nI n < v) : ¬ inN v (n + 1) := inN_nle hn (fun q => absurd h (Int32.not_lt.mpr q))
/-- what a kind of coin adds to the trace -/
def mkT (k : Nat) : Int64 := if k = 0 then 1 else if k = 1 then 11 else if k = 2 then 101 else if k = 3 then 1011 else if k = 4 then 10101 else 100001
theorem l_add2 (x a b c : Int64) (h : a + b = c) : x + a + b = x + c := by rw [Int64.add_assoc, h]
theorem bits5 {f : Nat → Nat} {n : Nat} (h : n ≤ 6) : bitsN f n < 64 := Nat.lt_of_lt_of_le (bitsN_lt f n) (pw6 h)
theorem sumN_0 {f : Nat → Nat} {i : Nat} (h : f i = 0) : sumN f i = sumN f (i + 1) := by
  show _ = sumN f i + f i
  rw [h, Nat.add_zero]
theorem sumN_v {f : Nat → Nat} {i v : Nat} (h : f i = v) : sumN f i + v = sumN f (i + 1) := by
  show _ = sumN f i + f i
  rw [h]
