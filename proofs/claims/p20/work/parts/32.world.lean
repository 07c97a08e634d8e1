def WorldOk (V : Nat → Nat → Nat) : Prop := V 2 0 ≤ 6 ∧ V 3 0 ≤ 60 ∧ (∀ j, V 0 j ≤ 495) ∧ (∀ j, V 1 j ≤ 99)
def WI (a b : Nat → Nat) (L M : Nat → Nat → Nat) (cr i : Nat) : Prop := (∀ j, a j ≤ 495) ∧ (∀ j, b j ≤ 99) ∧ ∀ j, j < i → b j = L 2 j ∧ a j = (if doN L j cr = 0 then 0 else sumN (fun q => M 0 (q * 6 + j)) 5)
theorem WI_st {a b : Nat → Nat} {L M : Nat → Nat → Nat} {cr i v : Nat} (h : WI a b L M cr i) (h1 : v ≤ 495) (h2 : L 2 i ≤ 99) (h3 : v = (if doN L i cr = 0 then 0 else sumN (fun q => M 0 (q * 6 + i)) 5)) : WI (un a i v) (un b i (L 2 i)) L M cr (i + 1) := by
  refine ⟨un_leM h.1 h1, un_leM h.2.1 h2, fun j hj => ?_⟩
  by_cases q : j = i
  · subst q; rw [un_s, un_s]; exact ⟨rfl, h3⟩
  · rw [un_n q, un_n q]; exact h.2.2 j (by omega)
theorem pw6 {k : Nat} (h : k ≤ 6) : 2 ^ k ≤ 64 := Nat.pow_le_pow_right (n := 2) (by decide) h
theorem p10 {k : Nat} (h : k ≤ 6) : 10 ^ k ≤ 1000000 := Nat.pow_le_pow_right (n := 10) (by decide) h
def chN (lost x : Nat) : Nat → Nat
  | 0 => 1
  | i + 1 => chN lost x i * (if lost / 2 ^ i % 2 = 1 then x else 10 - x)
theorem chN_le {lost x : Nat} (hx : x ≤ 10) : ∀ i, chN lost x i ≤ 10 ^ i
  | 0 => Nat.le_refl _
  | i + 1 => by
    show chN lost x i * _ ≤ 10 ^ (i + 1)
    rw [Nat.pow_succ]
    exact Nat.mul_le_mul (chN_le hx i) (by split <;> omega)
theorem chN_t {lost x i : Nat} (h : lost / 2 ^ i % 2 = 1) : chN lost x i * x = chN lost x (i + 1) := by
  show _ = chN lost x i * _
  rw [if_pos h]
theorem chN_f {lost x i : Nat} (h : lost / 2 ^ i % 2 ≠ 1) : chN lost x i * (10 - x) = chN lost x (i + 1) := by
  show _ = chN lost x i * _
  rw [if_neg h]
