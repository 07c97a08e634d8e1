theorem m1_sub (a : Nat) : nI a + Int32.ofInt (-1) = nI a - nI 1 := by
  rw [Int32.sub_eq_add_neg]
  exact congrArg (fun z => nI a + z) (by decide)
theorem un_leM {g : Nat → Nat} {k v M : Nat} (h : ∀ j, g j ≤ M) (hv : v ≤ M) : ∀ j, un g k v j ≤ M := fun j => by
  unfold un
  split
  · exact hv
  · exact h j
theorem un_le2 {g f : Nat → Nat} {k v : Nat} (h : ∀ j, g j ≤ f j) (hv : v ≤ f k) : ∀ j, un g k v j ≤ f j := fun j => by
  unfold un
  split
  · rename_i q; rw [q]; exact hv
  · exact h j
/-- what the payment holds between calls -/
def PayOk (Y : Nat → Nat → Nat) : Prop := (∀ j, Y 0 j ≤ 99) ∧ (∀ j, Y 1 j ≤ Y 0 j) ∧ (∀ j, Y 2 j ≤ 1000000) ∧ Y 3 0 ≤ 1000000
def PI (a b g : Nat → Nat) (k i : Nat) : Prop := (∀ j, a j ≤ 99) ∧ (∀ j, b j ≤ a j) ∧ (∀ j, j < i → a j ≤ g j ∧ (k ≤ j → a j = 0))
theorem PI_st {a b g : Nat → Nat} {k i v : Nat} (h : PI a b g k i) (h1 : v ≤ 99) (h2 : v ≤ g i) (h3 : k ≤ i → v = 0) : PI (un a i v) (un b i 0) g k (i + 1) := by
  refine ⟨un_leM h.1 h1, fun j => ?_, fun j hj => ?_⟩
  · by_cases q : j = i
    · rw [q, un_s]; exact Nat.zero_le _
    · rw [un_n q, un_n q]; exact h.2.1 j
  · by_cases q : j = i
    · rw [q, un_s]; exact ⟨h2, h3⟩
    · rw [un_n q]; exact h.2.2 j (by omega)
def PayPost (u L M : Nat → Nat → Nat) (d : Nat) : Prop := PayOk u ∧ PI (u 0) (u 1) (fun c => M 0 (L 7 d * 6 + c)) (L 0 0) 6

