theorem m1_sub (a : Nat) : nI a + Int32.ofInt (-1) = nI a - nI 1 := by
  rw [Int32.sub_eq_add_neg]
  exact congrArg (fun z => nI a + z) (by decide)
theorem un_leM {g : Nat → Nat} {k v M : Nat} (h : ∀ j, g j ≤ M) (hv : v ≤ M) : ∀ j, un g k v j ≤ M := fun j => by
  unfold un
  split
  · exact hv
  · exact h j
theorem un_le2 {g f : Nat → Nat} {k v : Nat} (h : ∀ j, g j ≤ f j) (hv : v ≤ f k) : ∀ j, un g k v j ≤ f j := fun j => by
  unfold un
  split
  · rename_i q; rw [q]; exact hv
  · exact h j
/-- what the payment holds between calls -/
def PayOk (Y : Nat → Nat → Nat) : Prop := (∀ j, Y 0 j ≤ 99) ∧ (∀ j, Y 1 j ≤ Y 0 j) ∧ (∀ j, Y 2 j ≤ 1000000) ∧ Y 3 0 ≤ 1000000
def PI (a b g : Nat → Nat) (k i : Nat) : Prop := (∀ j, a j ≤ 99) ∧ (∀ j, b j ≤ a j) ∧ (∀ j, j < i → a j ≤ g j ∧ (k ≤ j → a j = 0))
theorem PI_st {a b g : Nat → Nat} {k i v : Nat} (h : PI a b g k i) (h1 : v ≤ 99) (h2 : v ≤ g i) (h3 : k ≤ i → v = 0) : PI (un a i v) (un b i 0) g k (i + 1) := by
  refine ⟨un_leM h.1 h1, fun j => ?_, fun j hj => ?_⟩
  · by_cases q : j = i
    · rw [q, un_s]; exact Nat.zero_le _
    · rw [un_n q, un_n q]; exact h.2.1 j
  · by_cases q : j = i
    · rw [q, un_s]; exact ⟨h2, h3⟩
    · rw [un_n q]; exact h.2.2 j (by omega)
theorem pay_set {a b g f : Nat → Nat} {k t : Nat} {Y : Nat → Nat → Nat} (h : PI a b g k 6) (hf : ∀ j, f j ≤ 1000000) (ht : t ≤ 1000000) (e0 : Y 0 = a) (e1 : Y 1 = b) (e2 : Y 2 = f) (e3 : Y 3 0 = t) : PayOk Y ∧ PI (Y 0) (Y 1) g k 6 := by
  unfold PayOk
  rw [e0, e1, e2, e3]
  exact ⟨⟨h.1, h.2.1, hf, ht⟩, h⟩
theorem PI_us {a b c g : Nat → Nat} {k i : Nat} (h : PI a b g k i) (hc : ∀ j, c j ≤ a j) : PI a c g k i := ⟨h.1, hc, h.2.2⟩
theorem PI_99 {a b g x : Nat → Nat} {k : Nat} (h : PI a b g k 6) (hx : ∀ j, x j ≤ 99) (hk : ∀ c, c < k → x c + b c ≤ 99) : ∀ c, c < 6 → x c + b c ≤ 99 := fun c hc => by
  rcases Nat.lt_or_ge c k with q | q
  · exact hk c q
  · have h1 := (h.2.2 c hc).2 q
    have h2 := h.2.1 c
    have h3 := hx c
    omega
/-- bits of a number below 64 -/
def popN (x : Nat) : Nat := x % 2 + x / 2 % 2 + x / 4 % 2 + x / 8 % 2 + x / 16 % 2 + x / 32 % 2
theorem popN_le (x : Nat) : popN x ≤ 6 := by unfold popN; omega
