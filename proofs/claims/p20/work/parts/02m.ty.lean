theorem goodIn_app {big a b : List Cond} (ha : GoodIn big a) (hb : GoodIn big b) : GoodIn big (a ++ b) := fun w h => (List.mem_append.mp h).elim (ha w) (hb w)
theorem nlX0 : ∀ a, a < 12 → (TX0 a).2.1.utf8ByteSize = ([5, 6, 5, 6, 4, 9, 5, 6, 13, 3, 4, 8] : List Nat).getD a 0 := by decide +kernel
theorem npX0 : ∀ q, q ∈ ([(0, 2), (0, 6), (1, 3), (1, 7), (2, 6), (3, 7), (4, 10)] : List (Nat × Nat)) → (TX0 q.1).2.1 ≠ (TX0 q.2).2.1 := by decide +kernel
def nkfX0 (a b : Nat) : Bool := Nat.beq a b || !(Nat.beq (([5, 6, 5, 6, 4, 9, 5, 6, 13, 3, 4, 8] : List Nat).getD a 0) (([5, 6, 5, 6, 4, 9, 5, 6, 13, 3, 4, 8] : List Nat).getD b 0)) || List.elem (a, b) ([(0, 2), (0, 6), (1, 3), (1, 7), (2, 6), (3, 7), (4, 10)] : List (Nat × Nat)) || List.elem (b, a) ([(0, 2), (0, 6), (1, 3), (1, 7), (2, 6), (3, 7), (4, 10)] : List (Nat × Nat))
theorem nkX0 : ∀ a, a < 12 → ∀ b, b < 12 → nkfX0 a b = true := by decide +kernel
theorem nmX0 : ∀ a, a < 12 → ∀ b, b < 12 → a ≠ b → (TX0 a).2.1 ≠ (TX0 b).2.1 := fun a ha b hb h e => by
  have e2 := congrArg String.utf8ByteSize e
  rw [nlX0 a ha, nlX0 b hb] at e2
  have k := nkX0 a ha b hb
  unfold nkfX0 at k
  rw [e2, Bool.or_eq_true, Bool.or_eq_true, Bool.or_eq_true] at k
  rcases k with ((k | k) | k) | k
  · exact h (Nat.eq_of_beq_eq_true k)
  · rw [Nat.beq_refl] at k; exact absurd k (by decide)
  · exact npX0 _ (List.mem_of_elem_eq_true k) e
  · exact npX0 _ (List.mem_of_elem_eq_true k) e.symm
theorem tyX0_ok : ∀ k, k < 12 → parseFieldDescriptor (TX0 k).2.2.1 = some (tyX0 k) := by decide +kernel
theorem nmX1 : ∀ a, a < 3 → ∀ b, b < 3 → a ≠ b → (TX1 a).2.1 ≠ (TX1 b).2.1 := by decide +kernel
theorem tyX1_ok : ∀ k, k < 3 → parseFieldDescriptor (TX1 k).2.2.1 = some (tyX1 k) := by decide +kernel
theorem nmX2 : ∀ a, a < 4 → ∀ b, b < 4 → a ≠ b → (TX2 a).2.1 ≠ (TX2 b).2.1 := by decide +kernel
theorem tyX2_ok : ∀ k, k < 4 → parseFieldDescriptor (TX2 k).2.2.1 = some (tyX2 k) := by decide +kernel
theorem nmX3 : ∀ a, a < 6 → ∀ b, b < 6 → a ≠ b → (TX3 a).2.1 ≠ (TX3 b).2.1 := by decide +kernel
theorem tyX3_ok : ∀ k, k < 6 → parseFieldDescriptor (TX3 k).2.2.1 = some (tyX3 k) := by decide +kernel
theorem nmX4 : ∀ a, a < 4 → ∀ b, b < 4 → a ≠ b → (TX4 a).2.1 ≠ (TX4 b).2.1 := by decide +kernel
theorem tyX4_ok : ∀ k, k < 4 → parseFieldDescriptor (TX4 k).2.2.1 = some (tyX4 k) := by decide +kernel
theorem nmX5 : ∀ a, a < 4 → ∀ b, b < 4 → a ≠ b → (TX5 a).2.1 ≠ (TX5 b).2.1 := by decide +kernel
theorem tyX5_ok : ∀ k, k < 4 → parseFieldDescriptor (TX5 k).2.2.1 = some (tyX5 k) := by decide +kernel
theorem nlX6 : ∀ a, a < 14 → (TX6 a).2.1.utf8ByteSize = ([4, 5, 6, 4, 5, 7, 6, 10, 7, 5, 4, 5, 10, 6] : List Nat).getD a 0 := by decide +kernel
theorem npX6 : ∀ q, q ∈ ([(0, 3), (0, 10), (1, 4), (1, 9), (1, 11), (2, 6), (2, 13), (3, 10), (4, 9), (4, 11), (5, 8), (6, 13), (7, 12), (9, 11)] : List (Nat × Nat)) → (TX6 q.1).2.1 ≠ (TX6 q.2).2.1 := by decide +kernel
def nkfX6 (a b : Nat) : Bool := Nat.beq a b || !(Nat.beq (([4, 5, 6, 4, 5, 7, 6, 10, 7, 5, 4, 5, 10, 6] : List Nat).getD a 0) (([4, 5, 6, 4, 5, 7, 6, 10, 7, 5, 4, 5, 10, 6] : List Nat).getD b 0)) || List.elem (a, b) ([(0, 3), (0, 10), (1, 4), (1, 9), (1, 11), (2, 6), (2, 13), (3, 10), (4, 9), (4, 11), (5, 8), (6, 13), (7, 12), (9, 11)] : List (Nat × Nat)) || List.elem (b, a) ([(0, 3), (0, 10), (1, 4), (1, 9), (1, 11), (2, 6), (2, 13), (3, 10), (4, 9), (4, 11), (5, 8), (6, 13), (7, 12), (9, 11)] : List (Nat × Nat))
theorem nkX6 : ∀ a, a < 14 → ∀ b, b < 14 → nkfX6 a b = true := by decide +kernel
theorem nmX6 : ∀ a, a < 14 → ∀ b, b < 14 → a ≠ b → (TX6 a).2.1 ≠ (TX6 b).2.1 := fun a ha b hb h e => by
  have e2 := congrArg String.utf8ByteSize e
  rw [nlX6 a ha, nlX6 b hb] at e2
  have k := nkX6 a ha b hb
  unfold nkfX6 at k
  rw [e2, Bool.or_eq_true, Bool.or_eq_true, Bool.or_eq_true] at k
  rcases k with ((k | k) | k) | k
  · exact h (Nat.eq_of_beq_eq_true k)
  · rw [Nat.beq_refl] at k; exact absurd k (by decide)
  · exact npX6 _ (List.mem_of_elem_eq_true k) e
  · exact npX6 _ (List.mem_of_elem_eq_true k) e.symm
theorem tyX6_ok : ∀ k, k < 14 → parseFieldDescriptor (TX6 k).2.2.1 = some (tyX6 k) := by decide +kernel
theorem nlX7 : ∀ a, a < 29 → (TX7 a).2.1.utf8ByteSize = ([5, 4, 5, 5, 6, 5, 6, 4, 10, 5, 6, 13, 4, 4, 8, 2, 5, 4, 5, 5, 3, 6, 5, 5, 6, 4, 3, 8, 4] : List Nat).getD a 0 := by decide +kernel
theorem npX7 : ∀ q, q ∈ ([(0, 2), (0, 3), (0, 5), (0, 9), (0, 16), (0, 18), (0, 19), (0, 22), (0, 23), (1, 7), (1, 12), (1, 13), (1, 17), (1, 25), (1, 28), (2, 3), (2, 5), (2, 9), (2, 16), (2, 18), (2, 19), (2, 22), (2, 23), (3, 5), (3, 9), (3, 16), (3, 18), (3, 19), (3, 22), (3, 23), (4, 6), (4, 10), (4, 21), (4, 24), (5, 9), (5, 16), (5, 18), (5, 19), (5, 22), (5, 23), (6, 10), (6, 21), (6, 24), (7, 12), (7, 13), (7, 17), (7, 25), (7, 28), (9, 16), (9, 18), (9, 19), (9, 22), (9, 23), (10, 21), (10, 24), (12, 13), (12, 17), (12, 25), (12, 28), (13, 17), (13, 25), (13, 28), (14, 27), (16, 18), (16, 19), (16, 22), (16, 23), (17, 25), (17, 28), (18, 19), (18, 22), (18, 23), (19, 22), (19, 23), (20, 26), (21, 24), (22, 23), (25, 28)] : List (Nat × Nat)) → (TX7 q.1).2.1 ≠ (TX7 q.2).2.1 := by decide +kernel
def nkfX7 (a b : Nat) : Bool := Nat.beq a b || !(Nat.beq (([5, 4, 5, 5, 6, 5, 6, 4, 10, 5, 6, 13, 4, 4, 8, 2, 5, 4, 5, 5, 3, 6, 5, 5, 6, 4, 3, 8, 4] : List Nat).getD a 0) (([5, 4, 5, 5, 6, 5, 6, 4, 10, 5, 6, 13, 4, 4, 8, 2, 5, 4, 5, 5, 3, 6, 5, 5, 6, 4, 3, 8, 4] : List Nat).getD b 0)) || List.elem (a, b) ([(0, 2), (0, 3), (0, 5), (0, 9), (0, 16), (0, 18), (0, 19), (0, 22), (0, 23), (1, 7), (1, 12), (1, 13), (1, 17), (1, 25), (1, 28), (2, 3), (2, 5), (2, 9), (2, 16), (2, 18), (2, 19), (2, 22), (2, 23), (3, 5), (3, 9), (3, 16), (3, 18), (3, 19), (3, 22), (3, 23), (4, 6), (4, 10), (4, 21), (4, 24), (5, 9), (5, 16), (5, 18), (5, 19), (5, 22), (5, 23), (6, 10), (6, 21), (6, 24), (7, 12), (7, 13), (7, 17), (7, 25), (7, 28), (9, 16), (9, 18), (9, 19), (9, 22), (9, 23), (10, 21), (10, 24), (12, 13), (12, 17), (12, 25), (12, 28), (13, 17), (13, 25), (13, 28), (14, 27), (16, 18), (16, 19), (16, 22), (16, 23), (17, 25), (17, 28), (18, 19), (18, 22), (18, 23), (19, 22), (19, 23), (20, 26), (21, 24), (22, 23), (25, 28)] : List (Nat × Nat)) || List.elem (b, a) ([(0, 2), (0, 3), (0, 5), (0, 9), (0, 16), (0, 18), (0, 19), (0, 22), (0, 23), (1, 7), (1, 12), (1, 13), (1, 17), (1, 25), (1, 28), (2, 3), (2, 5), (2, 9), (2, 16), (2, 18), (2, 19), (2, 22), (2, 23), (3, 5), (3, 9), (3, 16), (3, 18), (3, 19), (3, 22), (3, 23), (4, 6), (4, 10), (4, 21), (4, 24), (5, 9), (5, 16), (5, 18), (5, 19), (5, 22), (5, 23), (6, 10), (6, 21), (6, 24), (7, 12), (7, 13), (7, 17), (7, 25), (7, 28), (9, 16), (9, 18), (9, 19), (9, 22), (9, 23), (10, 21), (10, 24), (12, 13), (12, 17), (12, 25), (12, 28), (13, 17), (13, 25), (13, 28), (14, 27), (16, 18), (16, 19), (16, 22), (16, 23), (17, 25), (17, 28), (18, 19), (18, 22), (18, 23), (19, 22), (19, 23), (20, 26), (21, 24), (22, 23), (25, 28)] : List (Nat × Nat))
theorem nkX7 : ∀ a, a < 29 → ∀ b, b < 29 → nkfX7 a b = true := by decide +kernel
theorem nmX7 : ∀ a, a < 29 → ∀ b, b < 29 → a ≠ b → (TX7 a).2.1 ≠ (TX7 b).2.1 := fun a ha b hb h e => by
  have e2 := congrArg String.utf8ByteSize e
  rw [nlX7 a ha, nlX7 b hb] at e2
  have k := nkX7 a ha b hb
  unfold nkfX7 at k
  rw [e2, Bool.or_eq_true, Bool.or_eq_true, Bool.or_eq_true] at k
  rcases k with ((k | k) | k) | k
  · exact h (Nat.eq_of_beq_eq_true k)
  · rw [Nat.beq_refl] at k; exact absurd k (by decide)
  · exact npX7 _ (List.mem_of_elem_eq_true k) e
  · exact npX7 _ (List.mem_of_elem_eq_true k) e.symm
theorem tyX7_ok : ∀ k, k < 29 → parseFieldDescriptor (TX7 k).2.2.1 = some (tyX7 k) := by decide +kernel
