theorem nbd_35 : nbd 35 = 31 := by decide
theorem nbd_36 : nbd 36 = 10 := by decide
theorem nbd_b {j : Nat} (h : j < 360) : nbd (37 + j) = cb j := by
  unfold nbd
  rw [Nat.mod_eq_of_lt (show 37 + j < 397 by omega), if_neg (by omega), if_neg (by omega), show 37 + j - 37 = j by omega]
theorem nbd_lo {j : Nat} (h : j < 36) : nbd j = cb j := by
  unfold nbd
  rw [Nat.mod_eq_of_lt (show j < 397 by omega), if_pos h]
theorem nbd_per (i j : Nat) : nbd (397 * i + j) = nbd j := by
  unfold nbd
  rw [show (397 * i + j) % 397 = j % 397 by omega]
theorem cb_36 (j : Nat) : cb (36 + j) = cb j := by have := cb_per 1 j; rwa [Nat.one_mul] at this
theorem many5 : ∀ x, x < 32 → sumN (fun k => x / 2 ^ k % 2) 6 ≤ 5 := by decide +kernel
theorem many6 (x : Nat) : sumN (fun k => x / 2 ^ k % 2) 6 ≤ 6 := Nat.le_trans (sumN_le (M := 1) (fun j => by omega) 6) (by decide)
def ZP (ks : List Nat) (u Z : Nat → Nat → Nat) : Prop := ZOk u ∧ ∀ k, k ∉ ks → u k = Z k
theorem ZP.rf {ks : List Nat} {Z : Nat → Nat → Nat} (h : ZOk Z) : ZP ks Z Z := ⟨h, fun _ _ => rfl⟩
theorem ZP.tr {ks : List Nat} {u v Z : Nat → Nat → Nat} (h : ZP ks u v) (k : ZP ks v Z) : ZP ks u Z := ⟨h.1, fun a q => (h.2 a q).trans (k.2 a q)⟩
theorem ZP.set {ks : List Nat} {u Z : Nat → Nat → Nat} {k : Nat} {g : Nat → Nat} (h : ZP ks u Z) (hk : k ∈ ks) (hg : ∀ j, g j ≤ zb k j) : ZP ks (ua u k g) Z := ⟨zok_set h.1 hg, fun a q => (congrFun (rfl : ua u k g = ua u k g) a).trans ((ua_n (show a ≠ k from fun z => q (by rw [z]; exact hk))).trans (h.2 a q))⟩
