theorem nbd_35 : nbd 35 = 31 := by decide
theorem nbd_36 : nbd 36 = 10 := by decide
theorem nbd_b {j : Nat} (h : j < 360) : nbd (37 + j) = cb j := by
  unfold nbd
  rw [Nat.mod_eq_of_lt (show 37 + j < 397 by omega), if_neg (by omega), if_neg (by omega), show 37 + j - 37 = j by omega]
theorem nbd_lo {j : Nat} (h : j < 36) : nbd j = cb j := by
  unfold nbd
  rw [Nat.mod_eq_of_lt (show j < 397 by omega), if_pos h]
theorem nbd_per (i j : Nat) : nbd (397 * i + j) = nbd j := by
  unfold nbd
  rw [show (397 * i + j) % 397 = j % 397 by omega]
theorem cb_36 (j : Nat) : cb (36 + j) = cb j := by have := cb_per 1 j; rwa [Nat.one_mul] at this
theorem many5 : ∀ x, x < 32 → sumN (fun k => x / 2 ^ k % 2) 6 ≤ 5 := by decide +kernel
theorem many6 (x : Nat) : sumN (fun k => x / 2 ^ k % 2) 6 ≤ 6 := Nat.le_trans (sumN_le (M := 1) (fun j => by omega) 6) (by decide)
def ZP (ks : List Nat) (u Z : Nat → Nat → Nat) : Prop := ZOk u ∧ ∀ k, k ∉ ks → u k = Z k
theorem ZP.rf {ks : List Nat} {Z : Nat → Nat → Nat} (h : ZOk Z) : ZP ks Z Z := ⟨h, fun _ _ => rfl⟩
theorem ZP.tr {ks : List Nat} {u v Z : Nat → Nat → Nat} (h : ZP ks u v) (k : ZP ks v Z) : ZP ks u Z := ⟨h.1, fun a q => (h.2 a q).trans (k.2 a q)⟩
theorem ZP.wi {ks ls : List Nat} {u Z : Nat → Nat → Nat} (h : ZP ks u Z) (hs : ∀ k, k ∈ ks → k ∈ ls) : ZP ls u Z := ⟨h.1, fun a q => h.2 a (fun z => q (hs a z))⟩
theorem ZP.zk {ks : List Nat} {u Z : Nat → Nat → Nat} (h : ZP ks u Z) (hs : ∀ k, k ∈ ks → 20 ≤ k ∧ k ≤ 26) : ZK u Z := ⟨h.1, fun a q => h.2 a (fun z => by have := hs a z; omega)⟩
theorem ZP.set {ks : List Nat} {u Z : Nat → Nat → Nat} {k : Nat} {g : Nat → Nat} (h : ZP ks u Z) (hk : k ∈ ks) (hg : ∀ j, g j ≤ zb k j) : ZP ks (ua u k g) Z := ⟨zok_set h.1 hg, fun a q => (congrFun (rfl : ua u k g = ua u k g) a).trans ((ua_n (show a ≠ k from fun z => q (by rw [z]; exact hk))).trans (h.2 a q))⟩
/-- row by row: the fewest pieces are reached by some number of the coin -/
def PR1 (F w t : Nat → Nat) (c s : Nat) : Prop := ∃ n, n ≤ t c ∧ n * w c ≤ s ∧ F (61 * c + s) = n + F (61 * (c + 1) + s - n * w c)
theorem PR1_un {F w t : Nat → Nat} {c s k v : Nat} (h : PR1 F w t c s) (h1 : 61 * c + s ≠ k) (h2 : k < 61 * (c + 1)) : PR1 (un F k v) w t c s := by
  obtain ⟨n, a, b, e⟩ := h
  exact ⟨n, a, b, by rw [un_n h1, un_n (by omega)]; exact e⟩
theorem PR1_new {F w t : Nat → Nat} {c s v : Nat} (hs : s ≤ 60) (h : ∃ n, n ≤ t c ∧ n * w c ≤ s ∧ v = n + F (61 * (c + 1) + s - n * w c)) : PR1 (un F (61 * c + s) v) w t c s := by
  obtain ⟨n, a, b, e⟩ := h
  exact ⟨n, a, b, by rw [un_s, un_n (by omega)]; exact e⟩
theorem TH_s {z f : Nat → Nat} {o i v : Nat} (h : (∀ j, z j ≤ zb 23 j) ∧ ∀ j, j < i → z j ≤ f (o + j)) (h1 : v ≤ 495) (h2 : v ≤ f (o + i)) : (∀ j, un z i v j ≤ zb 23 j) ∧ ∀ j, j < i + 1 → un z i v j ≤ f (o + j) := by
  refine ⟨un_zb (f := zb 23) h.1 h1, fun j hj => ?_⟩
  by_cases q : j = i
  · rw [q, un_s]; exact h2
  · rw [un_n q]; exact h.2 j (by omega)

