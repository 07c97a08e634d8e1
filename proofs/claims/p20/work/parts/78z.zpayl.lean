/-- a place of the table of fewest pieces: the least over the numbers of the coin, and reached by one -/
def PRX (F w t : Nat → Nat) (c s : Nat) : Prop := (∃ n, n ≤ t c ∧ n * w c ≤ s ∧ F (61 * c + s) = n + F (61 * (c + 1) + s - n * w c)) ∧ ∀ n, n ≤ t c → n * w c ≤ s → F (61 * c + s) ≤ n + F (61 * (c + 1) + s - n * w c)
theorem PRX_un {F w t : Nat → Nat} {c s k v : Nat} (h : PRX F w t c s) (h1 : 61 * c + s ≠ k) (h2 : k < 61 * (c + 1)) : PRX (un F k v) w t c s := by
  obtain ⟨⟨n, a, b, e⟩, h⟩ := h
  refine ⟨⟨n, a, b, by rw [un_n h1, un_n (by omega)]; exact e⟩, fun n a b => ?_⟩
  rw [un_n h1, un_n (by omega)]; exact h n a b
theorem PRX_new {F w t : Nat → Nat} {c s v : Nat} (hs : s ≤ 60) (h : ∃ n, n ≤ t c ∧ n * w c ≤ s ∧ v = n + F (61 * (c + 1) + s - n * w c)) (k : ∀ n, n ≤ t c → n * w c ≤ s → v ≤ n + F (61 * (c + 1) + s - n * w c)) : PRX (un F (61 * c + s) v) w t c s := by
  obtain ⟨n, a, b, e⟩ := h
  refine ⟨⟨n, a, b, by rw [un_s, un_n (by omega)]; exact e⟩, fun n a b => ?_⟩
  rw [un_s, un_n (by omega)]; exact k n a b
/-- the least over the first i numbers of the coin -/
def MNI (F : Nat → Nat) (w c s i v : Nat) : Prop := (∃ n, n < i ∧ n * w ≤ s ∧ v = n + F (61 * (c + 1) + s - n * w)) ∧ ∀ n, n < i → n * w ≤ s → v ≤ n + F (61 * (c + 1) + s - n * w)
theorem MNI_0 (F : Nat → Nat) (w c s : Nat) : MNI F w c s 1 (F (61 * (c + 1) + s)) := by
  refine ⟨⟨0, by omega, by rw [Nat.zero_mul]; exact Nat.zero_le _, by rw [Nat.zero_mul, Nat.sub_zero, Nat.zero_add]⟩, fun n hn _ => ?_⟩
  obtain rfl : n = 0 := by omega
  rw [Nat.zero_mul, Nat.sub_zero, Nat.zero_add]; exact Nat.le_refl _
theorem MNI_k {F : Nat → Nat} {w c s i v : Nat} (h : MNI F w c s i v) (k : v ≤ i + F (61 * (c + 1) + s - i * w)) : MNI F w c s (i + 1) v := by
  obtain ⟨⟨n, a, b⟩, h⟩ := h
  refine ⟨⟨n, by omega, b⟩, fun n a b => ?_⟩
  rcases (show n < i ∨ n = i by omega) with q | rfl
  · exact h n q b
  · exact k
theorem MNI_n {F : Nat → Nat} {w c s i v : Nat} (h : MNI F w c s i v) (hi : i * w ≤ s) (k : i + F (61 * (c + 1) + s - i * w) ≤ v) : MNI F w c s (i + 1) (i + F (61 * (c + 1) + s - i * w)) := by
  obtain ⟨_, h⟩ := h
  refine ⟨⟨i, by omega, hi, rfl⟩, fun n a b => ?_⟩
  rcases (show n < i ∨ n = i by omega) with q | rfl
  · exact Nat.le_trans k (h n q b)
  · exact Nat.le_refl _
theorem MNI_e {F : Nat → Nat} {w c s i v N : Nat} (h : MNI F w c s i v) (hi : i ≤ N) (k : s < i * w ∨ i = N) : MNI F w c s N v := by
  obtain ⟨⟨n, a, b⟩, h⟩ := h
  refine ⟨⟨n, by omega, b⟩, fun n a b => ?_⟩
  rcases Nat.lt_or_ge n i with q | q
  · exact h n q b
  · rcases k with k | k
    · have := Nat.mul_le_mul_right w q
      omega
    · omega
theorem PRX_of {F w t : Nat → Nat} {c s v : Nat} (hs : s ≤ 60) (h : MNI F (w c) c s (t c + 1) v) : PRX (un F (61 * c + s) v) w t c s := by
  obtain ⟨⟨n, a, b, e⟩, h⟩ := h
  exact PRX_new hs ⟨n, by omega, b, e⟩ (fun n a b => h n (by omega) b)
def Tab (K : Nat) (F w t : Nat → Nat) : Prop := (∀ s, s ≤ 60 → F (366 + s) = (if s = 0 then 0 else K)) ∧ ∀ c s, c < 6 → s ≤ 60 → PRX F w t c s
/-- what is taken, coin by coin: the least number that keeps the fewest -/
def ChS (F w t P R : Nat → Nat) (c : Nat) : Prop := P c * w c ≤ R c ∧ R (c + 1) = R c - P c * w c ∧ P c ≤ t c ∧ F (61 * c + R c) = P c + F (61 * (c + 1) + R c - P c * w c) ∧ ∀ n, n < P c → F (61 * c + R c) ≠ n + F (61 * (c + 1) + R c - n * w c)
def ChI (F w t : Nat → Nat) (z : Nat) (P : Nat → Nat) (i l : Nat) : Prop := ∃ R : Nat → Nat, R 0 = z ∧ R i = l ∧ ∀ c, c < i → ChS F w t P R c
theorem ChI_0 (F w t P : Nat → Nat) (z : Nat) : ChI F w t z P 0 z := ⟨fun _ => z, rfl, rfl, fun c h => absurd h (Nat.not_lt_zero c)⟩
theorem ChI_s {F w t P : Nat → Nat} {z i l n : Nat} (h : ChI F w t z P i l) (h1 : n * w i ≤ l) (h2 : n ≤ t i) (h3 : F (61 * i + l) = n + F (61 * (i + 1) + l - n * w i)) (h4 : ∀ k, k < n → F (61 * i + l) ≠ k + F (61 * (i + 1) + l - k * w i)) : ChI F w t z (un P i n) (i + 1) (l - n * w i) := by
  obtain ⟨R, a, b, k⟩ := h
  refine ⟨un R (i + 1) (l - n * w i), by rw [un_n (by omega)]; exact a, un_s, fun c hc => ?_⟩
  rcases (show c < i ∨ c = i by omega) with q | rfl
  · unfold ChS
    rw [un_n (show c ≠ i by omega), un_n (show c ≠ i + 1 by omega), un_n (show c + 1 ≠ i + 1 by omega)]
    exact k c q
  · unfold ChS
    rw [un_s, un_s, un_n (show c ≠ c + 1 by omega), b]
    exact ⟨h1, rfl, h2, h3, h4⟩
theorem ChI_le {F w t P : Nat → Nat} {z i l : Nat} (h : ChI F w t z P i l) : ∀ c, c < i → P c ≤ t c := by
  obtain ⟨R, _, _, k⟩ := h
  exact fun c hc => (k c hc).2.2.1
/-- a payment by the reference -/
def PZ (w t : Nat → Nat) (z : Nat) (r : Int32) (P : Nat → Nat) : Prop := ∃ F, Tab 1000 F w t ∧ ((r = -9 ∧ F z = 1000) ∨ (F z < 1000 ∧ r = nI (F z) ∧ ∃ l, ChI F w t z P 6 l))
theorem Tab_cg {K : Nat} {F w t t' : Nat → Nat} (h : Tab K F w t) (e : ∀ c, c < 6 → t c = t' c) : Tab K F w t' := by
  refine ⟨h.1, fun c s hc hs => ?_⟩
  have := h.2 c s hc hs
  unfold PRX at this ⊢
  rwa [← e c hc]
theorem ChI_cg {F w t t' P : Nat → Nat} {z l : Nat} (h : ChI F w t z P 6 l) (e : ∀ c, c < 6 → t c = t' c) : ChI F w t' z P 6 l := by
  obtain ⟨R, a, b, k⟩ := h
  refine ⟨R, a, b, fun c hc => ?_⟩
  have := k c hc
  unfold ChS at this ⊢
  rwa [← e c hc]
theorem PZ_cg {w t t' P : Nat → Nat} {z : Nat} {r : Int32} (h : PZ w t z r P) (e : ∀ c, c < 6 → t c = t' c) : PZ w t' z r P := by
  obtain ⟨F, a, b⟩ := h
  refine ⟨F, Tab_cg a e, ?_⟩
  rcases b with b | ⟨b1, b2, l, b3⟩
  · exact Or.inl b
  · exact Or.inr ⟨b1, b2, l, ChI_cg b3 e⟩
/-- what is there for a payment: of one, of all -/
def thN (Z : Nat → Nat → Nat) (k q b c : Nat) : Nat := if c < Z 3 0 ∧ Z 4 c ≤ Z 7 b + 7 ∧ Z 7 b + 7 < Z 4 c + Z 13 0 then Z k (6 * q + c) else 0
def twN (Z : Nat → Nat → Nat) (b t c : Nat) : Nat := if c < Z 3 0 ∧ t / 2 ^ c % 2 = 0 ∧ Z 4 c ≤ Z 7 b + 7 ∧ Z 7 b + 7 < Z 4 c + Z 13 0 then sumN (fun p => Z 20 (6 * p + c)) (Z 6 0) else 0
theorem THX_s {z : Nat → Nat} {f : Nat → Nat} {i v : Nat} (h : (∀ j, z j ≤ zb 23 j) ∧ ∀ j, j < i → z j = f j) (h1 : v ≤ 495) (h2 : v = f i) : (∀ j, un z i v j ≤ zb 23 j) ∧ ∀ j, j < i + 1 → un z i v j = f j := by
  refine ⟨un_zb (f := zb 23) h.1 h1, fun j hj => ?_⟩
  by_cases q : j = i
  · rw [q, un_s]; exact h2
  · rw [un_n q]; exact h.2 j (by omega)
def RY (w t : Nat → Nat) (z : Nat) : Prop := ∃ F, Tab 1000 F w t ∧ F z < 1000
def RN (w t : Nat → Nat) (z : Nat) : Prop := ∃ F, Tab 1000 F w t ∧ F z = 1000
theorem RY_of {w t t' : Nat → Nat} {z : Nat} (h : RY w t z) (e : ∀ c, c < 6 → t c = t' c) : RY w t' z := by
  obtain ⟨F, a, b⟩ := h
  exact ⟨F, Tab_cg a e, b⟩
theorem RN_of {w t t' : Nat → Nat} {z : Nat} (h : RN w t z) (e : ∀ c, c < 6 → t c = t' c) : RN w t' z := by
  obtain ⟨F, a, b⟩ := h
  exact ⟨F, Tab_cg a e, b⟩
theorem nI_ne9 {a : Nat} (h : a < 2 ^ 31) : nI a ≠ -9 := fun e => nI_pos (n := a) h (by rw [e]; decide)
