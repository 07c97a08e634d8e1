/-- the reference's past: a row of 36 is let go, a row is laid behind -/
def shN (f : Nat → Nat) (i : Nat) : Nat → Nat := fun j => if 37 ≤ j ∧ j < 37 + i then f (j + 36) else f j
theorem sh_0 (f : Nat → Nat) : shN f 0 = f := funext (fun j => if_neg (by omega))
theorem sh_s {f z : Nat → Nat} {i : Nat} (h : z = shN f i) : un z (37 + i) (z (73 + i)) = shN f (i + 1) := by
  rw [h]
  funext j
  unfold un
  by_cases q : j = 37 + i
  · rw [if_pos q, q]
    unfold shN
    rw [if_neg (by omega), if_pos (by omega)]
    exact congrArg f (by omega)
  · rw [if_neg q]
    unfold shN
    by_cases y : 37 ≤ j ∧ j < 37 + i
    · rw [if_pos y, if_pos (by omega)]
    · rw [if_neg y, if_neg (by omega)]
theorem sh_b {f : Nat → Nat} {i : Nat} (h : ∀ j, f j ≤ nbd j) (hi : i ≤ 324) : ∀ j, shN f i j ≤ nbd j := fun j => by
  unfold shN
  split
  · rename_i q
    obtain ⟨x, rfl⟩ : ∃ x, j = 37 + x := ⟨j - 37, by omega⟩
    have h1 := h (37 + (36 + x))
    rw [nbd_b (by omega), cb_36] at h1
    rw [nbd_b (by omega), show 37 + x + 36 = 37 + (36 + x) by omega]
    exact h1
  · exact h j
def cpN (f : Nat → Nat) (o i : Nat) : Nat → Nat := fun j => if o ≤ j ∧ j < o + i then f (j - o) else f j
theorem cp_0 (f : Nat → Nat) (o : Nat) : cpN f o 0 = f := funext (fun j => if_neg (by omega))
theorem cp_lo {f : Nat → Nat} {o i j : Nat} (h : j < o) : cpN f o i j = f j := if_neg (by omega)
theorem cp_s {f z : Nat → Nat} {i : Nat} (h : z = cpN f (37 + 36 * f 36) i) (hi : i < 36) : un z (37 + 36 * z 36 + i) (z i) = cpN f (37 + 36 * f 36) (i + 1) := by
  rw [h, cp_lo (show 36 < 37 + 36 * f 36 by omega), cp_lo (show i < 37 + 36 * f 36 by omega)]
  funext j
  unfold un
  by_cases q : j = 37 + 36 * f 36 + i
  · rw [if_pos q, q]
    unfold cpN
    rw [if_pos (by omega)]
    exact congrArg f (by omega)
  · rw [if_neg q]
    unfold cpN
    by_cases y : 37 + 36 * f 36 ≤ j ∧ j < 37 + 36 * f 36 + i
    · rw [if_pos y, if_pos (by omega)]
    · rw [if_neg y, if_neg (by omega)]
theorem cp_b {f : Nat → Nat} {m i : Nat} (h : ∀ j, f j ≤ nbd j) (hm : m ≤ 9) (hi : i ≤ 36) : ∀ j, cpN f (37 + 36 * m) i j ≤ nbd j := fun j => by
  unfold cpN
  split
  · rename_i q
    obtain ⟨x, rfl⟩ : ∃ x, j = 37 + 36 * m + x := ⟨j - (37 + 36 * m), by omega⟩
    have h1 := h x
    rw [nbd_lo (by omega)] at h1
    rw [show 37 + 36 * m + x = 37 + (m * 36 + x) by omega, nbd_b (by omega), cb_per, show 37 + (m * 36 + x) - (37 + 36 * m) = x by omega]
    exact h1
  · exact h j
def knB (f : Nat → Nat) : Nat → Nat := un (cpN f (37 + 36 * f 36) 36) 36 (f 36 + 1)
def knN (f : Nat → Nat) : Nat → Nat := if f 36 = 10 then knB (un (shN f 324) 36 9) else knB f
theorem knB_lo {f : Nat → Nat} {j : Nat} (h : j < 36) : knB f j = f j := by unfold knB; rw [un_n (by omega), cp_lo (by omega)]
theorem kn_lo {f : Nat → Nat} {j : Nat} (h : j < 36) : knN f j = f j := by
  unfold knN
  split
  · rw [knB_lo h, un_n (by omega)]; exact if_neg (by omega)
  · exact knB_lo h
theorem knB_b {f : Nat → Nat} (h : ∀ j, f j ≤ nbd j) (h9 : f 36 ≤ 9) : ∀ j, knB f j ≤ nbd j := fun j => by
  unfold knB
  by_cases q : j = 36
  · rw [q, un_s, nbd_36]; omega
  · rw [un_n q]; exact cp_b h h9 (Nat.le_refl _) j
theorem un36_b {f : Nat → Nat} (h : ∀ j, f j ≤ nbd j) : ∀ j, un (shN f 324) 36 9 j ≤ nbd j := un_le2 (sh_b h (Nat.le_refl _)) (by rw [nbd_36]; omega)
theorem kn_b {f : Nat → Nat} (h : ∀ j, f j ≤ nbd j) : ∀ j, knN f j ≤ nbd j := by
  unfold knN
  have h2 := h 36
  rw [nbd_36] at h2
  split
  · exact knB_b (un36_b h) (by rw [un_s]; omega)
  · exact knB_b h (by omega)
/-- coins go from the debtor to the creditor and the debt is closed -/
def pyN (f P : Nat → Nat) (db cr d : Nat) : Nat → Nat := un (stlN f P db cr 6) 35 (clrN (stlN f P db cr 6 35) d)
theorem stlN_b {f P b : Nat → Nat} {db cr : Nat} (h : ∀ j, f j ≤ b j) (hb : ∀ j, j < 30 → b j = 99) (h99 : ∀ j, f j ≤ 99) (h1 : db < 5) (h2 : cr < 5) (hu : ∀ c, c < 6 → P c ≤ f (db * 6 + c)) (h9 : ∀ c, c < 6 → f (cr * 6 + c) + P c ≤ 99) {n : Nat} (hn : n ≤ 6) : ∀ j, stlN f P db cr n j ≤ b j := fun j => by
  by_cases q : 30 ≤ j
  · rw [stl_hi h1 h2 hn q]; exact h j
  · rw [hb j (by omega)]
    exact stl_le (S := fun _ => f) h99 hu h9 n hn j
theorem pyN_b {f P b : Nat → Nat} {db cr d : Nat} (h : ∀ j, f j ≤ b j) (hb : ∀ j, j < 30 → b j = 99) (h99 : ∀ j, f j ≤ 99) (h1 : db < 5) (h2 : cr < 5) (hu : ∀ c, c < 6 → P c ≤ f (db * 6 + c)) (h9 : ∀ c, c < 6 → f (cr * 6 + c) + P c ≤ 99) : ∀ j, pyN f P db cr d j ≤ b j := fun j => by
  unfold pyN
  by_cases q : j = 35
  · rw [q, un_s, stl_hi h1 h2 (Nat.le_refl _) (by omega)]; exact Nat.le_trans (clr_le _ _) (h 35)
  · rw [un_n q]; exact stlN_b h hb h99 h1 h2 hu h9 (Nat.le_refl _) j
theorem cb_h30 {j : Nat} (h : j < 30) : cb j = 99 := by unfold cb; rw [if_pos (by omega)]
/-- all of them so far -/
def CPI (q : Nat → Prop) (i z : Nat) : Prop := (z = 1 ∧ ∀ c, c < i → q c) ∨ (z = 0 ∧ ∃ c, c < i ∧ ¬ q c)
theorem CPI_0 (q : Nat → Prop) : CPI q 0 1 := Or.inl ⟨rfl, fun c h => absurd h (Nat.not_lt_zero c)⟩
theorem CPI_1 {q : Nat → Prop} {i z : Nat} (h : CPI q i z) : z ≤ 1 := by rcases h with h | h <;> omega
theorem CPI_t {q : Nat → Prop} {i z : Nat} (h : CPI q i z) (hz : 0 < z) (k : q i) : CPI q (i + 1) 1 := by
  rcases h with ⟨_, h⟩ | ⟨h, _⟩
  · exact Or.inl ⟨rfl, fun c hc => by rcases (show c < i ∨ c = i by omega) with y | y; exact h c y; rw [y]; exact k⟩
  · omega
theorem CPI_f {q : Nat → Prop} {i : Nat} (k : ¬ q i) : CPI q (i + 1) 0 := Or.inr ⟨rfl, i, by omega, k⟩
theorem CPI_z {q : Nat → Prop} {i z : Nat} (h : CPI q i z) (hz : z = 0) : CPI q (i + 1) 0 := by
  rcases h with h | ⟨_, c, hc, k⟩
  · omega
  · exact Or.inr ⟨rfl, c, by omega, k⟩
theorem thN_le {Z : Nat → Nat → Nat} {k q b c : Nat} : thN Z k q b c ≤ Z k (6 * q + c) := by
  unfold thN
  split
  · exact Nat.le_refl _
  · exact Nat.zero_le _
theorem PZ_yes {w t P : Nat → Nat} {z n : Nat} (h : PZ w t z (nI n) P) (hn : n < 1000) : ∃ F, Tab 1000 F w t ∧ F z = n ∧ ∃ l, ChI F w t z P 6 l := by
  obtain ⟨F, a, ⟨b, _⟩ | ⟨b, c, d⟩⟩ := h
  · exact absurd b (nI_ne9 (by omega))
  · exact ⟨F, a, ((nI_eq (by omega) (by omega)).mp c).symm, d⟩
theorem PZ_le {w t P : Nat → Nat} {z n : Nat} (h : PZ w t z (nI n) P) (hn : n < 1000) : ∀ c, c < 6 → P c ≤ t c := by
  obtain ⟨F, _, _, l, k⟩ := PZ_yes h hn
  exact ChI_le k
/-- the debt can be paid now; it can't -/
def CanZ (Z : Nat → Nat → Nat) (k d : Nat) (P : Nat → Nat) : Prop := Z k 35 / 2 ^ d % 2 = 1 ∧ (∃ n, n < 1000 ∧ PZ (Z 5) (thN Z k (Z 10 d) (Z k (30 + d))) (Z 12 d) (nI n) P) ∧ ∀ c, c < 6 → Z k (6 * Z k (30 + d) + c) + P c ≤ 99
def NotZ (Z : Nat → Nat → Nat) (k d : Nat) (P : Nat → Nat) : Prop := Z k 35 / 2 ^ d % 2 = 0 ∨ PZ (Z 5) (thN Z k (Z 10 d) (Z k (30 + d))) (Z 12 d) (-9) P ∨ ((∃ n, n < 1000 ∧ PZ (Z 5) (thN Z k (Z 10 d) (Z k (30 + d))) (Z 12 d) (nI n) P) ∧ ∃ c, c < 6 ∧ ¬ Z k (6 * Z k (30 + d) + c) + P c ≤ 99)
theorem ua_id (S : Nat → Nat → Nat) (k : Nat) : ua S k (S k) = S := funext (fun a => by unfold ua; split; rename_i q; rw [q]; rfl)
theorem ua3 (S : Nat → Nat → Nat) (a b c : Nat) : S = ua (ua (ua S a (S a)) b (S b)) c (S c) := by rw [ua_id, ua_id, ua_id]
theorem inN_inj {a b : Nat} (h : nI a = nI b) (ha : a < 1000) (hb : b < 1000) : a = b := (nI_eq (by omega) (by omega)).mp h
/-- a row of the past comes back -/
def udN (f : Nat → Nat) (i : Nat) : Nat → Nat := fun j => if j < i then f (37 + 36 * (f 36 - 1) + j) else if j = 36 then f 36 - 1 else f j
theorem ud_0 (f : Nat → Nat) : udN f 0 = un f 36 (f 36 - 1) := funext (fun j => by unfold udN un; rw [if_neg (by omega)])
theorem ud_36 {f : Nat → Nat} {i : Nat} (h : i ≤ 36) : udN f i 36 = f 36 - 1 := by unfold udN; rw [if_neg (by omega), if_pos rfl]
theorem ud_s {f z : Nat → Nat} {i : Nat} (h : z = udN f i) (hi : i < 36) : un z i (z (37 + 36 * z 36 + i)) = udN f (i + 1) := by
  rw [h, ud_36 (by omega)]
  funext j
  unfold un
  by_cases q : j = i
  · rw [if_pos q, q]
    unfold udN
    rw [if_neg (by omega), if_neg (by omega), if_pos (by omega)]
  · rw [if_neg q]
    unfold udN
    by_cases y : j < i
    · rw [if_pos y, if_pos (by omega)]
    · rw [if_neg y, if_neg (show ¬ j < i + 1 by omega)]
theorem ud_b {f : Nat → Nat} {i : Nat} (h : ∀ j, f j ≤ nbd j) (hi : i ≤ 36) : ∀ j, udN f i j ≤ nbd j := fun j => by
  have h2 := h 36
  rw [nbd_36] at h2
  unfold udN
  split
  · have h1 := h (37 + ((f 36 - 1) * 36 + j))
    rw [nbd_b (by omega), cb_per] at h1
    rw [nbd_lo (by omega), show 37 + 36 * (f 36 - 1) + j = 37 + ((f 36 - 1) * 36 + j) by omega]
    exact h1
  · split
    · rename_i q; rw [q, nbd_36]; omega
    · exact h j
