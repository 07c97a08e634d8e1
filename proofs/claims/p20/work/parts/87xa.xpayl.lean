/-- the class's table of fewest pieces -/
def TabX (F w t : Nat → Nat) (n z : Nat) : Prop := (∀ s, s ≤ z → F (61 * n + s) = (if s = 0 then 0 else 1000000)) ∧ ∀ c s, c < n → s ≤ z → PRX F w t c s
theorem ff_mn {g : Nat → Nat} {c w z : Nat} : ∀ N, (∀ n, n < N → n * w ≤ z → ffG g c w z N ≤ n + g (61 * (c + 1) + z - n * w)) ∧ (ffG g c w z N = 1000000 ∨ ∃ n, n < N ∧ n * w ≤ z ∧ ffG g c w z N = n + g (61 * (c + 1) + z - n * w))
  | 0 => ⟨fun n h => absurd h (Nat.not_lt_zero n), Or.inl rfl⟩
  | N + 1 => by
    obtain ⟨h1, h2⟩ := ff_mn (g := g) (c := c) (w := w) (z := z) N
    have e : w * N ≤ z → (c + 1) * 61 + (z - w * N) = 61 * (c + 1) + z - N * w := fun q => by rw [Nat.mul_comm N w]; omega
    have hu : ffG g c w z (N + 1) = if w * N ≤ z ∧ N + g ((c + 1) * 61 + (z - w * N)) < ffG g c w z N then N + g ((c + 1) * 61 + (z - w * N)) else ffG g c w z N := rfl
    by_cases q : w * N ≤ z ∧ N + g ((c + 1) * 61 + (z - w * N)) < ffG g c w z N
    · rw [hu, if_pos q]
      refine ⟨fun n hn hw => ?_, Or.inr ⟨N, by omega, by rw [Nat.mul_comm]; exact q.1, by rw [e q.1]⟩⟩
      rcases (show n < N ∨ n = N by omega) with y | rfl
      · exact Nat.le_trans (Nat.le_of_lt q.2) (h1 n y hw)
      · rw [e q.1]; exact Nat.le_refl _
    · rw [hu, if_neg q]
      refine ⟨fun n hn hw => ?_, ?_⟩
      · rcases (show n < N ∨ n = N by omega) with y | rfl
        · exact h1 n y hw
        · have hw' : w * n ≤ z := by rw [Nat.mul_comm]; exact hw
          have this : ¬ n + g ((c + 1) * 61 + (z - w * n)) < ffG g c w z n := fun y => q ⟨hw', y⟩
          rw [e hw'] at this
          omega
      · rcases h2 with h2 | ⟨n, a, b⟩
        · exact Or.inl h2
        · exact Or.inr ⟨n, by omega, b⟩
theorem ff_MNI {g : Nat → Nat} {c w z N : Nat} (hg : ∀ j, g j ≤ 1000000) (hN : 0 < N) : MNI g w c z N (ffG g c w z N) := by
  obtain ⟨h1, h2⟩ := ff_mn (g := g) (c := c) (w := w) (z := z) N
  refine ⟨?_, h1⟩
  rcases h2 with h2 | h2
  · refine ⟨0, hN, by rw [Nat.zero_mul]; exact Nat.zero_le _, ?_⟩
    have a := h1 0 hN (by rw [Nat.zero_mul]; exact Nat.zero_le _)
    have b := hg (61 * (c + 1) + z - 0 * w)
    omega
  · exact h2
theorem ff_PRX {g w t : Nat → Nat} {c s : Nat} (hg : ∀ j, g j ≤ 1000000) (hs : s ≤ 60) : PRX (un g (c * 61 + s) (ffG g c (w c) s (t c + 1))) w t c s := by
  rw [Nat.mul_comm c 61]
  exact PRX_of hs (ff_MNI hg (by omega))
theorem PRX_unc {F w t : Nat → Nat} {c s k d v : Nat} (h : PRX F w t c s) (h1 : 61 * c + s ≠ d * 61 + k) (h2 : d * 61 + k < 61 * (c + 1)) : PRX (un F (d * 61 + k) v) w t c s := PRX_un h h1 h2
/-- what is there of the debtor's for a creditor, as the class takes it -/
def thX (L M : Nat → Nat → Nat) (d b c : Nat) : Nat := if c < L 0 0 ∧ doN L c b ≠ 0 then M 0 (L 7 d * 6 + c) else 0
/-- a payment by the class: stock, used, total -/
def PXy (L : Nat → Nat → Nat) (t P : Nat → Nat) (z k : Nat) : Prop := k < 1000000 ∧ (∃ F, TabX F (L 2) t (L 0 0) z ∧ F z = k ∧ ∃ l, ChI F (L 2) t z P (L 0 0) l) ∧ ∀ c, L 0 0 ≤ c → c < 6 → P c = 0
def PXn (L : Nat → Nat → Nat) (t : Nat → Nat) (z : Nat) : Prop := ∃ F, TabX F (L 2) t (L 0 0) z ∧ F z = 1000000
theorem PX_st {a b f : Nat → Nat} {i v : Nat} (h : (∀ j, j < i → a j = f j) ∧ ∀ j, j < i → b j = 0) (h2 : v = f i) : (∀ j, j < i + 1 → un a i v j = f j) ∧ ∀ j, j < i + 1 → un b i 0 j = 0 := by
  refine ⟨fun j hj => ?_, fun j hj => ?_⟩
  · by_cases q : j = i
    · rw [q, un_s]; exact h2
    · rw [un_n q]; exact h.1 j (by omega)
  · by_cases q : j = i
    · rw [q, un_s]
    · rw [un_n q]; exact h.2 j (by omega)
theorem TabX_cg {F w t t' : Nat → Nat} {n z : Nat} (h : TabX F w t n z) (e : ∀ c, c < n → t c = t' c) : TabX F w t' n z := by
  refine ⟨h.1, fun c s hc hs => ?_⟩
  have := h.2 c s hc hs
  unfold PRX at this ⊢
  rwa [← e c hc]
theorem ChI_cgn {F w t t' P : Nat → Nat} {z l n : Nat} (h : ChI F w t z P n l) (e : ∀ c, c < n → t c = t' c) : ChI F w t' z P n l := by
  obtain ⟨R, a, b, k⟩ := h
  refine ⟨R, a, b, fun c hc => ?_⟩
  have := k c hc
  unfold ChS at this ⊢
  rwa [← e c hc]
theorem chX {F : Nat → Nat} {w i l n : Nat} (hnw : n * w ≤ l) (h : n + F ((i + 1) * 61 + (l - n * w)) = F (i * 61 + l)) : F (61 * i + l) = n + F (61 * (i + 1) + l - n * w) := by
  rw [show (i + 1) * 61 + (l - n * w) = 61 * (i + 1) + l - n * w by omega, Nat.mul_comm i 61] at h
  exact h.symm
theorem chXn {F : Nat → Nat} {w i l n : Nat} (hnw : n * w ≤ l) (h : n + F ((i + 1) * 61 + (l - n * w)) ≠ F (i * 61 + l)) : F (61 * i + l) ≠ n + F (61 * (i + 1) + l - n * w) := by
  rw [show (i + 1) * 61 + (l - n * w) = 61 * (i + 1) + l - n * w by omega, Nat.mul_comm i 61] at h
  exact fun e => h e.symm
def CanX (L M Y : Nat → Nat → Nat) (d : Nat) : Prop := M 0 35 / 2 ^ d % 2 = 1 ∧ PXy L (thX L M d (M 0 (30 + d))) (Y 1) (L 9 d) (Y 3 0) ∧ ∀ c, c < 6 → M 0 (M 0 (30 + d) * 6 + c) + Y 1 c ≤ 99
def NotX (L M Y : Nat → Nat → Nat) (d : Nat) : Prop := M 0 35 / 2 ^ d % 2 = 0 ∨ PXn L (thX L M d (M 0 (30 + d))) (L 9 d) ∨ (PXy L (thX L M d (M 0 (30 + d))) (Y 1) (L 9 d) (Y 3 0) ∧ ∃ c, c < 6 ∧ ¬ M 0 (M 0 (30 + d) * 6 + c) + Y 1 c ≤ 99)
theorem ua_ua (S : Nat → Nat → Nat) (k : Nat) (f g : Nat → Nat) : ua (ua S k f) k g = ua S k g := funext (fun a => by unfold ua; split <;> rfl)
theorem fin_1 {N u1 u2 : Nat → Nat → Nat} {i v : Nat} (h1 : u1 = remN N) (h2 : u2 = ua u1 0 (un (u1 0) i v)) : u2 = ua (remN N) 0 (un (N 0) i v) := by rw [h2, h1, rem_0]
theorem fin_p {N u1 u2 : Nat → Nat → Nat} {us : Nat → Nat} {db d : Nat} (h1 : u1 = remN N) (h2 : u2 = ua u1 0 (un (stlN (u1 0) us db (u1 0 (30 + d)) 6) 35 (clrN (stlN (u1 0) us db (u1 0 (30 + d)) 6 35) d))) : u2 = ua (remN N) 0 (pyN (N 0) us db (N 0 (30 + d)) d) := by rw [h2, h1, rem_0]; rfl
theorem fin_t {N u1 u2 u3 u4 u5 : Nat → Nat → Nat} {p c q e : Nat} (hp : p < 5) (hq : q < 5) (hc : c < 6) (he : e < 6) (hpq : p ≠ q) (hce : c ≠ e) (h1 : u1 = remN N) (h2 : u2 = ua u1 0 (un (u1 0) (p * 6 + c) (u1 0 (p * 6 + c) - 1))) (h3 : u3 = ua u2 0 (un (u2 0) (q * 6 + c) (u2 0 (q * 6 + c) + 1))) (h4 : u4 = ua u3 0 (un (u3 0) (q * 6 + e) (u3 0 (q * 6 + e) - 1))) (h5 : u5 = ua u4 0 (un (u4 0) (p * 6 + e) (u4 0 (p * 6 + e) + 1))) :
    u5 = ua (remN N) 0 (un (un (un (un (N 0) (p * 6 + c) (N 0 (p * 6 + c) - 1)) (q * 6 + c) (N 0 (q * 6 + c) + 1)) (q * 6 + e) (N 0 (q * 6 + e) - 1)) (p * 6 + e) (N 0 (p * 6 + e) + 1)) := by
  have e1 : u1 0 = N 0 := by rw [h1, rem_0]
  have e2 : u2 0 = un (N 0) (p * 6 + c) (N 0 (p * 6 + c) - 1) := by rw [h2, ← e1]; rfl
  have e3 : u3 0 = un (u2 0) (q * 6 + c) (N 0 (q * 6 + c) + 1) := by
    rw [h3]; show un (u2 0) _ (u2 0 (q * 6 + c) + 1) = _
    rw [show u2 0 (q * 6 + c) = N 0 (q * 6 + c) by rw [e2, un_n (by omega)]]
  have e4 : u4 0 = un (u3 0) (q * 6 + e) (N 0 (q * 6 + e) - 1) := by
    rw [h4]; show un (u3 0) _ (u3 0 (q * 6 + e) - 1) = _
    rw [show u3 0 (q * 6 + e) = N 0 (q * 6 + e) by rw [e3, un_n (by omega), e2, un_n (by omega)]]
  have e5 : u4 0 (p * 6 + e) = N 0 (p * 6 + e) := by rw [e4, un_n (by omega), e3, un_n (by omega), e2, un_n (by omega)]
  rw [h5, e5, e4, e3, e2, h4, ua_ua, h3, ua_ua, h2, ua_ua, h1]
def bcN (M N : Nat → Nat → Nat) : Nat → Nat → Nat := ua (ua (ua M 0 (va_cpy (N 0) (M 0) 0 0 36)) 1 (va_cpy (N 1) (M 1) 0 0 360)) 2 (fun _ => N 2 0)
theorem bc_35 (M N : Nat → Nat → Nat) : bcN M N 0 35 = N 0 35 := by show va_cpy (N 0) (M 0) 0 0 36 35 = _; unfold va_cpy; rw [if_pos (by omega)]
def ctX (L N X : Nat → Nat → Nat) (k : Nat) : Nat := if k = 0 then L 0 0 else if k = 1 then L 3 0 else if k = 2 then L 6 0 else if k = 3 then L 10 0 else if k = 4 then X 12 0 else if k = 5 then N 2 0 else X 1 0
theorem out_n {v : Int32} (n : Nat) (m : Int) (e : m = n) (hn : n < 2 ^ 31 - 1) (h : v.toInt < 0 ∨ m < v.toInt) : ¬ inN v (n + 1) := by
  rintro ⟨k, hk, rfl⟩
  rw [nI_toInt (by omega), e] at h
  omega
