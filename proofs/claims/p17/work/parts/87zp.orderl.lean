/-! rows of payments: the best by depth, the first by its code -/
def dig (n x j : Nat) : Nat := x / 5 ^ (n - 1 - j) % 5
theorem dig_lt (n x j : Nat) : dig n x j < 5 := Nat.mod_lt _ (by decide)
theorem p5_pos (k : Nat) : 0 < 5 ^ k := Nat.pow_pos (by decide)
theorem dig_s {m x d j : Nat} (hd : d < 5) (hj : j < m) : dig (m + 1) (x * 5 + d) j = dig m x j := by
  unfold dig
  rw [show m + 1 - 1 - j = (m - 1 - j) + 1 by omega, Nat.pow_succ, Nat.mul_comm (5 ^ (m - 1 - j)) 5, ← Nat.div_div_eq_div_mul, show (x * 5 + d) / 5 = x by omega]
theorem dig_l {m x d : Nat} (hd : d < 5) : dig (m + 1) (x * 5 + d) m = d := by
  unfold dig
  rw [show m + 1 - 1 - m = 0 by omega, Nat.pow_zero, Nat.div_one]
  omega
theorem dig_0 {m x : Nat} (hx : x < 5 ^ (m + 1)) : dig (m + 1) x 0 = x / 5 ^ m := by
  unfold dig
  rw [show m + 1 - 1 - 0 = m by omega]
  rw [Nat.pow_succ] at hx
  exact Nat.mod_eq_of_lt (Nat.div_lt_of_lt_mul hx)
theorem dig_t {m x j : Nat} (hj : j < m) : dig (m + 1) x (j + 1) = dig m (x % 5 ^ m) j := by
  unfold dig
  obtain ⟨t, ht⟩ : ∃ t, t = m - 1 - j := ⟨_, rfl⟩
  rw [show m + 1 - 1 - (j + 1) = t by omega, ← ht, show m = t + (j + 1) by omega, Nat.pow_add, Nat.mod_mul_right_div_self, Nat.mod_mod_of_dvd _ (show 5 ∣ 5 ^ (j + 1) from ⟨5 ^ j, by rw [Nat.pow_succ, Nat.mul_comm]⟩)]
/-- the best over the first d debts, where R is the best behind each -/
def bL (c : (Nat → Nat) → Nat → Nat) (nx : (Nat → Nat) → Nat → Nat → Nat) (R : (Nat → Nat) → Nat × Nat) (f : Nat → Nat) : Nat → Nat × Nat
  | 0 => (0, 0)
  | d + 1 => if c f d ≠ 0 ∧ (bL c nx R f d).1 < (R (nx f d)).1 + 1 then ((R (nx f d)).1 + 1, d * 5 ^ (R (nx f d)).1 + (R (nx f d)).2) else bL c nx R f d
def bR (c : (Nat → Nat) → Nat → Nat) (nx : (Nat → Nat) → Nat → Nat → Nat) (n : Nat) : Nat → (Nat → Nat) → Nat × Nat
  | 0 => fun _ => (0, 0)
  | k + 1 => fun f => bL c nx (bR c nx n k) f n
def goR (c : (Nat → Nat) → Nat → Nat) (nx : (Nat → Nat) → Nat → Nat → Nat) : Nat → (Nat → Nat) → Nat → Prop
  | 0 => fun _ _ => True
  | m + 1 => fun f x => c f (x / 5 ^ m) ≠ 0 ∧ goR c nx m (nx f (x / 5 ^ m)) (x % 5 ^ m)
def goS (c : (Nat → Nat) → Nat → Nat) (nx : (Nat → Nat) → Nat → Nat → Nat) (n x : Nat) (f : Nat → Nat) : Nat → Nat → Nat
  | 0 => f
  | i + 1 => nx (goS c nx n x f i) (dig n x i)
section SRCH
variable {c : (Nat → Nat) → Nat → Nat} {nx : (Nat → Nat) → Nat → Nat → Nat} {R : (Nat → Nat) → Nat × Nat} {f : Nat → Nat} {n : Nat}
theorem bL_t {d : Nat} (h : c f d ≠ 0 ∧ (bL c nx R f d).1 < (R (nx f d)).1 + 1) : bL c nx R f (d + 1) = ((R (nx f d)).1 + 1, d * 5 ^ (R (nx f d)).1 + (R (nx f d)).2) := if_pos h
theorem bL_f {d : Nat} (h : ¬ (c f d ≠ 0 ∧ (bL c nx R f d).1 < (R (nx f d)).1 + 1)) : bL c nx R f (d + 1) = bL c nx R f d := if_neg h
theorem bL_mono : ∀ e d, d ≤ e → bL c nx R f e = bL c nx R f d ∨ (bL c nx R f d).1 < (bL c nx R f e).1
  | 0, d, h => Or.inl (by rw [show d = 0 by omega])
  | e + 1, d, h => by
    rcases (show d = e + 1 ∨ d ≤ e by omega) with q | q
    · rw [q]; exact Or.inl rfl
    · have ih := bL_mono e d q
      by_cases y : c f e ≠ 0 ∧ (bL c nx R f e).1 < (R (nx f e)).1 + 1
      · refine Or.inr ?_
        rw [bL_t y]
        show _ < (R (nx f e)).1 + 1
        rcases ih with ih | ih
        · rw [← ih]; exact y.2
        · have := y.2; omega
      · rw [bL_f y]; exact ih
theorem bL_ge : ∀ n d, d < n → c f d ≠ 0 → (R (nx f d)).1 + 1 ≤ (bL c nx R f n).1
  | n + 1, d, h, hc => by
    by_cases y : c f n ≠ 0 ∧ (bL c nx R f n).1 < (R (nx f n)).1 + 1
    · rw [bL_t y]
      show _ ≤ (R (nx f n)).1 + 1
      rcases (show d < n ∨ d = n by omega) with q | q
      · have := bL_ge n d q hc
        have := y.2
        omega
      · rw [q]; exact Nat.le_refl _
    · rw [bL_f y]
      rcases (show d < n ∨ d = n by omega) with q | q
      · exact bL_ge n d q hc
      · subst q
        have : ¬ (bL c nx R f d).1 < (R (nx f d)).1 + 1 := fun z => y ⟨hc, z⟩
        omega
theorem bL_b (hR : ∀ g, (R g).2 < 5 ^ (R g).1) : ∀ d, d ≤ 5 → (bL c nx R f d).2 < 5 ^ (bL c nx R f d).1
  | 0, _ => Nat.zero_lt_one
  | d + 1, hd => by
    by_cases y : c f d ≠ 0 ∧ (bL c nx R f d).1 < (R (nx f d)).1 + 1
    · rw [bL_t y]
      show d * 5 ^ (R (nx f d)).1 + (R (nx f d)).2 < 5 ^ ((R (nx f d)).1 + 1)
      have h1 := hR (nx f d)
      have h2 := Nat.mul_le_mul_right (5 ^ (R (nx f d)).1) (show d ≤ 4 by omega)
      rw [Nat.pow_succ]
      omega
    · rw [bL_f y]; exact bL_b hR d (by omega)
theorem bL_lt (hR : ∀ g, (R g).2 < 5 ^ (R g).1) : ∀ d m, (bL c nx R f d).1 = m + 1 → (bL c nx R f d).2 < d * 5 ^ m
  | 0, m, h => absurd h (show ¬ (0 : Nat) = m + 1 by omega)
  | d + 1, m, h => by
    by_cases y : c f d ≠ 0 ∧ (bL c nx R f d).1 < (R (nx f d)).1 + 1
    · rw [bL_t y] at h ⊢
      have h : (R (nx f d)).1 + 1 = m + 1 := h
      show d * 5 ^ (R (nx f d)).1 + (R (nx f d)).2 < (d + 1) * 5 ^ m
      have h1 := hR (nx f d)
      rw [show (R (nx f d)).1 = m by omega] at h1 ⊢
      rw [Nat.succ_mul]
      omega
    · rw [bL_f y] at h ⊢
      have := bL_lt hR d m h
      rw [Nat.succ_mul]
      exact Nat.lt_of_lt_of_le this (Nat.le_add_right _ _)
theorem bL_min (hR : ∀ g, (R g).2 < 5 ^ (R g).1) : ∀ d e, e < d → c f e ≠ 0 → (R (nx f e)).1 + 1 = (bL c nx R f d).1 → (bL c nx R f d).2 ≤ e * 5 ^ (R (nx f e)).1 + (R (nx f e)).2
  | d + 1, e, he, hc, hm => by
    by_cases y : c f d ≠ 0 ∧ (bL c nx R f d).1 < (R (nx f d)).1 + 1
    · rw [bL_t y] at hm ⊢
      have hm : (R (nx f e)).1 + 1 = (R (nx f d)).1 + 1 := hm
      rcases (show e < d ∨ e = d by omega) with q | q
      · have := bL_ge (nx := nx) (R := R) d e q hc
        have := y.2
        omega
      · rw [q]; exact Nat.le_refl _
    · rw [bL_f y] at hm ⊢
      rcases (show e < d ∨ e = d by omega) with q | q
      · exact bL_min hR d e q hc hm
      · subst q
        have := bL_lt hR e (R (nx f e)).1 hm.symm
        omega
theorem bR_lt (hn : n ≤ 5) : ∀ k g, (bR c nx n k g).2 < 5 ^ (bR c nx n k g).1
  | 0, _ => Nat.zero_lt_one
  | k + 1, g => bL_b (bR_lt hn k) n hn
theorem bR_len : ∀ k g, (bR c nx n k g).1 ≤ k
  | 0, _ => Nat.le_refl _
  | k + 1, g => by
    have key : ∀ d, (bL c nx (bR c nx n k) g d).1 ≤ k + 1 := by
      intro d
      induction d with
      | zero => exact Nat.zero_le _
      | succ d ih =>
        by_cases y : c g d ≠ 0 ∧ (bL c nx (bR c nx n k) g d).1 < (bR c nx n k (nx g d)).1 + 1
        · rw [bL_t y]
          exact Nat.succ_le_succ (bR_len k (nx g d))
        · rw [bL_f y]; exact ih
    exact key n
theorem go_le {I : (Nat → Nat) → Prop} (hI : ∀ f d, I f → d < 5 → c f d ≠ 0 → d < n ∧ I (nx f d)) : ∀ k m f x, I f → m ≤ k → x < 5 ^ m → goR c nx m f x → m ≤ (bR c nx n k f).1
  | 0, m, _, _, _, hm, _, _ => by omega
  | k + 1, 0, _, _, _, _, _, _ => Nat.zero_le _
  | k + 1, m + 1, f, x, hf, hm, hx, hg => by
    obtain ⟨g1, g2⟩ := hg
    rw [Nat.pow_succ] at hx
    obtain ⟨a, b⟩ := hI f _ hf (Nat.div_lt_of_lt_mul hx) g1
    have h1 := go_le hI k m (nx f (x / 5 ^ m)) (x % 5 ^ m) b (by omega) (Nat.mod_lt _ (p5_pos m)) g2
    have h2 := bL_ge (nx := nx) (R := bR c nx n k) n _ a g1
    show m + 1 ≤ (bL c nx (bR c nx n k) f n).1
    omega
theorem go_b (hn : n ≤ 5) : ∀ k f, goR c nx (bR c nx n k f).1 f (bR c nx n k f).2
  | 0, _ => trivial
  | k + 1, f => by
    have key : ∀ d, goR c nx (bL c nx (bR c nx n k) f d).1 f (bL c nx (bR c nx n k) f d).2 := by
      intro d
      induction d with
      | zero => exact trivial
      | succ d ih =>
        by_cases y : c f d ≠ 0 ∧ (bL c nx (bR c nx n k) f d).1 < (bR c nx n k (nx f d)).1 + 1
        · rw [bL_t y]
          have hw := bR_lt (c := c) (nx := nx) hn k (nx f d)
          have h2 := go_b hn k (nx f d)
          obtain ⟨w, hw9⟩ : ∃ w, w = bR c nx n k (nx f d) := ⟨_, rfl⟩
          rw [← hw9] at hw h2 ⊢
          show c f ((d * 5 ^ w.1 + w.2) / 5 ^ w.1) ≠ 0 ∧ goR c nx w.1 (nx f ((d * 5 ^ w.1 + w.2) / 5 ^ w.1)) ((d * 5 ^ w.1 + w.2) % 5 ^ w.1)
          rw [Nat.mul_comm d, Nat.mul_add_div (p5_pos w.1), Nat.div_eq_of_lt hw, Nat.add_zero, Nat.mul_add_mod, Nat.mod_eq_of_lt hw]
          exact ⟨y.1, h2⟩
        · rw [bL_f y]; exact ih
    exact key n
theorem go_min {I : (Nat → Nat) → Prop} (hn : n ≤ 5) (hI : ∀ f d, I f → d < 5 → c f d ≠ 0 → d < n ∧ I (nx f d)) : ∀ k f x, I f → x < 5 ^ (bR c nx n k f).1 → goR c nx (bR c nx n k f).1 f x → (bR c nx n k f).2 ≤ x
  | 0, _, _, _, _, _ => Nat.zero_le _
  | k + 1, f, x, hf, hx, hg => by
    have hb := bR_lt (c := c) (nx := nx) hn (k + 1) f
    have hl := bR_len (c := c) (nx := nx) (n := n) (k + 1) f
    obtain ⟨m, hm⟩ : ∃ m, m = (bR c nx n (k + 1) f).1 := ⟨_, rfl⟩
    rw [← hm] at hx hg hb hl
    rcases m with _ | m
    · rw [Nat.pow_zero] at hb; omega
    · obtain ⟨g1, g2⟩ := hg
      have hx' := hx
      rw [Nat.pow_succ] at hx'
      obtain ⟨a, b⟩ := hI f _ hf (Nat.div_lt_of_lt_mul hx') g1
      have hlt := Nat.mod_lt x (p5_pos m)
      have h1 := go_le hI k m (nx f (x / 5 ^ m)) (x % 5 ^ m) b (by omega) hlt g2
      have h2 : (bR c nx n k (nx f (x / 5 ^ m))).1 + 1 ≤ (bR c nx n (k + 1) f).1 := bL_ge (nx := nx) (R := bR c nx n k) n _ a g1
      have e1 : (bR c nx n k (nx f (x / 5 ^ m))).1 = m := by omega
      have h3 := go_min hn hI k (nx f (x / 5 ^ m)) (x % 5 ^ m) b (by rw [e1]; exact hlt) (by rw [e1]; exact g2)
      have h4 : (bR c nx n (k + 1) f).2 ≤ x / 5 ^ m * 5 ^ (bR c nx n k (nx f (x / 5 ^ m))).1 + (bR c nx n k (nx f (x / 5 ^ m))).2 := bL_min (R := bR c nx n k) (bR_lt hn k) n _ a g1 (by rw [e1]; exact hm)
      rw [e1] at h4
      have h5 := Nat.div_add_mod x (5 ^ m)
      rw [Nat.mul_comm] at h5
      omega
theorem bR_pop {I : (Nat → Nat) → Prop} (hP : ∀ f d, I f → d < n → c f d ≠ 0 → I (nx f d) ∧ popN (nx f d 35) + 1 ≤ popN (f 35)) : ∀ k f, I f → (bR c nx n k f).1 ≤ popN (f 35)
  | 0, _, _ => Nat.zero_le _
  | k + 1, f, hf => by
    have key : ∀ d, d ≤ n → (bL c nx (bR c nx n k) f d).1 ≤ popN (f 35) := by
      intro d
      induction d with
      | zero => intro _; exact Nat.zero_le _
      | succ d ih =>
        intro hd
        by_cases y : c f d ≠ 0 ∧ (bL c nx (bR c nx n k) f d).1 < (bR c nx n k (nx f d)).1 + 1
        · rw [bL_t y]
          obtain ⟨a, b⟩ := hP f d hf (by omega) y.1
          have := bR_pop hP k (nx f d) a
          show (bR c nx n k (nx f d)).1 + 1 ≤ _
          omega
        · rw [bL_f y]; exact ih (by omega)
    exact key n (Nat.le_refl _)
theorem bR_sim {c' : (Nat → Nat) → Nat → Nat} {nx' : (Nat → Nat) → Nat → Nat → Nat} {E : (Nat → Nat) → (Nat → Nat) → Prop} (hE : ∀ f g d, E f g → d < n → c f d = c' g d ∧ (c f d ≠ 0 → E (nx f d) (nx' g d))) : ∀ k f g, E f g → bR c nx n k f = bR c' nx' n k g
  | 0, _, _, _ => rfl
  | k + 1, f, g, h => by
    have key : ∀ d, d ≤ n → bL c nx (bR c nx n k) f d = bL c' nx' (bR c' nx' n k) g d := by
      intro d
      induction d with
      | zero => intro _; rfl
      | succ d ih =>
        intro hd
        have ih := ih (by omega)
        obtain ⟨a, b⟩ := hE f g d h (by omega)
        by_cases z : c f d ≠ 0
        · have e := bR_sim hE k _ _ (b z)
          by_cases y : (bL c nx (bR c nx n k) f d).1 < (bR c nx n k (nx f d)).1 + 1
          · rw [bL_t ⟨z, y⟩, bL_t (c := c') ⟨by rw [← a]; exact z, by rw [← ih, ← e]; exact y⟩, e]
          · rw [bL_f (fun q => y q.2), bL_f (c := c') (fun q => y (by rw [ih, e]; exact q.2)), ih]
        · rw [bL_f (fun q => z q.1), bL_f (c := c') (fun q => z (by rw [a]; exact q.1)), ih]
    exact key n (Nat.le_refl _)
theorem goS_t {x : Nat} (hx : x < 5 ^ (n + 1)) : ∀ i, i ≤ n → goS c nx (n + 1) x f (i + 1) = goS c nx n (x % 5 ^ n) (nx f (x / 5 ^ n)) i
  | 0, _ => by show nx f (dig (n + 1) x 0) = _; rw [dig_0 hx]; rfl
  | i + 1, hi => by
    show nx (goS c nx (n + 1) x f (i + 1)) (dig (n + 1) x (i + 1)) = nx (goS c nx n (x % 5 ^ n) (nx f (x / 5 ^ n)) i) (dig n (x % 5 ^ n) i)
    rw [goS_t hx i (by omega), dig_t (by omega)]
theorem goR_iff : ∀ n (f : Nat → Nat) x, x < 5 ^ n → (goR c nx n f x ↔ ∀ i, i < n → c (goS c nx n x f i) (dig n x i) ≠ 0)
  | 0, _, _, _ => ⟨fun _ i h => absurd h (Nat.not_lt_zero i), fun _ => trivial⟩
  | n + 1, f, x, hx => by
    have ih := goR_iff n (nx f (x / 5 ^ n)) (x % 5 ^ n) (Nat.mod_lt _ (p5_pos n))
    constructor
    · rintro ⟨g1, g2⟩ i hi
      rcases i with _ | i
      · show c f (dig (n + 1) x 0) ≠ 0
        rw [dig_0 hx]; exact g1
      · rw [goS_t hx i (by omega), dig_t (by omega)]
        exact ih.mp g2 i (by omega)
    · intro h
      refine ⟨?_, ih.mpr (fun i hi => ?_)⟩
      · have := h 0 (by omega)
        rw [dig_0 hx] at this
        exact this
      · have := h (i + 1) (by omega)
        rw [goS_t hx i (by omega), dig_t hi] at this
        exact this
theorem go_ok {I : (Nat → Nat) → Prop} (hO : ∀ f d, I f → d < 5 → c f d ≠ 0 → f 35 / 2 ^ d % 2 = 1 ∧ I (nx f d) ∧ ∀ e, e < 5 → nx f d 35 / 2 ^ e % 2 = 1 → f 35 / 2 ^ e % 2 = 1 ∧ e ≠ d) : ∀ n f x, I f → x < 5 ^ n → goR c nx n f x → (∀ p, p < n → f 35 / 2 ^ dig n x p % 2 = 1) ∧ ∀ p q, p < q → q < n → dig n x p ≠ dig n x q
  | 0, _, _, _, _, _ => ⟨fun p h => absurd h (Nat.not_lt_zero p), fun p q _ h => absurd h (Nat.not_lt_zero q)⟩
  | n + 1, f, x, hf, hx, hg => by
    obtain ⟨g1, g2⟩ := hg
    have hx' := hx
    rw [Nat.pow_succ] at hx'
    obtain ⟨a, b, e⟩ := hO f _ hf (Nat.div_lt_of_lt_mul hx') g1
    obtain ⟨i1, i2⟩ := go_ok hO n (nx f (x / 5 ^ n)) (x % 5 ^ n) b (Nat.mod_lt _ (p5_pos n)) g2
    refine ⟨fun p hp => ?_, fun p q hpq hq => ?_⟩
    · rcases p with _ | p
      · rw [dig_0 hx]; exact a
      · rw [dig_t (by omega)]; exact (e _ (dig_lt _ _ _) (i1 p (by omega))).1
    · rcases q with _ | q
      · omega
      · rcases p with _ | p
        · rw [dig_0 hx, dig_t (by omega)]; exact fun y => (e _ (dig_lt _ _ _) (i1 q (by omega))).2 y.symm
        · rw [dig_t (by omega), dig_t (by omega)]; exact i2 p q (by omega) (by omega)
theorem fr_hit {I : (Nat → Nat) → Prop} (hn : n ≤ 5) (hI : ∀ f d, I f → d < 5 → c f d ≠ 0 → d < n ∧ I (nx f d)) {m x : Nat} (hf : I f) (hm : m ≤ 5) (hle : (bR c nx n 5 f).1 ≤ m) (hx : x < 5 ^ m) (hg : goR c nx m f x) (hno : ∀ y, y < x → ¬ goR c nx m f y) : bR c nx n 5 f = (m, x) := by
  have h1 := go_le hI 5 m f x hf hm hx hg
  have e : (bR c nx n 5 f).1 = m := by omega
  have h2 := go_min hn hI 5 f x hf (by rw [e]; exact hx) (by rw [e]; exact hg)
  have h3 := go_b (c := c) (nx := nx) hn 5 f
  rw [e] at h3
  have e2 : (bR c nx n 5 f).2 = x := by
    rcases Nat.lt_or_ge (bR c nx n 5 f).2 x with q | q
    · exact absurd h3 (hno _ q)
    · omega
  exact Prod.ext e e2
theorem fr_no (hn : n ≤ 5) {m : Nat} (hle : (bR c nx n 5 f).1 ≤ m) (hno : ∀ y, y < 5 ^ m → ¬ goR c nx m f y) (h0 : 0 < m) : (bR c nx n 5 f).1 ≤ m - 1 := by
  rcases Nat.lt_or_ge (bR c nx n 5 f).1 m with q | q
  · omega
  · have e : (bR c nx n 5 f).1 = m := by omega
    have h3 := go_b (c := c) (nx := nx) hn 5 f
    have h4 := bR_lt (c := c) (nx := nx) hn 5 f
    rw [e] at h3 h4
    exact absurd h3 (hno _ h4)
end SRCH
def bstO (m pc : Nat) (w b : Nat × Nat) : Nat × Nat := if b.1 < m + w.1 then (m + w.1, pc * 5 ^ w.1 + w.2) else b
theorem bstO_0 (m pc : Nat) (b : Nat × Nat) : bstO m pc (0, 0) b = if b.1 < m then (m, pc) else b := by
  unfold bstO
  rw [Nat.pow_zero, Nat.mul_one]
  rfl
theorem bstO_k (m pc d : Nat) (a w b : Nat × Nat) : bstO (m + 1) (pc * 5 + d) w (bstO m pc a b) = bstO m pc (if a.1 < w.1 + 1 then (w.1 + 1, d * 5 ^ w.1 + w.2) else a) b := by
  obtain ⟨a1, a2⟩ := a
  obtain ⟨w1, w2⟩ := w
  obtain ⟨b1, b2⟩ := b
  have pe : (pc * 5 + d) * 5 ^ w1 + w2 = pc * 5 ^ (w1 + 1) + (d * 5 ^ w1 + w2) := by
    rw [Nat.pow_succ, Nat.add_mul, Nat.mul_assoc pc 5, Nat.mul_comm 5 (5 ^ w1)]; omega
  unfold bstO
  show (if (if b1 < m + a1 then (m + a1, pc * 5 ^ a1 + a2) else (b1, b2)).1 < m + 1 + w1 then (m + 1 + w1, (pc * 5 + d) * 5 ^ w1 + w2) else (if b1 < m + a1 then (m + a1, pc * 5 ^ a1 + a2) else (b1, b2))) = if b1 < m + (if a1 < w1 + 1 then (w1 + 1, d * 5 ^ w1 + w2) else (a1, a2)).1 then (m + (if a1 < w1 + 1 then (w1 + 1, d * 5 ^ w1 + w2) else (a1, a2)).1, pc * 5 ^ (if a1 < w1 + 1 then (w1 + 1, d * 5 ^ w1 + w2) else (a1, a2)).1 + (if a1 < w1 + 1 then (w1 + 1, d * 5 ^ w1 + w2) else (a1, a2)).2) else (b1, b2)
  rw [pe, show m + 1 + w1 = m + (w1 + 1) by omega]
  by_cases q : b1 < m + a1
  · rw [if_pos q]
    by_cases y : a1 < w1 + 1
    · rw [if_pos y]
      show (if m + a1 < m + (w1 + 1) then _ else _) = if b1 < m + (w1 + 1) then _ else _
      rw [if_pos (show m + a1 < m + (w1 + 1) by omega), if_pos (show b1 < m + (w1 + 1) by omega)]
    · rw [if_neg y]
      show (if m + a1 < m + (w1 + 1) then _ else _) = if b1 < m + a1 then _ else _
      rw [if_neg (show ¬ m + a1 < m + (w1 + 1) by omega), if_pos q]
  · rw [if_neg q]
    by_cases y : a1 < w1 + 1
    · rw [if_pos y]
    · rw [if_neg y]
      show (if b1 < m + (w1 + 1) then _ else _) = if b1 < m + a1 then _ else _
      rw [if_neg (show ¬ b1 < m + (w1 + 1) by omega), if_neg q]
theorem bstO_s {c : (Nat → Nat) → Nat → Nat} {nx : (Nat → Nat) → Nat → Nat → Nat} {R : (Nat → Nat) → Nat × Nat} {f : Nat → Nat} {m pc d : Nat} {b w : Nat × Nat} (hc : c f d ≠ 0) (hw : R (nx f d) = w) : bstO (m + 1) (pc * 5 + d) w (bstO m pc (bL c nx R f d) b) = bstO m pc (bL c nx R f (d + 1)) b := by
  rw [bstO_k]
  congr 1
  rw [← hw]
  by_cases y : (bL c nx R f d).1 < (R (nx f d)).1 + 1
  · rw [if_pos y, bL_t ⟨hc, y⟩]
  · rw [if_neg y, bL_f (fun z => y z.2)]
theorem bstO_n {c : (Nat → Nat) → Nat → Nat} {nx : (Nat → Nat) → Nat → Nat → Nat} {R : (Nat → Nat) → Nat × Nat} {f : Nat → Nat} {m pc d : Nat} {b : Nat × Nat} (hc : c f d = 0) : bstO m pc (bL c nx R f d) b = bstO m pc (bL c nx R f (d + 1)) b := by rw [bL_f (fun z => z.1 hc)]
theorem bstO_cut {c : (Nat → Nat) → Nat → Nat} {nx : (Nat → Nat) → Nat → Nat → Nat} {R : (Nat → Nat) → Nat × Nat} {f : Nat → Nat} {m pc d n K : Nat} {b : Nat × Nat} (hd : d ≤ n) (hA : (bL c nx R f n).1 ≤ K) (hcut : m + K ≤ (bstO m pc (bL c nx R f d) b).1) : bstO m pc (bL c nx R f d) b = bstO m pc (bL c nx R f n) b := by
  have hm := bL_mono (c := c) (nx := nx) (R := R) (f := f) n d hd
  by_cases q : b.1 < m + (bL c nx R f d).1
  · have e : (bstO m pc (bL c nx R f d) b).1 = m + (bL c nx R f d).1 := by unfold bstO; rw [if_pos q]
    rw [e] at hcut
    rcases hm with hm | hm
    · rw [hm]
    · omega
  · have e : bstO m pc (bL c nx R f d) b = b := by unfold bstO; rw [if_neg q]
    rw [e] at hcut ⊢
    unfold bstO
    rw [if_neg (by omega)]
/-! the tables of fewest pieces and what is taken are fixed -/
theorem tabK_u {K : Nat} {F F' w t : Nat → Nat} {n z : Nat} (h : (∀ s, s ≤ z → F (61 * n + s) = (if s = 0 then 0 else K)) ∧ ∀ c s, c < n → s ≤ z → PRX F w t c s) (h' : (∀ s, s ≤ z → F' (61 * n + s) = (if s = 0 then 0 else K)) ∧ ∀ c s, c < n → s ≤ z → PRX F' w t c s) : ∀ k, k ≤ n → ∀ s, s ≤ z → F (61 * (n - k) + s) = F' (61 * (n - k) + s)
  | 0, _, s, hs => by rw [Nat.sub_zero, h.1 s hs, h'.1 s hs]
  | k + 1, hk, s, hs => by
    obtain ⟨c, hc⟩ : ∃ c, c = n - (k + 1) := ⟨_, rfl⟩
    have hc1 : n - k = c + 1 := by omega
    have ih := tabK_u h h' k (by omega)
    rw [hc1] at ih
    rw [← hc]
    obtain ⟨⟨a, a1, a2, a3⟩, amin⟩ := h.2 c s (by omega) hs
    obtain ⟨⟨b, b1, b2, b3⟩, bmin⟩ := h'.2 c s (by omega) hs
    have m1 := amin b b1 b2
    have m2 := bmin a a1 a2
    have ia := ih (s - a * w c) (by omega)
    have ib := ih (s - b * w c) (by omega)
    rw [show 61 * (c + 1) + s - a * w c = 61 * (c + 1) + (s - a * w c) by omega] at a3 m2
    rw [show 61 * (c + 1) + s - b * w c = 61 * (c + 1) + (s - b * w c) by omega] at b3 m1
    omega
theorem chK_u {F F' w t P P' : Nat → Nat} {n z l l' : Nat} (hF : ∀ c, c ≤ n → ∀ s, s ≤ z → F (61 * c + s) = F' (61 * c + s)) (hC : ChI F w t z P n l) (hC' : ChI F' w t z P' n l') : ∀ c, c < n → P c = P' c := by
  obtain ⟨R, r0, _, hR⟩ := hC
  obtain ⟨R', r0', _, hR'⟩ := hC'
  have key : ∀ c, c ≤ n → R c = R' c ∧ R c ≤ z ∧ ∀ d, d < c → P d = P' d := by
    intro c
    induction c with
    | zero => intro _; exact ⟨by rw [r0, r0'], by omega, fun d h => absurd h (Nat.not_lt_zero d)⟩
    | succ c ih =>
      intro hc
      obtain ⟨e, lz, ps⟩ := ih (by omega)
      obtain ⟨a1, a2, a3, a4, a5⟩ := hR c (by omega)
      obtain ⟨b1, b2, b3, b4, b5⟩ := hR' c (by omega)
      rw [← e] at b1 b2 b4 b5
      have ec := hF c (by omega) (R c) lz
      have st : ∀ n, n * w c ≤ R c → (F (61 * c + R c) = n + F (61 * (c + 1) + R c - n * w c) ↔ F' (61 * c + R c) = n + F' (61 * (c + 1) + R c - n * w c)) := by
        intro n hnw
        have := hF (c + 1) hc (R c - n * w c) (by omega)
        rw [show 61 * (c + 1) + R c - n * w c = 61 * (c + 1) + (R c - n * w c) by omega]
        omega
      have le1 : P' c ≤ P c := by
        rcases Nat.lt_or_ge (P c) (P' c) with q | q
        · exact absurd ((st _ a1).mp a4) (b5 _ q)
        · exact q
      have le2 : P c ≤ P' c := by
        rcases Nat.lt_or_ge (P' c) (P c) with q | q
        · exact absurd ((st _ b1).mpr b4) (a5 _ q)
        · exact q
      have ep : P c = P' c := by omega
      refine ⟨by rw [a2, b2, ep], by omega, fun d hd => ?_⟩
      rcases (show d < c ∨ d = c by omega) with y | y
      · exact ps d y
      · rw [y]; exact ep
  exact (key n (Nat.le_refl _)).2.2
theorem tabK_u' {K : Nat} {F F' w t : Nat → Nat} {n z : Nat} (h : (∀ s, s ≤ z → F (61 * n + s) = (if s = 0 then 0 else K)) ∧ ∀ c s, c < n → s ≤ z → PRX F w t c s) (h' : (∀ s, s ≤ z → F' (61 * n + s) = (if s = 0 then 0 else K)) ∧ ∀ c s, c < n → s ≤ z → PRX F' w t c s) : ∀ c, c ≤ n → ∀ s, s ≤ z → F (61 * c + s) = F' (61 * c + s) := fun c hc s hs => by
  have := tabK_u h h' (n - c) (by omega) s hs
  rwa [show n - (n - c) = c by omega] at this
/-- a payment by n coins: fewest pieces, what is taken -/
def PyG (w t : Nat → Nat) (n : Nat) (P : Nat → Nat) (z k : Nat) : Prop := k < 1000000 ∧ (∃ F, TabX F w t n z ∧ F z = k ∧ ∃ l, ChI F w t z P n l) ∧ ∀ c, n ≤ c → c < 6 → P c = 0
def PnG (w t : Nat → Nat) (n z : Nat) : Prop := ∃ F, TabX F w t n z ∧ F z = 1000000
theorem PyG_u {w t P P' : Nat → Nat} {n z k k' : Nat} (h : PyG w t n P z k) (h' : PyG w t n P' z k') : ∀ c, c < 6 → P c = P' c := by
  obtain ⟨_, ⟨F, hF, _, l, hC⟩, h0⟩ := h
  obtain ⟨_, ⟨G, hG, _, l', hC'⟩, h0'⟩ := h'
  have e := tabK_u' hF hG
  intro c hc
  rcases Nat.lt_or_ge c n with q | q
  · exact chK_u e hC hC' c q
  · rw [h0 c q hc, h0' c q hc]
theorem PnG_y {w t P : Nat → Nat} {n z k : Nat} (h : PnG w t n z) (h' : PyG w t n P z k) : False := by
  obtain ⟨F, hF, eF⟩ := h
  obtain ⟨k6, ⟨G, hG, eG, _⟩, _⟩ := h'
  have e := tabK_u' hF hG 0 (Nat.zero_le _) z (Nat.le_refl _)
  rw [Nat.mul_zero, Nat.zero_add] at e
  omega
theorem PRX_w {F w w' t t' : Nat → Nat} {c s : Nat} (h : PRX F w t c s) (e1 : w c = w' c) (e2 : t c = t' c) : PRX F w' t' c s := by
  unfold PRX at h ⊢
  rwa [← e1, ← e2]
theorem PyG_cg {w t w' t' P : Nat → Nat} {n z k : Nat} (hw : ∀ c, c < n → w c = w' c) (ht : ∀ c, c < n → t c = t' c) (h : PyG w t n P z k) : PyG w' t' n P z k := by
  obtain ⟨k6, ⟨F, hF, eF, l, R, r0, r1, hR⟩, h0⟩ := h
  refine ⟨k6, ⟨F, ⟨hF.1, fun c s hc hs => PRX_w (hF.2 c s hc hs) (hw c hc) (ht c hc)⟩, eF, l, R, r0, r1, fun c hc => ?_⟩, h0⟩
  have q := hR c hc
  unfold ChS at q ⊢
  rwa [← hw c hc, ← ht c hc]
/-- the reference's table, read as the class's -/
def bigF (F : Nat → Nat) : Nat → Nat := fun j => if F j = 1000 then 1000000 else F j
theorem big_1 {F : Nat → Nat} {j : Nat} (h : F j = 1000) : bigF F j = 1000000 := if_pos h
theorem big_0 {F : Nat → Nat} {j : Nat} (h : F j ≠ 1000) : bigF F j = F j := if_neg h
theorem big_le (F : Nat → Nat) (j : Nat) : F j ≤ bigF F j := by
  by_cases q : F j = 1000
  · rw [big_1 q, q]; decide
  · rw [big_0 q]; exact Nat.le_refl _
theorem tab_v {F w t : Nat → Nat} (hT : Tab 1000 F w t) (hw : ∀ c, c < 6 → t c = 0 ∨ 1 ≤ w c) {c s : Nat} (hc : c ≤ 6) (hs : s ≤ 60) : F (61 * c + s) ≤ 60 ∨ F (61 * c + s) = 1000 := by
  have h := tab_rdn hT hw (6 - c) (by omega) s hs
  rw [show 6 - (6 - c) = c by omega] at h
  rcases h with h | h
  · exact Or.inl (by omega)
  · exact Or.inr h.2
theorem tab_hi9 {F' w' t' : Nat → Nat} {n : Nat} (hZ : Tab 1000 F' w' t') (ht0 : ∀ c, n ≤ c → c < 6 → t' c = 0) {s : Nat} (hs : s ≤ 60) : ∀ m, m + n ≤ 6 → F' (61 * (6 - m) + s) = (if s = 0 then 0 else 1000)
  | 0, _ => hZ.1 s hs
  | m + 1, hm => by
    have ih := tab_hi9 hZ ht0 hs m (by omega)
    obtain ⟨⟨q, a, b, e⟩, _⟩ := hZ.2 (6 - (m + 1)) s (by omega) hs
    have h0 := ht0 (6 - (m + 1)) (by omega) (by omega)
    obtain rfl : q = 0 := by omega
    rw [e, Nat.zero_mul, Nat.sub_zero, Nat.zero_add, show 6 - (m + 1) + 1 = 6 - m by omega]
    exact ih
theorem big_tab {F w t : Nat → Nat} {n z : Nat} (hT : Tab 1000 F w t) (hw : ∀ c, c < 6 → t c = 0 ∨ 1 ≤ w c) (hn : n ≤ 6) (hz : z ≤ 60) (ht : ∀ c, n ≤ c → c < 6 → t c = 0) : TabX (bigF F) w t n z := by
  refine ⟨fun s hs => ?_, fun c s hc hs => ?_⟩
  · have h := tab_hi9 hT ht (s := s) (by omega) (6 - n) (by omega)
    rw [show 6 - (6 - n) = n by omega] at h
    by_cases q : s = 0
    · rw [if_pos q] at h ⊢; rw [big_0 (by omega), h]
    · rw [if_neg q] at h ⊢; exact big_1 h
  · obtain ⟨⟨a, a1, a2, a3⟩, amin⟩ := hT.2 c s (by omega) (by omega)
    have hm : ∀ m, m ≤ t c → m * w c ≤ s → m ≤ 60 := fun m m1 m2 => by
      rcases hw c (by omega) with y | y
      · omega
      · have := Nat.le_mul_of_pos_right m y
        omega
    have hv : ∀ m, m * w c ≤ s → F (61 * (c + 1) + s - m * w c) ≤ 60 ∨ F (61 * (c + 1) + s - m * w c) = 1000 := fun m m2 => by
      rw [show 61 * (c + 1) + s - m * w c = 61 * (c + 1) + (s - m * w c) by omega]
      exact tab_v hT hw (by omega) (by omega)
    rcases tab_v hT hw (c := c) (s := s) (by omega) (by omega) with q | q
    · refine ⟨⟨a, a1, a2, ?_⟩, fun m m1 m2 => ?_⟩
      · rw [big_0 (by omega), big_0 (by omega)]; exact a3
      · rw [big_0 (by omega)]
        exact Nat.le_trans (amin m m1 m2) (Nat.add_le_add_left (big_le _ _) m)
    · have k : ∀ m, m ≤ t c → m * w c ≤ s → bigF F (61 * (c + 1) + s - m * w c) = 1000000 := fun m m1 m2 => by
        have x1 := amin m m1 m2
        have x2 := hm m m1 m2
        exact big_1 (by rcases hv m m2 with y | y <;> omega)
      rw [PRX, big_1 q]
      refine ⟨⟨0, Nat.zero_le _, by rw [Nat.zero_mul]; exact Nat.zero_le _, ?_⟩, fun m m1 m2 => ?_⟩
      · rw [k 0 (Nat.zero_le _) (by rw [Nat.zero_mul]; exact Nat.zero_le _)]
      · rw [k m m1 m2]; omega
theorem PZ_n {w t P : Nat → Nat} {n z : Nat} (hw : ∀ c, c < 6 → t c = 0 ∨ 1 ≤ w c) (hn : n ≤ 6) (hz : z ≤ 60) (ht : ∀ c, n ≤ c → c < 6 → t c = 0) (h : PZ w t z (-9) P) : PnG w t n z := by
  obtain ⟨F, hT, q⟩ := h
  rcases q with q | ⟨q1, q2, _⟩
  · exact ⟨bigF F, big_tab hT hw hn hz ht, big_1 q.2⟩
  · exact absurd q2.symm (nI_ne9 (by omega))
theorem PZ_y {w t P : Nat → Nat} {n z k : Nat} (hw : ∀ c, c < 6 → t c = 0 ∨ 1 ≤ w c) (hn : n ≤ 6) (hz : z ≤ 60) (ht : ∀ c, n ≤ c → c < 6 → t c = 0) (hk : k < 1000) (h : PZ w t z (nI k) P) : ∃ k', PyG w t n P z k' := by
  obtain ⟨F, hT, q⟩ := h
  rcases q with q | ⟨q1, q2, l, R, r0, r1, hR⟩
  · exact absurd q.1 (nI_ne9 (by omega))
  · have key : ∀ c, c ≤ 6 → R c ≤ z ∧ F (61 * c + R c) < 1000 := by
      intro c
      induction c with
      | zero => intro _; exact ⟨by omega, by rw [r0, Nat.mul_zero, Nat.zero_add]; exact q1⟩
      | succ c ih =>
        intro hc
        obtain ⟨i1, i2⟩ := ih (by omega)
        obtain ⟨a1, a2, a3, a4, a5⟩ := hR c (by omega)
        refine ⟨by omega, ?_⟩
        rw [a2, show 61 * (c + 1) + (R c - P c * w c) = 61 * (c + 1) + R c - P c * w c by omega]
        omega
    refine ⟨F z, by omega, ⟨bigF F, big_tab hT hw hn hz ht, big_0 (by omega), R n, R, r0, rfl, fun c hc => ?_⟩, fun c hc hc6 => ?_⟩
    · obtain ⟨i1, i2⟩ := key c (by omega)
      obtain ⟨i3, i4⟩ := key (c + 1) (by omega)
      obtain ⟨a1, a2, a3, a4, a5⟩ := hR c (by omega)
      rw [a2, show 61 * (c + 1) + (R c - P c * w c) = 61 * (c + 1) + R c - P c * w c by omega] at i4
      refine ⟨a1, a2, a3, ?_, fun m hm => ?_⟩
      · rw [big_0 (by omega), big_0 (by omega)]; exact a4
      · rw [big_0 (show F (61 * c + R c) ≠ 1000 by omega)]
        by_cases y : F (61 * (c + 1) + R c - m * w c) = 1000
        · rw [big_1 y]; omega
        · rw [big_0 y]; exact a5 m hm
    · have := (hR c hc6).2.2.1
      rw [ht c hc hc6] at this
      omega
/-! the two sides' steps -/
def E36 (f g : Nat → Nat) : Prop := ∀ j, j < 36 → f j = g j
theorem E36.rf (f : Nat → Nat) : E36 f f := fun _ _ => rfl
theorem E36.tr {f g h : Nat → Nat} (a : E36 f g) (b : E36 g h) : E36 f h := fun j hj => (a j hj).trans (b j hj)
theorem un_c36 {f g : Nat → Nat} {i v w : Nat} (h : E36 f g) (e : v = w) : E36 (un f i v) (un g i w) := fun j hj => by
  subst e
  unfold un; split
  · rfl
  · exact h j hj
theorem stl_c36 {f g P Q : Nat → Nat} {db cr : Nat} (h : E36 f g) (hP : ∀ c, c < 6 → P c = Q c) (h1 : db < 5) (h2 : cr < 5) : ∀ n, n ≤ 6 → E36 (stlN f P db cr n) (stlN g Q db cr n)
  | 0, _ => h
  | n + 1, hn => by
    have ih := stl_c36 h hP h1 h2 n (by omega)
    have k := un_c36 (i := db * 6 + n) ih (show stlN f P db cr n (db * 6 + n) - P n = stlN g Q db cr n (db * 6 + n) - Q n by rw [ih _ (by omega), hP n (by omega)])
    exact un_c36 k (by rw [k _ (by omega), hP n (by omega)])
theorem py_c36 {f g P Q : Nat → Nat} {db cr d : Nat} (h : E36 f g) (hP : ∀ c, c < 6 → P c = Q c) (h1 : db < 5) (h2 : cr < 5) : E36 (pyN f P db cr d) (pyN g Q db cr d) := by
  unfold pyN
  have k := stl_c36 h hP h1 h2 6 (Nat.le_refl _)
  exact un_c36 k (by rw [k 35 (by omega)])
/-- what is there of the debtor's, by the cells -/
def thH (L : Nat → Nat → Nat) (f : Nat → Nat) (d b c : Nat) : Nat := if c < L 0 0 ∧ doN L c b ≠ 0 then f (L 7 d * 6 + c) else 0
def thG (Z : Nat → Nat → Nat) (g : Nat → Nat) (q b c : Nat) : Nat := if c < Z 3 0 ∧ Z 4 c ≤ Z 7 b + 7 ∧ Z 7 b + 7 < Z 4 c + Z 13 0 then g (6 * q + c) else 0
def yX (L : Nat → Nat → Nat) (f : Nat → Nat) (d : Nat) (P : Nat → Nat) : Prop := ∃ k, PyG (L 2) (thH L f d (f (30 + d))) (L 0 0) P (L 9 d) k
def yZ (Z : Nat → Nat → Nat) (g : Nat → Nat) (d : Nat) (P : Nat → Nat) : Prop := ∃ k, PyG (Z 5) (thG Z g (Z 10 d) (g (30 + d))) (Z 3 0) P (Z 12 d) k
noncomputable def cxO (L : Nat → Nat → Nat) (f : Nat → Nat) (d : Nat) : Nat := iP (f 35 / 2 ^ d % 2 = 1 ∧ ∃ P, yX L f d P ∧ ∀ c, c < 6 → f (f (30 + d) * 6 + c) + P c ≤ 99)
noncomputable def nxO (L : Nat → Nat → Nat) (f : Nat → Nat) (d : Nat) : Nat → Nat := pyN f (Classical.epsilon (yX L f d)) (L 7 d) (f (30 + d)) d
noncomputable def czO (Z : Nat → Nat → Nat) (g : Nat → Nat) (d : Nat) : Nat := iP (g 35 / 2 ^ d % 2 = 1 ∧ ∃ P, yZ Z g d P ∧ ∀ c, c < 6 → g (6 * g (30 + d) + c) + P c ≤ 99)
noncomputable def nzO (Z : Nat → Nat → Nat) (g : Nat → Nat) (d : Nat) : Nat → Nat := pyN g (Classical.epsilon (yZ Z g d)) (Z 10 d) (g (30 + d)) d
theorem iP_ne {P : Prop} (h : iP P ≠ 0) : P := Classical.byContradiction (fun q => h (iP_0 q))
theorem nX_of {L : Nat → Nat → Nat} {f : Nat → Nat} {d : Nat} {P : Nat → Nat} (h : yX L f d P) : ∀ c, c < 6 → P c = Classical.epsilon (yX L f d) c := by
  obtain ⟨k, hk⟩ := h
  obtain ⟨k', hk'⟩ := Classical.epsilon_spec (p := yX L f d) ⟨P, k, hk⟩
  exact PyG_u hk hk'
theorem nZ_of {Z : Nat → Nat → Nat} {g : Nat → Nat} {d : Nat} {P : Nat → Nat} (h : yZ Z g d P) : ∀ c, c < 6 → P c = Classical.epsilon (yZ Z g d) c := by
  obtain ⟨k, hk⟩ := h
  obtain ⟨k', hk'⟩ := Classical.epsilon_spec (p := yZ Z g d) ⟨P, k, hk⟩
  exact PyG_u hk hk'
theorem cX_1 {L : Nat → Nat → Nat} {f : Nat → Nat} {d : Nat} {P : Nat → Nat} (h1 : f 35 / 2 ^ d % 2 = 1) (h2 : yX L f d P) (h3 : ∀ c, c < 6 → f (f (30 + d) * 6 + c) + P c ≤ 99) : cxO L f d ≠ 0 := by unfold cxO; rw [iP_1 ⟨h1, P, h2, h3⟩]; decide
theorem cX_0o {L : Nat → Nat → Nat} {f : Nat → Nat} {d : Nat} (h : f 35 / 2 ^ d % 2 ≠ 1) : cxO L f d = 0 := iP_0 (fun q => h q.1)
theorem cX_0n {L : Nat → Nat → Nat} {f : Nat → Nat} {d : Nat} (h : PnG (L 2) (thH L f d (f (30 + d))) (L 0 0) (L 9 d)) : cxO L f d = 0 := iP_0 (fun ⟨_, _, ⟨_, q⟩, _⟩ => PnG_y h q)
theorem cX_0y {L : Nat → Nat → Nat} {f : Nat → Nat} {d : Nat} {P : Nat → Nat} (h : yX L f d P) (h3 : ∃ c, c < 6 ∧ ¬ f (f (30 + d) * 6 + c) + P c ≤ 99) : cxO L f d = 0 := iP_0 (fun ⟨_, Q, q, h9⟩ => by
  obtain ⟨c, hc, h3⟩ := h3
  obtain ⟨k, hk⟩ := h
  obtain ⟨k', hk'⟩ := q
  exact h3 (by rw [PyG_u hk hk' c hc]; exact h9 c hc))
theorem thG_w {Z : Nat → Nat → Nat} {g : Nat → Nat} {q b : Nat} (h9 : ∀ c, c < Z 3 0 → 1 ≤ Z 5 c) : ∀ c, c < 6 → thG Z g q b c = 0 ∨ 1 ≤ Z 5 c := fun c _ => by
  by_cases y : c < Z 3 0
  · exact Or.inr (h9 c y)
  · exact Or.inl (by unfold thG; rw [if_neg (fun z => y z.1)])
theorem thG_0 {Z : Nat → Nat → Nat} {g : Nat → Nat} {q b : Nat} : ∀ c, Z 3 0 ≤ c → c < 6 → thG Z g q b c = 0 := fun c h _ => by unfold thG; rw [if_neg (fun z => absurd z.1 (by omega))]
theorem yZ_of {Z : Nat → Nat → Nat} {k d n : Nat} {P : Nat → Nat} (h9 : ∀ c, c < Z 3 0 → 1 ≤ Z 5 c) (h3 : Z 3 0 ≤ 6) (hz : Z 12 d ≤ 60) (hn : n < 1000) (h : PZ (Z 5) (thN Z k (Z 10 d) (Z k (30 + d))) (Z 12 d) (nI n) P) : yZ Z (Z k) d P := PZ_y (thG_w h9) h3 hz thG_0 hn h
theorem cZ_1 {Z : Nat → Nat → Nat} {k d : Nat} {P : Nat → Nat} (h9 : ∀ c, c < Z 3 0 → 1 ≤ Z 5 c) (h3 : Z 3 0 ≤ 6) (hz : Z 12 d ≤ 60) (h : CanZ Z k d P) : czO Z (Z k) d ≠ 0 ∧ yZ Z (Z k) d P := by
  obtain ⟨h1, ⟨n, hn, h2⟩, h4⟩ := h
  have h2 := yZ_of h9 h3 hz hn h2
  exact ⟨by unfold czO; rw [iP_1 ⟨h1, P, h2, h4⟩]; decide, h2⟩
theorem cZ_0 {Z : Nat → Nat → Nat} {k d : Nat} {P : Nat → Nat} (h9 : ∀ c, c < Z 3 0 → 1 ≤ Z 5 c) (h3 : Z 3 0 ≤ 6) (hz : Z 12 d ≤ 60) (h : NotZ Z k d P) : czO Z (Z k) d = 0 := iP_0 (fun ⟨h1, Q, ⟨n, q⟩, h99⟩ => by
  rcases h with h | h | ⟨⟨n', hn', h⟩, c, hc, h4⟩
  · omega
  · exact PnG_y (PZ_n (thG_w h9) h3 hz thG_0 h) q
  · obtain ⟨k', hk'⟩ := yZ_of h9 h3 hz hn' h
    exact h4 (by rw [PyG_u hk' q c hc]; exact h99 c hc))
/-- the cells as they may be -/
def Iv (n : Nat) (f : Nat → Nat) : Prop := f 35 < 2 ^ n ∧ ∀ d, d < 5 → f (30 + d) < 5
theorem clr_p1 : ∀ x, x < 32 → ∀ d, d < 5 → x / 2 ^ d % 2 = 1 → popN (clrN x d) + 1 = popN x := by decide +kernel
theorem clr_a : ∀ x, x < 32 → ∀ d, d < 5 → ∀ e, e < 5 → (x / 2 ^ d % 2 = 1 ∧ clrN x d / 2 ^ e % 2 = 1) → x / 2 ^ e % 2 = 1 := by decide +kernel
theorem clr_b : ∀ x, x < 32 → ∀ d, d < 5 → ∀ e, e < 5 → (x / 2 ^ d % 2 = 1 ∧ clrN x d / 2 ^ e % 2 = 1) → e ≠ d := by decide +kernel
theorem clr_p2 (x : Nat) (hx : x < 32) (d : Nat) (hd : d < 5) (e : Nat) (he : e < 5) (h1 : x / 2 ^ d % 2 = 1) (h2 : clrN x d / 2 ^ e % 2 = 1) : x / 2 ^ e % 2 = 1 ∧ e ≠ d := ⟨clr_a x hx d hd e he ⟨h1, h2⟩, clr_b x hx d hd e he ⟨h1, h2⟩⟩
theorem bit_n : ∀ n, n ≤ 5 → ∀ x, x < 2 ^ n → ∀ d, d < 5 → x / 2 ^ d % 2 = 1 → d < n := by decide +kernel
theorem pw32 {n x : Nat} (hn : n ≤ 5) (h : x < 2 ^ n) : x < 32 := Nat.lt_of_lt_of_le h (Nat.pow_le_pow_right (n := 2) (by decide) hn)
theorem py_35 {f P : Nat → Nat} {db cr d : Nat} (h1 : db < 5) (h2 : cr < 5) : pyN f P db cr d 35 = clrN (f 35) d := by unfold pyN; rw [un_s, stl_hi h1 h2 (Nat.le_refl _) (by omega)]
theorem py_30 {f P : Nat → Nat} {db cr d e : Nat} (h1 : db < 5) (h2 : cr < 5) (he : e < 5) : pyN f P db cr d (30 + e) = f (30 + e) := by unfold pyN; rw [un_n (by omega), stl_hi h1 h2 (Nat.le_refl _) (by omega)]
theorem Iv_s {n : Nat} {f P : Nat → Nat} {db d : Nat} (hf : Iv n f) (h1 : db < 5) (hd : d < 5) : Iv n (pyN f P db (f (30 + d)) d) := by
  refine ⟨?_, fun e he => ?_⟩
  · rw [py_35 h1 (hf.2 d hd)]; exact Nat.lt_of_le_of_lt (clr_le _ _) hf.1
  · rw [py_30 h1 (hf.2 d hd) he]; exact hf.2 e he
theorem IvX {L : Nat → Nat → Nat} {n : Nat} (hn : n ≤ 5) (h7 : ∀ d, L 7 d < 5) (f : Nat → Nat) (d : Nat) (hf : Iv n f) (hd : d < 5) (hc : cxO L f d ≠ 0) : d < n ∧ Iv n (nxO L f d) ∧ popN (nxO L f d 35) + 1 ≤ popN (f 35) := by
  have q := iP_ne hc
  refine ⟨bit_n n hn _ hf.1 d hd q.1, Iv_s hf (h7 d) hd, ?_⟩
  unfold nxO
  rw [py_35 (h7 d) (hf.2 d hd)]
  exact Nat.le_of_eq (clr_p1 _ (pw32 hn hf.1) d hd q.1)
theorem IvZ {Z : Nat → Nat → Nat} {n : Nat} (hn : n ≤ 5) (h10 : ∀ d, Z 10 d < 5) (f : Nat → Nat) (d : Nat) (hf : Iv n f) (hd : d < 5) (hc : czO Z f d ≠ 0) : d < n ∧ Iv n (nzO Z f d) ∧ popN (nzO Z f d 35) + 1 ≤ popN (f 35) ∧ f 35 / 2 ^ d % 2 = 1 ∧ ∀ e, e < 5 → nzO Z f d 35 / 2 ^ e % 2 = 1 → f 35 / 2 ^ e % 2 = 1 ∧ e ≠ d := by
  have q := iP_ne hc
  unfold nzO
  rw [py_35 (h10 d) (hf.2 d hd)]
  exact ⟨bit_n n hn _ hf.1 d hd q.1, Iv_s hf (h10 d) hd, Nat.le_of_eq (clr_p1 _ (pw32 hn hf.1) d hd q.1), q.1, fun e he => clr_p2 _ (pw32 hn hf.1) d hd e he q.1⟩
theorem thH_cg {L : Nat → Nat → Nat} {f g : Nat → Nat} {d b : Nat} (h0 : L 0 0 ≤ 6) (h7 : L 7 d < 5) (h : E36 f g) : thH L f d b = thH L g d b := by
  funext c
  unfold thH
  by_cases q : c < L 0 0 ∧ doN L c b ≠ 0
  · rw [if_pos q, if_pos q, h _ (by omega)]
  · rw [if_neg q, if_neg q]
theorem thG_cg {Z : Nat → Nat → Nat} {f g : Nat → Nat} {q b : Nat} (h0 : Z 3 0 ≤ 6) (h7 : q < 5) (h : E36 f g) : thG Z f q b = thG Z g q b := by
  funext c
  unfold thG
  by_cases y : c < Z 3 0 ∧ Z 4 c ≤ Z 7 b + 7 ∧ Z 7 b + 7 < Z 4 c + Z 13 0
  · rw [if_pos y, if_pos y, h _ (by omega)]
  · rw [if_neg y, if_neg y]
theorem all_cg {f g : Nat → Nat} {b d : Nat} {P : Nat → Nat} (h : E36 f g) (hb : f (30 + d) < 5) (hd : d < 5) : (∀ c, c < 6 → f (f (30 + d) * 6 + c) + P c ≤ 99) ↔ ∀ c, c < 6 → g (g (30 + d) * 6 + c) + P c ≤ 99 := by
  have e := h (30 + d) (by omega)
  rw [← e]
  exact ⟨fun q c hc => by rw [← h _ (by omega)]; exact q c hc, fun q c hc => by rw [h _ (by omega)]; exact q c hc⟩
theorem cgX {L : Nat → Nat → Nat} {f g : Nat → Nat} {d n : Nat} (h0 : L 0 0 ≤ 6) (h7 : ∀ d, L 7 d < 5) (hf : Iv n f) (hd : d < 5) (h : E36 f g) : cxO L f d = cxO L g d ∧ E36 (nxO L f d) (nxO L g d) := by
  have e := h (30 + d) (by omega)
  have ey : yX L f d = yX L g d := by funext P; unfold yX; rw [thH_cg h0 (h7 d) h, e]
  refine ⟨?_, ?_⟩
  · unfold cxO
    rw [ey, h 35 (by omega)]
    refine iP_cg ⟨fun ⟨a, P, b, q⟩ => ⟨a, P, b, (all_cg (b := 0) h (hf.2 d hd) hd).mp q⟩, fun ⟨a, P, b, q⟩ => ⟨a, P, b, (all_cg (b := 0) h (hf.2 d hd) hd).mpr q⟩⟩
  · unfold nxO
    rw [ey, ← e]
    exact py_c36 h (fun _ _ => rfl) (h7 d) (hf.2 d hd)
theorem cgZ {Z : Nat → Nat → Nat} {f g : Nat → Nat} {d n : Nat} (h0 : Z 3 0 ≤ 6) (h10 : ∀ d, Z 10 d < 5) (hf : Iv n f) (hd : d < 5) (h : E36 f g) : czO Z f d = czO Z g d ∧ E36 (nzO Z f d) (nzO Z g d) := by
  have e := h (30 + d) (by omega)
  have ey : yZ Z f d = yZ Z g d := by funext P; unfold yZ; rw [thG_cg h0 (h10 d) h, e]
  refine ⟨?_, ?_⟩
  · unfold czO
    rw [ey, h 35 (by omega), Nat.mul_comm 6, Nat.mul_comm 6]
    refine iP_cg ⟨fun ⟨a, P, b, q⟩ => ⟨a, P, b, (all_cg (b := 0) h (hf.2 d hd) hd).mp q⟩, fun ⟨a, P, b, q⟩ => ⟨a, P, b, (all_cg (b := 0) h (hf.2 d hd) hd).mpr q⟩⟩
  · unfold nzO
    rw [ey, ← e]
    exact py_c36 h (fun _ _ => rfl) (h10 d) (hf.2 d hd)
