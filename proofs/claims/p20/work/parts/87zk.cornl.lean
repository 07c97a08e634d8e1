/-! the fewest kinds to corner -/
def bsX (p : Nat → Nat) (f : Nat) : Nat → Nat
  | 0 => f
  | k + 1 => if 1 ≤ k ∧ popN k < popN (bsX p f k) ∧ p k = 0 then k else bsX p f k
def czN (p : Nat → Nat) : Nat → Nat
  | 0 => 0
  | k + 1 => if 1 ≤ k ∧ (czN p k = 0 ∨ popN k < popN (czN p k)) ∧ p k = 0 then k else czN p k
theorem bs_t {p : Nat → Nat} {f i z : Nat} (hz : z = bsX p f i) (h : 1 ≤ i ∧ popN i < popN z ∧ p i = 0) : i = bsX p f (i + 1) := by subst hz; exact (if_pos h).symm
theorem bs_n {p : Nat → Nat} {f i z : Nat} (hz : z = bsX p f i) (h : ¬ (popN i < popN z ∧ p i = 0)) : z = bsX p f (i + 1) := by subst hz; exact (if_neg (fun q => h q.2)).symm
theorem cz_t {p : Nat → Nat} {i z : Nat} (hz : z = czN p i) (h : 1 ≤ i ∧ (z = 0 ∨ popN i < popN z) ∧ p i = 0) : i = czN p (i + 1) := by subst hz; exact (if_pos h).symm
theorem cz_n {p : Nat → Nat} {i z : Nat} (hz : z = czN p i) (h : ¬ ((z = 0 ∨ popN i < popN z) ∧ p i = 0)) : z = czN p (i + 1) := by subst hz; exact (if_neg (fun q => h q.2)).symm
def crX (p : Nat → Nat) (n : Nat) : Nat := if p 0 = 0 then 0 else bsX p (2 ^ n - 1) (2 ^ n)
def crZ (p : Nat → Nat) (n : Nat) : Nat := if p 0 = 0 then 0 else czN p (2 ^ n)
theorem pop_full : ∀ n, n ≤ 6 → ∀ j, j < 2 ^ n - 1 → popN j < popN (2 ^ n - 1) := by decide +kernel
theorem cr_key {p : Nat → Nat} {n : Nat} (hn : n ≤ 6) : ∀ k, k ≤ 2 ^ n → (czN p k = 0 ∧ bsX p (2 ^ n - 1) k = 2 ^ n - 1 ∧ ∀ j, 1 ≤ j → j < k → p j ≠ 0) ∨ (czN p k ≠ 0 ∧ czN p k = bsX p (2 ^ n - 1) k)
  | 0, _ => Or.inl ⟨rfl, rfl, fun j _ h => absurd h (Nat.not_lt_zero j)⟩
  | k + 1, hk => by
    have ih := cr_key (p := p) hn k (by omega)
    have u1 : czN p (k + 1) = if 1 ≤ k ∧ (czN p k = 0 ∨ popN k < popN (czN p k)) ∧ p k = 0 then k else czN p k := rfl
    have u2 : bsX p (2 ^ n - 1) (k + 1) = if 1 ≤ k ∧ popN k < popN (bsX p (2 ^ n - 1) k) ∧ p k = 0 then k else bsX p (2 ^ n - 1) k := rfl
    rcases ih with ⟨a, b, c⟩ | ⟨a, b⟩
    · by_cases q : 1 ≤ k ∧ p k = 0
      · refine Or.inr ?_
        rw [u1, if_pos ⟨q.1, Or.inl a, q.2⟩]
        refine ⟨by omega, ?_⟩
        rw [u2, b]
        by_cases y : k = 2 ^ n - 1
        · rw [if_neg (fun z => absurd z.2.1 (by rw [y]; exact Nat.lt_irrefl _))]; exact y
        · rw [if_pos ⟨q.1, pop_full n hn k (by omega), q.2⟩]
      · refine Or.inl ?_
        rw [u1, if_neg (fun z => q ⟨z.1, z.2.2⟩), u2, if_neg (fun z => q ⟨z.1, z.2.2⟩)]
        refine ⟨a, b, fun j h1 h2 => ?_⟩
        rcases (show j < k ∨ j = k by omega) with y | y
        · exact c j h1 y
        · rw [y]; exact fun e => q ⟨by omega, e⟩
    · refine Or.inr ?_
      rw [u1, u2, ← b]
      by_cases q : 1 ≤ k ∧ popN k < popN (czN p k) ∧ p k = 0
      · rw [if_pos ⟨q.1, Or.inr q.2.1, q.2.2⟩, if_pos q]; exact ⟨by omega, rfl⟩
      · rw [if_neg (fun z => q ⟨z.1, z.2.1.resolve_left a, z.2.2⟩), if_neg q]; exact ⟨a, rfl⟩
theorem cr_tie {p : Nat → Nat} {n : Nat} (hn : n ≤ 6) (h0 : p 0 ≠ 0 → 1 ≤ n) (hf : p (2 ^ n - 1) = 0) : crX p n = crZ p n := by
  unfold crX crZ
  by_cases q : p 0 = 0
  · rw [if_pos q, if_pos q]
  · rw [if_neg q, if_neg q]
    have h1 := h0 q
    have h2 : 2 ≤ 2 ^ n := by
      have := Nat.pow_le_pow_right (n := 2) (by decide) h1
      simpa using this
    rcases cr_key (p := p) hn (2 ^ n) (Nat.le_refl _) with ⟨_, _, c⟩ | ⟨_, b⟩
    · exact absurd hf (c (2 ^ n - 1) (by omega) (by omega))
    · exact b.symm

noncomputable def pW (W : Nat → Nat → Nat) (l : Nat) : Nat := iP (rch (W 1) (tl W l) (W 2 0) (W 3 0))
theorem pW_X {L N W : Nat → Nat → Nat} {d : Nat} (h2 : W 2 0 = L 0 0) (h3 : W 3 0 = L 9 d) (hW : WI (W 0) (W 1) L N (N 0 (30 + d)) (L 0 0)) : pW W = pwX L N d := by
  funext l
  by_cases q : rch (W 1) (tl W l) (W 2 0) (W 3 0)
  · exact (iP_1 q).trans (pwX_of h2 h3 hW (n := 1) (Or.inl ⟨rfl, q⟩))
  · exact (iP_0 q).trans (pwX_of h2 h3 hW (n := 0) (Or.inr ⟨rfl, q⟩))
theorem sum_pop (x : Nat) : sumN (fun k => x / 2 ^ k % 2) 6 = popN x := by
  unfold popN
  show 0 + x / 2 ^ 0 % 2 + x / 2 ^ 1 % 2 + x / 2 ^ 2 % 2 + x / 2 ^ 3 % 2 + x / 2 ^ 4 % 2 + x / 2 ^ 5 % 2 = _
  simp only [Nat.pow_zero, Nat.div_one, Nat.zero_add, show (2:Nat) ^ 1 = 2 from rfl, show (2:Nat) ^ 2 = 4 from rfl, show (2:Nat) ^ 3 = 8 from rfl, show (2:Nat) ^ 4 = 16 from rfl, show (2:Nat) ^ 5 = 32 from rfl]
