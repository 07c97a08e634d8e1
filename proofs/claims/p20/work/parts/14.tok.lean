/-! the tokens of a text t of n bytes -/
def srtN (b : Nat) : Nat := if 97 ≤ b ∧ b ≤ 122 then 1 else if 48 ≤ b ∧ b ≤ 57 then 2 else if b = 59 then 3 else 4
theorem srtN_le (b : Nat) : 1 ≤ srtN b ∧ srtN b ≤ 4 := by unfold srtN; split; omega; split; omega; split <;> omega
theorem srt_1 {b : Nat} (h : srtN b = 1) : 97 ≤ b ∧ b ≤ 122 := by
  unfold srtN at h
  split at h
  · assumption
  · split at h
    · omega
    · split at h <;> omega
theorem srt_2 {b : Nat} (h : srtN b = 2) : 48 ≤ b ∧ b ≤ 57 := by
  unfold srtN at h
  split at h
  · omega
  · split at h
    · assumption
    · split at h <;> omega
/-- on from k while the bytes satisfy a test -/
def goN (q : Nat → Bool) (n : Nat) : Nat → Nat → Nat
  | 0, k => k
  | f + 1, k => if k < n ∧ q k = true then goN q n f (k + 1) else k
def onN (q : Nat → Bool) (n k : Nat) : Nat := goN q n (n - k) k
theorem onN_s {q : Nat → Bool} {n k : Nat} (h1 : k < n) (h2 : q k = true) : onN q n k = onN q n (k + 1) := by
  unfold onN
  rw [show n - k = (n - (k + 1)) + 1 by omega]
  show (if k < n ∧ q k = true then _ else _) = _
  rw [if_pos ⟨h1, h2⟩]
theorem onN_e {q : Nat → Bool} {n k : Nat} (h : ¬ (k < n ∧ q k = true)) : onN q n k = k := by
  unfold onN
  cases n - k with
  | zero => rfl
  | succ f => show (if k < n ∧ q k = true then _ else _) = _; rw [if_neg h]
abbrev blk (t : Nat → Nat) : Nat → Bool := fun k => decide (t k = 32)
abbrev srt (t : Nat → Nat) (z : Nat) : Nat → Bool := fun k => decide (srtN (t k) = z)
def tkS (t : Nat → Nat) (n a : Nat) : Nat := onN (blk t) n a
def numN (t : Nat → Nat) (b : Nat) : Nat → Nat
  | 0 => 0
  | k + 1 => numN t b k * 10 + t (b + k) - 48
/-- where a token that begins at k ends -/
def tkE0 (t : Nat → Nat) (n k : Nat) : Nat := if n ≤ k then k else if srtN (t k) ≤ 2 then onN (srt t (srtN (t k))) n (k + 1) else k + 1
theorem whileS {σ : Type} {p : Program} {l : Launch} {e : Env} {R : Room} {s : State} {m : MethodId} {args : Array Value} {below : List Frame} {meth : Method} {c : Code} {cells slots : Nat} {Q : State → Prop} {D : va_G} {A : Nat → Prop} (I : σ → Prop) (μ : σ → Nat) (ws : σ → va_W) (lv : σ → List (Nat × Value)) (pc nL : Nat)
    (hs : ∀ z, I z → (∀ z', I z' → μ z' < μ z → ∀ H locs ls, va_P D vwCl (ws z') H → va_D A (ws z') → va_S A s.heap H locs → lv_has ls nL (lv z') → W p l e R s m args below meth c H locs cells slots Q (F0 m pc ls [])) →
      ∀ H locs ls, va_P D vwCl (ws z) H → va_D A (ws z) → va_S A s.heap H locs → lv_has ls nL (lv z) → W p l e R s m args below meth c H locs cells slots Q (F0 m pc ls [])) :
    ∀ z, I z → ∀ H locs ls, va_P D vwCl (ws z) H → va_D A (ws z) → va_S A s.heap H locs → lv_has ls nL (lv z) → W p l e R s m args below meth c H locs cells slots Q (F0 m pc ls []) := by
  have key : ∀ n z, μ z ≤ n → I z → ∀ H locs ls, va_P D vwCl (ws z) H → va_D A (ws z) → va_S A s.heap H locs → lv_has ls nL (lv z) → W p l e R s m args below meth c H locs cells slots Q (F0 m pc ls []) := by
    intro n
    induction n with
    | zero => intro z hz hI; exact hs z hI (fun z' _ h => absurd h (by omega))
    | succ n ih => intro z hz hI; exact hs z hI (fun z' hI' h => ih z' (by omega) hI')
  exact fun z => key (μ z) z (Nat.le_refl _)
/-- a reader's state behind a token -/
def tkK (t : Nat → Nat) (n k e : Nat) : Nat := if n ≤ k then 0 else if srtN (t k) = 2 ∧ (2 < e - k ∨ (e - k = 2 ∧ t k = 48)) then 4 else srtN (t k)
def tkV (t : Nat → Nat) (n k e : Nat) : Nat := if n ≤ k then 0 else if srtN (t k) = 1 then (if e - k = 1 then t k else 0) else if srtN (t k) = 2 ∧ ¬ (2 < e - k ∨ (e - k = 2 ∧ t k = 48)) then numN t k (e - k) else 0
