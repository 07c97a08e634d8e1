/-! the token that is read at a: its start, its end, its sort, its value -/
def pS (t : Nat → Nat) (n a : Nat) : Nat := tkS t n a
def pE (t : Nat → Nat) (n a : Nat) : Nat := tkE0 t n (tkS t n a)
def pK (t : Nat → Nat) (n a : Nat) : Nat := tkK t n (tkS t n a) (tkE0 t n (tkS t n a))
def pV (t : Nat → Nat) (n a : Nat) : Nat := tkV t n (tkS t n a) (tkE0 t n (tkS t n a))
/-- a reader whose last token was read at b -/
def RdAt (u : Nat → Nat → Nat) (t : Nat → Nat) (n b : Nat) : Prop := u 1 0 = n ∧ u 3 0 = pS t n b ∧ u 2 0 = pE t n b ∧ u 4 0 = pK t n b ∧ u 5 0 = pV t n b
theorem onN_ge {q : Nat → Bool} {n : Nat} : ∀ {f k : Nat}, k ≤ goN q n f k
  | 0, _ => Nat.le_refl _
  | f + 1, k => by
    show k ≤ (if k < n ∧ q k = true then goN q n f (k + 1) else k)
    split
    · exact Nat.le_trans (Nat.le_succ k) onN_ge
    · exact Nat.le_refl _
theorem onN_le {q : Nat → Bool} {n : Nat} : ∀ {f k : Nat}, k ≤ n → goN q n f k ≤ n
  | 0, _, h => h
  | f + 1, k, h => by
    show (if k < n ∧ q k = true then goN q n f (k + 1) else k) ≤ n
    split
    · rename_i z; exact onN_le z.1
    · exact h
theorem pS_le {t : Nat → Nat} {n a : Nat} (h : a ≤ n) : a ≤ pS t n a ∧ pS t n a ≤ n := ⟨onN_ge, onN_le h⟩
theorem tkE0_le {t : Nat → Nat} {n k : Nat} (h : k ≤ n) : k ≤ tkE0 t n k ∧ tkE0 t n k ≤ n := by
  unfold tkE0
  split
  · omega
  · split
    · have h1 : k + 1 ≤ onN (srt t (srtN (t k))) n (k + 1) := onN_ge
      have h2 : onN (srt t (srtN (t k))) n (k + 1) ≤ n := onN_le (by omega)
      omega
    · omega
theorem pE_le {t : Nat → Nat} {n a : Nat} (h : a ≤ n) : a ≤ pE t n a ∧ pE t n a ≤ n := by
  have h1 := pS_le (t := t) h
  have h2 := tkE0_le (t := t) h1.2
  exact ⟨Nat.le_trans h1.1 h2.1, h2.2⟩
theorem pK_le (t : Nat → Nat) (n a : Nat) : pK t n a ≤ 4 := by
  unfold pK tkK
  have := srtN_le (t (tkS t n a))
  split
  · omega
  · split <;> omega
theorem numN_le {t : Nat → Nat} {b : Nat} (ht : ∀ j, t j < 256) : ∀ k, k ≤ 2 → numN t b k ≤ 9999
  | 0, _ => by simp [numN]
  | 1, _ => by have := ht (b + 0); simp only [numN]; omega
  | 2, _ => by have := ht (b + 0); have := ht (b + 1); simp only [numN]; omega
  | k + 3, h => absurd h (by omega)
theorem pV_le {t : Nat → Nat} (ht : ∀ j, t j < 256) (n a : Nat) : pV t n a ≤ 9999 := by
  unfold pV tkV
  have h0 := ht (tkS t n a)
  split
  · omega
  · split
    · split <;> omega
    · split
      · rename_i z; exact numN_le ht _ (by omega)
      · omega
def okN (t : Nat → Nat) (n a lo hi : Nat) : Nat := if pK t n a = 2 ∧ lo ≤ pV t n a ∧ pV t n a ≤ hi then 1 else 0
def ok1 (t : Nat → Nat) (n a lo h : Nat) : Nat := if pK t n a = 2 ∧ lo ≤ pV t n a ∧ pV t n a < h then 1 else 0
def enN (t : Nat → Nat) (n a : Nat) : Nat := if pK t n a = 3 then 1 else 0
theorem okN_le (t : Nat → Nat) (n a lo hi : Nat) : okN t n a lo hi ≤ 1 := by unfold okN; split <;> omega
theorem ok1_le (t : Nat → Nat) (n a lo hi : Nat) : ok1 t n a lo hi ≤ 1 := by unfold ok1; split <;> omega
theorem enN_le (t : Nat → Nat) (n a : Nat) : enN t n a ≤ 1 := by unfold enN; split <;> omega
theorem okN_1 {t : Nat → Nat} {n a lo hi : Nat} (h : 0 < okN t n a lo hi) : pK t n a = 2 ∧ lo ≤ pV t n a ∧ pV t n a ≤ hi := by unfold okN at h; split at h; assumption; omega
theorem ok1_1 {t : Nat → Nat} {n a lo hi : Nat} (h : 0 < ok1 t n a lo hi) : pK t n a = 2 ∧ lo ≤ pV t n a ∧ pV t n a < hi := by unfold ok1 at h; split at h; assumption; omega
section NS
variable {p : Program} {l : Launch} {e : Env} {R : Room} {s : State} {m : MethodId} {args : Array Value} {below : List Frame} {meth : Method} {c : Code} {H : Heap} {locs : List Loc} {cells slots : Nat} {Q : State → Prop} {cc : ByteArray} {pc : Nat} {ls : Array Slot} {rest : List Value} {a b : Nat} {off : Int} {tgt : Nat}
theorem nb_icmp_gts (hexec : p.tables.exec = Jvm.exec) (hb : c.code = cc) (hdg : decode cc pc = .ok (.if_icmp .gt off, 3)) (ht : (pc : Int) + off = (tgt : Int)) (h1 : a < 2 ^ 30) (h2 : b < 2 ^ 30) (kt : b ≤ a → W p l e R s m args below meth c H locs cells slots Q (F0 m tgt ls rest)) (kf : a < b → W p l e R s m args below meth c H locs cells slots Q (F0 m (pc + 3) ls rest)) : W p l e R s m args below meth c H locs cells slots Q (F0 m pc ls (.int (nI b - nI 1) :: .int (nI a) :: rest)) := by
  have key : nI b - nI 1 < nI a ↔ b ≤ a := by
    rw [ic_toInt_lt, pk_sub_toInt h2 (by decide), nI_toInt (by omega)]
    omega
  exact lv_icmp_gt hexec hb hdg ht (fun h => kt (key.mp h)) (fun h => kf (Nat.lt_of_not_le (fun q => h (key.mpr q))))
end NS
/-! the items, as the class reads them: (whether it is one, where its last token was read, the land) -/
abbrev Ls : Type := Nat → Nat → Nat
def coinF (t : Nat → Nat) (n b : Nat) (L : Ls) : Nat × Nat × Ls :=
  if 6 ≤ L 0 0 then (0, b, L)
  else if okN t n (pE t n b) 0 60 = 0 then (0, pE t n b, L)
  else if okN t n (pE t n (pE t n b)) 1 9 = 0 then (0, pE t n (pE t n b), ua L 1 (un (L 1) (L 0 0) (pV t n (pE t n b))))
  else (enN t n (pE t n (pE t n (pE t n b))), pE t n (pE t n (pE t n b)), ua (ua (ua L 0 (fun _ => L 0 0 + 1)) 1 (un (L 1) (L 0 0) (pV t n (pE t n b)))) 2 (un (L 2) (L 0 0) (pV t n (pE t n (pE t n b)))))
def persF (t : Nat → Nat) (n b : Nat) (L : Ls) : Nat × Nat × Ls :=
  if 5 ≤ L 3 0 then (0, b, L)
  else if okN t n (pE t n b) 0 60 = 0 then (0, pE t n b, L)
  else (enN t n (pE t n (pE t n b)), pE t n (pE t n b), ua (ua L 3 (fun _ => L 3 0 + 1)) 4 (un (L 4) (L 3 0) (pV t n (pE t n b))))
def spanF (t : Nat → Nat) (n b : Nat) (L : Ls) : Nat × Nat × Ls :=
  if 0 < L 11 0 then (0, b, L)
  else if okN t n (pE t n b) 1 20 = 0 then (0, pE t n b, L)
  else (enN t n (pE t n (pE t n b)), pE t n (pE t n b), ua (ua L 10 (fun _ => pV t n (pE t n b))) 11 (fun _ => 1))
def holdF (t : Nat → Nat) (n b : Nat) (L : Ls) : Nat × Nat × Ls :=
  if ok1 t n (pE t n b) 0 (L 3 0) = 0 then (0, pE t n b, L)
  else if ok1 t n (pE t n (pE t n b)) 0 (L 0 0) = 0 then (0, pE t n (pE t n b), L)
  else if okN t n (pE t n (pE t n (pE t n b))) 0 9 = 0 then (0, pE t n (pE t n (pE t n b)), L)
  else (enN t n (pE t n (pE t n (pE t n (pE t n b)))), pE t n (pE t n (pE t n (pE t n b))), ua L 5 (un (L 5) (pV t n (pE t n b) * 6 + pV t n (pE t n (pE t n b))) (pV t n (pE t n (pE t n (pE t n b))))))
def debtF (t : Nat → Nat) (n b : Nat) (L : Ls) : Nat × Nat × Ls :=
  if 5 ≤ L 6 0 then (0, b, L)
  else if ok1 t n (pE t n b) 0 (L 3 0) = 0 then (0, pE t n b, L)
  else if ok1 t n (pE t n (pE t n b)) 0 (L 3 0) = 0 ∨ pV t n (pE t n (pE t n b)) = pV t n (pE t n b) then (0, pE t n (pE t n b), L)
  else if okN t n (pE t n (pE t n (pE t n b))) 1 60 = 0 then (0, pE t n (pE t n (pE t n b)), L)
  else (enN t n (pE t n (pE t n (pE t n (pE t n b)))), pE t n (pE t n (pE t n (pE t n b))), ua (ua (ua (ua L 6 (fun _ => L 6 0 + 1)) 7 (un (L 7) (L 6 0) (pV t n (pE t n b)))) 8 (un (L 8) (L 6 0) (pV t n (pE t n (pE t n b))))) 9 (un (L 9) (L 6 0) (pV t n (pE t n (pE t n (pE t n b))))))
