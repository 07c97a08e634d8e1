abbrev zf : Nat → Int32 := fun _ => 0
theorem upz {k : Nat} : upd zf k 0 = zf := by funext j; simp [upd, zf]
theorem cpz {a b n : Nat} : va_cpy zf zf a b n = zf := by funext j; simp [va_cpy, zf]
def inz (v lo hi : Int32) : Int32 := if lo ≤ v ∧ v ≤ hi then 1 else 0
theorem inz_lt {v lo hi : Int32} (h : v < lo) : inz v lo hi = 0 := by unfold inz; rw [if_neg]; exact fun q => absurd h (Int32.not_lt.mpr q.1)
theorem inz_gt {v lo hi : Int32} (h : hi < v) : inz v lo hi = 0 := by unfold inz; rw [if_neg]; exact fun q => absurd h (Int32.not_lt.mpr q.2)
theorem inz_in {v lo hi : Int32} (h1 : ¬ v < lo) (h2 : ¬ hi < v) : inz v lo hi = 1 := by unfold inz; rw [if_pos]; exact ⟨Int32.not_lt.mp h1, Int32.not_lt.mp h2⟩
theorem inz_01 (v lo hi : Int32) : inz v lo hi = 0 ∨ inz v lo hi = 1 := by unfold inz; split; exact Or.inr rfl; exact Or.inl rfl
theorem inz_n0 {v lo hi : Int32} (h : ¬ inz v lo hi = 0) : inz v lo hi = 1 := (inz_01 v lo hi).resolve_left h
theorem inz_z (v lo hi : Int32) : narrow .boolean (.int (inz v lo hi)) = .int (inz v lo hi) := by rcases inz_01 v lo hi with h | h <;> rw [h] <;> rfl
theorem ic_1 {c : Int32} (h1 : ¬ c < 0) (h2 : ¬ 0 ≤ c) : False := h2 (Int32.not_lt.mp h1)
theorem ic_toInt_lt {a b : Int32} : a < b ↔ a.toInt < b.toInt := Int32.lt_iff_toInt_lt
theorem ic_toInt_le {a b : Int32} : a ≤ b ↔ a.toInt ≤ b.toInt := Int32.le_iff_toInt_le
theorem ic_2 {c : Int32} (h1 : ¬ c < 0) (h2 : ¬ (-1 : Int32) < c) : False := by
  rw [ic_toInt_lt] at h1 h2
  have e0 : (0 : Int32).toInt = 0 := by decide
  have e1 : (-1 : Int32).toInt = -1 := by decide
  rw [e0] at h1
  rw [e1] at h2
  omega
theorem sw3 (x : Int32) : x = 0 ∨ x = 1 ∨ x = 2 ∨ x = 3 ∨ (x.toInt < 0 ∨ (3 : Int) < x.toInt) := by
  rcases (show x.toInt = 0 ∨ x.toInt = 1 ∨ x.toInt = 2 ∨ x.toInt = 3 ∨ (x.toInt < 0 ∨ (3 : Int) < x.toInt) by omega) with h | h | h | h | h
  · exact Or.inl (Int32.toInt_inj.mp h)
  · exact Or.inr (Or.inl (Int32.toInt_inj.mp h))
  · exact Or.inr (Or.inr (Or.inl (Int32.toInt_inj.mp h)))
  · exact Or.inr (Or.inr (Or.inr (Or.inl (Int32.toInt_inj.mp h))))
  · exact Or.inr (Or.inr (Or.inr (Or.inr h)))
theorem sw6 (x : Int32) : x = 0 ∨ x = 1 ∨ x = 2 ∨ x = 3 ∨ x = 4 ∨ x = 5 ∨ x = 6 ∨ (x.toInt < 0 ∨ (6 : Int) < x.toInt) := by
  rcases (show x.toInt = 0 ∨ x.toInt = 1 ∨ x.toInt = 2 ∨ x.toInt = 3 ∨ x.toInt = 4 ∨ x.toInt = 5 ∨ x.toInt = 6 ∨ (x.toInt < 0 ∨ (6 : Int) < x.toInt) by omega) with h | h | h | h | h | h | h | h
  · exact Or.inl (Int32.toInt_inj.mp h)
  · exact Or.inr (Or.inl (Int32.toInt_inj.mp h))
  · exact Or.inr (Or.inr (Or.inl (Int32.toInt_inj.mp h)))
  · exact Or.inr (Or.inr (Or.inr (Or.inl (Int32.toInt_inj.mp h))))
  · exact Or.inr (Or.inr (Or.inr (Or.inr (Or.inl (Int32.toInt_inj.mp h)))))
  · exact Or.inr (Or.inr (Or.inr (Or.inr (Or.inr (Or.inl (Int32.toInt_inj.mp h))))))
  · exact Or.inr (Or.inr (Or.inr (Or.inr (Or.inr (Or.inr (Or.inl (Int32.toInt_inj.mp h)))))))
  · exact Or.inr (Or.inr (Or.inr (Or.inr (Or.inr (Or.inr (Or.inr h))))))
theorem out_lo {x : Int32} {n : Int} {hi : Int32} (e : hi.toInt = n) (h : x.toInt < 0 ∨ n < x.toInt) : inz x 0 hi = 0 := by
  rcases h with h | h
  · exact inz_lt (ic_toInt_lt.mpr h)
  · exact inz_gt (ic_toInt_lt.mpr (by rw [e]; exact h))
section SETS
variable {p : Program} {l : Launch} {e : Env} {R : Room} {s : State} {m : MethodId} {args : Array Value} {below : List Frame} {meth : Method} {c : Code} {H : Heap} {locs : List Loc} {cells slots : Nat} {Q : State → Prop} {pc : Nat} {ls : Array Slot} {rest : List Value}
theorem set_i {x y : Int32} (h : x = y) (k : W p l e R s m args below meth c H locs cells slots Q (F0 m pc ls (.int y :: rest))) : W p l e R s m args below meth c H locs cells slots Q (F0 m pc ls (.int x :: rest)) := h ▸ k
theorem set_v {x y : Value} (h : x = y) (k : W p l e R s m args below meth c H locs cells slots Q (F0 m pc ls (y :: rest))) : W p l e R s m args below meth c H locs cells slots Q (F0 m pc ls (x :: rest)) := h ▸ k
/-- a loop: world and locals as functions of a counter that goes up to N -/
theorem loopW {D : va_G} {A : Nat → Prop} (ws : Nat → va_W) (lv : Nat → List (Nat × Value)) (pc nL N i0 : Nat) (h0 : i0 ≤ N)
    (hx : ∀ H locs ls, va_P D vwCl (ws N) H → va_D A (ws N) → va_S A s.heap H locs → lv_has ls nL (lv N) → W p l e R s m args below meth c H locs cells slots Q (F0 m pc ls []))
    (hs : ∀ i, i0 ≤ i → i < N → (∀ H locs ls, va_P D vwCl (ws (i + 1)) H → va_D A (ws (i + 1)) → va_S A s.heap H locs → lv_has ls nL (lv (i + 1)) → W p l e R s m args below meth c H locs cells slots Q (F0 m pc ls [])) →
      ∀ H locs ls, va_P D vwCl (ws i) H → va_D A (ws i) → va_S A s.heap H locs → lv_has ls nL (lv i) → W p l e R s m args below meth c H locs cells slots Q (F0 m pc ls [])) :
    ∀ H locs ls, va_P D vwCl (ws i0) H → va_D A (ws i0) → va_S A s.heap H locs → lv_has ls nL (lv i0) → W p l e R s m args below meth c H locs cells slots Q (F0 m pc ls []) := by
  have key : ∀ n i, i0 ≤ i → i + n = N → ∀ H locs ls, va_P D vwCl (ws i) H → va_D A (ws i) → va_S A s.heap H locs → lv_has ls nL (lv i) → W p l e R s m args below meth c H locs cells slots Q (F0 m pc ls []) := by
    intro n
    induction n with
    | zero =>
      intro i hi hN
      have e : i = N := by omega
      subst e
      exact hx
    | succ n ih =>
      intro i hi hN
      exact hs i hi (by omega) (ih (i + 1) (by omega) (by omega))
  exact key (N - i0) i0 (Nat.le_refl _) (by omega)
end SETS
theorem inz_nle {v lo hi : Int32} (h : ¬ v ≤ hi) : inz v lo hi = 0 := inz_gt (Int32.not_le.mp h)
theorem inz_in2 {v lo hi : Int32} (h1 : ¬ v < lo) (h2 : v ≤ hi) : inz v lo hi = 1 := inz_in h1 (Int32.not_lt.mpr h2)
theorem inz_ge {v lo hi hi' : Int32} (e : hi'.toInt = hi.toInt + 1) (h : hi' ≤ v) : inz v lo hi = 0 := inz_gt (by rw [ic_toInt_lt]; rw [ic_toInt_le] at h; omega)
theorem inz_in3 {v lo hi hi' : Int32} (e : hi'.toInt = hi.toInt + 1) (h1 : ¬ v < lo) (h2 : ¬ hi' ≤ v) : inz v lo hi = 1 := inz_in h1 (by rw [ic_toInt_lt]; rw [ic_toInt_le] at h2; omega)
theorem inz_in4 {v lo hi hi' : Int32} (e : hi'.toInt = hi.toInt + 1) (h1 : ¬ v < lo) (h2 : v < hi') : inz v lo hi = 1 := inz_in h1 (by rw [ic_toInt_lt]; rw [ic_toInt_lt] at h2; omega)
theorem inz_10 {v lo hi : Int32} (h : inz v lo hi = 1) : ¬ inz v lo hi = 0 := by rw [h]; decide
theorem inz_sp {v lo hi : Int32} (h : ¬ inz v lo hi = 0) : lo.toInt ≤ v.toInt ∧ v.toInt ≤ hi.toInt := by
  have h1 := inz_n0 h
  unfold inz at h1
  split at h1
  · rename_i q; exact ⟨ic_toInt_le.mp q.1, ic_toInt_le.mp q.2⟩
  · exact absurd h1 (by decide)
theorem ic_m1 : (-1 : Int32).toInt = -1 := by decide
theorem ic_3 {i : Int32} (h1 : ¬ inz i (-1) 4 = 0) (h2 : ¬ i = -1) : 0 ≤ i := by
  have h := inz_sp h1
  rw [ic_m1] at h
  have h3 : i.toInt ≠ -1 := fun q => h2 (Int32.toInt_inj.mp (by rw [q, ic_m1]))
  rw [ic_toInt_le]
  show (0 : Int) ≤ i.toInt
  omega
theorem ic_4 {i : Int32} (h1 : ¬ inz i 0 1 = 0) : i = 0 ∨ i = 1 := by
  have h := inz_sp h1
  have e0 : (0 : Int32).toInt = 0 := by decide
  have e1 : (1 : Int32).toInt = 1 := by decide
  rw [e0, e1] at h
  rcases (show i.toInt = 0 ∨ i.toInt = 1 by omega) with q | q
  · exact Or.inl (Int32.toInt_inj.mp (by rw [q, e0]))
  · exact Or.inr (Int32.toInt_inj.mp (by rw [q, e1]))
theorem ic_5 {i : Int32} (h1 : ¬ i < -1) (h2 : i < 0) : i = -1 := by
  rw [ic_toInt_lt] at h1 h2
  rw [ic_m1] at h1
  have e0 : (0 : Int32).toInt = 0 := by decide
  rw [e0] at h2
  exact Int32.toInt_inj.mp (by rw [ic_m1]; omega)
theorem ic_6 {i : Int32} (h : ¬ i < 0) : ¬ i = -1 := fun q => h (by rw [q]; decide)
theorem ic_7 {i : Int32} (h : ¬ i < 0) : 0 ≤ i := Int32.not_lt.mp h
/-- the answers of a fresh object -/
def tpA (c : Int32) : Int32 := if inz c 0 255 = 0 then -1 else 1
def nwA (w : Int32) : Int32 := if inz w 0 3 = 0 then -1 else 0
def orA (i : Int32) : Int32 := if inz i (-1) 4 = 0 then -1 else if i = -1 then 0 else -9
def yrA (w : Int32) : Int32 := if inz w 0 2 = 0 then -1 else if w = 0 then 61 else if w = 1 then 0 else 60
def kpA (i : Int32) : Int32 := if inz i 0 1 = 0 then -1 else 0
def bkA (i : Int32) : Int32 := if inz i 0 1 = 0 then -1 else -2
def ctA (w : Int32) : Int32 := if inz w 0 6 = 0 then -1 else if w = 3 then 9 else 0
abbrev spn : Nat → Int32 := upd (upd zf 1 9) 0 (upd zf 1 9 1)
theorem dfX0 : ∀ j, j < 12 → defaultValue (tyX0 j) = vp_V [.int 0, .null, .null, .int 0, .null, .null, .int 0, .null, .null, .null, .int 0, .int 0] j
  | 0, _ => rfl
  | 1, _ => rfl
  | 2, _ => rfl
  | 3, _ => rfl
  | 4, _ => rfl
  | 5, _ => rfl
  | 6, _ => rfl
  | 7, _ => rfl
  | 8, _ => rfl
  | 9, _ => rfl
  | 10, _ => rfl
  | 11, _ => rfl
  | n + 12, h => absurd h (by omega)
theorem dfX1 : ∀ j, j < 3 → defaultValue (tyX1 j) = vp_V [.null, .null, .int 0] j
  | 0, _ => rfl
  | 1, _ => rfl
  | 2, _ => rfl
  | n + 3, h => absurd h (by omega)
theorem dfX2 : ∀ j, j < 4 → defaultValue (tyX2 j) = vp_V [.null, .null, .null, .int 0] j
  | 0, _ => rfl
  | 1, _ => rfl
  | 2, _ => rfl
  | 3, _ => rfl
  | n + 4, h => absurd h (by omega)
theorem dfX3 : ∀ j, j < 6 → defaultValue (tyX3 j) = vp_V [.null, .int 0, .int 0, .int 0, .int 0, .int 0] j
  | 0, _ => rfl
  | 1, _ => rfl
  | 2, _ => rfl
  | 3, _ => rfl
  | 4, _ => rfl
  | 5, _ => rfl
  | n + 6, h => absurd h (by omega)
theorem dfX4 : ∀ j, j < 4 → defaultValue (tyX4 j) = vp_V [.null, .null, .null, .int 0] j
  | 0, _ => rfl
  | 1, _ => rfl
  | 2, _ => rfl
  | 3, _ => rfl
  | n + 4, h => absurd h (by omega)
theorem dfX5 : ∀ j, j < 4 → defaultValue (tyX5 j) = vp_V [.null, .null, .int 0, .int 0] j
  | 0, _ => rfl
  | 1, _ => rfl
  | 2, _ => rfl
  | 3, _ => rfl
  | n + 4, h => absurd h (by omega)
theorem dfX6 : ∀ j, j < 14 → defaultValue (tyX6 j) = vp_V [.null, .int 0, .null, .null, .null, .null, .null, .int 0, .null, .null, .null, .null, .int 0, .long 0] j
  | 0, _ => rfl
  | 1, _ => rfl
  | 2, _ => rfl
  | 3, _ => rfl
  | 4, _ => rfl
  | 5, _ => rfl
  | 6, _ => rfl
  | 7, _ => rfl
  | 8, _ => rfl
  | 9, _ => rfl
  | 10, _ => rfl
  | 11, _ => rfl
  | 12, _ => rfl
  | 13, _ => rfl
  | n + 14, h => absurd h (by omega)
theorem dfX7 : ∀ j, j < 29 → defaultValue (tyX7 j) = vp_V [.long 0, .null, .int 0, .null, .null, .null, .null, .null, .null, .null, .null, .null, .null, .null, .int 0, .int 0, .int 0, .int 0, .int 0, .int 0, .null, .null, .null, .null, .null, .null, .null, .null, .int 0] j
  | 0, _ => rfl
  | 1, _ => rfl
  | 2, _ => rfl
  | 3, _ => rfl
  | 4, _ => rfl
  | 5, _ => rfl
  | 6, _ => rfl
  | 7, _ => rfl
  | 8, _ => rfl
  | 9, _ => rfl
  | 10, _ => rfl
  | 11, _ => rfl
  | 12, _ => rfl
  | 13, _ => rfl
  | 14, _ => rfl
  | 15, _ => rfl
  | 16, _ => rfl
  | 17, _ => rfl
  | 18, _ => rfl
  | 19, _ => rfl
  | 20, _ => rfl
  | 21, _ => rfl
  | 22, _ => rfl
  | 23, _ => rfl
  | 24, _ => rfl
  | 25, _ => rfl
  | 26, _ => rfl
  | 27, _ => rfl
  | 28, _ => rfl
  | n + 29, h => absurd h (by omega)
