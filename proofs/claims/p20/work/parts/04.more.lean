abbrev zf : Nat → Int32 := fun _ => 0
theorem upz {k : Nat} : upd zf k 0 = zf := by funext j; simp [upd, zf]
theorem ic_toInt_lt {a b : Int32} : a < b ↔ a.toInt < b.toInt := Int32.lt_iff_toInt_lt
theorem sw3 (x : Int32) : x = 0 ∨ x = 1 ∨ x = 2 ∨ x = 3 ∨ (x.toInt < 0 ∨ (3 : Int) < x.toInt) := by
  rcases (show x.toInt = 0 ∨ x.toInt = 1 ∨ x.toInt = 2 ∨ x.toInt = 3 ∨ (x.toInt < 0 ∨ (3 : Int) < x.toInt) by omega) with h | h | h | h | h
  · exact Or.inl (Int32.toInt_inj.mp h)
  · exact Or.inr (Or.inl (Int32.toInt_inj.mp h))
  · exact Or.inr (Or.inr (Or.inl (Int32.toInt_inj.mp h)))
  · exact Or.inr (Or.inr (Or.inr (Or.inl (Int32.toInt_inj.mp h))))
  · exact Or.inr (Or.inr (Or.inr (Or.inr h)))
theorem sw6 (x : Int32) : x = 0 ∨ x = 1 ∨ x = 2 ∨ x = 3 ∨ x = 4 ∨ x = 5 ∨ x = 6 ∨ (x.toInt < 0 ∨ (6 : Int) < x.toInt) := by
  rcases (show x.toInt = 0 ∨ x.toInt = 1 ∨ x.toInt = 2 ∨ x.toInt = 3 ∨ x.toInt = 4 ∨ x.toInt = 5 ∨ x.toInt = 6 ∨ (x.toInt < 0 ∨ (6 : Int) < x.toInt) by omega) with h | h | h | h | h | h | h | h
  · exact Or.inl (Int32.toInt_inj.mp h)
  · exact Or.inr (Or.inl (Int32.toInt_inj.mp h))
  · exact Or.inr (Or.inr (Or.inl (Int32.toInt_inj.mp h)))
  · exact Or.inr (Or.inr (Or.inr (Or.inl (Int32.toInt_inj.mp h))))
  · exact Or.inr (Or.inr (Or.inr (Or.inr (Or.inl (Int32.toInt_inj.mp h)))))
  · exact Or.inr (Or.inr (Or.inr (Or.inr (Or.inr (Or.inl (Int32.toInt_inj.mp h))))))
  · exact Or.inr (Or.inr (Or.inr (Or.inr (Or.inr (Or.inr (Or.inl (Int32.toInt_inj.mp h)))))))
  · exact Or.inr (Or.inr (Or.inr (Or.inr (Or.inr (Or.inr (Or.inr h))))))
section SETS
variable {p : Program} {l : Launch} {e : Env} {R : Room} {s : State} {m : MethodId} {args : Array Value} {below : List Frame} {meth : Method} {c : Code} {H : Heap} {locs : List Loc} {cells slots : Nat} {Q : State → Prop} {pc : Nat} {ls : Array Slot} {rest : List Value}
theorem set_i {x y : Int32} (h : x = y) (k : W p l e R s m args below meth c H locs cells slots Q (F0 m pc ls (.int y :: rest))) : W p l e R s m args below meth c H locs cells slots Q (F0 m pc ls (.int x :: rest)) := h ▸ k
theorem set_v {x y : Value} (h : x = y) (k : W p l e R s m args below meth c H locs cells slots Q (F0 m pc ls (y :: rest))) : W p l e R s m args below meth c H locs cells slots Q (F0 m pc ls (x :: rest)) := h ▸ k
/-- a loop: world and locals as functions of a counter that goes up to N -/
theorem loopW {D : va_G} {A : Nat → Prop} (ws : Nat → va_W) (lv : Nat → List (Nat × Value)) (pc nL N i0 : Nat) (h0 : i0 ≤ N)
    (hx : ∀ H locs ls, va_P D vwCl (ws N) H → va_D A (ws N) → va_S A s.heap H locs → lv_has ls nL (lv N) → W p l e R s m args below meth c H locs cells slots Q (F0 m pc ls []))
    (hs : ∀ i, i0 ≤ i → i < N → (∀ H locs ls, va_P D vwCl (ws (i + 1)) H → va_D A (ws (i + 1)) → va_S A s.heap H locs → lv_has ls nL (lv (i + 1)) → W p l e R s m args below meth c H locs cells slots Q (F0 m pc ls [])) →
      ∀ H locs ls, va_P D vwCl (ws i) H → va_D A (ws i) → va_S A s.heap H locs → lv_has ls nL (lv i) → W p l e R s m args below meth c H locs cells slots Q (F0 m pc ls [])) :
    ∀ H locs ls, va_P D vwCl (ws i0) H → va_D A (ws i0) → va_S A s.heap H locs → lv_has ls nL (lv i0) → W p l e R s m args below meth c H locs cells slots Q (F0 m pc ls []) := by
  have key : ∀ n i, i0 ≤ i → i + n = N → ∀ H locs ls, va_P D vwCl (ws i) H → va_D A (ws i) → va_S A s.heap H locs → lv_has ls nL (lv i) → W p l e R s m args below meth c H locs cells slots Q (F0 m pc ls []) := by
    intro n
    induction n with
    | zero =>
      intro i hi hN
      have e : i = N := by omega
      subst e
      exact hx
    | succ n ih =>
      intro i hi hN
      exact hs i hi (by omega) (ih (i + 1) (by omega) (by omega))
  exact key (N - i0) i0 (Nat.le_refl _) (by omega)
end SETS
theorem ic_m1 : (-1 : Int32).toInt = -1 := by decide
theorem ic_5 {i : Int32} (h1 : ¬ i < -1) (h2 : i < 0) : i = -1 := by
  rw [ic_toInt_lt] at h1 h2
  rw [ic_m1] at h1
  have e0 : (0 : Int32).toInt = 0 := by decide
  rw [e0] at h2
  exact Int32.toInt_inj.mp (by rw [ic_m1]; omega)
abbrev spn : Nat → Int32 := upd (upd zf 1 9) 0 (upd zf 1 9 1)
theorem dfX0 : ∀ j, j < 12 → defaultValue (tyX0 j) = vp_V [.int 0, .null, .null, .int 0, .null, .null, .int 0, .null, .null, .null, .int 0, .int 0] j
  | 0, _ => rfl
  | 1, _ => rfl
  | 2, _ => rfl
  | 3, _ => rfl
  | 4, _ => rfl
  | 5, _ => rfl
  | 6, _ => rfl
  | 7, _ => rfl
  | 8, _ => rfl
  | 9, _ => rfl
  | 10, _ => rfl
  | 11, _ => rfl
  | n + 12, h => absurd h (by omega)
theorem dfX1 : ∀ j, j < 3 → defaultValue (tyX1 j) = vp_V [.null, .null, .int 0] j
  | 0, _ => rfl
  | 1, _ => rfl
  | 2, _ => rfl
  | n + 3, h => absurd h (by omega)
theorem dfX2 : ∀ j, j < 4 → defaultValue (tyX2 j) = vp_V [.null, .null, .null, .int 0] j
  | 0, _ => rfl
  | 1, _ => rfl
  | 2, _ => rfl
  | 3, _ => rfl
  | n + 4, h => absurd h (by omega)
theorem dfX3 : ∀ j, j < 6 → defaultValue (tyX3 j) = vp_V [.null, .int 0, .int 0, .int 0, .int 0, .int 0] j
  | 0, _ => rfl
  | 1, _ => rfl
  | 2, _ => rfl
  | 3, _ => rfl
  | 4, _ => rfl
  | 5, _ => rfl
  | n + 6, h => absurd h (by omega)
theorem dfX4 : ∀ j, j < 4 → defaultValue (tyX4 j) = vp_V [.null, .null, .null, .int 0] j
  | 0, _ => rfl
  | 1, _ => rfl
  | 2, _ => rfl
  | 3, _ => rfl
  | n + 4, h => absurd h (by omega)
theorem dfX5 : ∀ j, j < 4 → defaultValue (tyX5 j) = vp_V [.null, .null, .int 0, .int 0] j
  | 0, _ => rfl
  | 1, _ => rfl
  | 2, _ => rfl
  | 3, _ => rfl
  | n + 4, h => absurd h (by omega)
theorem dfX6 : ∀ j, j < 14 → defaultValue (tyX6 j) = vp_V [.null, .int 0, .null, .null, .null, .null, .null, .int 0, .null, .null, .null, .null, .int 0, .long 0] j
  | 0, _ => rfl
  | 1, _ => rfl
  | 2, _ => rfl
  | 3, _ => rfl
  | 4, _ => rfl
  | 5, _ => rfl
  | 6, _ => rfl
  | 7, _ => rfl
  | 8, _ => rfl
  | 9, _ => rfl
  | 10, _ => rfl
  | 11, _ => rfl
  | 12, _ => rfl
  | 13, _ => rfl
  | n + 14, h => absurd h (by omega)
theorem dfX7 : ∀ j, j < 29 → defaultValue (tyX7 j) = vp_V [.long 0, .null, .int 0, .null, .null, .null, .null, .null, .null, .null, .null, .null, .null, .null, .int 0, .int 0, .int 0, .int 0, .int 0, .int 0, .null, .null, .null, .null, .null, .null, .null, .null, .int 0] j
  | 0, _ => rfl
  | 1, _ => rfl
  | 2, _ => rfl
  | 3, _ => rfl
  | 4, _ => rfl
  | 5, _ => rfl
  | 6, _ => rfl
  | 7, _ => rfl
  | 8, _ => rfl
  | 9, _ => rfl
  | 10, _ => rfl
  | 11, _ => rfl
  | 12, _ => rfl
  | 13, _ => rfl
  | 14, _ => rfl
  | 15, _ => rfl
  | 16, _ => rfl
  | 17, _ => rfl
  | 18, _ => rfl
  | 19, _ => rfl
  | 20, _ => rfl
  | 21, _ => rfl
  | 22, _ => rfl
  | 23, _ => rfl
  | 24, _ => rfl
  | 25, _ => rfl
  | 26, _ => rfl
  | 27, _ => rfl
  | 28, _ => rfl
  | n + 29, h => absurd h (by omega)
