/-! who can be paid by all the world -/
noncomputable def iP (P : Prop) : Nat := @ite Nat P (Classical.propDecidable P) 1 0
theorem iP_1 {P : Prop} (h : P) : iP P = 1 := by unfold iP; exact @if_pos P (Classical.propDecidable P) h Nat 1 0
theorem iP_0 {P : Prop} (h : ¬ P) : iP P = 0 := by unfold iP; exact @if_neg P (Classical.propDecidable P) h Nat 1 0
theorem iP_le (P : Prop) : iP P ≤ 1 := by
  by_cases h : P
  · rw [iP_1 h]; exact Nat.le_refl _
  · rw [iP_0 h]; exact Nat.zero_le _
theorem iP_cg {P Q : Prop} (h : P ↔ Q) : iP P = iP Q := by
  by_cases q : Q
  · rw [iP_1 q, iP_1 (h.mpr q)]
  · rw [iP_0 q, iP_0 (fun y => q (h.mp y))]
theorem iP_of {P : Prop} {n : Nat} (h : (n = 1 ∧ P) ∨ (n = 0 ∧ ¬ P)) : n = iP P := by
  rcases h with ⟨a, b⟩ | ⟨a, b⟩
  · rw [a, iP_1 b]
  · rw [a, iP_0 b]
def twX (L N : Nat → Nat → Nat) (d l c : Nat) : Nat := if l / 2 ^ c % 2 = 1 then 0 else if doN L c (N 0 (30 + d)) = 0 then 0 else sumN (fun q => N 0 (q * 6 + c)) 5
/-- 1: all the world could pay the debt without the kinds l -/
noncomputable def pwX (L N : Nat → Nat → Nat) (d l : Nat) : Nat := iP (rch (L 2) (twX L N d l) (L 0 0) (L 9 d))
noncomputable def pwZ (Z : Nat → Nat → Nat) (d l : Nat) : Nat := iP (rch (Z 5) (twN Z (Z 20 (30 + d)) l) 6 (Z 12 d))
theorem twN_0 {Z : Nat → Nat → Nat} {b t : Nat} (hw : ∀ c, c < Z 3 0 → 1 ≤ Z 5 c) : ∀ c, c < 6 → twN Z b t c = 0 ∨ 1 ≤ Z 5 c := fun c _ => by
  by_cases q : c < Z 3 0
  · exact Or.inr (hw c q)
  · exact Or.inl (by unfold twN; rw [if_neg (fun y => q y.1)])
theorem pwZ_of {Z : Nat → Nat → Nat} {d t n : Nat} (hw : ∀ c, c < Z 3 0 → 1 ≤ Z 5 c) (hz : Z 12 d ≤ 60) (h : (n = 1 ∧ RY (Z 5) (twN Z (Z 20 (30 + d)) t) (Z 12 d)) ∨ (n = 0 ∧ RN (Z 5) (twN Z (Z 20 (30 + d)) t) (Z 12 d))) : n = pwZ Z d t := by
  refine iP_of ?_
  rcases h with ⟨a, b⟩ | ⟨a, b⟩
  · exact Or.inl ⟨a, RY_iff hz (twN_0 hw) b⟩
  · exact Or.inr ⟨a, RN_iff hz (twN_0 hw) b⟩
theorem pwX_of {L N W : Nat → Nat → Nat} {d l n : Nat} (h2 : W 2 0 = L 0 0) (h3 : W 3 0 = L 9 d) (hW : WI (W 0) (W 1) L N (N 0 (30 + d)) (L 0 0)) (h : (n = 1 ∧ rch (W 1) (tl W l) (W 2 0) (W 3 0)) ∨ (n = 0 ∧ ¬ rch (W 1) (tl W l) (W 2 0) (W 3 0))) : n = pwX L N d l := by
  have e : rch (W 1) (tl W l) (W 2 0) (W 3 0) ↔ rch (L 2) (twX L N d l) (L 0 0) (L 9 d) := by
    rw [h2, h3]
    refine rch_cg _ (fun c hc => ⟨(hW.2.2 c hc).1, ?_⟩) _
    unfold tl twX
    rw [(hW.2.2 c hc).2]
  rw [e] at h
  exact iP_of h
/-- a set of bits by a function of 0 and 1 -/
theorem bits_st {f : Nat → Nat} {i z : Nat} (hz : z = bitsN f i) : (f i ≠ 0 → z ||| 2 ^ i = bitsN f (i + 1)) ∧ (f i = 0 → z = bitsN f (i + 1)) := ⟨fun h => by rw [hz]; show _ = bitsN f i ||| _; rw [if_neg h], fun h => by rw [hz]; show _ = bitsN f i ||| _; rw [if_pos h, Nat.or_zero]⟩
noncomputable def hpX (L N : Nat → Nat → Nat) (d : Nat) : Nat := if N 0 35 / 2 ^ d % 2 = 0 then 0 else 1 - pwX L N d 0
noncomputable def hpZ (Z : Nat → Nat → Nat) (d : Nat) : Nat := if Z 20 35 / 2 ^ d % 2 = 0 then 0 else 1 - pwZ Z d 0
