def CPi (f : Nat → Nat) (o : Nat) (z : Nat → Nat) (i : Nat) : Prop := (∀ j, j < i → z j = f (o + j)) ∧ ∀ j, i ≤ j → z j = f j
theorem CPi.s {f z : Nat → Nat} {o i v : Nat} (h : CPi f o z i) (hi : i < o) (hv : v = z (o + i)) : CPi f o (un z i v) (i + 1) := by
  refine ⟨fun j hj => ?_, fun j hj => ?_⟩
  · by_cases q : j = i
    · rw [q, un_s, hv, h.2 (o + i) (by omega)]
    · rw [un_n q]; exact h.1 j (by omega)
  · rw [un_n (by omega)]; exact h.2 j (by omega)
def N1i (f g z : Nat → Nat) (i : Nat) : Prop := (∀ j, j < i → z (30 + j) = g j) ∧ ∀ j, (j < 30 ∨ 30 + i ≤ j) → z j = f j
theorem N1i.s {f g z : Nat → Nat} {i : Nat} (h : N1i f g z i) : N1i f g (un z (30 + i) (g i)) (i + 1) := by
  refine ⟨fun j hj => ?_, fun j hj => ?_⟩
  · by_cases q : j = i
    · rw [q, un_s]
    · rw [un_n (by omega)]; exact h.1 j (by omega)
  · rw [un_n (by omega)]; exact h.2 j (by omega)
def N2i (f g z : Nat → Nat) (i : Nat) : Prop := (∀ j, j < i → z j = g j) ∧ ∀ j, i ≤ j → z j = f j
theorem N2i.s {f g z : Nat → Nat} {i : Nat} (h : N2i f g z i) : N2i f g (un z i (g i)) (i + 1) := by
  refine ⟨fun j hj => ?_, fun j hj => ?_⟩
  · by_cases q : j = i
    · rw [q, un_s]
    · rw [un_n q]; exact h.1 j (by omega)
  · rw [un_n (by omega)]; exact h.2 j (by omega)
/-- the draft taken -/
def TD (u Z : Nat → Nat → Nat) : Prop := (u 3 0 = Z 3 1 ∧ u 6 0 = Z 6 1 ∧ u 9 0 = Z 9 1 ∧ u 13 0 = Z 13 1) ∧ (∀ j, j < 6 → u 4 j = Z 4 (6 + j) ∧ u 5 j = Z 5 (6 + j)) ∧ (∀ j, j < 5 → u 7 j = Z 7 (5 + j) ∧ u 10 j = Z 10 (5 + j) ∧ u 12 j = Z 12 (5 + j) ∧ u 20 (30 + j) = Z 11 j) ∧ (∀ j, j < 30 → u 20 j = Z 8 j) ∧ u 20 35 = 2 ^ (Z 9 1) - 1 ∧ u 20 36 = 0 ∧ u 28 0 = 0 ∧ u 21 0 = 0 ∧ u 21 1 = 0
theorem now_td {f g h z w : Nat → Nat} {x : Nat} (h1 : N1i f g z 5) (h2 : N2i z h w 30) : (∀ j, j < 5 → un (un w 35 x) 36 0 (30 + j) = g j) ∧ (∀ j, j < 30 → un (un w 35 x) 36 0 j = h j) := by
  refine ⟨fun j hj => ?_, fun j hj => ?_⟩
  · rw [un_n (by omega), un_n (by omega), h2.2 _ (by omega)]; exact h1.1 j hj
  · rw [un_n (by omega), un_n (by omega)]; exact h2.1 j hj
/-- a land as the reference holds it, beside the class's -/
def LR (u L : Nat → Nat → Nat) : Prop := (u 3 0 = L 0 0 ∧ u 6 0 = L 3 0 ∧ u 9 0 = L 6 0 ∧ u 13 0 = L 10 0) ∧ (∀ c, c < L 0 0 → u 4 c = L 1 c ∧ u 5 c = L 2 c) ∧ (∀ p, p < L 3 0 → u 7 p = L 4 p) ∧ (∀ d, d < L 6 0 → u 10 d = L 7 d ∧ u 12 d = L 9 d)
def LN (u L : Nat → Nat → Nat) : Prop := (∀ j, j < 30 → u 20 j = L 5 j) ∧ (∀ d, d < L 6 0 → u 20 (30 + d) = L 8 d) ∧ u 20 35 = 2 ^ (L 6 0) - 1 ∧ u 20 36 = 0 ∧ u 28 0 = 0 ∧ u 21 0 = 0 ∧ u 21 1 = 0
theorem TD_LR {u Z L : Nat → Nat → Nat} (h : TD u Z) (k : Dr Z L) (hL : LandOk L) : LR u L ∧ LN u L := by
  obtain ⟨⟨a1, a2, a3, a4⟩, b, c, d, e1, e2, e3, e4, e5⟩ := h
  obtain ⟨k1, k2, k3, k4, k5, k6, k7, k8, k9⟩ := k
  obtain ⟨l0, l3, l6, l10, l11, _⟩ := hL
  refine ⟨⟨⟨by omega, by omega, by omega, by omega⟩, fun x hx => ?_, fun x hx => ?_, fun x hx => ?_⟩, fun j hj => ?_, fun x hx => ?_, ?_, e2, e3, e4, e5⟩
  · rw [(b x (by omega)).1, (b x (by omega)).2]; exact k6 x hx
  · rw [(c x (by omega)).1]; exact k7 x hx
  · rw [(c x (by omega)).2.1, (c x (by omega)).2.2.1]; exact ⟨(k9 x hx).1, (k9 x hx).2.2⟩
  · rw [d j hj]; exact k8 j hj
  · rw [(c x (by omega)).2.2.2]; exact (k9 x hx).2.1
  · rw [e1, k3]
theorem pE_gt {t : Nat → Nat} {n a : Nat} (ha : a ≤ n) (h : pK t n a ≠ 0) : a < pE t n a := by
  have h1 := pS_le (t := t) ha
  have h0 : ¬ n ≤ tkS t n a := by
    intro q
    apply h
    unfold pK tkK
    rw [if_pos q]
  unfold pE
  have h2 : tkS t n a < tkE0 t n (tkS t n a) := by
    unfold tkE0
    rw [if_neg h0]
    split
    · exact Nat.lt_of_lt_of_le (Nat.lt_succ_self _) onN_ge
    · exact Nat.lt_succ_self _
  have h3 : a ≤ tkS t n a := h1.1
  omega
theorem item_mb0 {Z L : Nat → Nat → Nat} {t : Nat → Nat} {n a w : Nat} (h : mbN Z w = 0) (k : Dr Z L) (hw : w = sM t n a) : (itemF t n a L).1 = 0 ∧ (itemF t n a L).2.1 = a := by
  obtain ⟨k1, k2, k3, k4, k5, _⟩ := k
  unfold mbN at h
  unfold itemF
  by_cases q : pK t n a = 1
  · rw [if_neg (by omega)]
    by_cases z : pV t n a = 0
    · rw [if_neg (by omega), if_neg (by omega), if_neg (by omega), if_neg (by omega), if_neg (by omega)]; exact ⟨rfl, rfl⟩
    · have e := sM_v q z
      rw [e] at hw
      rw [← hw]
      by_cases w1 : w = 99
      · rw [if_pos w1] at h ⊢
        unfold coinF
        rw [if_pos (by split at h <;> omega)]; exact ⟨rfl, rfl⟩
      · rw [if_neg w1] at h ⊢
        by_cases w2 : w = 112
        · rw [if_pos w2] at h ⊢
          unfold persF
          rw [if_pos (by split at h <;> omega)]; exact ⟨rfl, rfl⟩
        · rw [if_neg w2] at h ⊢
          by_cases w3 : w = 104
          · rw [if_pos w3] at h; omega
          · rw [if_neg w3] at h ⊢
            by_cases w4 : w = 100
            · rw [if_pos w4] at h ⊢
              unfold debtF
              rw [if_pos (by split at h <;> omega)]; exact ⟨rfl, rfl⟩
            · rw [if_neg w4] at h ⊢
              by_cases w5 : w = 115
              · rw [if_pos w5] at h ⊢
                unfold spanF
                rw [if_pos (by split at h <;> omega)]; exact ⟨rfl, rfl⟩
              · rw [if_neg w5]; exact ⟨rfl, rfl⟩
  · rw [if_pos q]; exact ⟨rfl, rfl⟩
theorem mb_97 {Z : Nat → Nat → Nat} {w : Nat} (h : mbN Z w = 1) : 97 ≤ w := by
  unfold mbN at h
  split at h
  · omega
  · split at h
    · omega
    · split at h
      · omega
      · split at h
        · omega
        · split at h <;> omega
theorem fault_r {f : Nat} : (-10 : Int32) - (nI (f + 9) - nI 9) = -10 - nI f := by rw [← f9]
theorem fault_lt {f : Nat} (h : f ≤ 180) : (-10 : Int32) - nI f < 0 := by
  have h2 : ∀ f, f ≤ 180 → (-10 : Int32) - nI f < 0 := by decide +kernel
  exact h2 f h
theorem kp_stp (Z : Nat → Nat → Nat) (p d : Nat) : KP (stpN Z p d) Z := KP.set (KP.set (KP.set (KP.set (KP.rf Z) (by omega)) (by omega)) (by omega)) (by omega)
theorem kp_f (Z : Nat → Nat → Nat) (g : Nat → Nat) : KP (ua Z 19 g) Z := KP.set (KP.rf Z) (by omega)
