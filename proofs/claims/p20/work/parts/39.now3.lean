theorem cb_per (a j : Nat) : cb (a * 36 + j) = cb j := by
  unfold cb
  rw [show (a * 36 + j) % 36 = j % 36 by omega]
theorem cpy_cb {f g : Nat → Nat} {a b n : Nat} (hf : ∀ j, f j ≤ cb j) (hg : ∀ j, g j ≤ cb j) : ∀ j, va_cpy f g (a * 36) (b * 36) n j ≤ cb j := fun j => by
  unfold va_cpy
  split
  · rename_i q
    have h := hf (a * 36 + (j - b * 36))
    rw [cb_per] at h
    have e : cb j = cb (j - b * 36) := by rw [← cb_per b (j - b * 36), show b * 36 + (j - b * 36) = j by omega]
    rw [e]
    exact h
  · exact hg j
theorem cpy_leM {f g : Nat → Nat} {a b n M : Nat} (hf : ∀ j, f j ≤ M) (hg : ∀ j, g j ≤ M) : ∀ j, va_cpy f g a b n j ≤ M := fun j => by
  unfold va_cpy
  split
  · exact hf _
  · exact hg j
theorem rem_ok {S : Nat → Nat → Nat} (h : NowOk S) : NowOk (remN S) := by
  unfold remN
  split
  · exact ⟨h.1, (cpy_cb (a := 0) h.1 h.2.1 : ∀ j, va_cpy (S 0) (S 1) 0 (S 2 0 * 36) 36 j ≤ cb j), (show S 2 0 + 1 ≤ 10 by omega)⟩
  · exact ⟨h.1, (cpy_cb (a := 0) (b := 9) h.1 (cpy_cb (a := 1) (b := 0) h.2.1 h.2.1) : ∀ j, va_cpy (S 0) (va_cpy (S 1) (S 1) 36 0 324) 0 324 36 j ≤ cb j), (show 10 ≤ 10 from Nat.le_refl _)⟩
theorem rem_0 (S : Nat → Nat → Nat) : remN S 0 = S 0 := by unfold remN; split <;> rfl
theorem rem_2 {S : Nat → Nat → Nat} (h : S 2 0 < 10) : remN S 2 0 = S 2 0 + 1 := by unfold remN; rw [if_pos h]; rfl
theorem stl_le {S : Nat → Nat → Nat} {us : Nat → Nat} {db cr : Nat} (h : ∀ j, S 0 j ≤ 99) (hu : ∀ c, c < 6 → us c ≤ S 0 (db * 6 + c)) (h9 : ∀ c, c < 6 → S 0 (cr * 6 + c) + us c ≤ 99) : ∀ n, n ≤ 6 → ∀ j, stlN (S 0) us db cr n j ≤ 99
  | 0, _, j => h j
  | n + 1, hn, j => by
    have ih := stl_le h hu h9 n (by omega)
    have e1 := stl_col (g := S 0) (us := us) (db := db) (cr := cr) (n := n) (q := db) (c := n) (Nat.le_refl _) (by omega)
    have e2 := stl_col (g := S 0) (us := us) (db := db) (cr := cr) (n := n) (q := cr) (c := n) (Nat.le_refl _) (by omega)
    have a1 := hu n (by omega)
    have a2 := h9 n (by omega)
    have a3 := ih (db * 6 + n)
    show un (un _ _ _) _ _ j ≤ 99
    by_cases q : j = cr * 6 + n
    · rw [q, un_s]
      by_cases q2 : cr * 6 + n = db * 6 + n
      · rw [q2, un_s]; omega
      · rw [un_n q2]; omega
    · rw [un_n q]
      by_cases q2 : j = db * 6 + n
      · rw [q2, un_s]; omega
      · rw [un_n q2]; exact ih j
theorem stl_ok {S : Nat → Nat → Nat} {us : Nat → Nat} {db cr d : Nat} (h : NowOk S) (hdb : db < 5) (hcr : cr < 5) (hu : ∀ c, c < 6 → us c ≤ S 0 (db * 6 + c)) (h9 : ∀ c, c < 6 → S 0 (cr * 6 + c) + us c ≤ 99) :
    NowOk (ua S 0 (un (stlN (S 0) us db cr 6) 35 (clrN (stlN (S 0) us db cr 6 35) d))) := by
  refine ⟨fun j => ?_, h.2.1, h.2.2⟩
  show un _ 35 _ j ≤ cb j
  by_cases q : j = 35
  · rw [q, un_s, stl_hi hdb hcr (Nat.le_refl _) (by omega)]
    exact Nat.le_trans (clr_le _ _) h.op
  · rw [un_n q]
    by_cases q2 : 30 ≤ j
    · rw [stl_hi hdb hcr (Nat.le_refl _) q2]; exact h.1 j
    · have := stl_le h.c99 hu h9 6 (Nat.le_refl _) j
      unfold cb
      rw [if_pos (by omega)]
      exact this
theorem back_ok {S : Nat → Nat → Nat} (h : NowOk S) : NowOk (ua (ua S 0 (va_cpy (S 1) (S 0) ((S 2 0 - 1) * 36) 0 36)) 2 (fun _ => S 2 0 - 1)) :=
  ⟨(cpy_cb (b := 0) h.2.1 h.1 : ∀ j, va_cpy (S 1) (S 0) ((S 2 0 - 1) * 36) 0 36 j ≤ cb j), h.2.1, (show S 2 0 - 1 ≤ 10 from Nat.le_trans (Nat.sub_le _ _) h.2.2)⟩
theorem anew_ok {S T : Nat → Nat → Nat} (h : NowOk S) (k : NowOk T) : NowOk (ua (ua S 0 (va_cpy (T 0) (S 0) 0 0 36)) 2 (fun _ => 0)) :=
  ⟨(cpy_cb (a := 0) (b := 0) k.1 h.1 : ∀ j, va_cpy (T 0) (S 0) 0 0 36 j ≤ cb j), h.2.1, Nat.zero_le _⟩
theorem become_ok {S T : Nat → Nat → Nat} (h : NowOk S) (k : NowOk T) : NowOk (ua (ua (ua S 0 (va_cpy (T 0) (S 0) 0 0 36)) 1 (va_cpy (T 1) (S 1) 0 0 360)) 2 (fun _ => T 2 0)) :=
  ⟨(cpy_cb (a := 0) (b := 0) k.1 h.1 : ∀ j, va_cpy (T 0) (S 0) 0 0 36 j ≤ cb j), (cpy_cb (a := 0) (b := 0) k.2.1 h.2.1 : ∀ j, va_cpy (T 1) (S 1) 0 0 360 j ≤ cb j), k.2.2⟩
theorem beg_ok {S L : Nat → Nat → Nat} (h : NowOk S) (k : LandOk L) : NowOk (begN S L) := by
  obtain ⟨bl0, bl3, bl6, bl10, bl11, bl1, bl2, bl4, bl5, bl7, bl8, bl9⟩ := k
  refine ⟨fun j => ?_, h.2.1, Nat.zero_le _⟩
  show un (va_cpy (L 8) (va_cpy (L 5) (S 0) 0 0 30) 0 30 5) 35 (2 ^ L 6 0 - 1) j ≤ cb j
  by_cases q : j = 35
  · rw [q, un_s]
    have := Nat.pow_le_pow_right (n := 2) (by decide) bl6
    show _ ≤ 31
    omega
  · rw [un_n q]
    unfold va_cpy cb
    split
    · rw [if_neg (by omega), if_pos (by omega)]
      have := bl8 (0 + (j - 30))
      omega
    · split
      · rw [if_pos (by omega)]
        have := bl5 (0 + (j - 0))
        omega
      · exact h.1 j
theorem set_ok {S : Nat → Nat → Nat} {k v : Nat} (h : NowOk S) (hv : v ≤ cb k) : NowOk (ua S 0 (un (S 0) k v)) := by
  refine ⟨fun j => ?_, h.2.1, h.2.2⟩
  show un (S 0) k v j ≤ cb j
  by_cases q : j = k
  · rw [q, un_s]; exact hv
  · rw [un_n q]; exact h.1 j
theorem cb_h {q c : Nat} (h1 : q < 5) (h2 : c < 6) : cb (q * 6 + c) = 99 := by unfold cb; rw [if_pos (by omega)]
theorem cb_c {d : Nat} (h : d < 5) : cb (30 + d) = 4 := by unfold cb; rw [if_neg (by omega), if_pos (by omega)]
def RowsOk (Q : Nat → Nat → Nat) : Prop := (∀ j, Q 1 j ≤ 4) ∧ (∀ j, Q 2 j ≤ 4) ∧ Q 3 0 ≤ 5
theorem rows_note {Q : Nat → Nat → Nat} {k : Nat} (h : RowsOk Q) (hk : k ≤ 5) : RowsOk (ua (ua Q 2 (va_cpy (Q 1) (Q 2) 0 0 k)) 3 (fun _ => k)) := ⟨h.1, (cpy_leM h.1 h.2.1 : ∀ j, va_cpy (Q 1) (Q 2) 0 0 k j ≤ 4), hk⟩
