/-! what changes, on both sides -/
def CT (L : Nat → Nat → Nat) (f g : Nat → Nat) : Prop := (∀ j, j < 30 → g j = f j) ∧ (∀ d, d < L 6 0 → g (30 + d) = f (30 + d) ∧ f (30 + d) < L 3 0) ∧ g 35 = f 35 ∧ f 35 < 2 ^ L 6 0 ∧ ∀ p c, p < 5 → c < 6 → f (p * 6 + c) ≠ 0 → p < L 3 0 ∧ c < L 0 0
def NT (L N : Nat → Nat → Nat) (f : Nat → Nat) : Prop := CT L (N 0) f ∧ f 36 = N 2 0 ∧ ∀ i, i < N 2 0 → CT L (fun j => N 1 (i * 36 + j)) (fun j => f (37 + 36 * i + j))
theorem CT.cg {L : Nat → Nat → Nat} {f g f' g' : Nat → Nat} (hd : L 6 0 ≤ 5) (h : CT L f g) (e1 : ∀ j, j < 36 → f' j = f j) (e2 : ∀ j, j < 36 → g' j = g j) : CT L f' g' := by
  obtain ⟨h1, h2, h3, h4, h5⟩ := h
  refine ⟨fun j hj => ?_, fun d q => ?_, ?_, ?_, fun p c hp hc => ?_⟩
  · rw [e1 j (by omega), e2 j (by omega)]; exact h1 j hj
  · rw [e1 _ (by omega), e2 _ (by omega)]; exact h2 d q
  · rw [e1 _ (by omega), e2 _ (by omega)]; exact h3
  · rw [e1 _ (by omega)]; exact h4
  · rw [e1 _ (by omega)]; exact h5 p c hp hc
theorem CT.h {L : Nat → Nat → Nat} {f g : Nat → Nat} (h : CT L f g) {p c : Nat} (hp : p < 5) (hc : c < 6) : g (6 * p + c) = f (p * 6 + c) := by rw [Nat.mul_comm 6 p]; exact h.1 _ (by omega)
theorem cpy_in {f g : Nat → Nat} {a b n j : Nat} (h : b ≤ j ∧ j < b + n) : va_cpy f g a b n j = f (a + (j - b)) := by unfold va_cpy; rw [if_pos h]
theorem cpy_out {f g : Nat → Nat} {a b n j : Nat} (h : ¬ (b ≤ j ∧ j < b + n)) : va_cpy f g a b n j = g j := by unfold va_cpy; rw [if_neg h]
/-- remembered on both sides -/
theorem NT.rem {L N : Nat → Nat → Nat} {f : Nat → Nat} (hd : L 6 0 ≤ 5) (hk : N 2 0 ≤ 10) (h : NT L N f) : knN f 36 = remN N 2 0 ∧ ∀ i, i < remN N 2 0 → CT L (fun j => remN N 1 (i * 36 + j)) (fun j => knN f (37 + 36 * i + j)) := by
  obtain ⟨h0, h1, h2⟩ := h
  unfold remN knN
  by_cases q : N 2 0 < 10
  · rw [if_pos q, if_neg (show ¬ f 36 = 10 by omega)]
    refine ⟨by unfold knB; rw [un_s, h1]; rfl, fun i hi => ?_⟩
    have hi : i < N 2 0 + 1 := hi
    rcases (show i < N 2 0 ∨ i = N 2 0 by omega) with y | y
    · refine (h2 i y).cg hd (fun j hj => ?_) (fun j hj => ?_)
      · show va_cpy (N 0) (N 1) 0 (N 2 0 * 36) 36 (i * 36 + j) = _
        rw [cpy_out (by omega)]
      · show un _ 36 _ (37 + 36 * i + j) = _
        rw [un_n (by omega), cp_lo (by omega)]
    · refine h0.cg hd (fun j hj => ?_) (fun j hj => ?_)
      · show va_cpy (N 0) (N 1) 0 (N 2 0 * 36) 36 (i * 36 + j) = _
        rw [cpy_in (by omega)]; exact congrArg (N 0) (by omega)
      · show un _ 36 _ (37 + 36 * i + j) = _
        rw [un_n (by omega)]; unfold cpN; rw [if_pos (by omega)]; exact congrArg f (by omega)
  · rw [if_neg q, if_pos (show f 36 = 10 by omega)]
    refine ⟨by unfold knB; rw [un_s, un_s]; rfl, fun i hi => ?_⟩
    have hi : i < 10 := hi
    rcases (show i < 9 ∨ i = 9 by omega) with y | y
    · refine (h2 (i + 1) (by omega)).cg hd (fun j hj => ?_) (fun j hj => ?_)
      · show va_cpy (N 0) (va_cpy (N 1) (N 1) 36 0 324) 0 324 36 (i * 36 + j) = _
        rw [cpy_out (by omega), cpy_in (by omega)]; exact congrArg (N 1) (by omega)
      · show knB (un (shN f 324) 36 9) (37 + 36 * i + j) = _
        unfold knB
        rw [un_s, un_n (by omega), cp_lo (by omega), un_n (by omega)]
        unfold shN
        rw [if_pos (by omega)]; exact congrArg f (by omega)
    · refine h0.cg hd (fun j hj => ?_) (fun j hj => ?_)
      · show va_cpy (N 0) (va_cpy (N 1) (N 1) 36 0 324) 0 324 36 (i * 36 + j) = _
        rw [cpy_in (by omega)]; exact congrArg (N 0) (by omega)
      · show knB (un (shN f 324) 36 9) (37 + 36 * i + j) = _
        unfold knB
        rw [un_s, un_n (by omega)]
        unfold cpN
        rw [if_pos (by omega), un_n (by omega)]
        unfold shN
        rw [if_neg (by omega)]; exact congrArg f (by omega)
/-- a change behind it -/
theorem NT.upd {L N : Nat → Nat → Nat} {f F H : Nat → Nat} (hd : L 6 0 ≤ 5) (hk : N 2 0 ≤ 10) (h : NT L N f) (hc : CT L F H) (hh : ∀ j, 36 ≤ j → H j = knN f j) : NT L (ua (remN N) 0 F) H := by
  obtain ⟨r1, r2⟩ := h.rem hd hk
  refine ⟨hc, ?_, fun i hi => ?_⟩
  · rw [hh 36 (by omega)]; exact r1
  · exact (r2 i hi).cg hd (fun j hj => rfl) (fun j hj => hh _ (by omega))
theorem CT.set {L : Nat → Nat → Nat} {f g : Nat → Nat} {p c v : Nat} (h : CT L f g) (hp : p < L 3 0) (hc : c < L 0 0) (hp5 : L 3 0 ≤ 5) (hc6 : L 0 0 ≤ 6) : CT L (un f (p * 6 + c) v) (un g (6 * p + c) v) := by
  obtain ⟨h1, h2, h3, h4, h5⟩ := h
  rw [Nat.mul_comm 6 p]
  refine ⟨fun j hj => ?_, fun d q => ?_, ?_, ?_, fun p' c' hp' hc' => ?_⟩
  · by_cases q : j = p * 6 + c
    · rw [q, un_s, un_s]
    · rw [un_n q, un_n q]; exact h1 j hj
  · rw [un_n (by omega), un_n (by omega)]; exact h2 d q
  · rw [un_n (by omega), un_n (by omega)]; exact h3
  · rw [un_n (by omega)]; exact h4
  · by_cases q : p' * 6 + c' = p * 6 + c
    · have e1 : p' = p := by omega
      have e2 : c' = c := by omega
      rw [e1, e2]; exact fun _ => ⟨hp, hc⟩
    · rw [un_n q]; exact h5 p' c' hp' hc'
theorem CT.cr {L : Nat → Nat → Nat} {f g : Nat → Nat} {d v : Nat} (h : CT L f g) (hd : d < L 6 0) (hd5 : L 6 0 ≤ 5) (hv : v < L 3 0) : CT L (un f (30 + d) v) (un g (30 + d) v) := by
  obtain ⟨h1, h2, h3, h4, h5⟩ := h
  refine ⟨fun j hj => ?_, fun e q => ?_, ?_, ?_, fun p' c' hp' hc' => ?_⟩
  · rw [un_n (by omega), un_n (by omega)]; exact h1 j hj
  · by_cases y : e = d
    · rw [y, un_s, un_s]; exact ⟨rfl, hv⟩
    · rw [un_n (by omega), un_n (by omega)]; exact h2 e q
  · rw [un_n (by omega), un_n (by omega)]; exact h3
  · rw [un_n (by omega)]; exact h4
  · rw [un_n (by omega)]; exact h5 p' c' hp' hc'
/-- a cell behind a payment -/
theorem stl_cell {f P : Nat → Nat} {db cr : Nat} : ∀ n p c, n ≤ 6 → p < 5 → c < 6 → stlN f P db cr n (p * 6 + c) = if c < n then (f (p * 6 + c) - (if p = db then P c else 0)) + (if p = cr then P c else 0) else f (p * 6 + c)
  | 0, p, c, _, _, _ => by rw [if_neg (Nat.not_lt_zero c)]; rfl
  | n + 1, p, c, hn, hp, hc => by
    have ih := fun q => stl_cell (f := f) (P := P) (db := db) (cr := cr) n q c (by omega)
    have hu : stlN f P db cr (n + 1) = un (un (stlN f P db cr n) (db * 6 + n) (stlN f P db cr n (db * 6 + n) - P n)) (cr * 6 + n) (un (stlN f P db cr n) (db * 6 + n) (stlN f P db cr n (db * 6 + n) - P n) (cr * 6 + n) + P n) := rfl
    rw [hu]
    by_cases y : c = n
    · subst y
      rw [if_pos (by omega)]
      have e0 : ∀ q, stlN f P db cr c (q * 6 + c) = f (q * 6 + c) := fun q => stl_col (Nat.le_refl _) hc
      by_cases z : p = cr
      · subst z
        rw [un_s, if_pos rfl]
        by_cases w : p = db
        · subst w; rw [un_s, if_pos rfl, e0]
        · rw [un_n (by omega), if_neg w, e0, Nat.sub_zero]
      · rw [un_n (by omega), if_neg z]
        by_cases w : p = db
        · subst w; rw [un_s, if_pos rfl, e0, Nat.add_zero]
        · rw [un_n (by omega), if_neg w, e0, Nat.sub_zero, Nat.add_zero]
    · rw [un_n (by omega), un_n (by omega), ih p hp hc]
      by_cases z : c < n
      · rw [if_pos z, if_pos (show c < n + 1 by omega)]
      · rw [if_neg z, if_neg (show ¬ c < n + 1 by omega)]
theorem cell_of {j : Nat} (h : j < 30) : ∃ p c, p < 5 ∧ c < 6 ∧ j = p * 6 + c := ⟨j / 6, j % 6, by omega, by omega, by omega⟩
theorem CT.py {L : Nat → Nat → Nat} {f g P P' : Nat → Nat} {db cr d : Nat} (h : CT L f g) (hL : LandOk L) (hdb : db < L 3 0) (hcr : cr < L 3 0) (hd : d < L 6 0) (hP : ∀ c, c < 6 → P c = P' c) (h0 : ∀ c, L 0 0 ≤ c → c < 6 → P c = 0) : CT L (pyN f P db cr d) (pyN g P' db cr d) := by
  obtain ⟨h1, h2, h3, h4, h5⟩ := h
  have l0 := hL.1
  have l3 := hL.2.1
  have l6 := hL.2.2.1
  have hi : ∀ {q : Nat → Nat} {Q : Nat → Nat} {j : Nat}, 30 ≤ j → stlN q Q db cr 6 j = q j := fun hj => stl_hi (by omega) (by omega) (Nat.le_refl _) hj
  unfold pyN
  refine ⟨fun j hj => ?_, fun e q => ?_, ?_, ?_, fun p c hp hc => ?_⟩
  · rw [un_n (by omega), un_n (by omega)]
    obtain ⟨p, c, hp, hc, rfl⟩ := cell_of hj
    rw [stl_cell 6 p c (Nat.le_refl _) hp hc, stl_cell 6 p c (Nat.le_refl _) hp hc, hP c hc, h1 _ hj]
  · rw [un_n (by omega), un_n (by omega), hi (by omega), hi (by omega)]; exact h2 e q
  · rw [un_s, un_s, hi (by omega), hi (by omega), h3]
  · rw [un_s, hi (by omega)]; exact Nat.lt_of_le_of_lt (clr_le _ _) h4
  · rw [un_n (by omega), stl_cell 6 p c (Nat.le_refl _) hp hc, if_pos hc]
    intro hq
    rcases Nat.lt_or_ge c (L 0 0) with y | y
    · refine ⟨?_, y⟩
      by_cases z : p = db
      · omega
      · by_cases w : p = cr
        · omega
        · rw [if_neg z, if_neg w, Nat.sub_zero, Nat.add_zero] at hq
          exact (h5 p c hp hc hq).1
    · rw [h0 c y hc] at hq
      have hq2 : f (p * 6 + c) ≠ 0 := by
        intro e; apply hq; rw [e]; (repeat' split) <;> rfl
      exact h5 p c hp hc hq2
/-- the past comes back -/
theorem NT.undo {L N : Nat → Nat → Nat} {f : Nat → Nat} (hd : L 6 0 ≤ 5) (h : NT L N f) (h0 : 0 < N 2 0) : NT L (ua (ua N 0 (va_cpy (N 1) (N 0) ((N 2 0 - 1) * 36) 0 36)) 2 (fun _ => N 2 0 - 1)) (udN f 36) := by
  obtain ⟨a, b, c⟩ := h
  refine ⟨?_, ?_, fun i hi => ?_⟩
  · refine (c (N 2 0 - 1) (by omega)).cg hd (fun j hj => ?_) (fun j hj => ?_)
    · show va_cpy (N 1) (N 0) ((N 2 0 - 1) * 36) 0 36 j = _
      rw [cpy_in (by omega)]; exact congrArg (N 1) (by omega)
    · unfold udN; rw [if_pos hj, b]
  · show udN f 36 36 = N 2 0 - 1
    rw [ud_36 (Nat.le_refl _), b]
  · have hi : i < N 2 0 - 1 := hi
    refine (c i (by omega)).cg hd (fun j hj => rfl) (fun j hj => ?_)
    show udN f 36 (37 + 36 * i + j) = _
    unfold udN; rw [if_neg (by omega), if_neg (by omega)]
/-- one becomes the other -/
theorem NT.become {L N M : Nat → Nat → Nat} {f g : Nat → Nat} (hd : L 6 0 ≤ 5) (hk : N 2 0 ≤ 10) (h : NT L N f) (e : ∀ j, j < 397 → g j = f j) : NT L (ua (ua (ua M 0 (va_cpy (N 0) (M 0) 0 0 36)) 1 (va_cpy (N 1) (M 1) 0 0 360)) 2 (fun _ => N 2 0)) g := by
  obtain ⟨a, b, c⟩ := h
  refine ⟨?_, ?_, fun i hi => ?_⟩
  · refine a.cg hd (fun j hj => ?_) (fun j hj => e j (by omega))
    show va_cpy (N 0) (M 0) 0 0 36 j = _
    rw [cpy_in (by omega)]; exact congrArg (N 0) (by omega)
  · rw [e 36 (by omega)]; exact b
  · have hi : i < N 2 0 := hi
    refine (c i hi).cg hd (fun j hj => ?_) (fun j hj => e _ (by omega))
    show va_cpy (N 1) (M 1) 0 0 360 (i * 36 + j) = _
    rw [cpy_in (by omega)]; exact congrArg (N 1) (by omega)
theorem NT.begin {L N u : Nat → Nat → Nat} (hL : LandOk L) (hg : LG L) (h : LN u L) : NT L (begN N L) (u 20) := by
  obtain ⟨a, b, c, d, _⟩ := h
  have l6 := hL.2.2.1
  have e0 : ∀ j, j < 30 → begN N L 0 j = L 5 j := fun j hj => by
    show un _ 35 _ j = _
    rw [un_n (by omega), cpy_out (by omega), cpy_in (by omega)]; exact congrArg (L 5) (by omega)
  have e1 : ∀ d, d < 5 → begN N L 0 (30 + d) = L 8 d := fun d hd => by
    show un _ 35 _ (30 + d) = _
    rw [un_n (by omega), cpy_in (by omega)]; exact congrArg (L 8) (by omega)
  have e2 : begN N L 0 35 = 2 ^ L 6 0 - 1 := by show un (va_cpy (L 8) (va_cpy (L 5) (N 0) 0 0 30) 0 30 5) 35 (2 ^ L 6 0 - 1) 35 = _; exact un_s
  refine ⟨⟨fun j hj => by rw [e0 j hj]; exact a j hj, fun d hd => by rw [e1 d (by omega)]; exact ⟨b d hd, (hg.2.1 d hd).2.1⟩, by rw [e2]; exact c, by rw [e2]; have : 1 ≤ 2 ^ L 6 0 := Nat.one_le_two_pow; omega, fun p c hp hc => by rw [e0 _ (by omega)]; exact hg.2.2 p c hp hc⟩, d, fun i hi => absurd hi (Nat.not_lt_zero i)⟩

/-! the class's payments and the reference's -/
theorem tab_hi {F' w' t' : Nat → Nat} {n : Nat} (hZ : Tab 1000 F' w' t') (ht0 : ∀ c, n ≤ c → c < 6 → t' c = 0) {s : Nat} (hs : s ≤ 60) : ∀ m, m + n ≤ 6 → F' (61 * (6 - m) + s) = (if s = 0 then 0 else 1000)
  | 0, _ => hZ.1 s hs
  | m + 1, hm => by
    have ih := tab_hi hZ ht0 hs m (by omega)
    obtain ⟨⟨q, a, b, e⟩, _⟩ := hZ.2 (6 - (m + 1)) s (by omega) hs
    have h0 := ht0 (6 - (m + 1)) (by omega) (by omega)
    obtain rfl : q = 0 := by omega
    rw [e, Nat.zero_mul, Nat.sub_zero, Nat.zero_add, show 6 - (m + 1) + 1 = 6 - m by omega]
    exact ih
theorem tab_tie {F F' w w' t t' : Nat → Nat} {n z : Nat} (hn : n ≤ 6) (hz : z ≤ 60) (hX : TabX F w t n z) (hZ : Tab 1000 F' w' t') (hw : ∀ c, c < n → w' c = w c ∧ 1 ≤ w c) (ht : ∀ c, c < n → t' c = t c) (ht0 : ∀ c, n ≤ c → c < 6 → t' c = 0) :
    ∀ k, k ≤ n → ∀ s, s ≤ z → (F (61 * (n - k) + s) = F' (61 * (n - k) + s) ∧ F' (61 * (n - k) + s) ≤ s) ∨ (F (61 * (n - k) + s) = 1000000 ∧ F' (61 * (n - k) + s) = 1000)
  | 0, _, s, hs => by
    have h1 := hX.1 s hs
    have h2 := tab_hi hZ ht0 (s := s) (by omega) (6 - n) (by omega)
    rw [show 6 - (6 - n) = n by omega] at h2
    rw [Nat.sub_zero, h1, h2]
    by_cases q : s = 0
    · rw [if_pos q, if_pos q]; exact Or.inl ⟨rfl, Nat.zero_le _⟩
    · rw [if_neg q, if_neg q]; exact Or.inr ⟨rfl, rfl⟩
  | k + 1, hk, s, hs => by
    obtain ⟨c, hc⟩ : ∃ c, c = n - (k + 1) := ⟨_, rfl⟩
    have hc1 : n - k = c + 1 := by omega
    have ih := tab_tie hn hz hX hZ hw ht ht0 k (by omega)
    rw [hc1] at ih
    rw [← hc]
    obtain ⟨⟨a, a1, a2, a3⟩, amin⟩ := hX.2 c s (by omega) hs
    obtain ⟨⟨b, b1, b2, b3⟩, bmin⟩ := hZ.2 c s (by omega) (by omega)
    rw [(hw c (by omega)).1] at b2 b3 bmin
    rw [ht c (by omega)] at b1 bmin
    have hw1 := (hw c (by omega)).2
    have ha : a ≤ a * w c := Nat.le_mul_of_pos_right a hw1
    have hb : b ≤ b * w c := Nat.le_mul_of_pos_right b hw1
    have ea : 61 * (c + 1) + s - a * w c = 61 * (c + 1) + (s - a * w c) := by omega
    have eb : 61 * (c + 1) + s - b * w c = 61 * (c + 1) + (s - b * w c) := by omega
    have ia := ih (s - a * w c) (by omega)
    have ib := ih (s - b * w c) (by omega)
    have i0 := ih s hs
    have m1 := amin b b1 b2
    have m2 := bmin a a1 a2
    have m3 := amin 0 (Nat.zero_le _) (by rw [Nat.zero_mul]; exact Nat.zero_le _)
    have m4 := bmin 0 (Nat.zero_le _) (by rw [Nat.zero_mul]; exact Nat.zero_le _)
    rw [Nat.zero_mul, Nat.sub_zero, Nat.zero_add] at m3 m4
    rw [ea] at a3 m2
    rw [eb] at b3 m1
    rcases ia with ⟨x1, x2⟩ | ⟨x1, x2⟩ <;> rcases ib with ⟨y1, y2⟩ | ⟨y1, y2⟩ <;> rcases i0 with ⟨z1, z2⟩ | ⟨z1, z2⟩ <;> omega
/-- what is taken is the same -/
theorem ch_tie {F F' w w' t t' P P' : Nat → Nat} {n z l l' : Nat} (hn : n ≤ 6) (hz : z ≤ 60) (hX : TabX F w t n z) (hZ : Tab 1000 F' w' t') (hw : ∀ c, c < n → w' c = w c ∧ 1 ≤ w c) (ht : ∀ c, c < n → t' c = t c) (ht0 : ∀ c, n ≤ c → c < 6 → t' c = 0) (hlt : F' z < 1000)
    (hC : ChI F w t z P n l) (hC' : ChI F' w' t' z P' 6 l') : ∀ c, c < n → P c = P' c := by
  obtain ⟨R, r0, _, hR⟩ := hC
  obtain ⟨R', r0', _, hR'⟩ := hC'
  have tt := tab_tie hn hz hX hZ hw ht ht0
  have key : ∀ c, c ≤ n → R c = R' c ∧ R c ≤ z ∧ F' (61 * c + R c) < 1000 ∧ ∀ d, d < c → P d = P' d := by
    intro c
    induction c with
    | zero => intro _; refine ⟨by rw [r0, r0'], by omega, by rw [r0, Nat.mul_zero, Nat.zero_add]; exact hlt, fun d h => absurd h (Nat.not_lt_zero d)⟩
    | succ c ih =>
      intro hc
      obtain ⟨e, lz, lt, ps⟩ := ih (by omega)
      obtain ⟨a1, a2, a3, a4, a5⟩ := hR c (by omega)
      obtain ⟨b1, b2, b3, b4, b5⟩ := hR' c (by omega)
      rw [← e, (hw c (by omega)).1] at b1 b2 b4 b5
      rw [ht c (by omega)] at b3
      have tc := fun s hs => tt (n - c) (by omega) s hs
      have tc1 := fun s hs => tt (n - (c + 1)) (by omega) s hs
      rw [show n - (n - c) = c by omega] at tc
      rw [show n - (n - (c + 1)) = c + 1 by omega] at tc1
      have ec : F (61 * c + R c) = F' (61 * c + R c) := by rcases tc (R c) lz with q | q <;> omega
      have st : ∀ n, n * w c ≤ R c → (F (61 * c + R c) = n + F (61 * (c + 1) + R c - n * w c) ↔ F' (61 * c + R c) = n + F' (61 * (c + 1) + R c - n * w c)) := by
        intro n hnw
        rw [show 61 * (c + 1) + R c - n * w c = 61 * (c + 1) + (R c - n * w c) by omega]
        rcases tc1 (R c - n * w c) (by omega) with q | q <;> omega
      have le1 : P' c ≤ P c := by
        rcases Nat.lt_or_ge (P c) (P' c) with q | q
        · exact absurd ((st _ a1).mp a4) (b5 _ q)
        · exact q
      have le2 : P c ≤ P' c := by
        rcases Nat.lt_or_ge (P' c) (P c) with q | q
        · exact absurd ((st _ b1).mpr b4) (a5 _ q)
        · exact q
      have ep : P c = P' c := by omega
      refine ⟨by rw [a2, b2, ep], by omega, ?_, fun d hd => ?_⟩
      · have h4 := (st _ a1).mp a4
        rw [a2, show 61 * (c + 1) + (R c - P c * w c) = 61 * (c + 1) + R c - P c * w c by omega]
        omega
      · rcases (show d < c ∨ d = c by omega) with y | y
        · exact ps d y
        · rw [y]; exact ep
  exact (key n (Nat.le_refl _)).2.2.2
/-- the pieces of a payment of the reference come to the fewest -/
theorem ch_sum {F w t P : Nat → Nat} {z l : Nat} (hz : z ≤ 60) (hT : Tab 1000 F w t) (hlt : F z < 1000) (hC : ChI F w t z P 6 l) : sumN P 6 = F z := by
  obtain ⟨R, r0, _, hR⟩ := hC
  have key : ∀ c, c ≤ 6 → R c ≤ z ∧ sumN P c + F (61 * c + R c) = F z := by
    intro c
    induction c with
    | zero => intro _; exact ⟨by omega, by rw [r0, Nat.mul_zero, Nat.zero_add]; exact Nat.zero_add _⟩
    | succ c ih =>
      intro hc
      obtain ⟨lz, e⟩ := ih (by omega)
      obtain ⟨a1, a2, a3, a4, a5⟩ := hR c (by omega)
      refine ⟨by omega, ?_⟩
      show sumN P c + P c + _ = _
      rw [a2, show 61 * (c + 1) + (R c - P c * w c) = 61 * (c + 1) + R c - P c * w c by omega]
      omega
  obtain ⟨lz, e⟩ := key 6 (Nat.le_refl _)
  have h6 := hT.1 (R 6) (by omega)
  rw [show 61 * 6 + R 6 = 366 + R 6 by omega, h6] at e
  split at e <;> omega
