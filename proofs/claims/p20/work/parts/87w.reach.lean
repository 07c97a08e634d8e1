/-! which sums can be laid: from below, from above, by the table -/
def rch (w t : Nat → Nat) : Nat → Nat → Prop
  | 0, s => s = 0
  | c + 1, s => ∃ m, m ≤ t c ∧ m * w c ≤ s ∧ rch w t c (s - m * w c)
def rdn (w t : Nat → Nat) : Nat → Nat → Prop
  | 0, s => s = 0
  | k + 1, s => ∃ m, m ≤ t (5 - k) ∧ m * w (5 - k) ≤ s ∧ rdn w t k (s - m * w (5 - k))
theorem rch_mid {w t : Nat → Nat} {z : Nat} : ∀ c, c ≤ 6 → ((∃ a, a ≤ z ∧ rch w t c a ∧ rdn w t (6 - c) (z - a)) ↔ rdn w t 6 z)
  | 0, _ => ⟨fun ⟨a, _, h1, h2⟩ => by
      have h1 : a = 0 := h1
      rw [h1] at h2; exact h2, fun h => ⟨0, Nat.zero_le _, rfl, h⟩⟩
  | c + 1, hc => by
    have ih := rch_mid (w := w) (t := t) (z := z) c (by omega)
    rw [← ih]
    obtain ⟨k, hk⟩ : ∃ k, k = 6 - (c + 1) := ⟨_, rfl⟩
    have e1 : 6 - c = k + 1 := by omega
    have e2 : 5 - k = c := by omega
    rw [e1, ← hk]
    constructor
    · rintro ⟨a, ha, ⟨m, m1, m2, m3⟩, hd⟩
      refine ⟨a - m * w c, by omega, m3, m, by rw [e2]; exact m1, by rw [e2]; omega, ?_⟩
      rw [e2, show z - (a - m * w c) - m * w c = z - a by omega]; exact hd
    · rintro ⟨a, ha, hr, m, m1, m2, m3⟩
      rw [e2] at m1 m2 m3
      refine ⟨a + m * w c, by omega, ⟨m, m1, by omega, by rw [show a + m * w c - m * w c = a by omega]; exact hr⟩, ?_⟩
      rw [show z - (a + m * w c) = z - a - m * w c by omega]; exact m3
theorem rch_rdn {w t : Nat → Nat} {z : Nat} : rch w t 6 z ↔ rdn w t 6 z := by
  rw [← rch_mid (w := w) (t := t) (z := z) 6 (Nat.le_refl _)]
  constructor
  · intro h; exact ⟨z, Nat.le_refl _, h, Nat.sub_self z⟩
  · rintro ⟨a, ha, h1, h2⟩
    have h2 : z - a = 0 := h2
    rw [show z = a by omega]; exact h1
theorem tab_rdn {F w t : Nat → Nat} (hT : Tab 1000 F w t) (hw : ∀ c, c < 6 → t c = 0 ∨ 1 ≤ w c) : ∀ k, k ≤ 6 → ∀ s, s ≤ 60 → (rdn w t k s ∧ F (61 * (6 - k) + s) ≤ s) ∨ (¬ rdn w t k s ∧ F (61 * (6 - k) + s) = 1000)
  | 0, _, s, hs => by
    have h := hT.1 s hs
    rw [show 61 * (6 - 0) + s = 366 + s by omega, h]
    by_cases q : s = 0
    · rw [if_pos q]; exact Or.inl ⟨q, Nat.zero_le _⟩
    · rw [if_neg q]; exact Or.inr ⟨q, rfl⟩
  | k + 1, hk, s, hs => by
    obtain ⟨c, hc⟩ : ∃ c, c = 6 - (k + 1) := ⟨_, rfl⟩
    have e1 : 6 - k = c + 1 := by omega
    have e2 : 5 - k = c := by omega
    have ih := tab_rdn hT hw k (by omega)
    rw [e1] at ih
    rw [← hc]
    obtain ⟨⟨n, n1, n2, n3⟩, mn⟩ := hT.2 c s (by omega) hs
    rw [show 61 * (c + 1) + s - n * w c = 61 * (c + 1) + (s - n * w c) by omega] at n3
    have m0 := mn 0 (Nat.zero_le _) (by rw [Nat.zero_mul]; exact Nat.zero_le _)
    rw [Nat.zero_mul, Nat.sub_zero, Nat.zero_add] at m0
    by_cases q : rdn w t (k + 1) s
    · refine Or.inl ⟨q, ?_⟩
      obtain ⟨m, m1, m2, m3⟩ := q
      rw [e2] at m1 m2 m3
      have mm := mn m m1 m2
      rw [show 61 * (c + 1) + s - m * w c = 61 * (c + 1) + (s - m * w c) by omega] at mm
      have hm : m ≤ m * w c := by
        rcases hw c (by omega) with y | y
        · have : m = 0 := by omega
          rw [this]; exact Nat.zero_le _
        · exact Nat.le_mul_of_pos_right m y
      rcases ih (s - m * w c) (by omega) with ⟨_, y⟩ | ⟨y, _⟩
      · omega
      · exact absurd m3 y
    · refine Or.inr ⟨q, ?_⟩
      have nq : ¬ rdn w t k (s - n * w c) := fun y => q ⟨n, by rw [e2]; exact n1, by rw [e2]; exact n2, by rw [e2]; exact y⟩
      rcases ih (s - n * w c) (by omega) with ⟨y, _⟩ | ⟨_, y⟩
      · exact absurd y nq
      · rcases ih s hs with ⟨_, y2⟩ | ⟨_, y2⟩ <;> omega
theorem RY_iff {w t : Nat → Nat} {z : Nat} (hz : z ≤ 60) (hw : ∀ c, c < 6 → t c = 0 ∨ 1 ≤ w c) (h : RY w t z) : rch w t 6 z := by
  obtain ⟨F, hT, hF⟩ := h
  have := tab_rdn hT hw 6 (Nat.le_refl _) z hz
  rw [Nat.sub_self, Nat.mul_zero, Nat.zero_add] at this
  rcases this with ⟨a, _⟩ | ⟨_, b⟩
  · exact rch_rdn.mpr a
  · omega
theorem RN_iff {w t : Nat → Nat} {z : Nat} (hz : z ≤ 60) (hw : ∀ c, c < 6 → t c = 0 ∨ 1 ≤ w c) (h : RN w t z) : ¬ rch w t 6 z := by
  obtain ⟨F, hT, hF⟩ := h
  have := tab_rdn hT hw 6 (Nat.le_refl _) z hz
  rw [Nat.sub_self, Nat.mul_zero, Nat.zero_add] at this
  rcases this with ⟨_, b⟩ | ⟨a, _⟩
  · omega
  · exact fun y => a (rch_rdn.mp y)
theorem rch_0 {w t : Nat → Nat} {c s : Nat} (h : t c = 0) : rch w t (c + 1) s ↔ rch w t c s := by
  constructor
  · rintro ⟨m, a, b, d⟩
    obtain rfl : m = 0 := by omega
    rwa [Nat.zero_mul, Nat.sub_zero] at d
  · intro d
    exact ⟨0, Nat.zero_le _, by rw [Nat.zero_mul]; exact Nat.zero_le _, by rw [Nat.zero_mul, Nat.sub_zero]; exact d⟩
theorem rch_ext {w t : Nat → Nat} {n s : Nat} : ∀ k, (∀ c, n ≤ c → c < n + k → t c = 0) → (rch w t (n + k) s ↔ rch w t n s)
  | 0, _ => Iff.rfl
  | k + 1, h => (rch_0 (c := n + k) (h (n + k) (by omega) (by omega))).trans (rch_ext k (fun c a b => h c a (by omega)))
theorem rch_cg {w t w' t' : Nat → Nat} : ∀ n, (∀ c, c < n → w c = w' c ∧ t c = t' c) → ∀ s, rch w t n s ↔ rch w' t' n s
  | 0, _, _ => Iff.rfl
  | n + 1, h, s => by
    have ih := rch_cg n (fun c hc => h c (by omega))
    obtain ⟨e1, e2⟩ := h n (by omega)
    show (∃ m, _) ↔ (∃ m, _)
    rw [e1, e2]
    constructor
    · rintro ⟨m, a, b, d⟩; exact ⟨m, a, b, (ih _).mp d⟩
    · rintro ⟨m, a, b, d⟩; exact ⟨m, a, b, (ih _).mpr d⟩
/-- bits of a long -/
def RBt (x : Int64) (s : Nat) : Bool := x.toBitVec.getLsbD s
theorem sh_63 : ∀ w, w < 64 → (((nI w).toInt64 &&& 63).toBitVec.smod 64).toNat = w := by decide +kernel
theorem rb_step {x : Int64} {w s : Nat} (hw : w < 64) (hs : s < 64) : RBt (x ||| (x <<< ((nI w).toInt64 &&& 63))) s = (RBt x s || (!decide (s < w) && RBt x (s - w))) := by
  unfold RBt
  rw [Int64.toBitVec_or, BitVec.getLsbD_or, Int64.toBitVec_shiftLeft, BitVec.shiftLeft_eq', sh_63 w hw, BitVec.getLsbD_shiftLeft, decide_eq_true hs, Bool.true_and]
theorem rb_one : ∀ s, s < 64 → (RBt 1 s = true ↔ s = 0) := by decide +kernel
theorem shu_63 : ∀ z, z < 64 → (((nI z).toInt64.toUInt64 &&& Int64.toUInt64 63).toBitVec % 64).toNat = z := by decide +kernel
theorem rb_fin {x : Int64} {z : Nat} (hz : z < 64) : (x.toUInt64 >>> ((nI z).toInt64.toUInt64 &&& Int64.toUInt64 63)).toInt64 &&& 1 = 1 ↔ RBt x z = true := by
  have e : ((x.toUInt64 >>> ((nI z).toInt64.toUInt64 &&& Int64.toUInt64 63)).toInt64 &&& 1).toBitVec = (x.toBitVec >>> z) &&& 1#64 := by
    rw [Int64.toBitVec_and]
    show ((x.toUInt64 >>> _).toBitVec) &&& 1#64 = _
    rw [UInt64.toBitVec_shiftRight, BitVec.ushiftRight_eq', shu_63 z hz]
    rfl
  rw [← Int64.toBitVec_inj, e, BitVec.and_one_eq_setWidth_ofBool_getLsbD, BitVec.getLsbD_ushiftRight, Nat.add_zero]
  unfold RBt
  cases x.toBitVec.getLsbD z <;> decide
theorem lcmp_w {a b : Int64} : lg_cmp a b = 0 ↔ a = b := by
  constructor
  · intro h
    unfold lg_cmp at h
    split at h
    · exact absurd h (by decide)
    · split at h
      · assumption
      · exact absurd h (by decide)
  · intro h
    subst h
    unfold lg_cmp
    rw [if_neg (show ¬ a > a from fun q => absurd q (Int64.lt_irrefl)), if_pos rfl]
def tl (W : Nat → Nat → Nat) (l c : Nat) : Nat := if l / 2 ^ c % 2 = 1 then 0 else W 0 c
/-- all sums up to z that can be laid by the coins below i -/
def RI (W : Nat → Nat → Nat) (l i : Nat) (x : Int64) : Prop := ∀ s, s ≤ W 3 0 → (RBt x s = true ↔ rch (W 1) (tl W l) i s)
def RJ (W : Nat → Nat → Nat) (l i n : Nat) (x : Int64) : Prop := ∀ s, s ≤ W 3 0 → (RBt x s = true ↔ ∃ m, m ≤ n ∧ m * W 1 i ≤ s ∧ rch (W 1) (tl W l) i (s - m * W 1 i))
theorem RI_0 {W : Nat → Nat → Nat} {l : Nat} (h : W 3 0 ≤ 60) : RI W l 0 1 := fun s hs => rb_one s (by omega)
theorem RI_l {W : Nat → Nat → Nat} {l i : Nat} {x : Int64} (h : RI W l i x) (hl : l / 2 ^ i % 2 = 1) : RI W l (i + 1) x := fun s hs => (h s hs).trans (rch_0 (show tl W l i = 0 by unfold tl; rw [if_pos hl])).symm
theorem RJ_0 {W : Nat → Nat → Nat} {l i : Nat} {x : Int64} (h : RI W l i x) : RJ W l i 0 x := fun s hs => by
  rw [h s hs]
  constructor
  · intro d; exact ⟨0, Nat.le_refl _, by rw [Nat.zero_mul]; exact Nat.zero_le _, by rw [Nat.zero_mul, Nat.sub_zero]; exact d⟩
  · rintro ⟨m, a, b, d⟩
    obtain rfl : m = 0 := by omega
    rwa [Nat.zero_mul, Nat.sub_zero] at d
theorem RJ_s {W : Nat → Nat → Nat} {l i n : Nat} {x : Int64} (h : RJ W l i n x) (h60 : W 3 0 ≤ 60) (hw : W 1 i ≤ 9) : RJ W l i (n + 1) (x ||| (x <<< ((nI (W 1 i)).toInt64 &&& 63))) := fun s hs => by
  rw [rb_step (by omega) (by omega), Bool.or_eq_true, Bool.and_eq_true, h s hs]
  constructor
  · rintro (⟨m, a, b, d⟩ | ⟨q, d⟩)
    · exact ⟨m, by omega, b, d⟩
    · have q : ¬ s < W 1 i := by simpa using q
      obtain ⟨m, a, b, d⟩ := (h (s - W 1 i) (by omega)).mp d
      refine ⟨m + 1, by omega, by rw [Nat.succ_mul]; omega, ?_⟩
      rw [Nat.succ_mul, show s - (m * W 1 i + W 1 i) = s - W 1 i - m * W 1 i by omega]; exact d
  · rintro ⟨m, a, b, d⟩
    rcases m with _ | m
    · exact Or.inl ⟨0, Nat.zero_le _, b, d⟩
    · rw [Nat.succ_mul] at b d
      by_cases y : s < W 1 i
      · omega
      · refine Or.inr ⟨by simpa using y, (h (s - W 1 i) (by omega)).mpr ⟨m, by omega, by omega, ?_⟩⟩
        rw [show s - W 1 i - m * W 1 i = s - (m * W 1 i + W 1 i) by omega]; exact d
theorem RI_s {W : Nat → Nat → Nat} {l i n : Nat} {x : Int64} (h : RJ W l i n x) (hl : l / 2 ^ i % 2 ≠ 1) (hn : n ≤ W 0 i) (he : n = W 0 i ∨ W 3 0 ≤ n * W 1 i) (hw : 1 ≤ W 1 i) : RI W l (i + 1) x := fun s hs => by
  rw [h s hs]
  have et : tl W l i = W 0 i := by unfold tl; rw [if_neg hl]
  show _ ↔ ∃ m, m ≤ tl W l i ∧ _
  rw [et]
  constructor
  · rintro ⟨m, a, b, d⟩; exact ⟨m, by omega, b, d⟩
  · rintro ⟨m, a, b, d⟩
    refine ⟨m, ?_, b, d⟩
    rcases he with y | y
    · omega
    · rcases Nat.lt_or_ge n m with q | q
      · have := Nat.mul_lt_mul_of_pos_right q hw
        omega
      · exact q
