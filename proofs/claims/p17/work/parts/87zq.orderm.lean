/-! the class's search -/
theorem cp9_in {f g : Nat → Nat} {a b n j : Nat} (h : b ≤ j ∧ j < b + n) : va_cpy f g a b n j = f (a + (j - b)) := by unfold va_cpy; rw [if_pos h]
theorem cp9_out {f g : Nat → Nat} {a b n j : Nat} (h : ¬ (b ≤ j ∧ j < b + n)) : va_cpy f g a b n j = g j := by unfold va_cpy; rw [if_neg h]
def BST (Q : Nat → Nat → Nat) (b : Nat × Nat) : Prop := Q 3 0 = b.1 ∧ ∀ j, j < b.1 → Q 2 j = dig b.1 b.2 j
def EXI (Q K : Nat → Nat → Nat) (m pc : Nat) (f p0 : Nat → Nat) (b : Nat × Nat) : Prop := E36 (K 0) f ∧ (∀ j, j < 36 * m → K 1 j = p0 j) ∧ (∀ j, j < m → Q 1 j = dig m pc j) ∧ BST Q b
theorem Iv_of {K : Nat → Nat → Nat} (h : NowOk K) : Iv 5 (K 0) := ⟨by have := h.op; omega, fun d hd => Nat.lt_succ_of_le (h.cr hd)⟩
theorem EX_note {Q U K : Nat → Nat → Nat} {m pc bc : Nat} (hr : ∀ j, j < m → Q 1 j = dig m pc j) (hb : BST Q (Q 3 0, bc)) (h : (m ≤ Q 3 0 ∧ U = Q) ∨ (Q 3 0 < m ∧ U = ua (ua Q 2 (va_cpy (Q 1) (Q 2) 0 0 m)) 3 (fun _ => m))) : EXI U K m pc (K 0) (K 1) (bstO m pc (0, 0) (Q 3 0, bc)) := by
  rw [bstO_0]
  rcases h with ⟨h1, h2⟩ | ⟨h1, h2⟩
  · rw [h2, if_neg (show ¬ (Q 3 0, bc).1 < m by show ¬ Q 3 0 < m; omega)]
    exact ⟨E36.rf _, fun _ _ => rfl, hr, hb⟩
  · rw [h2, if_pos (show (Q 3 0, bc).1 < m from h1)]
    refine ⟨E36.rf _, fun _ _ => rfl, hr, rfl, fun j hj => ?_⟩
    have hj : j < m := hj
    show va_cpy (Q 1) (Q 2) 0 0 m j = dig m pc j
    rw [cp9_in (by omega), show 0 + (j - 0) = j by omega]
    exact hr j hj
theorem EX_n {Q K : Nat → Nat → Nat} {m pc i : Nat} {f p0 : Nat → Nat} {b : Nat × Nat} {c : (Nat → Nat) → Nat → Nat} {nx : (Nat → Nat) → Nat → Nat → Nat} {R : (Nat → Nat) → Nat × Nat} (h : EXI Q K m pc f p0 (bstO m pc (bL c nx R f i) b)) (hc : c f i = 0) : EXI Q K m pc f p0 (bstO m pc (bL c nx R f (i + 1)) b) := by
  rw [← bstO_n hc]; exact h
theorem EX_row {g : Nat → Nat} {m pc d : Nat} (hr : ∀ j, j < m → g j = dig m pc j) (hd : d < 5) : ∀ j, j < m + 1 → un g m d j = dig (m + 1) (pc * 5 + d) j := fun j hj => by
  by_cases q : j = m
  · rw [q, un_s, dig_l hd]
  · rw [un_n q, hr j (by omega), dig_s hd (by omega)]
theorem EX_bst {Q : Nat → Nat → Nat} {g : Nat → Nat} {b : Nat × Nat} (h : BST Q b) : BST (ua Q 1 g) (ua Q 1 g 3 0, b.2) := by
  obtain ⟨h1, h2⟩ := h
  refine ⟨rfl, fun j hj => ?_⟩
  have hj : j < Q 3 0 := hj
  show Q 2 j = dig (Q 3 0) b.2 j
  rw [h1] at hj ⊢
  exact h2 j hj
theorem bX_cg {L : Nat → Nat → Nat} {n k : Nat} {f g : Nat → Nat} (h0 : L 0 0 ≤ 6) (h7 : ∀ d, L 7 d < 5) (hn : n ≤ 5) (hf : Iv 5 f) (h : E36 f g) : bR (cxO L) (nxO L) n k f = bR (cxO L) (nxO L) n k g := by
  refine bR_sim (n := n) (E := fun f g => Iv 5 f ∧ E36 f g) (fun f g d hE hd => ?_) k f g ⟨hf, h⟩
  have h5 : d < 5 := by omega
  have cg := cgX (n := 5) h0 h7 hE.1 h5 hE.2
  exact ⟨cg.1, fun hc => ⟨(IvX (n := 5) (Nat.le_refl _) h7 f d hE.1 h5 hc).2.1, cg.2⟩⟩
theorem EX_cut {L Q K : Nat → Nat → Nat} {m pc i k : Nat} {f p0 : Nat → Nat} {b : Nat × Nat} (h7 : ∀ d, L 7 d < 5) (hn : L 6 0 ≤ 5) (hf : Iv 5 f) (hi : i ≤ L 6 0) (h : EXI Q K m pc f p0 (bstO m pc (bL (cxO L) (nxO L) (bR (cxO L) (nxO L) (L 6 0) k) f i) b)) (hc : m + popN (K 0 35) ≤ Q 3 0) : EXI Q K m pc f p0 (bstO m pc (bL (cxO L) (nxO L) (bR (cxO L) (nxO L) (L 6 0) k) f (L 6 0)) b) := by
  obtain ⟨a1, a2, a3, a4⟩ := h
  rw [a1 35 (by omega), a4.1] at hc
  have hA : (bR (cxO L) (nxO L) (L 6 0) (k + 1) f).1 ≤ popN (f 35) := bR_pop (I := Iv 5) (fun f d hf hd hc => (IvX (n := 5) (Nat.le_refl _) h7 f d hf (by omega) hc).2) (k + 1) f hf
  rw [← bstO_cut hi hA hc]
  exact ⟨a1, a2, a3, a4⟩
theorem EX_p {L Q K u1 u2 U V W : Nat → Nat → Nat} {m pc d k : Nat} {f p0 P : Nat → Nat} {b : Nat × Nat} (h0 : L 0 0 ≤ 6) (h7 : ∀ d, L 7 d < 5) (hn : L 6 0 ≤ 5) (hd : d < L 6 0) (hm : m < 5) (hK : NowOk K) (hk : K 2 0 = m) (h : EXI Q K m pc f p0 (bstO m pc (bL (cxO L) (nxO L) (bR (cxO L) (nxO L) (L 6 0) k) f d) b)) (ho : K 0 35 / 2 ^ d % 2 = 1) (hy : yX L (K 0) d P) (h9 : ∀ c, c < 6 → K 0 (K 0 (30 + d) * 6 + c) + P c ≤ 99) (e1 : u1 = remN K) (e2 : u2 = ua u1 0 (un (stlN (u1 0) P (L 7 d) (u1 0 (30 + d)) 6) 35 (clrN (stlN (u1 0) P (L 7 d) (u1 0 (30 + d)) 6 35) d)))
    (hU : EXI U V (m + 1) (pc * 5 + d) (u2 0) (u2 1) (bstO (m + 1) (pc * 5 + d) (bR (cxO L) (nxO L) (L 6 0) k (u2 0)) (Q 3 0, (bstO m pc (bL (cxO L) (nxO L) (bR (cxO L) (nxO L) (L 6 0) k) f d) b).2))) (hV : V 2 0 = m + 1) (e4 : W = ua (ua V 0 (va_cpy (V 1) (V 0) ((V 2 0 - 1) * 36) 0 36)) 2 (fun _ => V 2 0 - 1)) : EXI U W m pc f p0 (bstO m pc (bL (cxO L) (nxO L) (bR (cxO L) (nxO L) (L 6 0) k) f (d + 1)) b) := by
  obtain ⟨a1, a2, a3, a4⟩ := h
  obtain ⟨b1, b2, b3, b4⟩ := hU
  have iK := Iv_of hK
  have cg := cgX h0 h7 iK (show d < 5 by omega) a1
  have hc : cxO L f d ≠ 0 := by rw [← cg.1]; exact cX_1 ho hy h9
  have r0 : u1 0 = K 0 := by rw [e1]; exact rem_0 K
  have s0 : u2 0 = pyN (K 0) P (L 7 d) (K 0 (30 + d)) d := by rw [e2, ← r0]; rfl
  have s1 : ∀ j, u2 1 j = remN K 1 j := fun j => by subst e1; subst e2; rfl
  have g1 : E36 (u2 0) (nxO L f d) := by
    rw [s0]
    exact (py_c36 (E36.rf _) (nX_of hy) (h7 d) (iK.2 d (by omega))).tr cg.2
  have i2 : Iv 5 (u2 0) := by rw [s0]; exact Iv_s iK (h7 d) (by omega)
  have rm : remN K 1 = va_cpy (K 0) (K 1) 0 (K 2 0 * 36) 36 := by unfold remN; rw [if_pos (by omega)]; rfl
  have w0 : E36 (W 0) (K 0) := fun j hj => by
    rw [e4]
    show va_cpy (V 1) (V 0) ((V 2 0 - 1) * 36) 0 36 j = K 0 j
    rw [cp9_in (by omega), b2 _ (by omega), s1, rm, cp9_in (by omega)]
    exact congrArg (K 0) (by omega)
  have w1 : ∀ j, j < 36 * m → W 1 j = p0 j := fun j hj => by
    rw [e4]
    show V 1 j = p0 j
    rw [b2 j (by omega), s1, rm, cp9_out (by omega)]
    exact a2 j hj
  refine ⟨w0.tr a1, w1, fun j hj => by rw [b3 j (by omega), dig_s (by omega) hj], ?_⟩
  rw [bX_cg h0 h7 hn i2 g1] at b4
  have e5 : (Q 3 0, (bstO m pc (bL (cxO L) (nxO L) (bR (cxO L) (nxO L) (L 6 0) k) f d) b).2) = bstO m pc (bL (cxO L) (nxO L) (bR (cxO L) (nxO L) (L 6 0) k) f d) b := Prod.ext a4.1 rfl
  rw [e5, bstO_s hc rfl] at b4
  exact b4
theorem bstO_z {w : Nat × Nat} (h : w.2 < 5 ^ w.1) : bstO 0 0 w (0, 0) = w := by
  obtain ⟨a, b⟩ := w
  have h : b < 5 ^ a := h
  unfold bstO
  show (if 0 < 0 + a then (0 + a, 0 * 5 ^ a + b) else (0, 0)) = (a, b)
  rcases Nat.eq_zero_or_pos a with q | q
  · subst q
    rw [Nat.pow_zero] at h
    rw [if_neg (by omega), show b = 0 by omega]
  · rw [if_pos (by omega), Nat.zero_add, Nat.zero_mul, Nat.zero_add]
theorem EX_0 {L U V K1 N : Nat → Nat → Nat} {p0 : Nat → Nat} (h0 : L 0 0 ≤ 6) (h7 : ∀ d, L 7 d < 5) (hn : L 6 0 ≤ 5) (hK : NowOk K1) (hE : E36 (K1 0) (N 0)) (hU : EXI U V 0 0 (K1 0) p0 (bstO 0 0 (bR (cxO L) (nxO L) (L 6 0) 5 (K1 0)) (0, 0))) : BST U (bR (cxO L) (nxO L) (L 6 0) 5 (N 0)) := by
  have h := hU.2.2.2
  rw [bstO_z (bR_lt hn 5 _), bX_cg h0 h7 hn (Iv_of hK) hE] at h
  exact h
def orV (w : Nat × Nat) (v r : Int32) : Prop := (v = -1 ∧ r = nI w.1) ∨ ∃ k, k < 5 ∧ v = nI k ∧ r = (if k < w.1 then nI (dig w.1 w.2 k) else -9)
theorem in_G3 {v : Int32} (h : ¬ v < nI 5) : ¬ (v = -1 ∨ inN v 5) := by
  rintro (e | e)
  · rw [e] at h; exact h (by decide)
  · exact inN_nlt (n := 5) (by decide) h e
/-! the reference's rows -/
def BadR (O n k : Nat) : Prop := (∃ p, p < n ∧ O / 2 ^ dig n k p % 2 = 0) ∨ ∃ p q, p < q ∧ q < n ∧ dig n k p = dig n k q
def IR (O n k i : Nat) (z : (Nat → Nat) × Nat × Nat × Nat) : Prop := z.2.2.1 = k / 5 ^ i ∧ (∀ j, n - i ≤ j → j < n → z.1 j = dig n k j) ∧ (∀ e, e < 5 → z.2.1 / 2 ^ e % 2 = 1 → ∃ j, n - i ≤ j ∧ j < n ∧ dig n k j = e) ∧ (z.2.2.2 = 0 → BadR O n k)
theorem IR_0 {O n k : Nat} {g : Nat → Nat} : IR O n k 0 (g, 0, k, 1) := ⟨(Nat.div_one k).symm, fun j h1 h2 => absurd h2 (by omega), fun e he h => absurd h (by show ¬ 0 / 2 ^ e % 2 = 1; rw [Nat.zero_div]; decide), fun h => absurd (show (1 : Nat) = 0 from h) (by decide)⟩
theorem or_bit : ∀ u, u < 32 → ∀ d, d < 5 → ∀ e, e < 5 → (u ||| 2 ^ d) / 2 ^ e % 2 = 1 → e = d ∨ u / 2 ^ e % 2 = 1 := by decide +kernel
theorem IR_d {O n k i : Nat} {z : (Nat → Nat) × Nat × Nat × Nat} (h : IR O n k i z) (hi : i < n) : z.2.2.1 % 5 = dig n k (n - i - 1) := by
  unfold dig
  rw [h.1, show n - 1 - (n - i - 1) = i by omega]
theorem IR_s {O n k i c is : Nat} {z : (Nat → Nat) × Nat × Nat × Nat} (h : IR O n k i z) (hi : i < n) (hc : c = n - i - 1) (hu : z.2.1 < 32) (hb : is = 0 → BadR O n k) : IR O n k (i + 1) (un z.1 c (z.2.2.1 % 5), z.2.1 ||| 2 ^ (z.2.2.1 % 5), z.2.2.1 / 5, is) := by
  have hd := IR_d h hi
  have h5 : z.2.2.1 % 5 < 5 := Nat.mod_lt _ (by decide)
  obtain ⟨h1, h2, h3, h4⟩ := h
  refine ⟨?_, fun j j1 j2 => ?_, fun e he hbt => ?_, hb⟩
  · show z.2.2.1 / 5 = k / 5 ^ (i + 1)
    rw [h1, Nat.div_div_eq_div_mul, Nat.pow_succ]
  · show un z.1 c (z.2.2.1 % 5) j = dig n k j
    by_cases q : j = c
    · rw [q, un_s, hd, hc]
    · rw [un_n q]; exact h2 j (by omega) j2
  · rcases or_bit _ hu _ h5 e he hbt with q | q
    · exact ⟨n - i - 1, by omega, by omega, by rw [q]; exact hd.symm⟩
    · obtain ⟨j, j1, j2, j3⟩ := h3 e he q
      exact ⟨j, by omega, j2, j3⟩
theorem IR_b {O n k i : Nat} {z : (Nat → Nat) × Nat × Nat × Nat} (h : IR O n k i z) (hi : i < n) (ho : O / 2 ^ (z.2.2.1 % 5) % 2 = 0) : BadR O n k := Or.inl ⟨n - i - 1, by omega, by rw [← IR_d h hi]; exact ho⟩
theorem IR_c {O n k i : Nat} {z : (Nat → Nat) × Nat × Nat × Nat} (h : IR O n k i z) (hi : i < n) (ho : z.2.1 / 2 ^ (z.2.2.1 % 5) % 2 ≠ 0) : BadR O n k := by
  obtain ⟨j, j1, j2, j3⟩ := h.2.2.1 (z.2.2.1 % 5) (Nat.mod_lt _ (by decide)) (by omega)
  exact Or.inr ⟨n - i - 1, j, by omega, j2, by rw [j3]; exact (IR_d h hi).symm⟩
section GOZ
variable {Z : Nat → Nat → Nat} {n x d i : Nat} {f g P : Nat → Nat}
theorem Iv_b (h : ∀ j, g j ≤ zb 22 j) : Iv 5 g := ⟨by have : g 35 ≤ 31 := h 35; omega, fun d hd => Nat.lt_succ_of_le (Nat.le_trans (h (30 + d)) (Nat.le_of_eq (cb_c hd)))⟩
theorem DG_s (h3 : Z 3 0 ≤ 6) (h10 : ∀ d, Z 10 d < 5) (hg : Iv 5 g) (hE : E36 g (goS (czO Z) (nzO Z) n x f i)) (hd : d = dig n x i) (hc : czO Z g d ≠ 0 ∧ yZ Z g d P) (hA : ∀ j, j < i → czO Z (goS (czO Z) (nzO Z) n x f j) (dig n x j) ≠ 0) : E36 (pyN g P (Z 10 d) (g (30 + d)) d) (goS (czO Z) (nzO Z) n x f (i + 1)) ∧ ∀ j, j < i + 1 → czO Z (goS (czO Z) (nzO Z) n x f j) (dig n x j) ≠ 0 := by
  have h5 : d < 5 := by rw [hd]; exact dig_lt _ _ _
  have cg := cgZ h3 h10 hg h5 hE
  refine ⟨?_, fun j hj => ?_⟩
  · show E36 _ (nzO Z (goS (czO Z) (nzO Z) n x f i) (dig n x i))
    rw [← hd]
    exact (py_c36 (E36.rf _) (nZ_of hc.2) (h10 d) (hg.2 d h5)).tr cg.2
  · rcases (show j < i ∨ j = i by omega) with q | q
    · exact hA j q
    · rw [q, ← hd, ← cg.1]; exact hc.1
theorem DG_f (h3 : Z 3 0 ≤ 6) (h10 : ∀ d, Z 10 d < 5) (hx : x < 5 ^ n) (hi : i < n) (hg : Iv 5 g) (hE : E36 g (goS (czO Z) (nzO Z) n x f i)) (hd : d = dig n x i) (hc : czO Z g d = 0) : ¬ goR (czO Z) (nzO Z) n f x := fun q => by
  have h5 : d < 5 := by rw [hd]; exact dig_lt _ _ _
  have cg := cgZ h3 h10 hg h5 hE
  exact (goR_iff n f x hx).mp q i hi (by rw [← hd, ← cg.1]; exact hc)
theorem BR_no (hn : n ≤ 5) (h10 : ∀ d, Z 10 d < 5) {m : Nat} (hf : Iv n f) (hx : x < 5 ^ m) (hb : BadR (f 35) m x) : ¬ goR (czO Z) (nzO Z) m f x := fun q => by
  obtain ⟨a, b⟩ := go_ok (I := Iv n) (fun f d hf hd hc => ⟨(IvZ hn h10 f d hf hd hc).2.2.2.1, (IvZ hn h10 f d hf hd hc).2.1, (IvZ hn h10 f d hf hd hc).2.2.2.2⟩) m f x hf hx q
  rcases hb with ⟨p, p1, p2⟩ | ⟨p, r, p1, p2, p3⟩
  · have := a p p1; omega
  · exact b p r p1 p2 p3
theorem IZ (hn : n ≤ 5) (h10 : ∀ d, Z 10 d < 5) : ∀ f d, Iv n f → d < 5 → czO Z f d ≠ 0 → d < n ∧ Iv n (nzO Z f d) := fun f d hf hd hc => ⟨(IvZ hn h10 f d hf hd hc).1, (IvZ hn h10 f d hf hd hc).2.1⟩
theorem bZ_pop (hn : n ≤ 5) (h10 : ∀ d, Z 10 d < 5) (hf : Iv n f) : (bR (czO Z) (nzO Z) n 5 f).1 ≤ popN (f 35) := bR_pop (I := Iv n) (fun f d hf hd hc => ⟨(IvZ hn h10 f d hf (by omega) hc).2.1, (IvZ hn h10 f d hf (by omega) hc).2.2.1⟩) 5 f hf
end GOZ
