theorem knB_hi {f : Nat → Nat} {j : Nat} (h : f 36 ≤ 9) (hj : 397 ≤ j) : knB f j = f j := by
  unfold knB
  rw [un_n (by omega)]
  unfold cpN
  rw [if_neg (by omega)]
theorem kn_hi {f : Nat → Nat} {j : Nat} (h : f 36 ≤ 10) (hj : 397 ≤ j) : knN f j = f j := by
  unfold knN
  split
  · rw [knB_hi (by rw [un_s]; omega) hj, un_n (by omega)]
    unfold shN
    rw [if_neg (by omega)]
  · exact knB_hi (by omega) hj
def IM (L X I J : Nat → Nat → Nat) (f b : Nat → Nat) : Prop := (b 0 = X 7 0 / 2 ^ 0 % 2 ∧ (b 0 ≠ 0 → NT L I (fun j => f (397 * (1 + 0) + j)))) ∧ (b 1 = X 7 0 / 2 ^ 1 % 2 ∧ (b 1 ≠ 0 → NT L J (fun j => f (397 * (1 + 1) + j))))
theorem NT.cg {L N : Nat → Nat → Nat} {f g : Nat → Nat} (hd : L 6 0 ≤ 5) (hk : N 2 0 ≤ 10) (h : NT L N f) (e : ∀ j, j < 397 → g j = f j) : NT L N g := by
  obtain ⟨a, b, c⟩ := h
  exact ⟨a.cg hd (fun _ _ => rfl) (fun j hj => e j (by omega)), by rw [e 36 (by omega)]; exact b, fun i hi => (c i hi).cg hd (fun _ _ => rfl) (fun j hj => e _ (by omega))⟩
theorem IM.cg {L X I J : Nat → Nat → Nat} {f b g : Nat → Nat} (h : IM L X I J f b) (e : ∀ j, 397 ≤ j → g j = f j) : IM L X I J g b := by
  obtain ⟨⟨a1, a2⟩, b1, b2⟩ := h
  have e0 : (fun j => g (397 * (1 + 0) + j)) = fun j => f (397 * (1 + 0) + j) := funext (fun j => e _ (by omega))
  have e1 : (fun j => g (397 * (1 + 1) + j)) = fun j => f (397 * (1 + 1) + j) := funext (fun j => e _ (by omega))
  unfold IM
  rw [e0, e1]
  exact ⟨⟨a1, a2⟩, b1, b2⟩
def TK (X Z L : Nat → Nat → Nat) : Prop := ∀ i, i < X 12 0 → X 11 i = Z 27 i ∧ X 11 i < L 0 0
def TiB (S : Nat → Nat → Nat → Nat) : Prop := LR (S 12) (S 3) ∧ LG (S 3) ∧ NT (S 3) (S 5) (S 12 20) ∧ IM (S 3) (S 0) (S 6) (S 7) (S 12 20) (S 12 21) ∧ TK (S 0) (S 12) (S 3)
def RelB (S : Nat → Nat → Nat → Nat) (tx tz : Int64) : Prop := RelA S tx tz ∧ TiB S
theorem TiB.cg {S S' : Nat → Nat → Nat → Nat} (h : TiB S) (x7 : S' 0 7 = S 0 7) (x11 : S' 0 11 = S 0 11) (x12 : S' 0 12 = S 0 12) (l : S' 3 = S 3) (n : S' 5 = S 5) (i : S' 6 = S 6) (j : S' 7 = S 7) (hz : ∀ k, k ∈ [3, 4, 5, 6, 7, 9, 10, 12, 13, 20, 21, 27] → S' 12 k = S 12 k) : TiB S' := by
  obtain ⟨h1, h2, h3, h4, h5⟩ := h
  unfold TiB LR IM TK
  rw [l, n, i, j, x7, x11, x12, hz 3 (by decide), hz 4 (by decide), hz 5 (by decide), hz 6 (by decide), hz 7 (by decide), hz 9 (by decide), hz 10 (by decide), hz 12 (by decide), hz 13 (by decide), hz 20 (by decide), hz 21 (by decide), hz 27 (by decide)]
  exact ⟨h1, h2, h3, h4, h5⟩
/-- a change of what is now, remembered -/
theorem TiB.now {S : Nat → Nat → Nat → Nat} {tx tz : Int64} {F H : Nat → Nat} {u v : Nat → Nat → Nat} (h : RelB S tx tz) (hu : u = ua (remN (S 5)) 0 F) (hv : v 20 = H) (hc : CT (S 3) F H) (hh : ∀ j, 36 ≤ j → H j = knN (S 12 20) j) (hz : ∀ k, k ∈ [3, 4, 5, 6, 7, 9, 10, 12, 13, 21, 27] → v k = S 12 k) : TiB (us (us S 5 u) 12 v) := by
  obtain ⟨⟨⟨hX, hT, hL, hM, hN, _⟩, _⟩, h1, h2, h3, h4, h5⟩ := h
  have d5 := hL.2.2.1
  have k10 := hN.2.2
  have b36 : S 12 20 36 ≤ 10 := by rw [h3.2.1]; exact k10
  subst hu
  refine ⟨?_, h2, ?_, ?_, ?_⟩
  · show LR v (S 3)
    unfold LR
    rw [hz 3 (by decide), hz 4 (by decide), hz 5 (by decide), hz 6 (by decide), hz 7 (by decide), hz 9 (by decide), hz 10 (by decide), hz 12 (by decide), hz 13 (by decide)]
    exact h1
  · show NT (S 3) (ua (remN (S 5)) 0 F) (v 20)
    rw [hv]; exact h3.upd d5 k10 hc hh
  · show IM (S 3) (S 0) (S 6) (S 7) (v 20) (v 21)
    rw [hv, hz 21 (by decide)]
    exact h4.cg (fun j hj => by rw [hh j (by omega), kn_hi b36 hj])
  · show TK (S 0) v (S 3)
    unfold TK; rw [hz 27 (by decide)]; exact h5
theorem pop_sum (x : Nat) : popN x = sumN (fun k => x / 2 ^ k % 2) 6 := by
  unfold popN
  show _ = 0 + x / 2 ^ 0 % 2 + x / 2 ^ 1 % 2 + x / 2 ^ 2 % 2 + x / 2 ^ 3 % 2 + x / 2 ^ 4 % 2 + x / 2 ^ 5 % 2
  simp only [Nat.pow_zero, Nat.div_one, Nat.zero_add, show (2:Nat) ^ 1 = 2 from rfl, show (2:Nat) ^ 2 = 4 from rfl, show (2:Nat) ^ 3 = 8 from rfl, show (2:Nat) ^ 4 = 16 from rfl, show (2:Nat) ^ 5 = 32 from rfl]
theorem or1 : ∀ x, x ≤ 3 → (x ||| 1) / 2 ^ 0 % 2 = 1 ∧ (x ||| 1) / 2 ^ 1 % 2 = x / 2 ^ 1 % 2 ∧ (x ||| 2) / 2 ^ 0 % 2 = x / 2 ^ 0 % 2 ∧ (x ||| 2) / 2 ^ 1 % 2 = 1 := by
  intro x hx
  rcases (show x = 0 ∨ x = 1 ∨ x = 2 ∨ x = 3 by omega) with rfl | rfl | rfl | rfl <;> decide

theorem m_ask : ∀ k, k ∈ [3, 4, 5, 6, 7, 9, 10, 12, 13, 20, 21, 27] → k ∉ [22, 23, 24, 25, 26] := by decide
theorem m_a3 : ∀ k, k ∈ [3, 4, 5, 6, 7, 9, 10, 12, 13, 20, 21, 27] → k ∉ [23, 24, 25] := by decide
theorem m_12 : ∀ k, k ∈ [3, 4, 5, 6, 7, 9, 10, 12, 13, 20, 21, 27] → k ≠ 1 ∧ k ≠ 2 ∧ k ≠ 28 := by decide
theorem m_now : ∀ k, k ∈ [3, 4, 5, 6, 7, 9, 10, 12, 13, 21, 27] → k ≠ 20 ∧ k ≠ 23 ∧ k ≠ 24 ∧ k ≠ 25 := by decide
theorem inj5 {a b : Nat} (h : nI a = nI b) (ha : a < 10) (hb : b < 10) : a = b := inN_inj h (by omega) (by omega)
/-- payments of both sides -/
theorem th_tie {S : Nat → Nat → Nat → Nat} {tx tz : Int64} (h : RelB S tx tz) {d : Nat} (hd : d < S 3 6 0) : (∀ c, c < S 3 0 0 → thN (S 12) 20 (S 12 10 d) (S 12 20 (30 + d)) c = thX (S 3) (S 5) d (S 5 0 (30 + d)) c) ∧ (∀ c, S 3 0 0 ≤ c → c < 6 → thN (S 12) 20 (S 12 10 d) (S 12 20 (30 + d)) c = 0) := by
  obtain ⟨⟨⟨hX, hT, hL, hM, hN, _⟩, _⟩, ⟨⟨r1, r2, r3, r4⟩, r5, r6, r7⟩, ⟨g1, g2, g3⟩, ⟨⟨c1, c2, c3, c4, c5⟩, _⟩, _⟩ := h
  have l0 := hL.1
  have l3 := hL.2.1
  have l6 := hL.2.2.1
  have ed := (r7 d hd).1
  have ec := c2 d hd
  have gd := (g2 d hd).1
  refine ⟨fun c hc => ?_, fun c hc hc6 => ?_⟩
  · unfold thN thX doN abN
    rw [ed, ec.1, r1, r4, (r5 c hc).1, r6 _ ec.2]
    by_cases q : S 3 1 c ≤ S 3 4 (S 5 0 (30 + d)) + 7 ∧ S 3 4 (S 5 0 (30 + d)) + 7 < S 3 1 c + S 3 10 0
    · rw [if_pos ⟨hc, q⟩, if_pos ⟨hc, by rw [if_pos q]; decide⟩, Nat.mul_comm 6]
      exact c1 _ (by omega)
    · rw [if_neg (fun y => q y.2), if_neg (fun y => y.2 (if_neg q))]
  · unfold thN
    rw [r1, if_neg (fun y => absurd y.1 (by omega))]
theorem w_tie {S : Nat → Nat → Nat → Nat} {tx tz : Int64} (h : RelB S tx tz) : ∀ c, c < S 3 0 0 → S 12 5 c = S 3 2 c ∧ 1 ≤ S 3 2 c := fun c hc => ⟨(h.2.1.2.1 c hc).2, (h.2.2.1.1 c hc).1⟩
theorem pz_n {S : Nat → Nat → Nat → Nat} {tx tz : Int64} (h : RelB S tx tz) {d : Nat} (hd : d < S 3 6 0) (hx : PXn (S 3) (thX (S 3) (S 5) d (S 5 0 (30 + d))) (S 3 9 d)) {r : Int32} {P : Nat → Nat} (hz : PZ (S 12 5) (thN (S 12) 20 (S 12 10 d) (S 12 20 (30 + d))) (S 12 12 d) r P) : r = -9 := by
  obtain ⟨F, hF, eF⟩ := hx
  obtain ⟨G, hG, q⟩ := hz
  have hL := h.1.1.2.2.1
  have z60 := hL.2.2.2.2.2.2.2.2.2.2.2 d
  have ez : S 12 12 d = S 3 9 d := (h.2.1.2.2.2 d hd).2
  have t := tab_tie hL.1 z60 hF hG (w_tie h) (th_tie h hd).1 (th_tie h hd).2 (S 3 0 0) (Nat.le_refl _) (S 3 9 d) (Nat.le_refl _)
  rw [Nat.sub_self, Nat.mul_zero, Nat.zero_add] at t
  rcases q with q | q
  · exact q.1
  · rw [ez] at q; rcases t with t | t <;> omega
theorem pz_y {S : Nat → Nat → Nat → Nat} {tx tz : Int64} (h : RelB S tx tz) {d k : Nat} (hd : d < S 3 6 0) {Q : Nat → Nat} (hx : PXy (S 3) (thX (S 3) (S 5) d (S 5 0 (30 + d))) Q (S 3 9 d) k) {r : Int32} {P : Nat → Nat} (hz : PZ (S 12 5) (thN (S 12) 20 (S 12 10 d) (S 12 20 (30 + d))) (S 12 12 d) r P) : k < 1000 ∧ r = nI k ∧ (∀ c, c < 6 → Q c = P c) ∧ sumN P 6 = k := by
  obtain ⟨k6, ⟨F, hF, eF, l, hC⟩, h0⟩ := hx
  obtain ⟨G, hG, q⟩ := hz
  have hL := h.1.1.2.2.1
  have z60 := hL.2.2.2.2.2.2.2.2.2.2.2 d
  have ez : S 12 12 d = S 3 9 d := (h.2.1.2.2.2 d hd).2
  have tt := th_tie h hd
  have t := tab_tie hL.1 z60 hF hG (w_tie h) tt.1 tt.2 (S 3 0 0) (Nat.le_refl _) (S 3 9 d) (Nat.le_refl _)
  rw [Nat.sub_self, Nat.mul_zero, Nat.zero_add] at t
  rw [ez] at q
  have hlt : G (S 3 9 d) < 1000 ∧ F (S 3 9 d) = G (S 3 9 d) := by rcases t with t | t <;> omega
  rcases q with q | ⟨q1, q2, l', q3⟩
  · omega
  · refine ⟨by omega, by rw [q2]; exact congrArg nI (by omega), fun c hc => ?_, ?_⟩
    · rcases Nat.lt_or_ge c (S 3 0 0) with y | y
      · exact ch_tie hL.1 z60 hF hG (w_tie h) tt.1 tt.2 hlt.1 hC q3 c y
      · have := ChI_le q3 c hc
        rw [tt.2 c y hc] at this
        rw [h0 c y hc]; omega
    · rw [ch_sum z60 hG q1 q3]; omega
theorem can_tie {S : Nat → Nat → Nat → Nat} {tx tz : Int64} (h : RelB S tx tz) {d : Nat} (hd : d < S 3 6 0) {Y : Nat → Nat → Nat} {P : Nat → Nat} : (CanX (S 3) (S 5) Y d → NotZ (S 12) 20 d P → False) ∧ (NotX (S 3) (S 5) Y d → CanZ (S 12) 20 d P → False) ∧ (CanX (S 3) (S 5) Y d → CanZ (S 12) 20 d P → (∀ c, c < 6 → Y 1 c = P c) ∧ sumN P 6 = Y 3 0) := by
  have hR := h
  obtain ⟨⟨⟨hX, hT, hL, hM, hN, _⟩, _⟩, ⟨⟨r1, r2, r3, r4⟩, r5, r6, r7⟩, ⟨g1, g2, g3⟩, ⟨⟨c1, c2, c3, c4, c5⟩, _⟩, _⟩ := h
  have l0 := hL.1
  have l3 := hL.2.1
  have ec := c2 d hd
  have cell : ∀ c, c < 6 → S 12 20 (6 * S 12 20 (30 + d) + c) = S 5 0 (S 5 0 (30 + d) * 6 + c) := fun c hc => by rw [ec.1, Nat.mul_comm 6]; exact c1 _ (by omega)
  refine ⟨fun x z => ?_, fun x z => ?_, fun x z => ?_⟩
  · obtain ⟨x1, x2, x3⟩ := x
    rcases z with z | z | ⟨⟨n, hn, z1⟩, c, hc, z2⟩
    · rw [c3] at z; omega
    · have := (pz_y hR hd x2 z).2.1
      exact nI_ne9 (by have := (pz_y hR hd x2 z).1; omega) this.symm
    · have := (pz_y hR hd x2 z1).2.2.1 c hc
      have := x3 c hc
      rw [cell c hc] at z2
      omega
  · obtain ⟨z1, ⟨n, hn, z2⟩, z3⟩ := z
    rcases x with x | x | ⟨x1, c, hc, x2⟩
    · rw [c3] at z1; omega
    · exact nI_ne9 (by omega) (pz_n hR hd x z2)
    · have := (pz_y hR hd x1 z2).2.2.1 c hc
      have := z3 c hc
      rw [cell c hc] at this
      omega
  · obtain ⟨x1, x2, x3⟩ := x
    obtain ⟨z1, ⟨n, hn, z2⟩, z3⟩ := z
    exact ⟨(pz_y hR hd x2 z2).2.2.1, (pz_y hR hd x2 z2).2.2.2⟩
theorem TiB.same {S : Nat → Nat → Nat → Nat} {u u' : Nat → Nat → Nat} (h : TiB S) (a : u = S 5) (b : u' = S 12) : TiB (us (us S 5 u) 12 u') := by
  rw [a, b]
  exact h.cg rfl rfl rfl rfl rfl rfl rfl (fun _ _ => rfl)
theorem un_cg {f g : Nat → Nat} {i v : Nat} (h : ∀ j, j < 36 → f j = g j) : ∀ j, j < 36 → un f i v j = un g i v j := fun j hj => by
  unfold un; split
  · rfl
  · exact h j hj
theorem TiB.cell {S : Nat → Nat → Nat → Nat} {tx tz : Int64} (hR : RelB S tx tz) {p c v w : Nat} {u u' : Nat → Nat → Nat} (hp : p < S 3 3 0) (hc : c < S 3 0 0) (e : w = v) (hu : u = ua (remN (S 5)) 0 (un (S 5 0) (p * 6 + c) v)) (hv : u' = ua (S 12) 20 (un (knN (S 12 20)) (6 * p + c) w)) : TiB (us (us S 5 u) 12 u') := by
  subst e
  have hL := hR.1.1.2.2.1
  have l0 := hL.1
  have l3 := hL.2.1
  have l6 := hL.2.2.1
  refine TiB.now hR hu (by rw [hv]; rfl) ((hR.2.2.2.1.1.set hp hc l3 l0).cg l6 (fun _ _ => rfl) (un_cg (fun j hj => kn_lo hj))) (fun j hj => un_n (by omega)) (fun k hk => by rw [hv]; exact ua_n (m_now k hk).1)
theorem rb_lf {S : Nat → Nat → Nat → Nat} {tx tz : Int64} (hR : RelB S tx tz) : S 12 6 0 = S 3 3 0 ∧ S 12 3 0 = S 3 0 0 ∧ S 12 9 0 = S 3 6 0 ∧ S 3 3 0 ≤ 5 ∧ S 3 0 0 ≤ 6 ∧ S 3 6 0 ≤ 5 := ⟨hR.2.1.1.2.1, hR.2.1.1.1, hR.2.1.1.2.2.1, hR.1.1.2.2.1.2.1, hR.1.1.2.2.1.1, hR.1.1.2.2.1.2.2.1⟩
theorem stl_cg {f g P : Nat → Nat} {db cr : Nat} (h : ∀ j, j < 36 → f j = g j) (h1 : db < 5) (h2 : cr < 5) : ∀ n, n ≤ 6 → ∀ j, j < 36 → stlN f P db cr n j = stlN g P db cr n j
  | 0, _, j, hj => h j hj
  | n + 1, hn, j, hj => by
    have ih := stl_cg (P := P) h h1 h2 n (by omega)
    show un (un _ _ _) _ _ j = un (un _ _ _) _ _ j
    have e1 := ih (db * 6 + n) (by omega)
    have k : ∀ i, i < 36 → un (stlN f P db cr n) (db * 6 + n) (stlN f P db cr n (db * 6 + n) - P n) i = un (stlN g P db cr n) (db * 6 + n) (stlN g P db cr n (db * 6 + n) - P n) i := by
      rw [e1]; exact un_cg ih
    rw [k _ (by omega)]
    exact un_cg k j hj
theorem py_cg {f g P : Nat → Nat} {db cr d : Nat} (h : ∀ j, j < 36 → f j = g j) (h1 : db < 5) (h2 : cr < 5) : ∀ j, j < 36 → pyN f P db cr d j = pyN g P db cr d j := by
  unfold pyN
  have k := stl_cg (P := P) h h1 h2 6 (Nat.le_refl _)
  rw [k 35 (by omega)]
  exact un_cg k
theorem sumN_cg {f g : Nat → Nat} : ∀ n, (∀ i, i < n → f i = g i) → sumN f n = sumN g n
  | 0, _ => rfl
  | n + 1, h => by show sumN f n + f n = sumN g n + g n; rw [sumN_cg n (fun i hi => h i (by omega)), h n (by omega)]
theorem sumN_cut {f : Nat → Nat} {n : Nat} : ∀ k, (∀ q, n ≤ q → q < n + k → f q = 0) → sumN f (n + k) = sumN f n
  | 0, _ => rfl
  | k + 1, h => by show sumN f (n + k) + f (n + k) = _; rw [sumN_cut k (fun q a b => h q a (by omega)), h (n + k) (by omega) (by omega), Nat.add_zero]
theorem bitsN_cg {f g : Nat → Nat} : ∀ n, (∀ i, i < n → (f i = 0 ↔ g i = 0)) → bitsN f n = bitsN g n
  | 0, _ => rfl
  | n + 1, h => by
    show bitsN f n ||| _ = bitsN g n ||| _
    rw [bitsN_cg n (fun i hi => h i (by omega))]
    by_cases q : f n = 0
    · rw [if_pos q, if_pos ((h n (by omega)).mp q)]
    · rw [if_neg q, if_neg (fun y => q ((h n (by omega)).mpr y))]
theorem sum5 {L : Nat → Nat → Nat} {f g : Nat → Nat} (h : CT L f g) (h5 : L 3 0 ≤ 5) {c : Nat} (hc : c < 6) : sumN (fun p => g (6 * p + c)) (L 3 0) = sumN (fun q => f (q * 6 + c)) 5 := by
  rw [sumN_cg (L 3 0) (fun i hi => h.h (show i < 5 by omega) hc)]
  have := sumN_cut (f := fun q => f (q * 6 + c)) (n := L 3 0) (5 - L 3 0) (fun q a b => by
    by_cases y : f (q * 6 + c) = 0
    · exact y
    · have := (h.2.2.2.2 q c (by omega) hc y).1; omega)
  rw [show L 3 0 + (5 - L 3 0) = 5 by omega] at this
  exact this.symm
section ASK
variable {S : Nat → Nat → Nat → Nat} {tx tz : Int64}
theorem gz_tie (h : RelB S tx tz) {c p : Nat} (hc : c < S 3 0 0) (hp : p < S 3 3 0) : gz (S 12) c p = doN (S 3) c p := by
  obtain ⟨⟨r1, r2, r3, r4⟩, r5, r6, r7⟩ := h.2.1
  unfold gz doN abN
  rw [(r5 c hc).1, r6 p hp, r4]
theorem cn_tie (h : RelB S tx tz) {c k : Nat} (hc : c < S 3 0 0) : cnX (S 3) (S 5) c k = cnZ (S 12) c k := by
  obtain ⟨e6, e3, e9, l3, l0, l6⟩ := rb_lf h
  unfold cnX cnZ
  rw [(h.2.1.2.1 c hc).1, (h.2.1.2.1 c hc).2, e6, sum5 h.2.2.2.1.1 l3 (by omega), bitsN_cg (g := fun p => gz (S 12) c p) (S 3 3 0) (fun i hi => by rw [gz_tie h hc hi])]
theorem ease_tie (h : RelB S tx tz) {p : Nat} (hp : p < S 3 3 0) : sumN (fun c => if doN (S 3) c p = 0 then 0 else sumN (fun q => S 5 0 (q * 6 + c)) 5 * S 3 2 c) (S 3 0 0) = sumN (fun c => if S 12 4 c ≤ S 12 7 p + 7 ∧ S 12 7 p + 7 < S 12 4 c + S 12 13 0 then sumN (fun q => S 12 20 (6 * q + c)) (S 12 6 0) * S 12 5 c else 0) (S 12 3 0) := by
  obtain ⟨e6, e3, e9, l3, l0, l6⟩ := rb_lf h
  rw [e3]
  refine sumN_cg _ (fun c hc => ?_)
  have g := gz_tie h hc hp
  show (if doN (S 3) c p = 0 then 0 else _) = _
  rw [← g, e6, sum5 h.2.2.2.1.1 l3 (show c < 6 by omega), (h.2.1.2.1 c hc).2]
  unfold gz
  by_cases q : S 12 4 c ≤ S 12 7 p + 7 ∧ S 12 7 p + 7 < S 12 4 c + S 12 13 0
  · rw [if_pos q, if_pos q]; rfl
  · rw [if_neg q, if_neg q]; rfl
theorem has_tie (h : RelB S tx tz) {p : Nat} (hp : p < S 3 3 0) : sumN (fun c => S 5 0 (p * 6 + c) * S 3 2 c) (S 3 0 0) = sumN (fun c => S 12 20 (6 * p + c) * S 12 5 c) (S 12 3 0) := by
  obtain ⟨e6, e3, e9, l3, l0, l6⟩ := rb_lf h
  rw [e3]
  exact sumN_cg _ (fun c hc => by rw [h.2.2.2.1.1.h (show p < 5 by omega) (show c < 6 by omega), (h.2.1.2.1 c hc).2])
theorem pn_tie (h : RelB S tx tz) {p k : Nat} (hp : p < S 3 3 0) : pnX (S 3) (S 5) p k = pnZ (S 12) p k := by
  obtain ⟨e6, e3, e9, l3, l0, l6⟩ := rb_lf h
  unfold pnX pnZ
  rw [has_tie h hp, ease_tie h hp, bitsN_cg (g := fun c => gz (S 12) c p) (S 3 0 0) (fun i hi => by rw [gz_tie h hi hp]), e3, ← h.2.1.2.2.1 p hp]
theorem sum_pos {f : Nat → Nat} : ∀ n, 0 < sumN f n ↔ ∃ i, i < n ∧ 0 < f i
  | 0 => ⟨fun h => absurd h (Nat.lt_irrefl 0), fun ⟨i, h, _⟩ => absurd h (Nat.not_lt_zero i)⟩
  | n + 1 => by
    have ih := sum_pos (f := f) n
    show 0 < sumN f n + f n ↔ _
    constructor
    · intro h
      by_cases q : 0 < f n
      · exact ⟨n, by omega, q⟩
      · obtain ⟨i, a, b⟩ := ih.mp (by omega)
        exact ⟨i, by omega, b⟩
    · rintro ⟨i, a, b⟩
      rcases (show i < n ∨ i = n by omega) with y | rfl
      · have := ih.mpr ⟨i, y, b⟩; omega
      · omega
theorem any_tie (h : RelB S tx tz) {p : Nat} (hp : p < S 3 3 0) : 0 < anyN (fun c => S 5 0 (p * 6 + c)) 6 ↔ 0 < sumN (fun c => S 12 20 (6 * p + c) * S 12 5 c) (S 12 3 0) := by
  obtain ⟨e6, e3, e9, l3, l0, l6⟩ := rb_lf h
  rw [← has_tie h hp, sum_pos]
  have ha : 0 < anyN (fun c => S 5 0 (p * 6 + c)) 6 ↔ 0 < sumN (fun c => S 5 0 (p * 6 + c)) 6 := by unfold anyN; split <;> omega
  rw [ha, sum_pos]
  constructor
  · rintro ⟨c, hc, q⟩
    have y := (h.2.2.2.1.1.2.2.2.2 p c (by omega) hc (by omega)).2
    exact ⟨c, y, Nat.mul_pos q (h.2.2.1.1 c y).1⟩
  · rintro ⟨c, hc, q⟩
    exact ⟨c, by omega, Nat.pos_of_mul_pos_right q⟩
theorem ld_tie (h : RelB S tx tz) {p : Nat} : ldN (fun o => sumN (fun c => if doN (S 3) c o = 0 then 0 else sumN (fun q => S 5 0 (q * 6 + c)) 5 * S 3 2 c) (S 3 0 0)) (fun o => anyN (fun c => S 5 0 (o * 6 + c)) 6) p (S 3 3 0) = ldN (fun o => sumN (fun c => if S 12 4 c ≤ S 12 7 o + 7 ∧ S 12 7 o + 7 < S 12 4 c + S 12 13 0 then sumN (fun p => S 12 20 (6 * p + c)) (S 12 6 0) * S 12 5 c else 0) (S 12 3 0)) (fun o => sumN (fun c => S 12 20 (6 * o + c) * S 12 5 c) (S 12 3 0)) p (S 3 3 0) :=
  ldN_cg _ (fun o ho => ease_tie h ho) (fun o ho => any_tie h ho)
theorem andN_cg {f g : Nat → Nat} : ∀ n, (∀ i, i < n → f i = g i) → andN f n = andN g n
  | 0, _ => rfl
  | n + 1, h => by show (if _ then _ else _) = (if _ then _ else _); rw [andN_cg n (fun i hi => h i (by omega)), h n (by omega)]
theorem yr_tie (h : RelB S tx tz) : (fun y => andN (fun i => abN (S 3) (S 0 11 i) (y + 7)) (S 0 12 0)) = fun y => andN (gy (S 12) y) (S 12 28 0) := by
  funext y
  rw [← h.1.2.2.2.2.1]
  refine andN_cg _ (fun i hi => ?_)
  obtain ⟨t1, t2⟩ := h.2.2.2.2.2 i hi
  obtain ⟨⟨r1, r2, r3, r4⟩, r5, r6, r7⟩ := h.2.1
  unfold abN gy
  rw [← t1, (r5 _ t2).1, r4]
theorem mk_tie (h : RelB S tx tz) {c k : Nat} (hc : c < S 3 0 0) : mkX (S 3) (S 5) c k = mkZ (S 12) c k := by
  obtain ⟨e6, e3, e9, l3, l0, l6⟩ := rb_lf h
  unfold mkX mkZ
  rw [(h.2.1.2.1 c hc).1, (h.2.1.2.1 c hc).2, e6, sum5 h.2.2.2.1.1 l3 (show c < 6 by omega), pop_sum, pop_sum, h.2.2.2.1.1.2.2.1, bitsN_cg (g := fun p => gz (S 12) c p) (S 3 3 0) (fun i hi => by rw [gz_tie h hc hi]), Nat.mul_comm 2]
end ASK

section NOWT
variable {S : Nat → Nat → Nat → Nat} {tx tz : Int64}
theorem pw_tie (h : RelB S tx tz) {d l : Nat} (hd : d < S 3 6 0) : pwX (S 3) (S 5) d l = pwZ (S 12) d l := by
  obtain ⟨e6, e3, e9, l3, l0, l6⟩ := rb_lf h
  have ct := h.2.2.2.1.1
  have hcr := ct.2.1 d hd
  have ez := (h.2.1.2.2.2 d hd).2
  refine iP_cg ?_
  rw [ez]
  have hx := rch_ext (w := S 12 5) (t := twN (S 12) (S 12 20 (30 + d)) l) (n := S 3 0 0) (s := S 3 9 d) (6 - S 3 0 0) (fun c a b => by unfold twN; rw [if_neg (fun y => absurd y.1 (by omega))])
  rw [show S 3 0 0 + (6 - S 3 0 0) = 6 by omega] at hx
  rw [hx]
  refine rch_cg _ (fun c hc => ⟨((h.2.1.2.1 c hc).2).symm, ?_⟩) _
  have g := gz_tie h hc hcr.2
  unfold twX twN
  rw [hcr.1, e6, e3, sum5 ct l3 (show c < 6 by omega), ← g]
  unfold gz
  by_cases q : l / 2 ^ c % 2 = 1
  · rw [if_pos q, if_neg (fun y => absurd y.2.1 (by omega))]
  · rw [if_neg q]
    by_cases y : S 12 4 c ≤ S 12 7 (S 5 0 (30 + d)) + 7 ∧ S 12 7 (S 5 0 (30 + d)) + 7 < S 12 4 c + S 12 13 0
    · rw [if_pos y, if_neg (by decide), if_pos ⟨hc, by omega, y⟩]
    · rw [if_neg y, if_pos rfl, if_neg (fun z => y z.2.2)]
theorem hp_tie (h : RelB S tx tz) {d : Nat} (hd : d < S 3 6 0) : hpX (S 3) (S 5) d = hpZ (S 12) d := by
  unfold hpX hpZ
  rw [h.2.2.2.1.1.2.2.1, pw_tie h hd]
theorem nw_tie (h : RelB S tx tz) {k : Nat} : nwX (S 3) (S 5) k = nwZ (S 12) k := by
  obtain ⟨e6, e3, e9, l3, l0, l6⟩ := rb_lf h
  unfold nwX nwZ
  rw [h.2.2.2.1.1.2.2.1, e9, e6, bitsN_cg (g := hpZ (S 12)) (S 3 6 0) (fun i hi => by rw [hp_tie h hi]), sumN_cg (g := fun p => sumN (fun c => S 12 20 (6 * p + c) * S 12 5 c) (S 12 3 0)) (S 3 3 0) (fun p hp => has_tie h hp), sumN_cg (f := fun d => if S 5 0 35 / 2 ^ d % 2 = 0 then 0 else S 3 9 d) (g := fun d => if S 5 0 35 / 2 ^ d % 2 = 0 then 0 else S 12 12 d) (S 3 6 0) (fun d hd => by rw [(h.2.1.2.2.2 d hd).2])]
end NOWT

theorem rch_z {w t : Nat → Nat} : ∀ n s, (∀ c, c < n → t c = 0) → rch w t n s → s = 0
  | 0, _, _, h => h
  | n + 1, s, ht, h => by
    obtain ⟨m, m1, m2, m3⟩ := h
    have e := ht n (by omega)
    have e2 : m = 0 := by omega
    rw [e2, Nat.zero_mul, Nat.sub_zero] at m3
    exact rch_z n s (fun c hc => ht c (by omega)) m3
theorem bit_full : ∀ n, n ≤ 6 → ∀ c, c < n → (2 ^ n - 1) / 2 ^ c % 2 = 1 := by decide
theorem pwX_full {L N : Nat → Nat → Nat} {d : Nat} (hn : L 0 0 ≤ 6) (h : 1 ≤ L 9 d) : pwX L N d (2 ^ L 0 0 - 1) = 0 := iP_0 (fun q => absurd (rch_z _ _ (fun c hc => by unfold twX; rw [if_pos (bit_full _ hn c hc)]) q) (by omega))
theorem pwX_none {L N : Nat → Nat → Nat} {d : Nat} (h : 1 ≤ L 9 d) (h0 : pwX L N d 0 ≠ 0) : 1 ≤ L 0 0 := by
  rcases Nat.eq_zero_or_pos (L 0 0) with q | q
  · refine absurd (iP_0 (fun y => ?_)) h0
    exact absurd (rch_z _ _ (fun c hc => absurd hc (by omega)) y) (by omega)
  · exact q
theorem rb_type {S : Nat → Nat → Nat → Nat} {tx tz : Int64} (hR : RelB S tx tz) (v_c : Int32) (r : Int32) (u : (Nat → Nat → Nat) × (Nat → Nat → Nat)) (hx : (¬ inN v_c 256 ∧ r = -1 ∧ u.1 = (S 0) ∧ u.2 = (S 1)) ∨ (inN v_c 256 ∧ (S 0) 1 0 = 180 ∧ r = -3 ∧ u.1 = (S 0) ∧ u.2 = (S 1)) ∨ (∃ k, k < 256 ∧ v_c = nI k ∧ (S 0) 1 0 < 180 ∧ r = nI ((S 0) 1 0 + 1) ∧ u.1 = ua (S 0) 1 (fun _ => (S 0) 1 0 + 1) ∧ u.2 = ua (S 1) 0 (un ((S 1) 0) ((S 0) 1 0) k))) (r' : Int32) (u' : (Nat → Nat → Nat)) (hz : (¬ inN v_c 256 ∧ r' = -1 ∧ u' = (S 12)) ∨ (inN v_c 256 ∧ (S 12) 2 0 = 180 ∧ r' = -3 ∧ u' = (S 12)) ∨ (∃ k, k < 256 ∧ v_c = nI k ∧ (S 12) 2 0 < 180 ∧ r' = nI ((S 12) 2 0 + 1) ∧ u' = ua (ua (S 12) 1 (un ((S 12) 1) ((S 12) 2 0) k)) 2 (fun _ => (S 12) 2 0 + 1))) : r = r' ∧ RelB (us (us (us S 0 u.1) 1 u.2) 12 u') tx tz := by
  refine ⟨(rl_type hR.1 v_c r u hx r' u' hz).1, (rl_type hR.1 v_c r u hx r' u' hz).2, ?_⟩
  have ex : ∀ k, k ≠ 1 → u.1 k = S 0 k := by
    rcases hx with ⟨_, _, e, _⟩ | ⟨_, _, _, e, _⟩ | ⟨_, _, _, _, _, e, _⟩ <;> intro k hk <;> rw [e]
    exact ua_n hk
  have ez : ∀ k, k ≠ 1 → k ≠ 2 → u' k = S 12 k := by
    rcases hz with ⟨_, _, e⟩ | ⟨_, _, _, e⟩ | ⟨_, _, _, _, _, e⟩ <;> intro k h1 h2 <;> rw [e]
    rw [ua_n h2, ua_n h1]
  exact hR.2.cg (ex 7 (by decide)) (ex 11 (by decide)) (ex 12 (by decide)) rfl rfl rfl rfl (fun k hk => ez k (m_12 k hk).1 (m_12 k hk).2.1)
theorem rb_clear {S : Nat → Nat → Nat → Nat} {tx tz : Int64} (hR : RelB S tx tz)  (r : Int32) (u : (Nat → Nat → Nat)) (hx : r = nI ((S 0) 1 0) ∧ u = ua (S 0) 1 (fun _ => 0)) (r' : Int32) (u' : (Nat → Nat → Nat)) (hz : r' = nI ((S 12) 2 0) ∧ u' = ua (S 12) 2 (fun _ => 0)) : r = r' ∧ RelB (us (us S 0 u) 12 u') tx tz := by
  refine ⟨(rl_clear hR.1 r u hx r' u' hz).1, (rl_clear hR.1 r u hx r' u' hz).2, ?_⟩
  rw [hx.2, hz.2]
  exact hR.2.cg rfl rfl rfl rfl rfl rfl rfl (fun k hk => ua_n (m_12 k hk).2.1)
theorem rb_coin {S : Nat → Nat → Nat → Nat} {tx tz : Int64} (hR : RelB S tx tz) (v_c : Int32) (v_w : Int32) (r : Int32) (u : Unit) (hx : (¬ (inN v_c ((S 3) 0 0) ∧ inN v_w 4) ∧ r = -1) ∨ (∃ c k, c < (S 3) 0 0 ∧ k < 4 ∧ v_c = nI c ∧ v_w = nI k ∧ r = nI (cnX (S 3) (S 5) c k))) (r' : Int32) (u' : Unit) (hz : (¬ (inN v_c ((S 12) 3 0) ∧ inN v_w 4) ∧ r' = -1) ∨ (∃ c k, c < (S 12) 3 0 ∧ k < 4 ∧ v_c = nI c ∧ v_w = nI k ∧ r' = nI (cnZ (S 12) c k))) : r = r' ∧ RelB (S) tx tz := by
  obtain ⟨e6, e3, e9, l3, l0, l6⟩ := rb_lf hR
  rw [e3] at hz
  refine ⟨?_, hR⟩
  rcases hx with ⟨a1, a2⟩ | ⟨c, k, hc, hk, ec, ek, a⟩ <;> rcases hz with ⟨b1, b2⟩ | ⟨c', k', hc', hk', ec', ek', b⟩
  · exact a2.trans b2.symm
  · exact absurd ⟨⟨c', hc', ec'⟩, ⟨k', hk', ek'⟩⟩ a1
  · exact absurd ⟨⟨c, hc, ec⟩, ⟨k, hk, ek⟩⟩ b1
  · obtain rfl := inj5 (ec.symm.trans ec') (by omega) (by omega)
    obtain rfl := inj5 (ek.symm.trans ek') (by omega) (by omega)
    rw [a, b, cn_tie hR hc]
theorem rb_person {S : Nat → Nat → Nat → Nat} {tx tz : Int64} (hR : RelB S tx tz) (v_c : Int32) (v_w : Int32) (r : Int32) (u : Unit) (hx : (¬ (inN v_c ((S 3) 3 0) ∧ inN v_w 4) ∧ r = -1) ∨ (∃ c k, c < (S 3) 3 0 ∧ k < 4 ∧ v_c = nI c ∧ v_w = nI k ∧ r = nI (pnX (S 3) (S 5) c k))) (r' : Int32) (u' : Unit) (hz : (¬ (inN v_c ((S 12) 6 0) ∧ inN v_w 4) ∧ r' = -1) ∨ (∃ c k, c < (S 12) 6 0 ∧ k < 4 ∧ v_c = nI c ∧ v_w = nI k ∧ r' = nI (pnZ (S 12) c k))) : r = r' ∧ RelB (S) tx tz := by
  obtain ⟨e6, e3, e9, l3, l0, l6⟩ := rb_lf hR
  rw [e6] at hz
  refine ⟨?_, hR⟩
  rcases hx with ⟨a1, a2⟩ | ⟨c, k, hc, hk, ec, ek, a⟩ <;> rcases hz with ⟨b1, b2⟩ | ⟨c', k', hc', hk', ec', ek', b⟩
  · exact a2.trans b2.symm
  · exact absurd ⟨⟨c', hc', ec'⟩, ⟨k', hk', ek'⟩⟩ a1
  · exact absurd ⟨⟨c, hc, ec⟩, ⟨k, hk, ek⟩⟩ b1
  · obtain rfl := inj5 (ec.symm.trans ec') (by omega) (by omega)
    obtain rfl := inj5 (ek.symm.trans ek') (by omega) (by omega)
    rw [a, b, pn_tie hR hc]
theorem rb_holds {S : Nat → Nat → Nat → Nat} {tx tz : Int64} (hR : RelB S tx tz) (v_c : Int32) (v_e : Int32) (r : Int32) (u : Unit) (hx : (¬ (inN v_c ((S 3) 3 0) ∧ inN v_e ((S 3) 0 0)) ∧ r = -1) ∨ (∃ p c, p < (S 3) 3 0 ∧ c < (S 3) 0 0 ∧ v_c = nI p ∧ v_e = nI c ∧ r = nI ((S 5) 0 (p * 6 + c)))) (r' : Int32) (u' : Unit) (hz : (¬ (inN v_c ((S 12) 6 0) ∧ inN v_e ((S 12) 3 0)) ∧ r' = -1) ∨ (∃ p c, p < (S 12) 6 0 ∧ c < (S 12) 3 0 ∧ v_c = nI p ∧ v_e = nI c ∧ r' = nI ((S 12) 20 (6 * p + c)))) : r = r' ∧ RelB (S) tx tz := by
  obtain ⟨e6, e3, e9, l3, l0, l6⟩ := rb_lf hR
  rw [e6, e3] at hz
  refine ⟨?_, hR⟩
  rcases hx with ⟨a1, a2⟩ | ⟨p, c, hp, hc, ep, ec, a⟩ <;> rcases hz with ⟨b1, b2⟩ | ⟨p', c', hp', hc', ep', ec', b⟩
  · exact a2.trans b2.symm
  · exact absurd ⟨⟨p', hp', ep'⟩, ⟨c', hc', ec'⟩⟩ a1
  · exact absurd ⟨⟨p, hp, ep⟩, ⟨c, hc, ec⟩⟩ b1
  · obtain rfl := inj5 (ep.symm.trans ep') (by omega) (by omega)
    obtain rfl := inj5 (ec.symm.trans ec') (by omega) (by omega)
    rw [a, b, hR.2.2.2.1.1.h (by omega) (by omega)]
theorem rb_debt {S : Nat → Nat → Nat → Nat} {tx tz : Int64} (hR : RelB S tx tz) (v_c : Int32) (v_w : Int32) (r : Int32) (u : (Nat → Nat → Nat) × (Nat → Nat → Nat)) (hx : PayOk u.1 ∧ WorldOk u.2) (r' : Int32) (u' : (Nat → Nat → Nat)) (hz : ZP [23, 24, 25] u' (S 12)) : RelB (us (us (us S 8 u.1) 9 u.2) 12 u') tx tz := by
  exact ⟨rl_debt hR.1 v_c v_w r u hx r' u' hz, hR.2.cg rfl rfl rfl rfl rfl rfl rfl (fun k hk => hz.2 k (m_a3 k hk))⟩
theorem rb_pays {S : Nat → Nat → Nat → Nat} {tx tz : Int64} (hR : RelB S tx tz) (v_d : Int32) (r : Int32) (u : (Nat → Nat → Nat) × (Nat → Nat → Nat)) (hx : (NowOk u.1 ∧ PayOk u.2) ∧ ((¬ inN v_d ((S 3) 6 0) ∧ r = -1 ∧ u.1 = (S 5)) ∨ (∃ d, d < (S 3) 6 0 ∧ v_d = nI d ∧ ((NotX (S 3) (S 5) u.2 d ∧ r = -2 ∧ u.1 = (S 5)) ∨ (CanX (S 3) (S 5) u.2 d ∧ r = nI (u.2 3 0) ∧ u.1 = ua (remN (S 5)) 0 (pyN ((S 5) 0) (u.2 1) ((S 3) 7 d) ((S 5) 0 (30 + d)) d)))))) (r' : Int32) (u' : (Nat → Nat → Nat)) (hz : ZP [20, 21, 22, 23, 24, 25, 26] u' (S 12) ∧ ((¬ inN v_d ((S 12) 9 0) ∧ r' = -1 ∧ u' = (S 12)) ∨ (∃ d, d < (S 12) 9 0 ∧ v_d = nI d ∧ ∃ g F P, (∀ j, g j ≤ zb 23 j) ∧ (∀ j, F j ≤ zb 24 j) ∧ (∀ j, P j ≤ zb 25 j) ∧ ((NotZ (S 12) 20 d P ∧ r' = -2 ∧ u' = ua (ua (ua (S 12) 23 g) 24 F) 25 P) ∨ (CanZ (S 12) 20 d P ∧ r' = nI (sumN P 6) ∧ u' = ua (ua (ua (ua (S 12) 20 (pyN (knN ((S 12) 20)) P ((S 12) 10 d) ((S 12) 20 (30 + d)) d)) 23 g) 24 F) 25 P))))) : r = r' ∧ RelB (us (us (us S 5 u.1) 8 u.2) 12 u') tx tz := by
  have hA := rl_pays hR.1 v_d r u hx.1 r' u' hz
  obtain ⟨e6, e3, e9, l3, l0, l6⟩ := rb_lf hR
  obtain ⟨_, hx⟩ := hx
  obtain ⟨_, hz⟩ := hz
  rw [e9] at hz
  have same : ∀ {w : Nat → Nat → Nat} {v' : Nat → Nat → Nat}, w = S 5 → (∀ k, k ∈ [3, 4, 5, 6, 7, 9, 10, 12, 13, 20, 21, 27] → v' k = S 12 k) → TiB (us (us (us S 5 w) 8 u.2) 12 v') := fun a b => by
    rw [a]; exact hR.2.cg rfl rfl rfl rfl rfl rfl rfl b
  rcases hx with ⟨a1, a2, a3⟩ | ⟨d, hd, ed, a⟩ <;> rcases hz with ⟨b1, b2, b3⟩ | ⟨d', hd', ed', g, F, P, _, _, _, b⟩
  · exact ⟨a2.trans b2.symm, hA, same a3 (fun k _ => by rw [b3])⟩
  · exact absurd ⟨d', hd', ed'⟩ a1
  · exact absurd ⟨d, hd, ed⟩ b1
  · obtain rfl := inj5 (ed.symm.trans ed') (by omega) (by omega)
    obtain ⟨c1, c2, c3⟩ := can_tie hR hd (Y := u.2) (P := P)
    rcases a with ⟨a1, a2, a3⟩ | ⟨a1, a2, a3⟩ <;> rcases b with ⟨b1, b2, b3⟩ | ⟨b1, b2, b3⟩
    · exact ⟨a2.trans b2.symm, hA, same a3 (fun k hk => by rw [b3, ua_n (fun q => m_a3 k hk (by rw [q]; decide)), ua_n (fun q => m_a3 k hk (by rw [q]; decide)), ua_n (fun q => m_a3 k hk (by rw [q]; decide))])⟩
    · exact (c2 a1 b1).elim
    · exact (c1 a1 b1).elim
    · obtain ⟨f1, f2⟩ := c3 a1 b1
      refine ⟨by rw [a2, b2, f2], hA, ?_⟩
      have ct := hR.2.2.2.1.1
      have hcr := ct.2.1 d hd
      have hdb := (hR.2.1.2.2.2 d hd).1
      have hgd := (hR.2.2.1.2.1 d hd).1
      have hL := hR.1.1.2.2.1
      have h0 := a1.2.1.2.2
      have hb : TiB (us (us S 5 u.1) 12 u') := by
        refine TiB.now (H := pyN (knN (S 12 20)) P (S 12 10 d) (S 12 20 (30 + d)) d) hR a3 (by rw [b3]; first | done | rfl) ?_ ?_ (fun k hk => ?_)
        · rw [hdb, hcr.1]
          exact (ct.py hL hgd hcr.2 hd f1 h0).cg l6 (fun _ _ => rfl) (fun j hj => py_cg (fun j hj => kn_lo hj) (by omega) (by omega) j hj)
        · intro j hj
          rw [hdb, hcr.1]
          unfold pyN
          rw [un_n (by omega), stl_hi (by omega) (by omega) (Nat.le_refl _) (by omega)]
        · have m := m_now k hk
          rw [b3, ua_n m.2.2.2, ua_n m.2.2.1, ua_n m.2.1, ua_n m.1]
      exact hb.cg rfl rfl rfl rfl rfl rfl rfl (fun _ _ => rfl)
theorem rb_trades {S : Nat → Nat → Nat → Nat} {tx tz : Int64} (hR : RelB S tx tz) (v_p : Int32) (v_c : Int32) (v_q : Int32) (v_e : Int32) (r : Int32) (u : (Nat → Nat → Nat)) (hx : (NowOk u) ∧ ((¬ (inN v_p ((S 3) 3 0) ∧ inN v_c ((S 3) 0 0) ∧ inN v_q ((S 3) 3 0) ∧ inN v_e ((S 3) 0 0) ∧ v_p ≠ v_q ∧ v_c ≠ v_e) ∧ r = -1 ∧ u = (S 5)) ∨ (∃ p c q e, p < (S 3) 3 0 ∧ c < (S 3) 0 0 ∧ q < (S 3) 3 0 ∧ e < (S 3) 0 0 ∧ (v_p = nI p ∧ v_c = nI c ∧ v_q = nI q ∧ v_e = nI e) ∧ (p ≠ q ∧ c ≠ e) ∧ ((¬ (0 < (S 5) 0 (p * 6 + c) ∧ 0 < (S 5) 0 (q * 6 + e) ∧ (S 3) 2 c = (S 3) 2 e ∧ (S 5) 0 (p * 6 + e) < 99 ∧ (S 5) 0 (q * 6 + c) < 99) ∧ r = -2 ∧ u = (S 5)) ∨ ((0 < (S 5) 0 (p * 6 + c) ∧ 0 < (S 5) 0 (q * 6 + e) ∧ (S 3) 2 c = (S 3) 2 e ∧ (S 5) 0 (p * 6 + e) < 99 ∧ (S 5) 0 (q * 6 + c) < 99) ∧ r = nI ((S 5) 0 (p * 6 + e) + 1) ∧ u = ua (remN (S 5)) 0 (un (un (un (un ((S 5) 0) (p * 6 + c) ((S 5) 0 (p * 6 + c) - 1)) (q * 6 + c) ((S 5) 0 (q * 6 + c) + 1)) (q * 6 + e) ((S 5) 0 (q * 6 + e) - 1)) (p * 6 + e) ((S 5) 0 (p * 6 + e) + 1))))))) (r' : Int32) (u' : (Nat → Nat → Nat)) (hz : ZP [20, 21, 22, 23, 24, 25, 26] u' (S 12) ∧ ((¬ (inN v_p ((S 12) 6 0) ∧ inN v_c ((S 12) 3 0) ∧ inN v_q ((S 12) 6 0) ∧ inN v_e ((S 12) 3 0) ∧ v_p ≠ v_q ∧ v_c ≠ v_e) ∧ r' = -1 ∧ u' = (S 12)) ∨ (∃ p c q e, p < (S 12) 6 0 ∧ c < (S 12) 3 0 ∧ q < (S 12) 6 0 ∧ e < (S 12) 3 0 ∧ (v_p = nI p ∧ v_c = nI c ∧ v_q = nI q ∧ v_e = nI e) ∧ (p ≠ q ∧ c ≠ e) ∧ ((¬ (0 < (S 12) 20 (6 * p + c) ∧ 0 < (S 12) 20 (6 * q + e) ∧ (S 12) 5 c = (S 12) 5 e ∧ (S 12) 20 (6 * p + e) < 99 ∧ (S 12) 20 (6 * q + c) < 99) ∧ r' = -2 ∧ u' = (S 12)) ∨ ((0 < (S 12) 20 (6 * p + c) ∧ 0 < (S 12) 20 (6 * q + e) ∧ (S 12) 5 c = (S 12) 5 e ∧ (S 12) 20 (6 * p + e) < 99 ∧ (S 12) 20 (6 * q + c) < 99) ∧ r' = nI ((S 12) 20 (6 * p + e) + 1) ∧ u' = ua (S 12) 20 (un (un (un (un (knN ((S 12) 20)) (6 * p + c) ((S 12) 20 (6 * p + c) - 1)) (6 * q + c) ((S 12) 20 (6 * q + c) + 1)) (6 * q + e) ((S 12) 20 (6 * q + e) - 1)) (6 * p + e) ((S 12) 20 (6 * p + e) + 1))))))) : r = r' ∧ RelB (us (us S 5 u) 12 u') tx tz := by
  have hA := rl_trades hR.1 v_p v_c v_q v_e r u hx.1 r' u' hz
  obtain ⟨e6, e3, e9, l3, l0, l6⟩ := rb_lf hR
  obtain ⟨_, hx⟩ := hx
  obtain ⟨_, hz⟩ := hz
  rw [e6, e3] at hz
  rcases hx with ⟨a1, a2, a3⟩ | ⟨p, c, q, e, hp, hc, hq, he, ⟨ep, ec, eq, ee⟩, ⟨n1, n2⟩, a⟩ <;> rcases hz with ⟨b1, b2, b3⟩ | ⟨p', c', q', e', hp', hc', hq', he', ⟨ep', ec', eq', ee'⟩, ⟨n1', n2'⟩, b⟩
  · exact ⟨a2.trans b2.symm, hA, TiB.same hR.2 a3 b3⟩
  · exact absurd ⟨⟨p', hp', ep'⟩, ⟨c', hc', ec'⟩, ⟨q', hq', eq'⟩, ⟨e', he', ee'⟩, fun y => n1' (inj5 (ep'.symm.trans (y.trans eq')) (by omega) (by omega)), fun y => n2' (inj5 (ec'.symm.trans (y.trans ee')) (by omega) (by omega))⟩ a1
  · exact absurd ⟨⟨p, hp, ep⟩, ⟨c, hc, ec⟩, ⟨q, hq, eq⟩, ⟨e, he, ee⟩, fun y => n1 (inj5 (ep.symm.trans (y.trans eq)) (by omega) (by omega)), fun y => n2 (inj5 (ec.symm.trans (y.trans ee)) (by omega) (by omega))⟩ b1
  · obtain rfl := inj5 (ep.symm.trans ep') (by omega) (by omega)
    obtain rfl := inj5 (ec.symm.trans ec') (by omega) (by omega)
    obtain rfl := inj5 (eq.symm.trans eq') (by omega) (by omega)
    obtain rfl := inj5 (ee.symm.trans ee') (by omega) (by omega)
    have ct := hR.2.2.2.1.1
    have k1 := ct.h (p := p) (c := c) (by omega) (by omega)
    have k2 := ct.h (p := q) (c := c) (by omega) (by omega)
    have k3 := ct.h (p := q) (c := e) (by omega) (by omega)
    have k4 := ct.h (p := p) (c := e) (by omega) (by omega)
    rw [k1, k2, k3, k4, (hR.2.1.2.1 c hc).2, (hR.2.1.2.1 e he).2] at b
    rcases a with ⟨a1, a2, a3⟩ | ⟨a1, a2, a3⟩ <;> rcases b with ⟨b1, b2, b3⟩ | ⟨b1, b2, b3⟩
    · exact ⟨a2.trans b2.symm, hA, TiB.same hR.2 a3 b3⟩
    · exact absurd b1 a1
    · exact absurd a1 b1
    · refine ⟨by rw [a2, b2], hA, TiB.now hR a3 (by rw [b3]; rfl) (((((ct.set hp hc l3 l0).set hq hc l3 l0).set hq he l3 l0).set hp he l3 l0).cg l6 (fun _ _ => rfl) (un_cg (un_cg (un_cg (un_cg (fun j hj => kn_lo hj)))))) (fun j hj => by rw [un_n (by omega), un_n (by omega), un_n (by omega), un_n (by omega)]) (fun k hk => by rw [b3]; exact ua_n (m_now k hk).1)⟩
theorem rb_loses {S : Nat → Nat → Nat → Nat} {tx tz : Int64} (hR : RelB S tx tz) (v_p : Int32) (v_c : Int32) (r : Int32) (u : (Nat → Nat → Nat)) (hx : (NowOk u) ∧ ((¬ (inN v_p ((S 3) 3 0) ∧ inN v_c ((S 3) 0 0)) ∧ r = -1 ∧ u = (S 5)) ∨ (∃ p c, p < (S 3) 3 0 ∧ c < (S 3) 0 0 ∧ v_p = nI p ∧ v_c = nI c ∧ (((S 5) 0 (p * 6 + c) = 0 ∧ r = -2 ∧ u = (S 5)) ∨ ((S 5) 0 (p * 6 + c) ≠ 0 ∧ r = nI ((S 5) 0 (p * 6 + c) - 1) ∧ u = ua (remN (S 5)) 0 (un ((S 5) 0) (p * 6 + c) ((S 5) 0 (p * 6 + c) - 1))))))) (r' : Int32) (u' : (Nat → Nat → Nat)) (hz : ZP [20, 21, 22, 23, 24, 25, 26] u' (S 12) ∧ ((¬ (inN v_p ((S 12) 6 0) ∧ inN v_c ((S 12) 3 0)) ∧ r' = -1 ∧ u' = (S 12)) ∨ (∃ p c, p < (S 12) 6 0 ∧ c < (S 12) 3 0 ∧ v_p = nI p ∧ v_c = nI c ∧ (((S 12) 20 (6 * p + c) = 0 ∧ r' = -2 ∧ u' = (S 12)) ∨ ((S 12) 20 (6 * p + c) ≠ 0 ∧ r' = nI ((S 12) 20 (6 * p + c) - 1) ∧ u' = ua (S 12) 20 (un (knN ((S 12) 20)) (6 * p + c) ((S 12) 20 (6 * p + c) - 1))))))) : r = r' ∧ RelB (us (us S 5 u) 12 u') tx tz := by
  have hA := rl_loses hR.1 v_p v_c r u hx.1 r' u' hz
  obtain ⟨e6, e3, e9, l3, l0, l6⟩ := rb_lf hR
  obtain ⟨_, hx⟩ := hx
  obtain ⟨_, hz⟩ := hz
  rw [e6, e3] at hz
  rcases hx with ⟨a1, a2, a3⟩ | ⟨p, c, hp, hc, ep, ec, a⟩ <;> rcases hz with ⟨b1, b2, b3⟩ | ⟨p', c', hp', hc', ep', ec', b⟩
  · exact ⟨a2.trans b2.symm, hA, TiB.same hR.2 a3 b3⟩
  · exact absurd ⟨⟨p', hp', ep'⟩, ⟨c', hc', ec'⟩⟩ a1
  · exact absurd ⟨⟨p, hp, ep⟩, ⟨c, hc, ec⟩⟩ b1
  · obtain rfl := inj5 (ep.symm.trans ep') (by omega) (by omega)
    obtain rfl := inj5 (ec.symm.trans ec') (by omega) (by omega)
    have hcell := hR.2.2.2.1.1.h (p := p) (c := c) (by omega) (by omega)
    rcases a with ⟨a1, a2, a3⟩ | ⟨a1, a2, a3⟩ <;> rcases b with ⟨b1, b2, b3⟩ | ⟨b1, b2, b3⟩
    · exact ⟨a2.trans b2.symm, hA, TiB.same hR.2 a3 b3⟩
    · exact absurd (hcell.trans a1) b1
    · exact absurd (hcell.symm.trans b1) a1
    · exact ⟨by rw [a2, b2, hcell], hA, TiB.cell hR hp hc (by rw [hcell]) a3 b3⟩
theorem rb_finds {S : Nat → Nat → Nat → Nat} {tx tz : Int64} (hR : RelB S tx tz) (v_p : Int32) (v_c : Int32) (r : Int32) (u : (Nat → Nat → Nat)) (hx : (NowOk u) ∧ ((¬ (inN v_p ((S 3) 3 0) ∧ inN v_c ((S 3) 0 0)) ∧ r = -1 ∧ u = (S 5)) ∨ (∃ p c, p < (S 3) 3 0 ∧ c < (S 3) 0 0 ∧ v_p = nI p ∧ v_c = nI c ∧ (((S 5) 0 (p * 6 + c) = 99 ∧ r = -2 ∧ u = (S 5)) ∨ ((S 5) 0 (p * 6 + c) ≠ 99 ∧ r = nI ((S 5) 0 (p * 6 + c) + 1) ∧ u = ua (remN (S 5)) 0 (un ((S 5) 0) (p * 6 + c) ((S 5) 0 (p * 6 + c) + 1))))))) (r' : Int32) (u' : (Nat → Nat → Nat)) (hz : ZP [20, 21, 22, 23, 24, 25, 26] u' (S 12) ∧ ((¬ (inN v_p ((S 12) 6 0) ∧ inN v_c ((S 12) 3 0)) ∧ r' = -1 ∧ u' = (S 12)) ∨ (∃ p c, p < (S 12) 6 0 ∧ c < (S 12) 3 0 ∧ v_p = nI p ∧ v_c = nI c ∧ (((S 12) 20 (6 * p + c) = 99 ∧ r' = -2 ∧ u' = (S 12)) ∨ ((S 12) 20 (6 * p + c) ≠ 99 ∧ r' = nI ((S 12) 20 (6 * p + c) + 1) ∧ u' = ua (S 12) 20 (un (knN ((S 12) 20)) (6 * p + c) ((S 12) 20 (6 * p + c) + 1))))))) : r = r' ∧ RelB (us (us S 5 u) 12 u') tx tz := by
  have hA := rl_finds hR.1 v_p v_c r u hx.1 r' u' hz
  obtain ⟨e6, e3, e9, l3, l0, l6⟩ := rb_lf hR
  obtain ⟨_, hx⟩ := hx
  obtain ⟨_, hz⟩ := hz
  rw [e6, e3] at hz
  rcases hx with ⟨a1, a2, a3⟩ | ⟨p, c, hp, hc, ep, ec, a⟩ <;> rcases hz with ⟨b1, b2, b3⟩ | ⟨p', c', hp', hc', ep', ec', b⟩
  · exact ⟨a2.trans b2.symm, hA, TiB.same hR.2 a3 b3⟩
  · exact absurd ⟨⟨p', hp', ep'⟩, ⟨c', hc', ec'⟩⟩ a1
  · exact absurd ⟨⟨p, hp, ep⟩, ⟨c, hc, ec⟩⟩ b1
  · obtain rfl := inj5 (ep.symm.trans ep') (by omega) (by omega)
    obtain rfl := inj5 (ec.symm.trans ec') (by omega) (by omega)
    have hcell := hR.2.2.2.1.1.h (p := p) (c := c) (by omega) (by omega)
    rcases a with ⟨a1, a2, a3⟩ | ⟨a1, a2, a3⟩ <;> rcases b with ⟨b1, b2, b3⟩ | ⟨b1, b2, b3⟩
    · exact ⟨a2.trans b2.symm, hA, TiB.same hR.2 a3 b3⟩
    · exact absurd (hcell.trans a1) b1
    · exact absurd (hcell.symm.trans b1) a1
    · exact ⟨by rw [a2, b2, hcell], hA, TiB.cell hR hp hc (by rw [hcell]) a3 b3⟩
theorem rb_passes {S : Nat → Nat → Nat → Nat} {tx tz : Int64} (hR : RelB S tx tz) (v_d : Int32) (v_p : Int32) (r : Int32) (u : (Nat → Nat → Nat)) (hx : (NowOk u) ∧ ((¬ (inN v_d ((S 3) 6 0) ∧ inN v_p ((S 3) 3 0)) ∧ r = -1 ∧ u = (S 5)) ∨ (∃ d p, d < (S 3) 6 0 ∧ p < (S 3) 3 0 ∧ v_d = nI d ∧ v_p = nI p ∧ ((¬ ((S 5) 0 35 / 2 ^ d % 2 = 1 ∧ p ≠ (S 3) 7 d ∧ p ≠ (S 5) 0 (30 + d)) ∧ r = -2 ∧ u = (S 5)) ∨ (((S 5) 0 35 / 2 ^ d % 2 = 1 ∧ p ≠ (S 3) 7 d ∧ p ≠ (S 5) 0 (30 + d)) ∧ r = nI ((S 5) 0 (30 + d)) ∧ u = ua (remN (S 5)) 0 (un ((S 5) 0) (30 + d) p)))))) (r' : Int32) (u' : (Nat → Nat → Nat)) (hz : ZP [20, 21, 22, 23, 24, 25, 26] u' (S 12) ∧ ((¬ (inN v_d ((S 12) 9 0) ∧ inN v_p ((S 12) 6 0)) ∧ r' = -1 ∧ u' = (S 12)) ∨ (∃ d p, d < (S 12) 9 0 ∧ p < (S 12) 6 0 ∧ v_d = nI d ∧ v_p = nI p ∧ ((¬ ((S 12) 20 35 / 2 ^ d % 2 = 1 ∧ p ≠ (S 12) 10 d ∧ p ≠ (S 12) 20 (30 + d)) ∧ r' = -2 ∧ u' = (S 12)) ∨ (((S 12) 20 35 / 2 ^ d % 2 = 1 ∧ p ≠ (S 12) 10 d ∧ p ≠ (S 12) 20 (30 + d)) ∧ r' = nI ((S 12) 20 (30 + d)) ∧ u' = ua (S 12) 20 (un (knN ((S 12) 20)) (30 + d) p)))))) : r = r' ∧ RelB (us (us S 5 u) 12 u') tx tz := by
  have hA := rl_passes hR.1 v_d v_p r u hx.1 r' u' hz
  obtain ⟨e6, e3, e9, l3, l0, l6⟩ := rb_lf hR
  obtain ⟨_, hx⟩ := hx
  obtain ⟨_, hz⟩ := hz
  rw [e6, e9] at hz
  rcases hx with ⟨a1, a2, a3⟩ | ⟨d, p, hd, hp, ed, ep, a⟩ <;> rcases hz with ⟨b1, b2, b3⟩ | ⟨d', p', hd', hp', ed', ep', b⟩
  · exact ⟨a2.trans b2.symm, hA, TiB.same hR.2 a3 b3⟩
  · exact absurd ⟨⟨d', hd', ed'⟩, ⟨p', hp', ep'⟩⟩ a1
  · exact absurd ⟨⟨d, hd, ed⟩, ⟨p, hp, ep⟩⟩ b1
  · obtain rfl := inj5 (ed.symm.trans ed') (by omega) (by omega)
    obtain rfl := inj5 (ep.symm.trans ep') (by omega) (by omega)
    have ct := hR.2.2.2.1.1
    have hcr := (ct.2.1 d hd).1
    have hop := ct.2.2.1
    have hdb := (hR.2.1.2.2.2 d hd).1
    rw [hcr, hop, hdb] at b
    rcases a with ⟨a1, a2, a3⟩ | ⟨a1, a2, a3⟩ <;> rcases b with ⟨b1, b2, b3⟩ | ⟨b1, b2, b3⟩
    · exact ⟨a2.trans b2.symm, hA, TiB.same hR.2 a3 b3⟩
    · exact absurd b1 a1
    · exact absurd a1 b1
    · refine ⟨by rw [a2, b2], hA, TiB.now hR a3 (by rw [b3]; rfl) ((ct.cr hd l6 hp).cg l6 (fun _ _ => rfl) (un_cg (fun j hj => kn_lo hj))) (fun j hj => un_n (by omega)) (fun k hk => by rw [b3]; exact ua_n (m_now k hk).1)⟩
theorem rb_undo {S : Nat → Nat → Nat → Nat} {tx tz : Int64} (hR : RelB S tx tz)  (r : Int32) (u : (Nat → Nat → Nat)) (hx : (NowOk u) ∧ (((S 5) 2 0 = 0 ∧ r = -2 ∧ u = (S 5)) ∨ (0 < (S 5) 2 0 ∧ r = nI ((S 5) 2 0 - 1) ∧ u = ua (ua (S 5) 0 (va_cpy ((S 5) 1) ((S 5) 0) (((S 5) 2 0 - 1) * 36) 0 36)) 2 (fun _ => (S 5) 2 0 - 1)))) (r' : Int32) (u' : (Nat → Nat → Nat)) (hz : ZP [20, 21, 22, 23, 24, 25, 26] u' (S 12) ∧ (((S 12) 20 36 = 0 ∧ r' = -2 ∧ u' = (S 12)) ∨ (0 < (S 12) 20 36 ∧ r' = nI ((S 12) 20 36 - 1) ∧ u' = ua (S 12) 20 (udN ((S 12) 20) 36)))) : r = r' ∧ RelB (us (us S 5 u) 12 u') tx tz := by
  have hA := rl_undo hR.1 r u hx.1 r' u' hz
  obtain ⟨e6, e3, e9, l3, l0, l6⟩ := rb_lf hR
  obtain ⟨_, hx⟩ := hx
  obtain ⟨_, hz⟩ := hz
  have hk := hR.2.2.2.1.2.1
  rw [hk] at hz
  rcases hx with ⟨a1, a2, a3⟩ | ⟨a1, a2, a3⟩ <;> rcases hz with ⟨b1, b2, b3⟩ | ⟨b1, b2, b3⟩
  · exact ⟨a2.trans b2.symm, hA, TiB.same hR.2 a3 b3⟩
  · omega
  · omega
  · refine ⟨by rw [a2, b2], hA, ?_⟩
    obtain ⟨h1, h2, h3, h4, h5⟩ := hR.2
    rw [a3, b3]
    refine ⟨h1, h2, h3.undo l6 a1, ?_, h5⟩
    exact h4.cg (fun j hj => by show udN (S 12 20) 36 j = _; unfold udN; rw [if_neg (by omega), if_neg (by omega)])
theorem rb_now {S : Nat → Nat → Nat → Nat} {tx tz : Int64} (hR : RelB S tx tz) (v_w : Int32) (r : Int32) (u : (Nat → Nat → Nat)) (hx : WorldOk u ∧ ((∃ k, k < 4 ∧ v_w = nI k ∧ r = nI (nwX (S 3) (S 5) k)) ∨ (¬ inN v_w 4 ∧ r = -1))) (r' : Int32) (u' : (Nat → Nat → Nat)) (hz : ZP [23, 24, 25] u' (S 12) ∧ ((∃ k, k < 4 ∧ v_w = nI k ∧ r' = nI (nwZ (S 12) k)) ∨ (¬ inN v_w 4 ∧ r' = -1))) : r = r' ∧ RelB (us (us S 9 u) 12 u') tx tz := by
  have hA := rl_now hR.1 v_w r u hx.1 r' u' hz.1
  refine ⟨?_, hA, hR.2.cg rfl rfl rfl rfl rfl rfl rfl (fun k hk => hz.1.2 k (m_a3 k hk))⟩
  obtain ⟨_, hx⟩ := hx
  obtain ⟨_, hz⟩ := hz
  rcases hx with ⟨k, hk, ek, a⟩ | ⟨a1, a2⟩ <;> rcases hz with ⟨k', hk', ek', b⟩ | ⟨b1, b2⟩
  · obtain rfl := inj5 (ek.symm.trans ek') (by omega) (by omega)
    rw [a, b, nw_tie hR]
  · exact absurd ⟨k, hk, ek⟩ b1
  · exact absurd ⟨k', hk', ek'⟩ a1
  · exact a2.trans b2.symm
theorem rb_pieces {S : Nat → Nat → Nat → Nat} {tx tz : Int64} (hR : RelB S tx tz) (v_d : Int32) (v_c : Int32) (r : Int32) (u : (Nat → Nat → Nat)) (hx : PayOk u ∧ ((¬ (inN v_d ((S 3) 6 0) ∧ inN v_c ((S 3) 0 0)) ∧ r = -1) ∨ (∃ d c, d < (S 3) 6 0 ∧ c < (S 3) 0 0 ∧ v_d = nI d ∧ v_c = nI c ∧ ((PXn (S 3) (thX (S 3) (S 5) d ((S 5) 0 (30 + d))) ((S 3) 9 d) ∧ r = -9) ∨ (PXy (S 3) (thX (S 3) (S 5) d ((S 5) 0 (30 + d))) (u 1) ((S 3) 9 d) (u 3 0) ∧ r = nI (u 1 c)))))) (r' : Int32) (u' : (Nat → Nat → Nat)) (hz : ZP [23, 24, 25] u' (S 12) ∧ ((¬ (inN v_d ((S 12) 9 0) ∧ inN v_c ((S 12) 3 0)) ∧ r' = -1) ∨ (∃ d c, d < (S 12) 9 0 ∧ c < (S 12) 3 0 ∧ v_d = nI d ∧ v_c = nI c ∧ ((PZ ((S 12) 5) (thN (S 12) 20 ((S 12) 10 d) ((S 12) 20 (30 + d))) ((S 12) 12 d) (-9) (u' 25) ∧ r' = -9) ∨ ((∃ n, n < 1000 ∧ PZ ((S 12) 5) (thN (S 12) 20 ((S 12) 10 d) ((S 12) 20 (30 + d))) ((S 12) 12 d) (nI n) (u' 25)) ∧ r' = nI (u' 25 c)))))) : r = r' ∧ RelB (us (us S 8 u) 12 u') tx tz := by
  have hA := rl_pieces hR.1 v_d v_c r u hx.1 r' u' hz
  obtain ⟨e6, e3, e9, l3, l0, l6⟩ := rb_lf hR
  refine ⟨?_, hA, hR.2.cg rfl rfl rfl rfl rfl rfl rfl (fun k hk => hz.1.2 k (m_a3 k hk))⟩
  obtain ⟨_, hx⟩ := hx
  obtain ⟨_, hz⟩ := hz
  rw [e9, e3] at hz
  rcases hx with ⟨a1, a2⟩ | ⟨d, c, hd, hc, ed, ec, a⟩ <;> rcases hz with ⟨b1, b2⟩ | ⟨d', c', hd', hc', ed', ec', b⟩
  · exact a2.trans b2.symm
  · exact absurd ⟨⟨d', hd', ed'⟩, ⟨c', hc', ec'⟩⟩ a1
  · exact absurd ⟨⟨d, hd, ed⟩, ⟨c, hc, ec⟩⟩ b1
  · obtain rfl := inj5 (ed.symm.trans ed') (by omega) (by omega)
    obtain rfl := inj5 (ec.symm.trans ec') (by omega) (by omega)
    rcases a with ⟨a1, a2⟩ | ⟨a1, a2⟩ <;> rcases b with ⟨b1, b2⟩ | ⟨⟨n, hn, b1⟩, b2⟩
    · exact a2.trans b2.symm
    · exact absurd (pz_n hR hd a1 b1) (nI_ne9 (by omega))
    · have := pz_y hR hd a1 b1
      exact absurd this.2.1.symm (nI_ne9 (by omega))
    · rw [a2, b2, (pz_y hR hd a1 b1).2.2.1 c (by omega)]
theorem rb_order {S : Nat → Nat → Nat → Nat} {tx tz : Int64} (hR : RelB S tx tz) (v_i : Int32) (r : Int32) (u : (Nat → Nat → Nat) × (Nat → Nat → Nat) × (Nat → Nat → Nat)) (hx : RowsOk u.1 ∧ NowOk u.2.1 ∧ PayOk u.2.2) (r' : Int32) (u' : (Nat → Nat → Nat)) (hz : ZP [22, 23, 24, 25, 26] u' (S 12)) : RelB (us (us (us (us S 10 u.1) 11 u.2.1) 8 u.2.2) 12 u') tx tz := by
  exact ⟨rl_order hR.1 v_i r u hx r' u' hz, hR.2.cg rfl rfl rfl rfl rfl rfl rfl (fun k hk => hz.2 k (m_ask k hk))⟩
theorem rb_lender {S : Nat → Nat → Nat → Nat} {tx tz : Int64} (hR : RelB S tx tz) (v_p : Int32) (r : Int32) (u : Unit) (hx : (¬ inN v_p ((S 3) 3 0) ∧ r = -1) ∨ (∃ p, p < (S 3) 3 0 ∧ v_p = nI p ∧ r = ldI (ldN (fun o => sumN (fun c => if doN (S 3) c o = 0 then 0 else sumN (fun q => (S 5) 0 (q * 6 + c)) 5 * (S 3) 2 c) ((S 3) 0 0)) (fun o => anyN (fun c => (S 5) 0 (o * 6 + c)) 6) p ((S 3) 3 0)))) (r' : Int32) (u' : Unit) (hz : (¬ inN v_p ((S 12) 6 0) ∧ r' = -1) ∨ (∃ p, p < (S 12) 6 0 ∧ v_p = nI p ∧ r' = ldI (ldN (fun o => sumN (fun c => if (S 12) 4 c ≤ (S 12) 7 o + 7 ∧ (S 12) 7 o + 7 < (S 12) 4 c + (S 12) 13 0 then sumN (fun p => (S 12) 20 (6 * p + c)) ((S 12) 6 0) * (S 12) 5 c else 0) ((S 12) 3 0)) (fun o => sumN (fun c => (S 12) 20 (6 * o + c) * (S 12) 5 c) ((S 12) 3 0)) p ((S 12) 6 0)))) : r = r' ∧ RelB (S) tx tz := by
  obtain ⟨e6, e3, e9, l3, l0, l6⟩ := rb_lf hR
  refine ⟨?_, hR⟩
  rcases hx with ⟨a1, a2⟩ | ⟨c, hc, ec, a⟩ <;> rcases hz with ⟨b1, b2⟩ | ⟨c', hc', ec', b⟩
  · exact a2.trans b2.symm
  · exact absurd ⟨c', e6 ▸ hc', ec'⟩ a1
  · exact absurd ⟨c, e6 ▸ hc, ec⟩ b1
  · obtain rfl := inj5 (ec.symm.trans ec') (by omega) (by omega)
    rw [a, b, ld_tie hR]
    exact congrArg (fun n => ldI (ldN _ _ c n)) e6.symm
theorem rb_corner {S : Nat → Nat → Nat → Nat} {tx tz : Int64} (hR : RelB S tx tz) (v_d : Int32) (r : Int32) (u : (Nat → Nat → Nat)) (hx : WorldOk u ∧ ((¬ inN v_d ((S 3) 6 0) ∧ r = -1) ∨ (∃ d, d < (S 3) 6 0 ∧ v_d = nI d ∧ r = nI (crX (pwX (S 3) (S 5) d) ((S 3) 0 0))))) (r' : Int32) (u' : (Nat → Nat → Nat)) (hz : ZP [23, 24, 25] u' (S 12) ∧ ((¬ inN v_d ((S 12) 9 0) ∧ r' = -1) ∨ (∃ d, d < (S 12) 9 0 ∧ v_d = nI d ∧ r' = nI (crZ (pwZ (S 12) d) ((S 12) 3 0))))) : r = r' ∧ RelB (us (us S 9 u) 12 u') tx tz := by
  have hA := rl_corner hR.1 v_d r u hx.1 r' u' hz.1
  obtain ⟨e6, e3, e9, l3, l0, l6⟩ := rb_lf hR
  refine ⟨?_, hA, hR.2.cg rfl rfl rfl rfl rfl rfl rfl (fun k hk => hz.1.2 k (m_a3 k hk))⟩
  obtain ⟨_, hx⟩ := hx
  obtain ⟨_, hz⟩ := hz
  rw [e9, e3] at hz
  rcases hx with ⟨a1, a2⟩ | ⟨d, hd, ed, a⟩ <;> rcases hz with ⟨b1, b2⟩ | ⟨d', hd', ed', b⟩
  · exact a2.trans b2.symm
  · exact absurd ⟨d', hd', ed'⟩ a1
  · exact absurd ⟨d, hd, ed⟩ b1
  · obtain rfl := inj5 (ed.symm.trans ed') (by omega) (by omega)
    have ep : pwX (S 3) (S 5) d = pwZ (S 12) d := funext (fun l => pw_tie hR hd)
    have h9 := (hR.2.2.1.2.1 d hd).2.2
    rw [a, b, ← ep, cr_tie l0 (pwX_none h9) (pwX_full l0 h9)]
theorem rb_odds {S : Nat → Nat → Nat → Nat} {tx tz : Int64} (hR : RelB S tx tz) (v_d : Int32) (v_x : Int32) (v_w : Int32) (r : Int32) (u : (Nat → Nat → Nat)) (hx : WorldOk u ∧ ((¬ (inN v_d ((S 3) 6 0) ∧ inN v_x 11 ∧ inN v_w 2) ∧ r = -1) ∨ (∃ d x w, d < (S 3) 6 0 ∧ x < 11 ∧ w < 2 ∧ v_d = nI d ∧ v_x = nI x ∧ v_w = nI w ∧ r = nI (odR (pwX (S 3) (S 5) d) x ((S 3) 0 0) w)))) (r' : Int32) (u' : (Nat → Nat → Nat)) (hz : ZP [23, 24, 25] u' (S 12) ∧ ((¬ (inN v_d ((S 12) 9 0) ∧ inN v_x 11 ∧ inN v_w 2) ∧ r' = -1) ∨ (∃ d x w, d < (S 12) 9 0 ∧ x < 11 ∧ w < 2 ∧ v_d = nI d ∧ v_x = nI x ∧ v_w = nI w ∧ r' = nI (odR (pwZ (S 12) d) x ((S 12) 3 0) w)))) : r = r' ∧ RelB (us (us S 9 u) 12 u') tx tz := by
  have hA := rl_odds hR.1 v_d v_x v_w r u hx.1 r' u' hz.1
  obtain ⟨e6, e3, e9, l3, l0, l6⟩ := rb_lf hR
  refine ⟨?_, hA, hR.2.cg rfl rfl rfl rfl rfl rfl rfl (fun k hk => hz.1.2 k (m_a3 k hk))⟩
  obtain ⟨_, hx⟩ := hx
  obtain ⟨_, hz⟩ := hz
  rw [e9, e3] at hz
  rcases hx with ⟨a1, a2⟩ | ⟨d, x, w, hd, hx0, hw, ed, ex, ew, a⟩ <;> rcases hz with ⟨b1, b2⟩ | ⟨d', x', w', hd', hx', hw', ed', ex', ew', b⟩
  · exact a2.trans b2.symm
  · exact absurd ⟨⟨d', hd', ed'⟩, ⟨x', hx', ex'⟩, ⟨w', hw', ew'⟩⟩ a1
  · exact absurd ⟨⟨d, hd, ed⟩, ⟨x, hx0, ex⟩, ⟨w, hw, ew⟩⟩ b1
  · obtain rfl := inj5 (ed.symm.trans ed') (by omega) (by omega)
    obtain rfl : x = x' := inN_inj (ex.symm.trans ex') (by omega) (by omega)
    obtain rfl := inj5 (ew.symm.trans ew') (by omega) (by omega)
    have ep : pwX (S 3) (S 5) d = pwZ (S 12) d := funext (fun l => pw_tie hR hd)
    rw [a, b, ep]
theorem rb_took {S : Nat → Nat → Nat → Nat} {tx tz : Int64} (hR : RelB S tx tz) (v_c : Int32) (r : Int32) (u : (Nat → Nat → Nat)) (hx : (¬ inN v_c ((S 3) 0 0) ∧ r = -1 ∧ u = (S 0)) ∨ (inN v_c ((S 3) 0 0) ∧ (S 0) 12 0 = 6 ∧ r = -3 ∧ u = (S 0)) ∨ (∃ k, k < (S 3) 0 0 ∧ v_c = nI k ∧ (S 0) 12 0 < 6 ∧ r = nI ((S 0) 12 0 + 1) ∧ u = ua (ua (S 0) 11 (un ((S 0) 11) ((S 0) 12 0) k)) 12 (fun _ => (S 0) 12 0 + 1))) (r' : Int32) (u' : (Nat → Nat → Nat)) (hz : (¬ inN v_c ((S 12) 3 0) ∧ r' = -1 ∧ u' = (S 12)) ∨ (inN v_c ((S 12) 3 0) ∧ (S 12) 28 0 = 6 ∧ r' = -3 ∧ u' = (S 12)) ∨ (∃ k, k < (S 12) 3 0 ∧ v_c = nI k ∧ (S 12) 28 0 < 6 ∧ r' = nI ((S 12) 28 0 + 1) ∧ u' = ua (ua (S 12) 27 (un ((S 12) 27) ((S 12) 28 0) k)) 28 (fun _ => (S 12) 28 0 + 1))) : r = r' ∧ RelB (us (us S 0 u) 12 u') tx tz := by
  refine ⟨(rl_took hR.1 v_c r u hx r' u' hz).1, (rl_took hR.1 v_c r u hx r' u' hz).2, ?_⟩
  obtain ⟨e6, e3, e9, l3, l0, l6⟩ := rb_lf hR
  have t4 := hR.1.2.2.2.2.1
  obtain ⟨h1, h2, h3, h4, h5⟩ := id hR.2
  rcases hx with ⟨a1, a2, a3⟩ | ⟨a1, a0, a2, a3⟩ | ⟨k, a1, a0, a5, a2, a3⟩ <;> rcases hz with ⟨b1, b2, b3⟩ | ⟨b1, b0, b2, b3⟩ | ⟨k', b1, b0, b5, b2, b3⟩
  · rw [a3, b3]; exact hR.2.cg rfl rfl rfl rfl rfl rfl rfl (fun _ _ => rfl)
  · exact absurd (e3 ▸ b1) a1
  · exact absurd ⟨k', e3 ▸ b1, b0⟩ a1
  · exact absurd (e3 ▸ a1) b1
  · rw [a3, b3]; exact hR.2.cg rfl rfl rfl rfl rfl rfl rfl (fun _ _ => rfl)
  · omega
  · exact absurd ⟨k, e3 ▸ a1, a0⟩ b1
  · omega
  · obtain rfl : k = k' := inN_inj (a0.symm.trans b0) (by omega) (by omega)
    rw [a3, b3]
    refine ⟨h1, h2, h3, h4, fun i hi => ?_⟩
    have hi : i < S 0 12 0 + 1 := hi
    show un (S 0 11) (S 0 12 0) k i = un (S 12 27) (S 12 28 0) k i ∧ un (S 0 11) (S 0 12 0) k i < S 3 0 0
    rw [← t4]
    by_cases q : i = S 0 12 0
    · rw [q, un_s, un_s]; exact ⟨rfl, a1⟩
    · rw [un_n q, un_n q]; exact h5 i (by omega)
theorem rb_forget {S : Nat → Nat → Nat → Nat} {tx tz : Int64} (hR : RelB S tx tz)  (r : Int32) (u : (Nat → Nat → Nat)) (hx : r = nI ((S 0) 12 0) ∧ u = ua (S 0) 12 (fun _ => 0)) (r' : Int32) (u' : (Nat → Nat → Nat)) (hz : r' = nI ((S 12) 28 0) ∧ u' = ua (S 12) 28 (fun _ => 0)) : r = r' ∧ RelB (us (us S 0 u) 12 u') tx tz := by
  refine ⟨(rl_forget hR.1 r u hx r' u' hz).1, (rl_forget hR.1 r u hx r' u' hz).2, ?_⟩
  obtain ⟨h1, h2, h3, h4, h5⟩ := hR.2
  rw [hx.2, hz.2]
  exact ⟨h1, h2, h3, h4, fun i hi => absurd hi (Nat.not_lt_zero i)⟩
theorem rb_years {S : Nat → Nat → Nat → Nat} {tx tz : Int64} (hR : RelB S tx tz) (v_w : Int32) (r : Int32) (u : Unit) (hx : (¬ inN v_w 3 ∧ r = -1) ∨ (∃ k, k < 3 ∧ v_w = nI k ∧ r = yrR (yrN (fun y => andN (fun i => abN (S 3) ((S 0) 11 i) (y + 7)) ((S 0) 12 0)) 61) k)) (r' : Int32) (u' : Unit) (hz : (¬ inN v_w 3 ∧ r' = -1) ∨ (∃ k, k < 3 ∧ v_w = nI k ∧ r' = yrR (yrN (fun y => andN (gy (S 12) y) ((S 12) 28 0)) 61) k)) : r = r' ∧ RelB (S) tx tz := by
  refine ⟨?_, hR⟩
  rw [← yr_tie hR] at hz
  rcases hx with ⟨a1, a2⟩ | ⟨k, hk, ek, a⟩ <;> rcases hz with ⟨b1, b2⟩ | ⟨k', hk', ek', b⟩
  · exact a2.trans b2.symm
  · exact absurd ⟨k', hk', ek'⟩ a1
  · exact absurd ⟨k, hk, ek⟩ b1
  · obtain rfl := inj5 (ek.symm.trans ek') (by omega) (by omega)
    rw [a, b]
theorem rb_mark {S : Nat → Nat → Nat → Nat} {tx tz : Int64} (hR : RelB S tx tz) (v_k : Int32) (v_c : Int32) (r : Int32) (u : Int64) (hx : (¬ (inN v_k 6 ∧ inN v_c ((S 3) 0 0)) ∧ r = -1000000 ∧ u = tx) ∨ (∃ k c, k < 6 ∧ c < (S 3) 0 0 ∧ v_k = nI k ∧ v_c = nI c ∧ r = mkX (S 3) (S 5) c k ∧ u = tx + mkT k)) (r' : Int32) (u' : Int64) (hz : (¬ (inN v_k 6 ∧ inN v_c ((S 12) 3 0)) ∧ r' = -1000000 ∧ u' = tz) ∨ (∃ k c, k < 6 ∧ c < (S 12) 3 0 ∧ v_k = nI k ∧ v_c = nI c ∧ r' = mkZ (S 12) c k ∧ u' = tz + mkT k)) : r = r' ∧ RelB (S) u u' := by
  obtain ⟨e6, e3, e9, l3, l0, l6⟩ := rb_lf hR
  rw [e3] at hz
  obtain ⟨⟨ok, t1, t2, t3, t4, t5⟩, hB⟩ := id hR
  rcases hx with ⟨a1, a2, a3⟩ | ⟨k, c, hk, hc, ek, ec, a, a3⟩ <;> rcases hz with ⟨b1, b2, b3⟩ | ⟨k', c', hk', hc', ek', ec', b, b3⟩
  · exact ⟨a2.trans b2.symm, ⟨ok, t1, t2, t3, t4, by rw [a3, b3]; exact t5⟩, hB⟩
  · exact absurd ⟨⟨k', hk', ek'⟩, ⟨c', hc', ec'⟩⟩ a1
  · exact absurd ⟨⟨k, hk, ek⟩, ⟨c, hc, ec⟩⟩ b1
  · obtain rfl := inj5 (ec.symm.trans ec') (by omega) (by omega)
    obtain rfl := inj5 (ek.symm.trans ek') (by omega) (by omega)
    exact ⟨by rw [a, b, mk_tie hR hc], ⟨ok, t1, t2, t3, t4, by rw [a3, b3, t5]⟩, hB⟩
theorem rb_keep {S : Nat → Nat → Nat → Nat} {tx tz : Int64} (hR : RelB S tx tz) (v_i : Int32) (r : Int32) (u : (Nat → Nat → Nat) × (Nat → Nat → Nat) × (Nat → Nat → Nat)) (hx : (NowOk u.2.1 ∧ NowOk u.2.2) ∧ ((¬ inN v_i 2 ∧ r = -1 ∧ u.1 = (S 0) ∧ u.2.1 = (S 6) ∧ u.2.2 = (S 7)) ∨ (v_i = nI 0 ∧ r = nI (popN ((S 5) 0 35)) ∧ u.1 = ua (S 0) 7 (fun _ => (S 0) 7 0 ||| 1) ∧ u.2.1 = bcN (S 6) (S 5) ∧ u.2.2 = (S 7)) ∨ (v_i = nI 1 ∧ r = nI (popN ((S 5) 0 35)) ∧ u.1 = ua (S 0) 7 (fun _ => (S 0) 7 0 ||| 2) ∧ u.2.1 = (S 6) ∧ u.2.2 = bcN (S 7) (S 5)))) (r' : Int32) (u' : (Nat → Nat → Nat)) (hz : ZP [20, 21, 22, 23, 24, 25, 26] u' (S 12) ∧ ((¬ inN v_i 2 ∧ r' = -1 ∧ u' = (S 12)) ∨ (∃ k, k < 2 ∧ v_i = nI k ∧ r' = nI (sumN (fun k => (S 12) 20 35 / 2 ^ k % 2) 6) ∧ u' = ua (ua (S 12) 20 (cpN ((S 12) 20) (397 * (1 + k)) 397)) 21 (un ((S 12) 21) k 1)))) : r = r' ∧ RelB (us (us (us (us S 0 u.1) 6 u.2.1) 7 u.2.2) 12 u') tx tz := by
  have hx0 : NowOk u.2.1 ∧ NowOk u.2.2 ∧ (u.1 = S 0 ∨ ∃ k, k ≤ 2 ∧ u.1 = ua (S 0) 7 (fun _ => S 0 7 0 ||| k)) := ⟨hx.1.1, hx.1.2, by rcases hx.2 with ⟨_, _, e, _⟩ | ⟨_, _, e, _⟩ | ⟨_, _, e, _⟩; exact Or.inl e; exact Or.inr ⟨1, by decide, e⟩; exact Or.inr ⟨2, by decide, e⟩⟩
  have hA := rl_keep hR.1 v_i r u hx0 r' u' hz
  obtain ⟨e6, e3, e9, l3, l0, l6⟩ := rb_lf hR
  obtain ⟨_, hx⟩ := hx
  obtain ⟨_, hz⟩ := hz
  obtain ⟨h1, h2, h3, ⟨⟨i1, i2⟩, j1, j2⟩, h5⟩ := id hR.2
  have hop := h3.1.2.2.1
  have x3 := hR.1.1.1.2.1
  have k10 := hR.1.1.2.2.2.2.1.2.2
  have ki := hR.1.1.2.2.2.2.2.1.2.2
  have kj := hR.1.1.2.2.2.2.2.2.1.2.2
  obtain ⟨o1, o2, o3, o4⟩ := or1 (S 0 7 0) x3
  rcases hx with ⟨a1, a2, a3, a4, a5⟩ | ⟨a1, a2, a3, a4, a5⟩ | ⟨a1, a2, a3, a4, a5⟩ <;> rcases hz with ⟨b1, b2, b3⟩ | ⟨k, b1, b0, b2, b3⟩
  · refine ⟨a2.trans b2.symm, hA, ?_⟩
    rw [a3, a4, a5, b3]; exact hR.2.cg rfl rfl rfl rfl rfl rfl rfl (fun _ _ => rfl)
  · exact absurd ⟨k, b1, b0⟩ a1
  · exact absurd ⟨0, by decide, a1⟩ b1
  · obtain rfl := inj5 (a1.symm.trans b0) (by omega) (by omega)
    refine ⟨by rw [a2, b2, hop, pop_sum], hA, ?_⟩
    rw [a3, a4, a5, b3]
    refine ⟨h1, h2, h3.cg l6 k10 (fun j hj => cp_lo (by omega)), ⟨⟨?_, fun _ => ?_⟩, ?_, fun q => ?_⟩, h5⟩
    · show un (S 12 21) 0 1 0 = _; rw [un_s]; exact o1.symm
    · exact h3.become l6 k10 (fun j hj => by show cpN (S 12 20) (397 * (1 + 0)) 397 (397 * (1 + 0) + j) = _; unfold cpN; rw [if_pos (by omega)]; exact congrArg (S 12 20) (by omega))
    · show un (S 12 21) 0 1 1 = _; rw [un_n (by decide)]; exact j1.trans o2.symm
    · have q : un (S 12 21) 0 1 1 ≠ 0 := q
      rw [un_n (by decide)] at q
      exact (j2 q).cg l6 kj (fun j hj => by show cpN (S 12 20) (397 * (1 + 0)) 397 (397 * (1 + 1) + j) = _; unfold cpN; rw [if_neg (by omega)])
  · exact absurd ⟨1, by decide, a1⟩ b1
  · obtain rfl := inj5 (a1.symm.trans b0) (by omega) (by omega)
    refine ⟨by rw [a2, b2, hop, pop_sum], hA, ?_⟩
    rw [a3, a4, a5, b3]
    refine ⟨h1, h2, h3.cg l6 k10 (fun j hj => cp_lo (by omega)), ⟨⟨?_, fun q => ?_⟩, ?_, fun _ => ?_⟩, h5⟩
    · show un (S 12 21) 1 1 0 = _; rw [un_n (by decide)]; exact i1.trans o3.symm
    · have q : un (S 12 21) 1 1 0 ≠ 0 := q
      rw [un_n (by decide)] at q
      exact (i2 q).cg l6 ki (fun j hj => by show cpN (S 12 20) (397 * (1 + 1)) 397 (397 * (1 + 0) + j) = _; exact cp_lo (by omega))
    · show un (S 12 21) 1 1 1 = _; rw [un_s]; exact o4.symm
    · exact h3.become l6 k10 (fun j hj => by show cpN (S 12 20) (397 * (1 + 1)) 397 (397 * (1 + 1) + j) = _; unfold cpN; rw [if_pos (by omega)]; exact congrArg (S 12 20) (by omega))
theorem rb_back {S : Nat → Nat → Nat → Nat} {tx tz : Int64} (hR : RelB S tx tz) (v_i : Int32) (r : Int32) (u : (Nat → Nat → Nat)) (hx : (NowOk u) ∧ ((¬ inN v_i 2 ∧ r = -1 ∧ u = (S 5)) ∨ (v_i = nI 0 ∧ (((S 0) 7 0 / 2 ^ 0 % 2 = 0 ∧ r = -2 ∧ u = (S 5)) ∨ ((S 0) 7 0 / 2 ^ 0 % 2 ≠ 0 ∧ r = nI (popN ((S 6) 0 35)) ∧ u = bcN (S 5) (S 6)))) ∨ (v_i = nI 1 ∧ (((S 0) 7 0 / 2 ^ 1 % 2 = 0 ∧ r = -2 ∧ u = (S 5)) ∨ ((S 0) 7 0 / 2 ^ 1 % 2 ≠ 0 ∧ r = nI (popN ((S 7) 0 35)) ∧ u = bcN (S 5) (S 7)))))) (r' : Int32) (u' : (Nat → Nat → Nat)) (hz : ZP [20, 21, 22, 23, 24, 25, 26] u' (S 12) ∧ ((¬ inN v_i 2 ∧ r' = -1 ∧ u' = (S 12)) ∨ (∃ k, k < 2 ∧ v_i = nI k ∧ (((S 12) 21 k = 0 ∧ r' = -2 ∧ u' = (S 12)) ∨ ((S 12) 21 k ≠ 0 ∧ r' = nI (sumN (fun b => (S 12) 20 (397 * (1 + k) + 35) / 2 ^ b % 2) 6) ∧ u' = ua (S 12) 20 (bkN ((S 12) 20) (397 * (1 + k)) 397)))))) : r = r' ∧ RelB (us (us S 5 u) 12 u') tx tz := by
  have hA := rl_back hR.1 v_i r u hx.1 r' u' hz
  obtain ⟨e6, e3, e9, l3, l0, l6⟩ := rb_lf hR
  obtain ⟨_, hx⟩ := hx
  obtain ⟨_, hz⟩ := hz
  obtain ⟨h1, h2, h3, him, h5⟩ := id hR.2
  obtain ⟨⟨i1, i2⟩, j1, j2⟩ := id him
  have ki := hR.1.1.2.2.2.2.2.1.2.2
  have kj := hR.1.1.2.2.2.2.2.2.1.2.2
  rcases hx with ⟨a1, a2, a3⟩ | ⟨a1, a⟩ | ⟨a1, a⟩ <;> rcases hz with ⟨b1, b2, b3⟩ | ⟨k, b1, b0, b⟩
  · exact ⟨a2.trans b2.symm, hA, TiB.same hR.2 a3 b3⟩
  · exact absurd ⟨k, b1, b0⟩ a1
  · exact absurd ⟨0, by decide, a1⟩ b1
  · skip
    obtain rfl := inj5 (a1.symm.trans b0) (by omega) (by omega)
    rcases a with ⟨a1, a2, a3⟩ | ⟨a1, a2, a3⟩ <;> rcases b with ⟨b1, b2, b3⟩ | ⟨b1, b2, b3⟩
    · exact ⟨a2.trans b2.symm, hA, TiB.same hR.2 a3 b3⟩
    · exact absurd (i1.trans a1) b1
    · exact absurd (i1.symm.trans b1) a1
    · have nt := i2 b1
      refine ⟨by rw [a2, b2, pop_sum]; exact congrArg (fun z => nI (sumN (fun k => z / 2 ^ k % 2) 6)) nt.1.2.2.1.symm, hA, ?_⟩
      rw [a3, b3]
      refine ⟨h1, h2, nt.become l6 ki (fun j hj => if_pos hj), ?_, h5⟩
      exact him.cg (fun j hj => if_neg (by omega))
  · exact absurd ⟨1, by decide, a1⟩ b1
  · skip
    obtain rfl := inj5 (a1.symm.trans b0) (by omega) (by omega)
    rcases a with ⟨a1, a2, a3⟩ | ⟨a1, a2, a3⟩ <;> rcases b with ⟨b1, b2, b3⟩ | ⟨b1, b2, b3⟩
    · exact ⟨a2.trans b2.symm, hA, TiB.same hR.2 a3 b3⟩
    · exact absurd (j1.trans a1) b1
    · exact absurd (j1.symm.trans b1) a1
    · have nt := j2 b1
      refine ⟨by rw [a2, b2, pop_sum]; exact congrArg (fun z => nI (sumN (fun k => z / 2 ^ k % 2) 6)) nt.1.2.2.1.symm, hA, ?_⟩
      rw [a3, b3]
      refine ⟨h1, h2, nt.become l6 kj (fun j hj => if_pos hj), ?_, h5⟩
      exact him.cg (fun j hj => if_neg (by omega))
theorem rb_count {S : Nat → Nat → Nat → Nat} {tx tz : Int64} (hR : RelB S tx tz) (v_w : Int32) (r : Int32) (u : Unit) (hx : (∃ k, k < 7 ∧ v_w = nI k ∧ r = nI (ctX (S 3) (S 5) (S 0) k)) ∨ (¬ inN v_w 7 ∧ r = -1)) (r' : Int32) (u' : Unit) (hz : (∃ k, k < 7 ∧ v_w = nI k ∧ r' = nI (ctZ (S 12) k)) ∨ (¬ inN v_w 7 ∧ r' = -1)) : r = r' ∧ RelB (S) tx tz := by
  refine ⟨?_, hR⟩
  rcases hx with ⟨k, hk, ek, a⟩ | ⟨a1, a2⟩ <;> rcases hz with ⟨k', hk', ek', b⟩ | ⟨b1, b2⟩
  · obtain rfl := inj5 (ek.symm.trans ek') (by omega) (by omega)
    rw [a, b]
    obtain ⟨t1, t2, t3, t4, t5⟩ := hR.1.2
    obtain ⟨⟨r1, r2, r3, r4⟩, _⟩ := hR.2.1
    unfold ctX ctZ
    rw [r1, r2, r3, r4, hR.2.2.2.1.2.1, ← t1, ← t4]
  · exact absurd ⟨k, hk, ek⟩ b1
  · exact absurd ⟨k', hk', ek'⟩ a1
  · exact a2.trans b2.symm
theorem rb_trace {S : Nat → Nat → Nat → Nat} {tx tz : Int64} (hR : RelB S tx tz)  (r : Int64) (u : Unit) (hx : r = tx) (r' : Int64) (u' : Unit) (hz : r' = tz) : r = r' ∧ RelB (S) tx tz := by
  exact ⟨(rl_trace hR.1 r u hx r' u' hz).1, hR⟩
theorem rb_land {S : Nat → Nat → Nat → Nat} {tx tz : Int64} (hR : RelB S tx tz) (r : Int32) (u : (Nat → Nat → Nat) × (Nat → Nat → Nat) × (Nat → Nat → Nat) × (Nat → Nat → Nat) × Bool) (hx : LandOk u.2.2.1 ∧ NowOk u.2.2.2.1 ∧ r = (rdF ((S 1) 0) ((S 0) 1 0) 181 0 0 (emptyN (S 4))).1 ∧ u.2.2.1 = (rdF ((S 1) 0) ((S 0) 1 0) 181 0 0 (emptyN (S 4))).2 ∧ ((r < 0 ∧ u.2.2.2.2 = false ∧ u.1 = (S 0) ∧ u.2.2.2.1 = (S 5)) ∨ (¬ r < 0 ∧ u.2.2.2.2 = true ∧ u.1 = ua (ua (ua (S 0) 1 (fun _ => 0)) 7 (fun _ => 0)) 12 (fun _ => 0) ∧ u.2.2.2.1 = begN (S 5) u.2.2.1))) (r' : Int32) (u' : (Nat → Nat → Nat)) (hz : ZOk u' ∧ r' = (rdF ((S 12) 1) ((S 12) 2 0) 181 0 0 (emptyN (S 4))).1 ∧ ((r' < 0 ∧ KP u' (S 12)) ∨ (¬ r' < 0 ∧ u' 1 = (S 12) 1 ∧ u' 2 0 = 0 ∧ LR u' (rdF ((S 12) 1) ((S 12) 2 0) 181 0 0 (emptyN (S 4))).2 ∧ LN u' (rdF ((S 12) 1) ((S 12) 2 0) 181 0 0 (emptyN (S 4))).2))) : r = r' ∧ ((u.2.2.2.2 = false ∧ RelB (us (us (us (us (us S 0 u.1) 2 u.2.1) 4 u.2.2.1) 5 u.2.2.2.1) 12 u') tx tz) ∨ (u.2.2.2.2 = true ∧ RelB (us (us (us (us (us (us S 0 u.1) 2 u.2.1) 3 u.2.2.1) 4 (S 3)) 5 u.2.2.2.1) 12 u') tx tz)) := by
  obtain ⟨er, hc⟩ := rl_land hR.1 r u hx r' u' hz
  refine ⟨er, ?_⟩
  obtain ⟨h1, h2, h3, h4, h5⟩ := id hR.2
  obtain ⟨_, t1, t2, _⟩ := hR.1
  have hM := hR.1.1.2.2.2.1
  obtain ⟨x1, x2, x3, x4, x5⟩ := hx
  obtain ⟨z1, z2, z3⟩ := hz
  have hL := hR.1.1.2.2.1
  have l0 := hL.1
  have l3 := hL.2.1
  have l6 := hL.2.2.1
  rcases x5 with ⟨a1, a2, a3, a4⟩ | ⟨a1, a2, a3, a4⟩ <;> rcases z3 with ⟨b1, b2⟩ | ⟨b1, b2, b3, b4, b5⟩
  · rcases hc with ⟨q, hA⟩ | ⟨q, _⟩
    · refine Or.inl ⟨a2, hA, ?_⟩
      rw [a3, a4]
      obtain ⟨k0, k3, k6, k9, k13, k45, k7⟩ := b2
      obtain ⟨⟨r1, r2, r3, r4⟩, r5, r6, r7⟩ := h1
      refine ⟨⟨⟨k3.trans r1, k6.trans r2, k9.trans r3, k13.trans r4⟩, fun c hc => ⟨(k45 c (by have : S 3 0 0 ≤ 6 := l0; have hc : c < S 3 0 0 := hc; omega)).1.trans (r5 c hc).1, (k45 c (by have hc : c < S 3 0 0 := hc; omega)).2.trans (r5 c hc).2⟩, fun p hp => (k7 p (by have hp : p < S 3 3 0 := hp; omega)).1.trans (r6 p hp), fun d hd => ⟨(k7 d (by have hd : d < S 3 6 0 := hd; omega)).2.1.trans (r7 d hd).1, (k7 d (by have hd : d < S 3 6 0 := hd; omega)).2.2.trans (r7 d hd).2⟩⟩, h2, ?_, ?_, ?_⟩
      · show NT (S 3) (S 5) (u' 20); rw [k0 20 (Or.inr (Or.inr (by decide)))]; exact h3
      · show IM (S 3) (S 0) (S 6) (S 7) (u' 20) (u' 21); rw [k0 20 (Or.inr (Or.inr (by decide))), k0 21 (Or.inr (Or.inr (by decide)))]; exact h4
      · show TK (S 0) u' (S 3); unfold TK; rw [k0 27 (Or.inr (Or.inr (by decide)))]; exact h5
    · rw [a2] at q; exact absurd q (by decide)
  · exact absurd (er ▸ a1) b1
  · exact absurd (er.symm ▸ b1) a1
  · rcases hc with ⟨q, _⟩ | ⟨q, hA⟩
    · rw [a2] at q; exact absurd q (by decide)
    · refine Or.inr ⟨a2, hA, ?_⟩
      have hg : LG u.2.2.1 := by rw [x4]; exact rdF_lg _ _ _ _ (emptyN_ok hM) (LG_empty _)
      have b4 : LR u' u.2.2.1 := by rw [x4, t1, t2]; exact b4
      have b5 : LN u' u.2.2.1 := by rw [x4, t1, t2]; exact b5
      refine ⟨b4, hg, ?_, ?_, ?_⟩
      · show NT u.2.2.1 u.2.2.2.1 (u' 20); rw [a4]; exact NT.begin x1 hg b5
      · show IM u.2.2.1 u.1 (S 6) (S 7) (u' 20) (u' 21)
        rw [a3]
        refine ⟨⟨b5.2.2.2.2.2.1.trans (show (0 : Nat) = 0 / 2 ^ 0 % 2 by decide), fun q => absurd b5.2.2.2.2.2.1 q⟩, b5.2.2.2.2.2.2.trans (show (0 : Nat) = 0 / 2 ^ 1 % 2 by decide), fun q => absurd b5.2.2.2.2.2.2 q⟩
      · show TK u.1 u' u.2.2.1
        rw [a3]; exact fun i hi => absurd hi (Nat.not_lt_zero i)
