theorem lk4 (v : Nat) : v = 99 ∨ v = 100 ∨ v = 104 ∨ v = 112 ∨ (v ≠ 99 ∧ v ≠ 100 ∧ v ≠ 104 ∧ v ≠ 112) := by omega
theorem lk4d {v : Nat} {o1 o2 o3 o4 d : Int} (hv : v < 2 ^ 31) (h : v ≠ 99 ∧ v ≠ 100 ∧ v ≠ 104 ∧ v ≠ 112) : Op.lookupswitch.offset [(99, o1), (100, o2), (104, o3), (112, o4)] d (nI v).toInt = d := by
  have ne : ∀ k, k < 2 ^ 31 → v ≠ k → ¬ nI v = nI k := fun k hk q z => q ((nI_eq hv hk).mp z)
  rw [lv_osw (ne 99 (by decide) h.1) (by decide), lv_osw (ne 100 (by decide) h.2.1) (by decide), lv_osw (ne 104 (by decide) h.2.2.1) (by decide), lv_osw (ne 112 (by decide) h.2.2.2) (by decide)]
  rfl
theorem mb_c {Z : Ls} {w : Nat} (h : mbN Z w = 1) (hw : w = 99) : Z 3 1 < 6 := by subst hw; unfold mbN at h; rw [if_pos rfl] at h; split at h <;> omega
theorem mb_p {Z : Ls} {w : Nat} (h : mbN Z w = 1) (hw : w = 112) : Z 6 1 < 5 := by subst hw; unfold mbN at h; rw [if_neg (by decide), if_pos rfl] at h; split at h <;> omega
theorem mb_d {Z : Ls} {w : Nat} (h : mbN Z w = 1) (hw : w = 100) : Z 9 1 < 5 := by subst hw; unfold mbN at h; rw [if_neg (by decide), if_neg (by decide), if_neg (by decide), if_pos rfl] at h; split at h <;> omega
theorem mb_s {Z : Ls} {w : Nat} (h : mbN Z w = 1) (hw : w ≠ 99 ∧ w ≠ 100 ∧ w ≠ 104 ∧ w ≠ 112) : w = 115 ∧ Z 14 0 = 0 := by
  unfold mbN at h
  rw [if_neg hw.1, if_neg hw.2.2.2, if_neg hw.2.2.1, if_neg hw.2.1] at h
  split at h
  · split at h
    · exact ⟨by assumption, by assumption⟩
    · omega
  · omega
theorem Dr_coin {Z u L : Ls} {a b : Nat} (h : Dr Z L) (e3 : u 3 1 = Z 3 1 + 1) (e4 : u 4 = un (Z 4) (6 + Z 3 1) a) (e5 : u 5 = un (Z 5) (6 + Z 3 1) b) (hr : ∀ k, (6 ≤ k ∧ k ≤ 14) → u k = Z k) : Dr u (ua (ua (ua L 0 (fun _ => L 0 0 + 1)) 1 (un (L 1) (L 0 0) a)) 2 (un (L 2) (L 0 0) b)) := by
  obtain ⟨h1, h2, h3, h4, h5, h6, h7, h8, h9⟩ := h
  refine ⟨by rw [e3, h1]; rfl, by rw [hr 6 (by omega)]; exact h2, by rw [hr 9 (by omega)]; exact h3, by rw [hr 13 (by omega)]; exact h4, by rw [hr 14 (by omega)]; exact h5, fun c hc => ?_, fun p hp => by rw [hr 7 (by omega)]; exact h7 p hp, fun j hj => by rw [hr 8 (by omega)]; exact h8 j hj, fun d hd => by rw [hr 10 (by omega), hr 11 (by omega), hr 12 (by omega)]; exact h9 d hd⟩
  rw [e4, e5, h1]
  show un (Z 4) (6 + L 0 0) a (6 + c) = un (L 1) (L 0 0) a c ∧ un (Z 5) (6 + L 0 0) b (6 + c) = un (L 2) (L 0 0) b c
  have hc : c < L 0 0 + 1 := hc
  by_cases q : c = L 0 0
  · rw [q, un_s, un_s, un_s, un_s]; exact ⟨rfl, rfl⟩
  · rw [un_n (by omega), un_n q, un_n (by omega), un_n q]; exact h6 c (by omega)
theorem Dr_pers {Z u L : Ls} {a : Nat} (h : Dr Z L) (e6 : u 6 1 = Z 6 1 + 1) (e7 : u 7 = un (Z 7) (5 + Z 6 1) a) (hr : ∀ k, (3 ≤ k ∧ k ≤ 14) → k ≠ 6 → k ≠ 7 → u k = Z k) : Dr u (ua (ua L 3 (fun _ => L 3 0 + 1)) 4 (un (L 4) (L 3 0) a)) := by
  obtain ⟨h1, h2, h3, h4, h5, h6, h7, h8, h9⟩ := h
  refine ⟨by rw [hr 3 (by omega) (by omega) (by omega)]; exact h1, by rw [e6, h2]; rfl, by rw [hr 9 (by omega) (by omega) (by omega)]; exact h3, by rw [hr 13 (by omega) (by omega) (by omega)]; exact h4, by rw [hr 14 (by omega) (by omega) (by omega)]; exact h5, fun c hc => by rw [hr 4 (by omega) (by omega) (by omega), hr 5 (by omega) (by omega) (by omega)]; exact h6 c hc, fun p hp => ?_, fun j hj => by rw [hr 8 (by omega) (by omega) (by omega)]; exact h8 j hj, fun d hd => by rw [hr 10 (by omega) (by omega) (by omega), hr 11 (by omega) (by omega) (by omega), hr 12 (by omega) (by omega) (by omega)]; exact h9 d hd⟩
  rw [e7, h2]
  show un (Z 7) (5 + L 3 0) a (5 + p) = un (L 4) (L 3 0) a p
  have hp : p < L 3 0 + 1 := hp
  by_cases q : p = L 3 0
  · rw [q, un_s, un_s]
  · rw [un_n (by omega), un_n q]; exact h7 p (by omega)
theorem Dr_span {Z u L : Ls} {a : Nat} (h : Dr Z L) (e13 : u 13 1 = a) (e14 : u 14 0 = 1) (hr : ∀ k, (3 ≤ k ∧ k ≤ 12) → u k = Z k) : Dr u (ua (ua L 10 (fun _ => a)) 11 (fun _ => 1)) := by
  obtain ⟨h1, h2, h3, h4, h5, h6, h7, h8, h9⟩ := h
  exact ⟨by rw [hr 3 (by omega)]; exact h1, by rw [hr 6 (by omega)]; exact h2, by rw [hr 9 (by omega)]; exact h3, e13, e14, fun c hc => by rw [hr 4 (by omega), hr 5 (by omega)]; exact h6 c hc, fun p hp => by rw [hr 7 (by omega)]; exact h7 p hp, fun j hj => by rw [hr 8 (by omega)]; exact h8 j hj, fun d hd => by rw [hr 10 (by omega), hr 11 (by omega), hr 12 (by omega)]; exact h9 d hd⟩
theorem Dr_hold {Z u L : Ls} {i a : Nat} (h : Dr Z L) (e8 : u 8 = un (Z 8) i a) (hr : ∀ k, (3 ≤ k ∧ k ≤ 14) → k ≠ 8 → u k = Z k) : Dr u (ua L 5 (un (L 5) i a)) := by
  obtain ⟨h1, h2, h3, h4, h5, h6, h7, h8, h9⟩ := h
  refine ⟨by rw [hr 3 (by omega) (by omega)]; exact h1, by rw [hr 6 (by omega) (by omega)]; exact h2, by rw [hr 9 (by omega) (by omega)]; exact h3, by rw [hr 13 (by omega) (by omega)]; exact h4, by rw [hr 14 (by omega) (by omega)]; exact h5, fun c hc => by rw [hr 4 (by omega) (by omega), hr 5 (by omega) (by omega)]; exact h6 c hc, fun p hp => by rw [hr 7 (by omega) (by omega)]; exact h7 p hp, fun j hj => ?_, fun d hd => by rw [hr 10 (by omega) (by omega), hr 11 (by omega) (by omega), hr 12 (by omega) (by omega)]; exact h9 d hd⟩
  rw [e8]
  show un (Z 8) i a j = un (L 5) i a j
  by_cases q : j = i
  · rw [q, un_s, un_s]
  · rw [un_n q, un_n q]; exact h8 j hj
theorem Dr_debt {Z u L : Ls} {a b c : Nat} (h : Dr Z L) (e9 : u 9 1 = Z 9 1 + 1) (e10 : u 10 = un (Z 10) (5 + Z 9 1) a) (e11 : u 11 = un (Z 11) (Z 9 1) b) (e12 : u 12 = un (Z 12) (5 + Z 9 1) c) (hr : ∀ k, ((3 ≤ k ∧ k ≤ 8) ∨ k = 13 ∨ k = 14) → u k = Z k) : Dr u (ua (ua (ua (ua L 6 (fun _ => L 6 0 + 1)) 7 (un (L 7) (L 6 0) a)) 8 (un (L 8) (L 6 0) b)) 9 (un (L 9) (L 6 0) c)) := by
  obtain ⟨h1, h2, h3, h4, h5, h6, h7, h8, h9⟩ := h
  refine ⟨by rw [hr 3 (by omega)]; exact h1, by rw [hr 6 (by omega)]; exact h2, by rw [e9, h3]; rfl, by rw [hr 13 (by omega)]; exact h4, by rw [hr 14 (by omega)]; exact h5, fun c hc => by rw [hr 4 (by omega), hr 5 (by omega)]; exact h6 c hc, fun p hp => by rw [hr 7 (by omega)]; exact h7 p hp, fun j hj => by rw [hr 8 (by omega)]; exact h8 j hj, fun d hd => ?_⟩
  rw [e10, e11, e12, h3]
  show un (Z 10) (5 + L 6 0) a (5 + d) = un (L 7) (L 6 0) a d ∧ un (Z 11) (L 6 0) b d = un (L 8) (L 6 0) b d ∧ un (Z 12) (5 + L 6 0) c (5 + d) = un (L 9) (L 6 0) c d
  have hd : d < L 6 0 + 1 := hd
  by_cases q : d = L 6 0
  · rw [q, un_s, un_s, un_s, un_s, un_s, un_s]; exact ⟨rfl, rfl, rfl⟩
  · rw [un_n (by omega), un_n q, un_n (by omega), un_n q, un_n (by omega), un_n q]; exact h9 d (by omega)
theorem ok1_d {t : Nat → Nat} {n p h s v w : Nat} (h17 : s = sM t n p) (h18 : pK t n p = 2 → v = pV t n p) (hs : ¬ (s = 1 ∧ v < h ∧ v ≠ w)) : ok1 t n p 0 h = 0 ∨ pV t n p = w := by
  by_cases q : ok1 t n p 0 h = 0
  · exact Or.inl q
  · have z := ok1_1 (Nat.pos_of_ne_zero q)
    have e := h18 z.1
    refine Or.inr ?_
    have e1 : s = 1 := h17.trans (sM_1.mpr z.1)
    have : v < h := by omega
    have : ¬ v ≠ w := fun y => hs ⟨e1, this, y⟩
    omega
theorem ok1_dp {t : Nat → Nat} {n p h s v w : Nat} (h17 : s = sM t n p) (h18 : pK t n p = 2 → v = pV t n p) (hs : s = 1) (hv : v < h) (hw : v ≠ w) : v = pV t n p ∧ ¬ (ok1 t n p 0 h = 0 ∨ pV t n p = w) := by
  have hk := sM_1.mp (h17.symm.trans hs)
  have e := h18 hk
  have h1 := ok1_of (lo := 0) h17 h18 hs ⟨Nat.zero_le _, hv⟩
  exact ⟨e, by omega⟩
theorem nbd_h {j : Nat} (h : j < 30) : nbd j = 99 := by unfold nbd cb; rw [if_pos (by omega), if_pos (by omega)]
theorem nbd_c {i : Nat} (h : i < 5) : nbd (30 + i) = 4 := by unfold nbd; rw [Nat.mod_eq_of_lt (show 30 + i < 397 by omega), if_pos (by omega)]; exact cb_c h
