/-! the reference: its rows and their bounds -/
abbrev bF (g : Nat → Nat) : Nat → Int32 := fun j => (nI (g j)).toInt8.toInt32
theorem bF_ld {g : Nat → Nat} {e : Nat} (h : e < 2 ^ 31) : bF g (nI e).toNatClampNeg = bF g e := by rw [nI_clamp h]
theorem by_all : ∀ v, v < 256 → (nI v).toInt8.toInt32 &&& nI 255 = nI v := by decide +kernel
theorem bF_and {g : Nat → Nat} {e : Nat} (h : g e < 256) : bF g e &&& nI 255 = nI (g e) := by_all _ h
theorem bF_st {g : Nat → Nat} {e v : Nat} (h : e < 2 ^ 31) : upd (bF g) (nI e).toNatClampNeg (vp_nar .byte ((nI v).toInt8.toInt32)) = bF (un g e v) := by
  rw [nI_clamp h, pk_vb]
  funext j
  simp only [upd, bF, un]
  split <;> rfl
theorem zF_st {g : Nat → Nat} {e v : Nat} (h : e < 2 ^ 31) (hv : v ≤ 1) : upd (nF g) (nI e).toNatClampNeg (vp_nar .boolean (nI v)) = nF (un g e v) := by
  have e1 : vp_nar .boolean (nI v) = nI v := by rcases (show v = 0 ∨ v = 1 by omega) with rfl | rfl <;> rfl
  rw [e1, nF_st h]
theorem f9 (a : Nat) : nI a = nI (a + 9) - nI 9 := by rw [pk_sub (by omega), Nat.add_sub_cancel]
section N9
variable {p : Program} {l : Launch} {e : Env} {R : Room} {s : State} {m : MethodId} {args : Array Value} {below : List Frame} {meth : Method} {c : Code} {H : Heap} {locs : List Loc} {cells slots : Nat} {Q : State → Prop} {cc : ByteArray} {pc : Nat} {ls : Array Slot} {rest : List Value} {a : Nat} {off : Int} {tgt : Nat}
theorem key9 (h1 : a < 2 ^ 30) : nI a - nI 9 = -9 ↔ a = 0 := by
  constructor
  · intro h
    have h2 := congrArg Int32.toInt h
    rw [pk_sub_toInt h1 (by decide)] at h2
    have h3 : (-9 : Int32).toInt = -9 := by decide
    rw [h3] at h2
    omega
  · intro h; rw [h]; decide
theorem nb_icmp_ne9 (hexec : p.tables.exec = Jvm.exec) (hb : c.code = cc) (hdg : decode cc pc = .ok (.if_icmp .ne off, 3)) (ht : (pc : Int) + off = (tgt : Int)) (h1 : a < 2 ^ 30) (kt : 0 < a → W p l e R s m args below meth c H locs cells slots Q (F0 m tgt ls rest)) (kf : a = 0 → W p l e R s m args below meth c H locs cells slots Q (F0 m (pc + 3) ls rest)) : W p l e R s m args below meth c H locs cells slots Q (F0 m pc ls (.int (-9) :: .int (nI a - nI 9) :: rest)) :=
  lv_icmp_ne hexec hb hdg ht (fun h => kt (Nat.pos_of_ne_zero (fun q => h ((key9 h1).mpr q)))) (fun h => kf ((key9 h1).mp h))
theorem nb_icmp_eq9 (hexec : p.tables.exec = Jvm.exec) (hb : c.code = cc) (hdg : decode cc pc = .ok (.if_icmp .eq off, 3)) (ht : (pc : Int) + off = (tgt : Int)) (h1 : a < 2 ^ 30) (kt : a = 0 → W p l e R s m args below meth c H locs cells slots Q (F0 m tgt ls rest)) (kf : 0 < a → W p l e R s m args below meth c H locs cells slots Q (F0 m (pc + 3) ls rest)) : W p l e R s m args below meth c H locs cells slots Q (F0 m pc ls (.int (-9) :: .int (nI a - nI 9) :: rest)) :=
  lv_icmp_eq hexec hb hdg ht (fun h => kt ((key9 h1).mp h)) (fun h => kf (Nat.pos_of_ne_zero (fun q => h ((key9 h1).mpr q))))
end N9
theorem inN_neg0 {v : Int32} {n : Nat} (hn : n < 2 ^ 31) (h : v < nI 0) : ¬ inN v n := inN_neg hn (nI_0 ▸ h)
theorem inN_le0 {v : Int32} {n : Nat} (hn : n < 2 ^ 31) (h1 : ¬ v < nI 0) (h2 : ¬ nI n < v) : inN v (n + 1) := inN_le hn (nI_0 ▸ h1) (Int32.not_lt.mp h2)
theorem sub1_lt {v : Int32} {n : Nat} (hn : n < 2 ^ 30) (h1 : ¬ v < nI 0) : nI n - nI 1 < v ↔ ¬ inN v n := by
  obtain ⟨j, hj, e⟩ := nI_of (nI_0 ▸ h1)
  subst e
  rw [ic_toInt_lt, pk_sub_toInt hn (by decide), nI_toInt hj]
  constructor
  · rintro h ⟨k, hk, e⟩
    have := (nI_eq hj (by omega)).mp e
    omega
  · intro h
    have : ¬ j < n := fun q => h ⟨j, q, rfl⟩
    omega
theorem inN_subgt {v : Int32} {n : Nat} (hn : n < 2 ^ 30) (h1 : ¬ v < nI 0) (h : nI n - nI 1 < v) : ¬ inN v n := (sub1_lt hn h1).mp h
theorem inN_subof {v : Int32} {n : Nat} (hn : n < 2 ^ 30) (h1 : ¬ v < nI 0) (h : ¬ nI n - nI 1 < v) : inN v n := Classical.not_not.mp (fun q => h ((sub1_lt hn h1).mpr q))
def nbd (j : Nat) : Nat := if j % 397 < 36 then cb (j % 397) else if j % 397 = 36 then 10 else cb (j % 397 - 37)
theorem nbd_99 (j : Nat) : nbd j ≤ 99 := by
  unfold nbd
  split
  · exact cb_99 _
  · split
    · omega
    · exact cb_99 _
def zc (k : Nat) : Nat := [0, 255, 180, 6, 999, 999, 5, 999, 9, 5, 4, 4, 60, 999, 1, 180, 180, 255, 999, 200, 0, 1, 0, 495, 1000, 495, 4, 5, 6].getD k 0
def zb (k j : Nat) : Nat := if k = 20 then nbd j else if k = 22 then cb j else zc k
def ZOk (Z : Nat → Nat → Nat) : Prop := ∀ k j, Z k j ≤ zb k j
theorem zok_set {Z : Nat → Nat → Nat} {k : Nat} {g : Nat → Nat} (h : ZOk Z) (hg : ∀ j, g j ≤ zb k j) : ZOk (ua Z k g) := fun a j => by
  unfold ua
  split
  · rename_i q; rw [q]; exact hg j
  · exact h a j
theorem un_zb {g f : Nat → Nat} {k v : Nat} (h : ∀ j, g j ≤ f j) (hv : v ≤ f k) : ∀ j, un g k v j ≤ f j := un_le2 h hv
/-- as it was but for what is tried and paid -/
def ZK (u Z : Nat → Nat → Nat) : Prop := ZOk u ∧ ∀ k, (k < 20 ∨ 26 < k) → u k = Z k
theorem ZK.rf {Z : Nat → Nat → Nat} (h : ZOk Z) : ZK Z Z := ⟨h, fun _ _ => rfl⟩
theorem ZK.tr {u v Z : Nat → Nat → Nat} (h : ZK u v) (k : ZK v Z) : ZK u Z := ⟨h.1, fun a q => (h.2 a q).trans (k.2 a q)⟩
theorem ZK.set {u Z : Nat → Nat → Nat} {k : Nat} {g : Nat → Nat} (h : ZK u Z) (hk : 20 ≤ k ∧ k ≤ 26) (hg : ∀ j, g j ≤ zb k j) : ZK (ua u k g) Z := ⟨zok_set h.1 hg, fun a q => by rw [ua_n (by omega)]; exact h.2 a q⟩
/-- the token as the reference tells it -/
def srtM (K v : Nat) : Nat := if K = 0 then 3 else if K = 1 then (if v = 0 then 4 else v) else if K = 2 then 1 else if K = 3 then 2 else 4
def sM (t : Nat → Nat) (n a : Nat) : Nat := srtM (pK t n a) (pV t n a)
/-- the digits read so far -/
def DV (t : Nat → Nat) (k m v : Nat) : Prop := (m ≤ 2 → v = numN t k m) ∧ (2 < m → t k ≠ 48 → 99 < v) ∧ v ≤ 999
theorem DV_s {t : Nat → Nat} {k m v : Nat} (h : DV t k m v) (hd : ∀ x, k ≤ x → x ≤ k + m → 48 ≤ t x ∧ t x ≤ 57) : DV t k (m + 1) (if 99 < v then v else 10 * v + t (k + m) - 48) := by
  obtain ⟨h1, h2, h3⟩ := h
  have d0 := hd k (by omega) (by omega)
  have dm := hd (k + m) (by omega) (by omega)
  rcases (show m = 0 ∨ m = 1 ∨ m = 2 ∨ 2 < m by omega) with rfl | rfl | rfl | hm
  · have e := h1 (by omega)
    simp only [numN] at e
    subst e
    refine ⟨fun _ => ?_, fun q => absurd q (by omega), ?_⟩
    · simp only [numN]; rw [if_neg (by omega)]
    · rw [if_neg (by omega)]; omega
  · have e := h1 (by omega)
    simp only [numN, Nat.add_zero] at e
    have hv : v ≤ 9 := by omega
    refine ⟨fun _ => ?_, fun q => absurd q (by omega), ?_⟩
    · simp only [numN, Nat.add_zero]; rw [if_neg (by omega)]; omega
    · rw [if_neg (by omega)]; omega
  · have e := h1 (by omega)
    have d1 := hd (k + 1) (by omega) (by omega)
    simp only [numN, Nat.add_zero] at e
    have hv : v ≤ 99 := by omega
    refine ⟨fun q => absurd q (by omega), fun _ q => ?_, ?_⟩
    · rw [if_neg (by omega)]; omega
    · rw [if_neg (by omega)]; omega
  · refine ⟨fun q => absurd q (by omega), fun _ q => ?_, ?_⟩
    · have := h2 hm q
      rw [if_pos this]; exact this
    · split <;> omega
theorem in_G1 {v : Int32} (h1 : ¬ v < -1) (h2 : ¬ nI 4 < v) : v = -1 ∨ inN v 5 := by
  by_cases h : v < 0
  · exact Or.inl (ic_5 h1 h)
  · exact Or.inr (inN_le (n := 4) (by decide) h (Int32.not_lt.mp h2))
theorem in_G0 {v : Int32} (h : v < -1) : ¬ (v = -1 ∨ inN v 5) := by
  rintro (e | e)
  · rw [e] at h; exact absurd h (by decide)
  · refine inN_neg (n := 5) (by decide) ?_ e
    rw [ic_toInt_lt] at h ⊢
    rw [ic_m1] at h
    have e0 : (0 : Int32).toInt = 0 := by decide
    rw [e0]; omega
theorem in_G2 {v : Int32} (h : nI 4 < v) : ¬ (v = -1 ∨ inN v 5) := by
  rintro (e | e)
  · rw [e] at h; exact absurd h (by decide)
  · exact inN_gt (n := 4) (by decide) h e
