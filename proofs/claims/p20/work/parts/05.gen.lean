abbrev nF (g : Nat → Nat) : Nat → Int32 := fun j => nI (g j)
def un (g : Nat → Nat) (k v : Nat) : Nat → Nat := fun j => if j = k then v else g j
def ua (S : Nat → Nat → Nat) (k : Nat) (g : Nat → Nat) : Nat → Nat → Nat := fun a => if a = k then g else S a
theorem nF_st {g : Nat → Nat} {e v : Nat} (h : e < 2 ^ 31) : upd (nF g) (nI e).toNatClampNeg (nI v) = nF (un g e v) := by
  rw [nI_clamp h]
  funext j
  simp only [upd, nF, un]
  split <;> rfl
theorem nF_ld {g : Nat → Nat} {e : Nat} (h : e < 2 ^ 31) : nF g (nI e).toNatClampNeg = nI (g e) := by rw [nI_clamp h]
theorem nF_cp {f g : Nat → Nat} {a b n : Nat} (ha : a < 2 ^ 31) (hb : b < 2 ^ 31) (hn : n < 2 ^ 31) : va_cpy (nF f) (nF g) (nI a).toNatClampNeg (nI b).toNatClampNeg (nI n).toNatClampNeg = nF (va_cpy f g a b n) := by
  rw [nI_clamp ha, nI_clamp hb, nI_clamp hn]
  funext j
  simp only [va_cpy, nF]
  split <;> rfl
theorem un_s {g : Nat → Nat} {k v : Nat} : un g k v k = v := by simp [un]
theorem un_n {g : Nat → Nat} {k v j : Nat} (h : j ≠ k) : un g k v j = g j := by simp [un, h]
theorem ua_n {S : Nat → Nat → Nat} {k j : Nat} {g : Nat → Nat} (h : j ≠ k) : ua S k g j = S j := by simp [ua, h]
/-- an argument that is a place below n -/
def inN (v : Int32) (n : Nat) : Prop := ∃ k, k < n ∧ v = nI k
theorem inN_neg {v : Int32} {n : Nat} (hn : n < 2 ^ 31) (h : v < 0) : ¬ inN v n := fun ⟨k, hk, e⟩ => nI_pos (n := k) (by omega) (e ▸ h)
theorem inN_ge {v : Int32} {n : Nat} (hn : n < 2 ^ 31) (h : nI n ≤ v) : ¬ inN v n := fun ⟨k, hk, e⟩ => nI_ge hk hn (e ▸ h)
theorem inN_of {v : Int32} {n : Nat} (hn : n < 2 ^ 31) (h1 : ¬ v < 0) (h2 : ¬ nI n ≤ v) : inN v n := by
  obtain ⟨j, hj, e⟩ := nI_of h1
  refine ⟨j, ?_, e⟩
  rcases Nat.lt_or_ge j n with q | q
  · exact q
  · exact absurd (by rw [e]; exact nI_le q hj) h2
theorem sh_31 : ∀ d, d < 32 → ((nI d &&& 31).toBitVec.smod 32).toNat = d := by decide +kernel
theorem nI_shr {a d : Nat} (h : a < 2 ^ 31) (hd : d < 32) : nI a >>> (nI d &&& 31) = nI (a / 2 ^ d) := pk_shrN h _ d (sh_31 d hd)
theorem nI_shl {a d : Nat} (hd : d < 32) (h : a * 2 ^ d < 2 ^ 32) : nI a <<< (nI d &&& 31) = nI (a * 2 ^ d) := pk_shlN _ d (sh_31 d hd) h
theorem nI_and1 {a : Nat} (h : a < 2 ^ 32) : nI a &&& nI 1 = nI (a % 2) := pk_andN (k := 1) h (by decide)
theorem nI_or (a b : Nat) : nI a ||| nI b = nI (a ||| b) := by
  apply Int32.toBitVec_inj.mp
  show (BitVec.ofNat 32 a) ||| (BitVec.ofNat 32 b) = BitVec.ofNat 32 (a ||| b)
  apply BitVec.eq_of_toNat_eq
  simp [BitVec.toNat_or, Nat.or_mod_two_pow]
section NB
variable {p : Program} {l : Launch} {e : Env} {R : Room} {s : State} {m : MethodId} {args : Array Value} {below : List Frame} {meth : Method} {c : Code} {H : Heap} {locs : List Loc} {cells slots : Nat} {Q : State → Prop} {cc : ByteArray} {pc : Nat} {ls : Array Slot} {rest : List Value} {a b : Nat} {off : Int} {tgt : Nat}
theorem nb_icmp_lt (hexec : p.tables.exec = Jvm.exec) (hb : c.code = cc) (hdg : decode cc pc = .ok (.if_icmp .lt off, 3)) (ht : (pc : Int) + off = (tgt : Int)) (h1 : a < 2 ^ 31) (h2 : b < 2 ^ 31) (kt : a < b → W p l e R s m args below meth c H locs cells slots Q (F0 m tgt ls rest)) (kf : b ≤ a → W p l e R s m args below meth c H locs cells slots Q (F0 m (pc + 3) ls rest)) : W p l e R s m args below meth c H locs cells slots Q (F0 m pc ls (.int (nI b) :: .int (nI a) :: rest)) :=
  lv_icmp_lt hexec hb hdg ht (fun h => kt ((nI_ltI h1 h2).mp h)) (fun h => kf (Nat.le_of_not_lt (fun q => h ((nI_ltI h1 h2).mpr q))))
theorem nb_icmp_ge (hexec : p.tables.exec = Jvm.exec) (hb : c.code = cc) (hdg : decode cc pc = .ok (.if_icmp .ge off, 3)) (ht : (pc : Int) + off = (tgt : Int)) (h1 : a < 2 ^ 31) (h2 : b < 2 ^ 31) (kt : b ≤ a → W p l e R s m args below meth c H locs cells slots Q (F0 m tgt ls rest)) (kf : a < b → W p l e R s m args below meth c H locs cells slots Q (F0 m (pc + 3) ls rest)) : W p l e R s m args below meth c H locs cells slots Q (F0 m pc ls (.int (nI b) :: .int (nI a) :: rest)) :=
  lv_icmp_ge hexec hb hdg ht (fun h => kt ((nI_leI h2 h1).mp h)) (fun h => kf (Nat.lt_of_not_le (fun q => h ((nI_leI h2 h1).mpr q))))
theorem nb_icmp_gt (hexec : p.tables.exec = Jvm.exec) (hb : c.code = cc) (hdg : decode cc pc = .ok (.if_icmp .gt off, 3)) (ht : (pc : Int) + off = (tgt : Int)) (h1 : a < 2 ^ 31) (h2 : b < 2 ^ 31) (kt : b < a → W p l e R s m args below meth c H locs cells slots Q (F0 m tgt ls rest)) (kf : a ≤ b → W p l e R s m args below meth c H locs cells slots Q (F0 m (pc + 3) ls rest)) : W p l e R s m args below meth c H locs cells slots Q (F0 m pc ls (.int (nI b) :: .int (nI a) :: rest)) :=
  lv_icmp_gt hexec hb hdg ht (fun h => kt ((nI_ltI h2 h1).mp h)) (fun h => kf (Nat.le_of_not_lt (fun q => h ((nI_ltI h2 h1).mpr q))))
theorem nb_icmp_le (hexec : p.tables.exec = Jvm.exec) (hb : c.code = cc) (hdg : decode cc pc = .ok (.if_icmp .le off, 3)) (ht : (pc : Int) + off = (tgt : Int)) (h1 : a < 2 ^ 31) (h2 : b < 2 ^ 31) (kt : a ≤ b → W p l e R s m args below meth c H locs cells slots Q (F0 m tgt ls rest)) (kf : b < a → W p l e R s m args below meth c H locs cells slots Q (F0 m (pc + 3) ls rest)) : W p l e R s m args below meth c H locs cells slots Q (F0 m pc ls (.int (nI b) :: .int (nI a) :: rest)) :=
  lv_icmp_le hexec hb hdg ht (fun h => kt ((nI_leI h1 h2).mp h)) (fun h => kf (Nat.lt_of_not_le (fun q => h ((nI_leI h1 h2).mpr q))))
theorem nb_icmp_eq (hexec : p.tables.exec = Jvm.exec) (hb : c.code = cc) (hdg : decode cc pc = .ok (.if_icmp .eq off, 3)) (ht : (pc : Int) + off = (tgt : Int)) (h1 : a < 2 ^ 31) (h2 : b < 2 ^ 31) (kt : a = b → W p l e R s m args below meth c H locs cells slots Q (F0 m tgt ls rest)) (kf : a ≠ b → W p l e R s m args below meth c H locs cells slots Q (F0 m (pc + 3) ls rest)) : W p l e R s m args below meth c H locs cells slots Q (F0 m pc ls (.int (nI b) :: .int (nI a) :: rest)) :=
  lv_icmp_eq hexec hb hdg ht (fun h => kt ((nI_eq h1 h2).mp h)) (fun h => kf (fun q => h ((nI_eq h1 h2).mpr q)))
theorem nb_icmp_ne (hexec : p.tables.exec = Jvm.exec) (hb : c.code = cc) (hdg : decode cc pc = .ok (.if_icmp .ne off, 3)) (ht : (pc : Int) + off = (tgt : Int)) (h1 : a < 2 ^ 31) (h2 : b < 2 ^ 31) (kt : a ≠ b → W p l e R s m args below meth c H locs cells slots Q (F0 m tgt ls rest)) (kf : a = b → W p l e R s m args below meth c H locs cells slots Q (F0 m (pc + 3) ls rest)) : W p l e R s m args below meth c H locs cells slots Q (F0 m pc ls (.int (nI b) :: .int (nI a) :: rest)) :=
  lv_icmp_ne hexec hb hdg ht (fun h => kt (fun q => h ((nI_eq h1 h2).mpr q))) (fun h => kf ((nI_eq h1 h2).mp h))
theorem nb_if_eq (hexec : p.tables.exec = Jvm.exec) (hb : c.code = cc) (hdg : decode cc pc = .ok (.ifCond .eq off, 3)) (ht : (pc : Int) + off = (tgt : Int)) (h1 : a < 2 ^ 31) (kt : a = 0 → W p l e R s m args below meth c H locs cells slots Q (F0 m tgt ls rest)) (kf : 0 < a → W p l e R s m args below meth c H locs cells slots Q (F0 m (pc + 3) ls rest)) : W p l e R s m args below meth c H locs cells slots Q (F0 m pc ls (.int (nI a) :: rest)) :=
  lv_if_eq hexec hb hdg ht (fun h => kt ((nI_eq h1 (by decide : 0 < 2 ^ 31)).mp h)) (fun h => kf (Nat.pos_of_ne_zero (fun q => h ((nI_eq h1 (by decide : 0 < 2 ^ 31)).mpr q))))
theorem nb_if_ne (hexec : p.tables.exec = Jvm.exec) (hb : c.code = cc) (hdg : decode cc pc = .ok (.ifCond .ne off, 3)) (ht : (pc : Int) + off = (tgt : Int)) (h1 : a < 2 ^ 31) (kt : 0 < a → W p l e R s m args below meth c H locs cells slots Q (F0 m tgt ls rest)) (kf : a = 0 → W p l e R s m args below meth c H locs cells slots Q (F0 m (pc + 3) ls rest)) : W p l e R s m args below meth c H locs cells slots Q (F0 m pc ls (.int (nI a) :: rest)) :=
  lv_if_ne hexec hb hdg ht (fun h => kt (Nat.pos_of_ne_zero (fun q => h ((nI_eq h1 (by decide : 0 < 2 ^ 31)).mpr q)))) (fun h => kf ((nI_eq h1 (by decide : 0 < 2 ^ 31)).mp h))
theorem nb_if_le (hexec : p.tables.exec = Jvm.exec) (hb : c.code = cc) (hdg : decode cc pc = .ok (.ifCond .le off, 3)) (ht : (pc : Int) + off = (tgt : Int)) (h1 : a < 2 ^ 31) (kt : a = 0 → W p l e R s m args below meth c H locs cells slots Q (F0 m tgt ls rest)) (kf : 0 < a → W p l e R s m args below meth c H locs cells slots Q (F0 m (pc + 3) ls rest)) : W p l e R s m args below meth c H locs cells slots Q (F0 m pc ls (.int (nI a) :: rest)) :=
  lv_if_le hexec hb hdg ht (fun h => kt (Nat.le_zero.mp ((nI_leI h1 (by decide : 0 < 2 ^ 31)).mp h))) (fun h => kf (Nat.pos_of_ne_zero (fun q => h ((nI_leI h1 (by decide : 0 < 2 ^ 31)).mpr (Nat.le_of_eq q)))))
theorem nb_if_ge (hexec : p.tables.exec = Jvm.exec) (hb : c.code = cc) (hdg : decode cc pc = .ok (.ifCond .ge off, 3)) (ht : (pc : Int) + off = (tgt : Int)) (h1 : a < 2 ^ 31) (kt : W p l e R s m args below meth c H locs cells slots Q (F0 m tgt ls rest)) : W p l e R s m args below meth c H locs cells slots Q (F0 m pc ls (.int (nI a) :: rest)) :=
  lv_if_ge (tgt := tgt) hexec hb hdg ht (fun _ => kt) (fun h => absurd (nI_pos' h1) h)
/-- a loop with a state: I i σ at the head -/
theorem loopS {σ : Type} {D : va_G} {A : Nat → Prop} (I : Nat → σ → Prop) (ws : Nat → σ → va_W) (lv : Nat → σ → List (Nat × Value)) (pc nL N i0 : Nat) (h0 : i0 ≤ N)
    (hx : ∀ z, I N z → ∀ H locs ls, va_P D vwCl (ws N z) H → va_D A (ws N z) → va_S A s.heap H locs → lv_has ls nL (lv N z) → W p l e R s m args below meth c H locs cells slots Q (F0 m pc ls []))
    (hs : ∀ i, i0 ≤ i → i < N → ∀ z, I i z → (∀ z', I (i + 1) z' → ∀ H locs ls, va_P D vwCl (ws (i + 1) z') H → va_D A (ws (i + 1) z') → va_S A s.heap H locs → lv_has ls nL (lv (i + 1) z') → W p l e R s m args below meth c H locs cells slots Q (F0 m pc ls [])) →
      ∀ H locs ls, va_P D vwCl (ws i z) H → va_D A (ws i z) → va_S A s.heap H locs → lv_has ls nL (lv i z) → W p l e R s m args below meth c H locs cells slots Q (F0 m pc ls [])) :
    ∀ z, I i0 z → ∀ H locs ls, va_P D vwCl (ws i0 z) H → va_D A (ws i0 z) → va_S A s.heap H locs → lv_has ls nL (lv i0 z) → W p l e R s m args below meth c H locs cells slots Q (F0 m pc ls []) := by
  have key : ∀ n i, i0 ≤ i → i + n = N → ∀ z, I i z → ∀ H locs ls, va_P D vwCl (ws i z) H → va_D A (ws i z) → va_S A s.heap H locs → lv_has ls nL (lv i z) → W p l e R s m args below meth c H locs cells slots Q (F0 m pc ls []) := by
    intro n
    induction n with
    | zero =>
      intro i hi hN
      have e : i = N := by omega
      subst e
      exact hx
    | succ n ih =>
      intro i hi hN z hz
      exact hs i hi (by omega) z hz (ih (i + 1) (by omega) (by omega))
  exact key (N - i0) i0 (Nat.le_refl _) (by omega)
end NB
/-- a land as the class holds it: rows by the field table -/
def LandOk (L : Nat → Nat → Nat) : Prop := L 0 0 ≤ 6 ∧ L 3 0 ≤ 5 ∧ L 6 0 ≤ 5 ∧ L 10 0 ≤ 20 ∧ L 11 0 ≤ 1 ∧ (∀ j, L 1 j ≤ 99) ∧ (∀ j, L 2 j ≤ 99) ∧ (∀ j, L 4 j ≤ 99) ∧ (∀ j, L 5 j ≤ 9) ∧ (∀ j, L 7 j < 5) ∧ (∀ j, L 8 j < 5) ∧ (∀ j, L 9 j ≤ 60)
def abN (L : Nat → Nat → Nat) (c y : Nat) : Nat := if L 1 c ≤ y ∧ y < L 1 c + L 10 0 then 1 else 0
def doN (L : Nat → Nat → Nat) (c q : Nat) : Nat := abN L c (L 4 q + 7)
theorem abN_le (L : Nat → Nat → Nat) (c y : Nat) : abN L c y ≤ 1 := by unfold abN; split <;> simp
/-- bits of a set built from below -/
def bitsN (f : Nat → Nat) : Nat → Nat
  | 0 => 0
  | n + 1 => bitsN f n ||| (if f n = 0 then 0 else 2 ^ n)
theorem bitsN_lt (f : Nat → Nat) : ∀ n, bitsN f n < 2 ^ n
  | 0 => by simp [bitsN]
  | n + 1 => by
    unfold bitsN
    refine Nat.or_lt_two_pow ?_ ?_
    · exact Nat.lt_of_lt_of_le (bitsN_lt f n) (Nat.pow_le_pow_right (by decide) (Nat.le_succ n))
    · split
      · exact Nat.two_pow_pos _
      · exact Nat.pow_lt_pow_right (by decide) (Nat.lt_succ_self n)
def sumN (f : Nat → Nat) : Nat → Nat
  | 0 => 0
  | n + 1 => sumN f n + f n
theorem sumN_le {f : Nat → Nat} {M : Nat} (h : ∀ j, f j ≤ M) : ∀ n, sumN f n ≤ n * M
  | 0 => by simp [sumN]
  | n + 1 => by
    have := sumN_le h n
    have := h n
    unfold sumN
    rw [Nat.succ_mul]
    omega
theorem b01 {a : Nat} (h : a ≤ 1) : narrow .boolean (.int (nI a)) = .int (nI a) := by
  rcases (show a = 0 ∨ a = 1 by omega) with rfl | rfl <;> rfl
theorem shl_1 {d : Nat} (h : d < 31) : nI 1 <<< (nI d &&& 31) = nI (2 ^ d) := by
  have h2 : 2 ^ d < 2 ^ 32 := Nat.pow_lt_pow_right (by decide) (by omega)
  rw [nI_shl (by omega) (by rw [Nat.one_mul]; exact h2), Nat.one_mul]
theorem doN_le (L : Nat → Nat → Nat) (c q : Nat) : doN L c q ≤ 1 := abN_le L c _
theorem bitsN_t {f : Nat → Nat} {i : Nat} (h : 0 < f i) : bitsN f i ||| 2 ^ i = bitsN f (i + 1) := by
  show _ = bitsN f i ||| _
  rw [if_neg (by omega)]
theorem bitsN_f {f : Nat → Nat} {i : Nat} (h : f i = 0) : bitsN f i = bitsN f (i + 1) := by
  show _ = bitsN f i ||| _
  rw [if_pos h, Nat.or_zero]
theorem fill_0 {α : Type} {g : Nat → α} {v : α} : (fun j => if j < 0 then v else g j) = g := by funext j; simp
theorem fill_s {g : Nat → Nat} {v i : Nat} : un (fun j => if j < i then v else g j) i v = fun j => if j < i + 1 then v else g j := by
  funext j
  simp only [un]
  by_cases h1 : j = i
  · rw [if_pos h1, if_pos (by omega)]
  · by_cases h2 : j < i
    · rw [if_neg h1, if_pos h2, if_pos (by omega)]
    · rw [if_neg h1, if_neg h2, if_neg (by omega)]
/-- a land emptied -/
def emptyN (L : Nat → Nat → Nat) : Nat → Nat → Nat := ua (ua (ua (ua (ua (ua L 0 (fun _ => 0)) 3 (fun _ => 0)) 5 (fun j => if j < 30 then 0 else L 5 j)) 6 (fun _ => 0)) 10 (fun _ => 9)) 11 (fun _ => 0)
/-- bounds of what changes: 30 holdings, 5 creditors, the open bits; the past row by row -/
def cb (j : Nat) : Nat := if j % 36 < 30 then 99 else if j % 36 < 35 then 4 else 31
theorem cb_99 (j : Nat) : cb j ≤ 99 := by unfold cb; split <;> (try split) <;> omega
def NowOk (S : Nat → Nat → Nat) : Prop := (∀ j, S 0 j ≤ cb j) ∧ (∀ j, S 1 j ≤ cb j) ∧ S 2 0 ≤ 10
theorem NowOk.c99 {S : Nat → Nat → Nat} (h : NowOk S) (j : Nat) : S 0 j ≤ 99 := Nat.le_trans (h.1 j) (cb_99 j)
theorem NowOk.p99 {S : Nat → Nat → Nat} (h : NowOk S) (j : Nat) : S 1 j ≤ 99 := Nat.le_trans (h.2.1 j) (cb_99 j)
theorem NowOk.cr {S : Nat → Nat → Nat} (h : NowOk S) {d : Nat} (hd : d < 5) : S 0 (30 + d) ≤ 4 := by
  have h1 := h.1 (30 + d)
  unfold cb at h1
  rw [if_neg (by omega), if_pos (by omega)] at h1
  exact h1
theorem NowOk.op {S : Nat → Nat → Nat} (h : NowOk S) : S 0 35 ≤ 31 := h.1 35
theorem nI_addneg {a k : Nat} (h : k ≤ a) : nI a + -nI k = nI (a - k) := by rw [← pk_sub h, Int32.sub_eq_add_neg]
theorem sumN_pos {f : Nat → Nat} : ∀ {n i : Nat}, i < n → 0 < f i → 0 < sumN f n
  | n + 1, i, hi, h => by
    unfold sumN
    rcases (show i < n ∨ i = n by omega) with q | q
    · have := sumN_pos (f := f) q h; omega
    · subst q; omega
def anyN (f : Nat → Nat) (n : Nat) : Nat := if sumN f n = 0 then 0 else 1
theorem anyN_le (f : Nat → Nat) (n : Nat) : anyN f n ≤ 1 := by unfold anyN; split <;> omega
theorem bit_le (a d : Nat) : a / 2 ^ d % 2 ≤ 1 := by omega
theorem div_le99 {a d : Nat} (h : a ≤ 99) : a / 2 ^ d ≤ 99 := Nat.le_trans (Nat.div_le_self _ _) h
/-- the past grows by one, at most ten -/
def remN (S : Nat → Nat → Nat) : Nat → Nat → Nat :=
  if S 2 0 < 10 then ua (ua S 1 (va_cpy (S 0) (S 1) 0 (S 2 0 * 36) 36)) 2 (fun _ => S 2 0 + 1)
  else ua (ua S 1 (va_cpy (S 0) (va_cpy (S 1) (S 1) 36 0 324) 0 324 36)) 2 (fun _ => 10)
def begN (S L : Nat → Nat → Nat) : Nat → Nat → Nat := ua (ua S 0 (un (va_cpy (L 8) (va_cpy (L 5) (S 0) 0 0 30) 0 30 5) 35 (2 ^ L 6 0 - 1))) 2 (fun _ => 0)
def clrN (x d : Nat) : Nat := if x / 2 ^ d % 2 = 0 then x else x - 2 ^ d
theorem clr_all : ∀ x, x < 32 → ∀ d, d < 5 → nI x &&& (nI (2 ^ d) ^^^ (-1)) = nI (clrN x d) := by decide +kernel
theorem clr_ok {x d : Nat} (hx : x ≤ 31) (hd : d < 5) : nI x &&& (nI (2 ^ d) ^^^ (-1)) = nI (clrN x d) := clr_all x (by omega) d hd
theorem clr_le (x d : Nat) : clrN x d ≤ x := by unfold clrN; split; exact Nat.le_refl _; exact Nat.sub_le _ _
/-- coins go from one to another, kind by kind -/
def stlN (g us : Nat → Nat) (db cr : Nat) : Nat → (Nat → Nat)
  | 0 => g
  | n + 1 => un (un (stlN g us db cr n) (db * 6 + n) (stlN g us db cr n (db * 6 + n) - us n)) (cr * 6 + n) (un (stlN g us db cr n) (db * 6 + n) (stlN g us db cr n (db * 6 + n) - us n) (cr * 6 + n) + us n)
theorem stl_col {g us : Nat → Nat} {db cr : Nat} : ∀ {n q c : Nat}, n ≤ c → c < 6 → stlN g us db cr n (q * 6 + c) = g (q * 6 + c)
  | 0, _, _, _, _ => rfl
  | n + 1, q, c, h, hc => by
    show un (un _ _ _) _ _ (q * 6 + c) = _
    rw [un_n (by omega), un_n (by omega)]
    exact stl_col (by omega) hc
theorem stl_hi {g us : Nat → Nat} {db cr : Nat} (h1 : db < 5) (h2 : cr < 5) : ∀ {n j : Nat}, n ≤ 6 → 30 ≤ j → stlN g us db cr n j = g j
  | 0, _, _, _ => rfl
  | n + 1, j, h, hj => by
    show un (un _ _ _) _ _ j = _
    rw [un_n (by omega), un_n (by omega)]
    exact stl_hi h1 h2 (by omega) hj
