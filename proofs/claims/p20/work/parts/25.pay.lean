/-- the fewest pieces of a sum by coin c and those above: over the first i numbers of coins -/
def ffG (g : Nat → Nat) (c w z : Nat) : Nat → Nat
  | 0 => 1000000
  | i + 1 => if w * i ≤ z ∧ i + g ((c + 1) * 61 + (z - w * i)) < ffG g c w z i then i + g ((c + 1) * 61 + (z - w * i)) else ffG g c w z i
theorem ffG_le (g : Nat → Nat) (c w z : Nat) : ∀ i, ffG g c w z i ≤ 1000000
  | 0 => Nat.le_refl _
  | i + 1 => by
    have h := ffG_le g c w z i
    show (if _ then _ else _) ≤ _
    split
    · rename_i q; exact Nat.le_trans (Nat.le_of_lt q.2) h
    · exact h
theorem ffG_t {g : Nat → Nat} {c w z i : Nat} (h1 : w * i ≤ z) (h2 : i + g ((c + 1) * 61 + (z - w * i)) < ffG g c w z i) : i + g ((c + 1) * 61 + (z - w * i)) = ffG g c w z (i + 1) := by
  show _ = (if _ then _ else _)
  rw [if_pos ⟨h1, h2⟩]
theorem ffG_f {g : Nat → Nat} {c w z i : Nat} (h2 : ffG g c w z i ≤ i + g ((c + 1) * 61 + (z - w * i))) : ffG g c w z i = ffG g c w z (i + 1) := by
  show _ = (if _ then _ else _)
  rw [if_neg (fun q => absurd q.2 (by omega))]
theorem ffG_o {g : Nat → Nat} {c w z i : Nat} (h : z < w * i) : ∀ k, ffG g c w z i = ffG g c w z (i + k)
  | 0 => rfl
  | k + 1 => by
    have e := ffG_o (g := g) (c := c) h k
    have hm := Nat.mul_le_mul_left w (show i ≤ i + k by omega)
    exact e.trans (if_neg (fun q => Nat.lt_irrefl z (Nat.lt_of_lt_of_le h (Nat.le_trans hm q.1)))).symm
theorem sub_st (a b w : Nat) : nI a - nI b - nI w = nI a - nI (b + w) := by
  rw [← nI_add, Int32.sub_eq_add_neg, Int32.sub_eq_add_neg, Int32.sub_eq_add_neg, Int32.neg_add, Int32.add_assoc, Int32.sub_eq_add_neg]
theorem add_sb {x a b : Nat} (h : b ≤ a) : nI x + (nI a - nI b) = nI (x + (a - b)) := by rw [pk_sub h, nI_add]
theorem sub_0 (a : Nat) : nI a = nI a - nI 0 := by rw [pk_sub (Nat.zero_le a)]; rfl
theorem nb_if_lts {p : Program} {l : Launch} {e : Env} {R : Room} {s : State} {m : MethodId} {args : Array Value} {below : List Frame} {meth : Method} {c : Code} {H : Heap} {locs : List Loc} {cells slots : Nat} {Q : State → Prop} {cc : ByteArray} {pc : Nat} {ls : Array Slot} {rest : List Value} {a b : Nat} {off : Int} {tgt : Nat} (hexec : p.tables.exec = Jvm.exec) (hb : c.code = cc) (hdg : decode cc pc = .ok (.ifCond .lt off, 3)) (ht : (pc : Int) + off = (tgt : Int)) (h1 : a < 2 ^ 30) (h2 : b < 2 ^ 30) (kt : a < b → W p l e R s m args below meth c H locs cells slots Q (F0 m tgt ls rest)) (kf : b ≤ a → W p l e R s m args below meth c H locs cells slots Q (F0 m (pc + 3) ls rest)) : W p l e R s m args below meth c H locs cells slots Q (F0 m pc ls (.int (nI a - nI b) :: rest)) := by
  have key : nI a - nI b < 0 ↔ a < b := by
    rw [ic_toInt_lt, pk_sub_toInt h1 h2]
    show ((a : Int) - b < 0) ↔ _
    omega
  exact lv_if_lt hexec hb hdg ht (fun h => kt (key.mp h)) (fun h => kf (Nat.le_of_not_lt (fun q => h (key.mpr q))))
