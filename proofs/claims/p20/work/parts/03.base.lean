abbrev tyl (cI cB cZ cN : ClassId) : List (ClassId × FieldType) := [(cI, .int), (cB, .byte), (cZ, .boolean), (cN, .object "ChildCoins$Now")]
def nwF : List (String × Nat × String × String × String × String) := [(RX5, 25, "ChildCoins$Land", "coins", "I", "ChildCoins"), (RX2, 29, "ChildCoins$Land", "coins", "I", "ChildCoins"), (RX3, 64, "ChildCoins$Land", "coins", "I", "ChildCoins"), (RX6, 254, "ChildCoins$Land", "coins", "I", "ChildCoins"), (RX3, 71, "ChildCoins$Land", "struck", "[I", "ChildCoins"), (RX6, 91, "ChildCoins$Land", "struck", "[I", "ChildCoins"), (RX5, 36, "ChildCoins$Land", "worth", "[I", "ChildCoins"), (RX3, 74, "ChildCoins$Land", "worth", "[I", "ChildCoins"), (RX2, 58, "ChildCoins$Land", "worth", "[I", "ChildCoins"), (RX6, 94, "ChildCoins$Land", "worth", "[I", "ChildCoins"), (RX3, 81, "ChildCoins$Land", "people", "I", "ChildCoins"), (RX6, 201, "ChildCoins$Land", "people", "I", "ChildCoins"), (RX3, 84, "ChildCoins$Land", "born", "[I", "ChildCoins"), (RX6, 107, "ChildCoins$Land", "born", "[I", "ChildCoins"), (RX1, 22, "ChildCoins$Land", "toldHolds", "[I", "ChildCoins"), (RX3, 87, "ChildCoins$Land", "toldHolds", "[I", "ChildCoins"), (RX1, 36, "ChildCoins$Land", "debts", "I", "ChildCoins"), (RX4, 41, "ChildCoins$Land", "debts", "I", "ChildCoins"), (RX3, 90, "ChildCoins$Land", "debts", "I", "ChildCoins"), (RX6, 257, "ChildCoins$Land", "debts", "I", "ChildCoins"), (RX2, 44, "ChildCoins$Land", "debtor", "[I", "ChildCoins"), (RX4, 72, "ChildCoins$Land", "debtor", "[I", "ChildCoins"), (RX3, 93, "ChildCoins$Land", "debtor", "[I", "ChildCoins"), (RX6, 126, "ChildCoins$Land", "debtor", "[I", "ChildCoins"), (RX1, 33, "ChildCoins$Land", "firstCreditor", "[I", "ChildCoins"), (RX3, 96, "ChildCoins$Land", "firstCreditor", "[I", "ChildCoins"), (RX5, 28, "ChildCoins$Land", "sum", "[I", "ChildCoins"), (RX2, 47, "ChildCoins$Land", "sum", "[I", "ChildCoins"), (RX3, 99, "ChildCoins$Land", "sum", "[I", "ChildCoins"), (RX6, 132, "ChildCoins$Land", "sum", "[I", "ChildCoins"), (RX3, 106, "ChildCoins$Land", "span", "I", "ChildCoins"), (RX6, 260, "ChildCoins$Land", "span", "I", "ChildCoins"), (RX3, 102, "ChildCoins$Land", "spanTold", "Z", "ChildCoins"), (RX6, 172, "ChildCoins$Now", "known", "I", "ChildCoins"), (RX4, 75, "ChildCoins$Payment", "used", "[I", "ChildCoins"), (RX6, 157, "ChildCoins$Payment", "used", "[I", "ChildCoins"), (RX6, 141, "ChildCoins$Payment", "total", "I", "ChildCoins"), (RX6, 198, "ChildCoins$Rows", "best", "[I", "ChildCoins"), (RX6, 195, "ChildCoins$Rows", "bestLength", "I", "ChildCoins")]
def nwM : List (String × Nat × MethodName × String) := [(RX6, 19, yX3_init, "ChildCoins"), (RX6, 26, yX0_init, "ChildCoins"), (RX6, 36, yX1_init, "ChildCoins"), (RX6, 50, yX2_init, "ChildCoins"), (RX6, 57, yX5_init, "ChildCoins"), (RX6, 64, yX4_init, "ChildCoins"), (RX4, 11, yX1_init, "ChildCoins"), (RX6, 79, yX3_read, "ChildCoins"), (RX3, 37, yX0_empty, "ChildCoins"), (RX6, 83, yX1_begin, "ChildCoins"), (RX6, 87, yX0_hasCoin, "ChildCoins"), (RX6, 97, yX0_peopleFor, "ChildCoins"), (RX6, 101, yX1_inAll, "ChildCoins"), (RX6, 104, yX0_hasPerson, "ChildCoins"), (RX6, 110, yX0_coinsFor, "ChildCoins"), (RX6, 119, yX1_held, "ChildCoins"), (RX6, 269, yX0_does, "ChildCoins"), (RX6, 123, yX0_hasDebt, "ChildCoins"), (RX6, 129, yX1_creditor, "ChildCoins"), (RX6, 135, yX1_isOpen, "ChildCoins"), (RX6, 263, yX2_find, "ChildCoins"), (RX2, 40, yX0_does, "ChildCoins"), (RX2, 34, yX1_held, "ChildCoins"), (RX6, 207, yX5_gather, "ChildCoins"), (RX5, 30, yX1_creditor, "ChildCoins"), (RX5, 37, yX0_does, "ChildCoins"), (RX5, 41, yX1_inAll, "ChildCoins"), (RX6, 266, yX5_paysWithout, "ChildCoins"), (RX6, 150, yX2_settles, "ChildCoins"), (RX6, 154, yX1_remember, "ChildCoins"), (RX6, 160, yX1_settle, "ChildCoins"), (RX6, 164, yX1_add, "ChildCoins"), (RX6, 168, yX1_setCreditor, "ChildCoins"), (RX6, 175, yX1_stepBack, "ChildCoins"), (RX6, 178, yX1_openBits, "ChildCoins"), (RX6, 191, yX4_search, "ChildCoins"), (RX4, 29, yX1_becomeAnew, "ChildCoins"), (RX4, 46, yX1_openBits, "ChildCoins"), (RX4, 56, yX1_isOpen, "ChildCoins"), (RX4, 60, yX1_creditor, "ChildCoins"), (RX4, 63, yX2_settles, "ChildCoins"), (RX4, 69, yX1_remember, "ChildCoins"), (RX4, 78, yX1_settle, "ChildCoins"), (RX4, 82, yX1_stepBack, "ChildCoins"), (RX6, 204, yX1_holdsAnything, "ChildCoins"), (RX6, 211, yX5_fewestKindsToCorner, "ChildCoins"), (RX6, 214, yX5_oddsUpper, "ChildCoins"), (RX6, 217, yX5_oddsLower, "ChildCoins"), (RX6, 273, yX0_isAbout, "ChildCoins"), (RX6, 245, yX1_become, "ChildCoins")]
/-- links between nest mates, and the array class over Now, as a state has them -/
def NW (U : State) : Prop := (∀ q ∈ nwF, va_Nw (.fieldLinkNest q.1 q.2.1 q.2.2.1 q.2.2.2.1 q.2.2.2.2.1 q.2.2.2.2.2) U) ∧ (∀ q ∈ nwM, va_Nw (.methodLinkNest q.1 q.2.1 q.2.2.1 q.2.2.2) U) ∧ va_AO "ChildCoins$Now" U
theorem NW.warm {s U : State} (hW : s.WarmedH U.vm) (h : NW s) : NW U := ⟨fun q hq => va_Nw.warmF hW (h.1 q hq), fun q hq => va_Nw.warmM hW (h.2.1 q hq), va_AO.moved hW.alike h.2.2⟩
theorem NW.same {u U : State} (e : u.vm = U.vm) (h : NW u) : NW U := ⟨fun q hq => va_Nw.same rfl e (h.1 q hq), fun q hq => va_Nw.same rfl e (h.2.1 q hq), va_AO.moved (by rw [e]; exact Vm.Alike.refl _) h.2.2⟩
def KN (D : va_G) (cI cB cZ cN : ClassId) (U : State) : Prop := va_K D vwCl (tyl cI cB cZ cN) U ∧ NW U
theorem KN.warm {D : va_G} {cI cB cZ cN : ClassId} {s U : State} (hW : s.WarmedH U.vm) (h : KN D cI cB cZ cN s) : KN D cI cB cZ cN U := ⟨va_K.moved hW.alike h.1, h.2.warm hW⟩
theorem KN.same {D : va_G} {cI cB cZ cN : ClassId} {u U : State} (e : u.vm = U.vm) (h : KN D cI cB cZ cN u) : KN D cI cB cZ cN U := ⟨va_K.moved (by rw [e]; exact Vm.Alike.refl _) h.1, h.2.same e⟩
def Pre (D : va_G) (cI cB cZ cN : ClassId) (av : List Value) (wc : va_W) (sz : Nat) : Array Value → State → Prop := va_Pc av (fun U => U.heap.size = sz ∧ va_P D vwCl wc U.heap ∧ KN D cI cB cZ cN U ∧ va_D (fun _ => True) wc)
def Aft {S : Type} (D : va_G) (w1 : S → va_W) (A : Nat → Prop) (u : S) (t : State) : Prop := va_P D vwCl (w1 u) t.heap ∧ va_D A (w1 u)
/-- the rows of a method's code, all at once -/
def decA (c : ByteArray) (l : List (Nat × Instr × Nat)) : Bool := l.all fun q => decide (decode c q.1 = .ok (q.2.1, q.2.2))
theorem decA_get {c : ByteArray} {l : List (Nat × Instr × Nat)} (h : decA c l = true) (k : Nat) {pc n : Nat} {i : Instr} (hk : l[k]? = some (pc, i, n)) : decode c pc = .ok (i, n) := by
  unfold decA at h
  rw [List.all_eq_true] at h
  have h1 := h (pc, i, n) (List.mem_of_getElem? hk)
  dsimp only at h1
  rw [decide_eq_true_iff] at h1
  exact h1
/-- what the heap holds, and that all places differ, in one -/
def wPD (D : va_G) (A : Nat → Prop) (ws : va_W) (H : Heap) : Prop := va_P D vwCl ws H ∧ va_D A ws
/-- contracts: int, void, long -/
def Ci {S : Type} (l : Launch) (D : va_G) (cI cB cZ cN : ClassId) (y : MethodName) (wd : List Cond) (rm : Room) (av : List Value) (wc : va_W) (post : Int32 → S → Prop) (w1 : S → va_W) : Prop :=
  ∀ sz, Met l y wd rm (Pre D cI cB cZ cN av wc sz) (va_Qi post (Aft D w1 (va_A wc sz)) (va_A wc sz)) rm.cells rm.slots (va_A wc sz)
def Cv {S : Type} (l : Launch) (D : va_G) (cI cB cZ cN : ClassId) (y : MethodName) (wd : List Cond) (rm : Room) (av : List Value) (wc : va_W) (post : S → Prop) (w1 : S → va_W) : Prop :=
  ∀ sz, Met l y wd rm (Pre D cI cB cZ cN av wc sz) (va_Qv post (Aft D w1 (va_A wc sz)) (va_A wc sz)) rm.cells rm.slots (va_A wc sz)
def Cj {S : Type} (l : Launch) (D : va_G) (cI cB cZ cN : ClassId) (y : MethodName) (wd : List Cond) (rm : Room) (av : List Value) (wc : va_W) (post : Int64 → S → Prop) (w1 : S → va_W) : Prop :=
  ∀ sz, Met l y wd rm (Pre D cI cB cZ cN av wc sz) (va_Ql post (Aft D w1 (va_A wc sz)) (va_A wc sz)) rm.cells rm.slots (va_A wc sz)
/-- what holds in a method's body from its entry on -/
def Bx (p : Program) (s : State) (m : MethodId) (args : Array Value) (meth : Method) (c : Code) (cc : ByteArray) (maxL : Nat) (ret : Option FieldType) (own nm : String) (wd : List Cond) : Prop :=
  p.tables.exec = Jvm.exec ∧ c.code = cc ∧ meth.sig.returnType = ret ∧ c.maxLocals = maxL ∧ s.vm.findClass own = some m.cls ∧ (∀ w ∈ wd, w.before args s = true) ∧ meth.locks = false ∧ meth.name = nm
theorem bx_of {l : Launch} {D : va_G} {cI cB cZ cN : ClassId} {y : MethodName} {wd wd' : List Cond} {rm : Room} {av : List Value} {wc : va_W} {Qc : Nat → (Nat → Prop) → Array Value → State → Outcome → State → Prop} {cc : ByteArray} {maxL : Nat} {ret : Option FieldType}
    (hy : plainName y.cls = true) (hw : wd = Cond.code y cc maxL ret :: wd') (hl : (lg_sl av).length ≤ maxL)
    (body : ∀ p e s m below meth c A H locs, Bx p s m av.toArray meth c cc maxL ret y.cls y.name wd → KN D cI cB cZ cN s → va_P D vwCl wc H → va_D A wc → va_S A s.heap H locs → (∀ q : Nat, s.heap.size ≤ q → A q) → ∀ ls, lv_has ls maxL (lv_args 0 av) →
      W p l e rm s m av.toArray below meth c H locs 0 0 (MQ below (Qc s.heap.size A) av.toArray s rm.cells rm.slots A) (F0 m 0 ls [])) (sz : Nat) :
    Met l y wd rm (Pre D cI cB cZ cN av wc sz) (Qc sz (va_A wc sz)) rm.cells rm.slots (va_A wc sz) := by
  refine Met.ofW (cc := cc) (maxL := maxL) (ret := ret) hy hw ?_
  intro p e s m args below meth c s₁ B hml hv
  obtain ⟨rfl, hsz, hP, hK, hD0⟩ := hv
  have hts := atoms_spec (ws := wd) B.pre
  have hown : s.vm.findClass y.cls = some m.cls := findClass_of_methodNamed B.named
  have hlocks := B.notSynchronized
  subst hsz
  have hD := hD0.self (sz := s.heap.size)
  have hl := lv_entry av (n := maxL) hl
  rw [lg_entry_eq]
  exact body p e s m below meth c _ _ _ ⟨B.exec, B.bytes, B.returns, hml, hown, hts, hlocks, (name_of_methodNamed B.named B.method).1⟩ hK hP hD va_S.rf (fun q h => Or.inr h) _ hl
section ENDS
variable {S : Type} {p : Program} {l : Launch} {e : Env} {R : Room} {s : State} {m : MethodId} {args : Array Value} {below : List Frame} {meth : Method} {c : Code} {H : Heap} {locs : List Loc} {cells slots mc ms : Nat} {cc : ByteArray} {pc : Nat} {ls : Array Slot} {D : va_G} {A : Nat → Prop} {ws : va_W} {w1 : S → va_W}
theorem en_w (hP : va_P D vwCl ws H) (hD : va_D A ws) (u : S) (ps : List Nat) (hn : va_nd ps = true) (hs : ps.map (fun i => ws[i]?) = (w1 u).map some) {t : State} (ht : t.heap = H) : Aft D w1 A u t := by
  refine ⟨?_, hD.sub ps hn hs⟩
  rw [ht]
  refine hP.sub ps ?_
  have : ∀ (l : List Nat) (r : va_W), l.map (fun i => ws[i]?) = r.map some → l.filterMap (fun i => ws[i]?) = r := by
    intro l
    induction l with
    | nil => intro r h; cases r with
      | nil => rfl
      | cons a r => simp at h
    | cons a l ih => intro r h; cases r with
      | nil => simp at h
      | cons b r =>
        simp only [List.map_cons, List.cons.injEq] at h
        rw [List.filterMap_cons, h.1, ih r h.2]
  exact this ps (w1 u) hs
theorem en_i {post : Int32 → S → Prop} {v : Int32} (hx : p.tables.exec = Jvm.exec) (hb : c.code = cc) (hr : meth.sig.returnType = some .int) (hlocks : meth.locks = false) (hP : va_P D vwCl ws H) (hD : va_D A ws) (hS : va_S A s.heap H locs) (u : S) (ps : List Nat) (hn : va_nd ps = true) (hs : ps.map (fun i => ws[i]?) = (w1 u).map some) (hc : cells ≤ mc) (hz : slots ≤ ms) (hd : decode cc pc = .ok (.ireturn, 1)) (hpost : post v u) :
    W p l e R s m args below meth c H locs cells slots (MQ below (va_Qi post (Aft D w1 A) A) args s mc ms A) (F0 m pc ls [.int v]) :=
  W.widen hc hz (W.iret hx hb hr (fun t ht _ => ⟨⟨v, u, rfl, hpost, en_w hP hD u ps hn hs ht⟩, hS.F ht⟩) hS.2.2 hd hlocks)
theorem en_z {post : Int32 → S → Prop} {v : Int32} (hx : p.tables.exec = Jvm.exec) (hb : c.code = cc) (hr : meth.sig.returnType = some .boolean) (hlocks : meth.locks = false) (hP : va_P D vwCl ws H) (hD : va_D A ws) (hS : va_S A s.heap H locs) (u : S) (ps : List Nat) (hn : va_nd ps = true) (hs : ps.map (fun i => ws[i]?) = (w1 u).map some) (hc : cells ≤ mc) (hz : slots ≤ ms) (hd : decode cc pc = .ok (.ireturn, 1)) (hv : narrow .boolean (.int v) = .int v) (hpost : post v u) :
    W p l e R s m args below meth c H locs cells slots (MQ below (va_Qi post (Aft D w1 A) A) args s mc ms A) (F0 m pc ls [.int v]) :=
  W.widen hc hz (W.zret hx hb hr hv (fun t ht _ => ⟨⟨v, u, rfl, hpost, en_w hP hD u ps hn hs ht⟩, hS.F ht⟩) hS.2.2 hd hlocks)
theorem en_j {post : Int64 → S → Prop} {v : Int64} (hx : p.tables.exec = Jvm.exec) (hb : c.code = cc) (hr : meth.sig.returnType = some .long) (hlocks : meth.locks = false) (hP : va_P D vwCl ws H) (hD : va_D A ws) (hS : va_S A s.heap H locs) (u : S) (ps : List Nat) (hn : va_nd ps = true) (hs : ps.map (fun i => ws[i]?) = (w1 u).map some) (hc : cells ≤ mc) (hz : slots ≤ ms) (hd : decode cc pc = .ok (.lreturn, 1)) (hpost : post v u) :
    W p l e R s m args below meth c H locs cells slots (MQ below (va_Ql post (Aft D w1 A) A) args s mc ms A) (F0 m pc ls [.long v]) :=
  W.widen hc hz (W.lret hx hb hr (fun t ht _ => ⟨⟨v, u, rfl, hpost, en_w hP hD u ps hn hs ht⟩, hS.F ht⟩) hS.2.2 hd hlocks)
theorem en_v {post : S → Prop} (hx : p.tables.exec = Jvm.exec) (hb : c.code = cc) (hr : meth.sig.returnType = none) (hlocks : meth.locks = false) (hP : va_P D vwCl ws H) (hD : va_D A ws) (hS : va_S A s.heap H locs) (u : S) (ps : List Nat) (hn : va_nd ps = true) (hs : ps.map (fun i => ws[i]?) = (w1 u).map some) (hc : cells ≤ mc) (hz : slots ≤ ms) (hd : decode cc pc = .ok (.return_, 1)) (hpost : post u) :
    W p l e R s m args below meth c H locs cells slots (MQ below (va_Qv post (Aft D w1 A) A) args s mc ms A) (F0 m pc ls []) :=
  W.widen hc hz (W.vret hx hb hr (fun t ht _ => ⟨⟨u, rfl, hpost, en_w hP hD u ps hn hs ht⟩, hS.F ht⟩) hS.2.2 hd hlocks)
end ENDS
section CALLS
variable {S : Type} {p : Program} {l : Launch} {e : Env} {R : Room} {s : State} {m : MethodId} {args : Array Value} {below : List Frame} {meth : Method} {c : Code} {H : Heap} {locs : List Loc} {cells slots : Nat} {Q : State → Prop} {cc : ByteArray} {pc nL n index maxL : Nat} {ls : Array Slot} {D : va_G} {cI cB cZ cN : ClassId} {A : Nat → Prop} {ws wc wr : va_W} {w1 : S → va_W} {y : MethodName} {bytes : ByteArray} {ret : Option FieldType} {wd Ts : List Cond} {rm : Room} {own C host : String} {b : Nat} {As rest st0 : List Value}
theorem pre_blind {av : List Value} {sz : Nat} : FrameBlind (Pre D cI cB cZ cN av wc sz) := fun a U g mk q => by
  obtain ⟨q0, q1, qP, qK, qD⟩ := q
  exact ⟨q0, q1, qP, KN.same (u := U) (U := U.calling g mk a) rfl qK, qD⟩
theorem pre_at {av : List Value} (hK : KN D cI cB cZ cN s) (hP : va_P D vwCl ws H) (hD : va_D A ws) (isC : List Nat) (hnc : va_nd isC = true) (hC : isC.map (fun i => ws[i]?) = wc.map some) : ∀ U : State, U.heap = H → s.WarmedH U.vm → Pre D cI cB cZ cN av wc H.size av.toArray U := fun U hU hW => by
  have h := en_w (w1 := fun _ : Unit => wc) hP hD () isC hnc hC hU
  exact ⟨rfl, by rw [hU], h.1, hK.warm hW, h.2.weaken (fun _ _ _ _ => trivial)⟩
/-- behind a call: the callee's world beside the rest -/
theorem be_i {post : Int32 → S → Prop} {free : Addr → Prop} {mc ms : Nat} {av : Array Value} (hr : va_Run p l e R s m args below meth c H locs cells slots mc ms (F0 m pc ls st0) rest (va_Qi post (Aft D w1 (va_A wc H.size)) (va_A wc H.size) av) (va_A wc H.size))
    (hP : va_P D vwCl ws H) (hD : va_D A ws) (hS : va_S A s.heap H locs) (hA : ∀ q : Nat, s.heap.size ≤ q → A q) (isC isR : List Nat) (hC : isC.map (fun i => ws[i]?) = wc.map some) (hR : isR.map (fun i => ws[i]?) = wr.map some) (hn : va_nd isR = true) (hdis : ∀ i ∈ isR, i ∉ isC)
    (kk : ∀ (r : Int32) (u : S) (H1 : Heap) (locs1 : List Loc), post r u → va_P D vwCl (wr ++ w1 u) H1 → va_D A (wr ++ w1 u) → va_S A s.heap H1 locs1 → W p l e R s m args below meth c H1 locs1 (cells + mc) (slots + ms) Q (F0 m (pc + 3) ls (.int r :: rest))) : W p l e R s m args below meth c H locs cells slots Q (F0 m pc ls st0) := by
  have hFc := va_free (wc := wc) hD hS hA isC hC
  refine va_calli hr hS (fun q _ h => hFc q h) hFc (fun r u t H1 locs1 ht hvm hw hB hz1 hk1 hS1 => ?_)
  obtain ⟨hP1, hD1⟩ := hB
  rw [ht] at hP1
  obtain ⟨hP2, hD2⟩ := va_join (wr := wr) (w1 := w1 u) hP hD isC isR hC hR hn hdis hk1 hFc hP1 hD1
  exact kk r u H1 locs1 hw hP2 hD2 hS1
theorem be_i0 {post : Int32 → S → Prop} {mc ms : Nat} {av : Array Value} (hr : va_Run p l e R s m args below meth c H locs cells slots mc ms (F0 m pc ls st0) rest (va_Qi post (Aft D (fun _ : S => wc) (va_A wc H.size)) (va_A wc H.size) av) (va_A wc H.size))
    (hP : va_P D vwCl ws H) (hD : va_D A ws) (hS : va_S A s.heap H locs) (hA : ∀ q : Nat, s.heap.size ≤ q → A q) (isC : List Nat) (hC : isC.map (fun i => ws[i]?) = wc.map some)
    (kk : ∀ (r : Int32) (u : S) (H1 : Heap) (locs1 : List Loc), post r u → va_P D vwCl ws H1 → va_S A s.heap H1 locs1 → W p l e R s m args below meth c H1 locs1 (cells + mc) (slots + ms) Q (F0 m (pc + 3) ls (.int r :: rest))) : W p l e R s m args below meth c H locs cells slots Q (F0 m pc ls st0) := by
  have hFc := va_free (wc := wc) hD hS hA isC hC
  refine va_calli hr hS (fun q _ h => hFc q h) hFc (fun r u t H1 locs1 ht hvm hw hB hz1 hk1 hS1 => ?_)
  obtain ⟨hP1, hD1⟩ := hB
  rw [ht] at hP1
  refine kk r u H1 locs1 hw (fun k q hk => ?_) hS1
  have hl := (hP k q hk).lt
  by_cases hq : va_A wc H.size q.1
  · rcases hq with ⟨k2, e2, h⟩ | h
    · have h1 : (isC.map (fun i => ws[i]?))[k2]? = some (some (q.1, e2)) := by rw [hC, List.getElem?_map, h]; rfl
      rw [List.getElem?_map] at h1
      cases hi : isC[k2]? with
      | none => rw [hi] at h1; cases h1
      | some j =>
        rw [hi] at h1
        have h2 : ws[j]? = some (q.1, e2) := Option.some.inj h1
        have hij := hD.1 k j q (q.1, e2) hk h2 rfl
        subst hij
        have e3 : q = (q.1, e2) := Option.some.inj (hk.symm.trans h2)
        have h3 := hP1 k2 (q.1, e2) h
        rw [← e3] at h3
        exact h3
    · exact absurd hl (Nat.not_lt.mpr h)
  · exact (hP k q hk).kept (hk1 q.1 hl hq)
theorem be_j {post : Int64 → S → Prop} {free : Addr → Prop} {mc ms : Nat} {av : Array Value} (hr : va_Run p l e R s m args below meth c H locs cells slots mc ms (F0 m pc ls st0) rest (va_Ql post (Aft D w1 (va_A wc H.size)) (va_A wc H.size) av) (va_A wc H.size))
    (hP : va_P D vwCl ws H) (hD : va_D A ws) (hS : va_S A s.heap H locs) (hA : ∀ q : Nat, s.heap.size ≤ q → A q) (isC isR : List Nat) (hC : isC.map (fun i => ws[i]?) = wc.map some) (hR : isR.map (fun i => ws[i]?) = wr.map some) (hn : va_nd isR = true) (hdis : ∀ i ∈ isR, i ∉ isC)
    (kk : ∀ (r : Int64) (u : S) (H1 : Heap) (locs1 : List Loc), post r u → va_P D vwCl (wr ++ w1 u) H1 → va_D A (wr ++ w1 u) → va_S A s.heap H1 locs1 → W p l e R s m args below meth c H1 locs1 (cells + mc) (slots + ms) Q (F0 m (pc + 3) ls (.long r :: rest))) : W p l e R s m args below meth c H locs cells slots Q (F0 m pc ls st0) := by
  have hFc := va_free (wc := wc) hD hS hA isC hC
  refine va_calll hr hS (fun q _ h => hFc q h) hFc (fun r u t H1 locs1 ht hvm hw hB hz1 hk1 hS1 => ?_)
  obtain ⟨hP1, hD1⟩ := hB
  rw [ht] at hP1
  obtain ⟨hP2, hD2⟩ := va_join (wr := wr) (w1 := w1 u) hP hD isC isR hC hR hn hdis hk1 hFc hP1 hD1
  exact kk r u H1 locs1 hw hP2 hD2 hS1
theorem be_v {post : S → Prop} {free : Addr → Prop} {mc ms : Nat} {av : Array Value} (hr : va_Run p l e R s m args below meth c H locs cells slots mc ms (F0 m pc ls st0) rest (va_Qv post (Aft D w1 (va_A wc H.size)) (va_A wc H.size) av) (va_A wc H.size))
    (hP : va_P D vwCl ws H) (hD : va_D A ws) (hS : va_S A s.heap H locs) (hA : ∀ q : Nat, s.heap.size ≤ q → A q) (isC isR : List Nat) (hC : isC.map (fun i => ws[i]?) = wc.map some) (hR : isR.map (fun i => ws[i]?) = wr.map some) (hn : va_nd isR = true) (hdis : ∀ i ∈ isR, i ∉ isC)
    (kk : ∀ (u : S) (H1 : Heap) (locs1 : List Loc), post u → va_P D vwCl (wr ++ w1 u) H1 → va_D A (wr ++ w1 u) → va_S A s.heap H1 locs1 → W p l e R s m args below meth c H1 locs1 (cells + mc) (slots + ms) Q (F0 m (pc + 3) ls rest)) : W p l e R s m args below meth c H locs cells slots Q (F0 m pc ls st0) := by
  have hFc := va_free (wc := wc) hD hS hA isC hC
  refine va_callv hr hS (fun q _ h => hFc q h) hFc (fun u t H1 locs1 ht hvm hw hB hz1 hk1 hS1 => ?_)
  obtain ⟨hP1, hD1⟩ := hB
  rw [ht] at hP1
  obtain ⟨hP2, hD2⟩ := va_join (wr := wr) (w1 := w1 u) hP hD isC isR hC hR hn hdis hk1 hFc hP1 hD1
  exact kk u H1 locs1 hw hP2 hD2 hS1
/-- the run of an own or public virtual method, of a nest mate's, of a static one, of a constructor -/
theorem ru_V {Qc : Array Value → State → Outcome → State → Prop} {free : Addr → Prop} (F : CallFix p m c cc nL s args Ts own) (hM : Met l y wd rm (Pre D cI cB cZ cN (.ref b :: As) wc H.size) Qc rm.cells rm.slots free) (hG : GoodIn Ts (wsV own index C y wd)) {wd' : List Cond} (hw : wd = Cond.code y bytes maxL ret :: wd') (hd : y.cls = C ∧ y.cls ≠ "java/lang/invoke/MethodHandle" ∧ y.cls ≠ "java/lang/invoke/VarHandle" ∧ (parseMethodDescriptor y.desc).map (fun d => d.parameters.length) = some As.length) (hRm : rm.frames + 1 ≤ R.frames ∧ 8 + (maxL + 11) + rm.locals ≤ R.locals)
    (hK : KN D cI cB cZ cN s) (hP : va_P D vwCl ws H) (hD : va_D A ws) (ci qr : Nat) {fs : List Value} {T : u_T} {N : Nat} (hcl : vwCl[ci]? = some (C, T, N)) (hrv : ws[qr]? = some (b, .inr (ci, fs))) (isC : List Nat) (hnc : va_nd isC = true) (hC : isC.map (fun i => ws[i]?) = wc.map some)
    (hsz : ls.size = nL) (hst : st0 = As.reverse ++ .ref b :: rest) (hcat : (rest.map fun v => v.category).sum ≤ 8) (hdg : decode cc pc = .ok (.invokevirtual index, 3)) (hf : cells + rm.cells ≤ R.cells ∧ slots + rm.slots ≤ R.slots) :
    va_Run p l e R s m args below meth c H locs cells slots rm.cells rm.slots (F0 m pc ls st0) rest (Qc (Value.ref b :: As).toArray) free :=
  va_runV (As := As) (rest := rest) F hM (cwV As.length F.2.2.2.2 hG hw rfl rfl hd hRm) ⟨pre_blind, va_recv hK.1 hP (ci := ci) (q0 := qr) hcl hrv, pre_at hK hP hD isC hnc hC⟩ rfl rfl hsz hst (lv_room hcat) hdg hf
theorem ru_N {Qc : Array Value → State → Outcome → State → Prop} {free : Addr → Prop} (F : CallFix p m c cc nL s args Ts own) (hM : Met l y wd rm (Pre D cI cB cZ cN (.ref b :: As) wc H.size) Qc rm.cells rm.slots free) (hG : GoodIn Ts wd) {wd' : List Cond} (hw : wd = Cond.code y bytes maxL ret :: wd') (hlk : va_Nw (.methodLinkNest own index y host) s) (hini : (Cond.initialized y.cls).before args s = true) (hins : (Cond.instanceMethod y).before args s = true) (hsel : (Cond.selects C y y).before args s = true) (hd : y.cls ≠ "java/lang/invoke/MethodHandle" ∧ y.cls ≠ "java/lang/invoke/VarHandle" ∧ (parseMethodDescriptor y.desc).map (fun d => d.parameters.length) = some As.length) (hRm : rm.frames + 1 ≤ R.frames ∧ 8 + (maxL + 11) + rm.locals ≤ R.locals)
    (hK : KN D cI cB cZ cN s) (hP : va_P D vwCl ws H) (hD : va_D A ws) (ci qr : Nat) {fs : List Value} {T : u_T} {N : Nat} (hcl : vwCl[ci]? = some (C, T, N)) (hrv : ws[qr]? = some (b, .inr (ci, fs))) (isC : List Nat) (hnc : va_nd isC = true) (hC : isC.map (fun i => ws[i]?) = wc.map some)
    (hsz : ls.size = nL) (hst : st0 = As.reverse ++ .ref b :: rest) (hcat : (rest.map fun v => v.category).sum ≤ 8) (hdg : decode cc pc = .ok (.invokevirtual index, 3)) (hf : cells + rm.cells ≤ R.cells ∧ slots + rm.slots ≤ R.slots) :
    va_Run p l e R s m args below meth c H locs cells slots rm.cells rm.slots (F0 m pc ls st0) rest (Qc (Value.ref b :: As).toArray) free :=
  va_runVN (C := C) (As := As) (rest := rest) F hM ⟨va_cnB As.length F.2.2.2.2 hG hw rfl rfl hlk hini hd hRm, hins, hsel⟩ ⟨pre_blind, va_recv hK.1 hP (ci := ci) (q0 := qr) hcl hrv, pre_at hK hP hD isC hnc hC⟩ rfl rfl hsz hst (lv_room hcat) hdg hf
theorem ru_S {Qc : Array Value → State → Outcome → State → Prop} {free : Addr → Prop} (F : CallFix p m c cc nL s args Ts own) (hM : Met l y wd rm (Pre D cI cB cZ cN As wc H.size) Qc rm.cells rm.slots free) (hG : GoodIn Ts wd) {wd' : List Cond} (hw : wd = Cond.code y bytes maxL ret :: wd') (hini : (Cond.initialized y.cls).before args s = true) (hlk : (Cond.methodLink own index y).before args s = true) (hstat : (Cond.static y).before args s = true) (hd : y.cls ≠ "java/lang/invoke/MethodHandle" ∧ y.cls ≠ "java/lang/invoke/VarHandle" ∧ (parseMethodDescriptor y.desc).map (fun d => d.parameters.length) = some As.length) (hRm : rm.frames + 1 ≤ R.frames ∧ 8 + (maxL + 11) + rm.locals ≤ R.locals)
    (hK : KN D cI cB cZ cN s) (hP : va_P D vwCl ws H) (hD : va_D A ws) (isC : List Nat) (hnc : va_nd isC = true) (hC : isC.map (fun i => ws[i]?) = wc.map some)
    (hsz : ls.size = nL) (hst : st0 = As.reverse ++ rest) (hcat : (rest.map fun v => v.category).sum ≤ 8) (hdg : decode cc pc = .ok (.invokestatic index, 3)) (hf : cells + rm.cells ≤ R.cells ∧ slots + rm.slots ≤ R.slots) :
    va_Run p l e R s m args below meth c H locs cells slots rm.cells rm.slots (F0 m pc ls st0) rest (Qc As.toArray) free :=
  va_runS (As := As) (rest := rest) F hM ⟨callB_of As.length F.2.2.2.2 hG hw rfl rfl hini hlk hd hRm, hstat⟩ ⟨pre_blind, pre_at hK hP hD isC hnc hC⟩ rfl rfl hsz hst (lv_room hcat) hdg hf
theorem ru_I {Qc : Array Value → State → Outcome → State → Prop} {free : Addr → Prop} (F : CallFix p m c cc nL s args Ts own) (hM : Met l y wd rm (Pre D cI cB cZ cN (.ref b :: As) wc H.size) Qc rm.cells rm.slots free) (hG : GoodIn Ts wd) {wd' : List Cond} (hw : wd = Cond.code y bytes maxL none :: wd') (hini : (Cond.initialized y.cls).before args s = true) (hlk : (Cond.methodLink own index y).before args s = true) (hins : (Cond.instanceMethod y).before args s = true) (hnm : y.name = "<init>") (hd : y.cls ≠ "java/lang/invoke/MethodHandle" ∧ y.cls ≠ "java/lang/invoke/VarHandle" ∧ (parseMethodDescriptor y.desc).map (fun d => d.parameters.length) = some As.length) (hRm : rm.frames + 1 ≤ R.frames ∧ 8 + (maxL + 11) + rm.locals ≤ R.locals)
    (hK : KN D cI cB cZ cN s) (hP : va_P D vwCl ws H) (hD : va_D A ws) (isC : List Nat) (hnc : va_nd isC = true) (hC : isC.map (fun i => ws[i]?) = wc.map some)
    (hsz : ls.size = nL) (hst : st0 = As.reverse ++ .ref b :: rest) (hcat : (rest.map fun v => v.category).sum ≤ 8) (hdg : decode cc pc = .ok (.invokespecial index, 3)) (hf : cells + rm.cells ≤ R.cells ∧ slots + rm.slots ≤ R.slots) :
    va_Run p l e R s m args below meth c H locs cells slots rm.cells rm.slots (F0 m pc ls st0) rest (Qc (Value.ref b :: As).toArray) free :=
  va_runI (As := As) (rest := rest) F hM ⟨callB_of As.length F.2.2.2.2 hG hw rfl rfl hini hlk hd hRm, hnm, hins⟩ ⟨pre_blind, pre_at hK hP hD isC hnc hC⟩ rfl rfl hsz hst (lv_room hcat) hdg hf
theorem ru_IN {Qc : Array Value → State → Outcome → State → Prop} {free : Addr → Prop} (F : CallFix p m c cc nL s args Ts own) (hM : Met l y wd rm (Pre D cI cB cZ cN (.ref b :: As) wc H.size) Qc rm.cells rm.slots free) (hG : GoodIn Ts wd) {wd' : List Cond} (hw : wd = Cond.code y bytes maxL none :: wd') (hlk : va_Nw (.methodLinkNest own index y host) s) (hini : (Cond.initialized y.cls).before args s = true) (hins : (Cond.instanceMethod y).before args s = true) (hnm : y.name = "<init>") (hd : y.cls ≠ "java/lang/invoke/MethodHandle" ∧ y.cls ≠ "java/lang/invoke/VarHandle" ∧ (parseMethodDescriptor y.desc).map (fun d => d.parameters.length) = some As.length) (hRm : rm.frames + 1 ≤ R.frames ∧ 8 + (maxL + 11) + rm.locals ≤ R.locals)
    (hK : KN D cI cB cZ cN s) (hP : va_P D vwCl ws H) (hD : va_D A ws) (isC : List Nat) (hnc : va_nd isC = true) (hC : isC.map (fun i => ws[i]?) = wc.map some)
    (hsz : ls.size = nL) (hst : st0 = As.reverse ++ .ref b :: rest) (hcat : (rest.map fun v => v.category).sum ≤ 8) (hdg : decode cc pc = .ok (.invokespecial index, 3)) (hf : cells + rm.cells ≤ R.cells ∧ slots + rm.slots ≤ R.slots) :
    va_Run p l e R s m args below meth c H locs cells slots rm.cells rm.slots (F0 m pc ls st0) rest (Qc (Value.ref b :: As).toArray) free :=
  va_runIN (As := As) (rest := rest) F hM ⟨va_cnB As.length F.2.2.2.2 hG hw rfl rfl hlk hini hd hRm, hnm, hins⟩ ⟨pre_blind, pre_at hK hP hD isC hnc hC⟩ rfl rfl hsz hst (lv_room hcat) hdg hf
/-- a new array of a class that is known already -/
theorem nw_a {atype : ArrayType} {ty : FieldType} {cA : ClassId} (hexec : p.tables.exec = Jvm.exec) (hb : c.code = cc) (harr : (Cond.arrayClass (newarray.typeOf atype)).before args s = true) (hty : newarray.typeOf atype = ty) (hK : KN D cI cB cZ cN s) (t0 : Nat) (ht : (tyl cI cB cZ cN)[t0]? = some (cA, ty)) (ho : ∀ C, ty ≠ .object C) (hP : va_P D vwCl ws H) (hD : va_D A ws) (hS : va_S A s.heap H locs) (hA : ∀ q : Nat, s.heap.size ≤ q → A q)
    {k : Int32} {N' : Nat} {a0 : vp_A} (ha : ∀ cA : ClassId, vp_cell cA a0 = arrV cA N' (fun _ => defaultValue ty)) (hn : ¬ k < 0) (hN : k.toNatClampNeg = N') (hbytes : N' * componentBytes ty ≤ 536870912) (hcells : cells + 1 ≤ R.cells) (hslots : slots + N' ≤ R.slots) (hdg : decode cc pc = .ok (.newarray atype, 2))
    (kk : ∀ (q : Nat) (H1 : Heap), va_P D vwCl (ws ++ [(q, .inl (cA, a0))]) H1 → va_D A (ws ++ [(q, .inl (cA, a0))]) → va_S A s.heap H1 locs →
      W p l e R s m args below meth c H1 locs (cells + 1) (slots + N') Q (F0 m (pc + 2) ls (.ref q :: rest))) : W p l e R s m args below meth c H locs cells slots Q (F0 m pc ls (.int k :: rest)) := by
  refine va_newa hexec hb harr hty hK.1 hP hD hS hA ha hn hN hbytes hcells hslots hdg (fun q cA' H1 hK1 hP1 hD1 hS1 => ?_)
  have h1 := (hK.1.2 t0 _ ht).2
  have h2 := (hK1.2 4 (cA', ty) rfl).2
  have e : cA' = cA := by
    cases ty with
    | object C => exact absurd rfl (ho C)
    | _ => exact Option.some.inj (h2.symm.trans h1)
  subst e
  exact kk q H1 hP1 hD1 hS1
theorem nw_q {cls : String} (hcls : cls = "ChildCoins$Now") (hexec : p.tables.exec = Jvm.exec) (hb : c.code = cc) (hown : s.vm.findClass own = some m.cls) (hclink : (Cond.classLink own index cls).before args s = true) (hK : KN D cI cB cZ cN s) (hP : va_P D vwCl ws H) (hD : va_D A ws) (hS : va_S A s.heap H locs) (hA : ∀ q : Nat, s.heap.size ≤ q → A q)
    {k : Int32} {N' : Nat} (hn : ¬ k < 0) (hN : k.toNatClampNeg = N') (hbytes : N' * 4 ≤ 536870912) (hcells : cells + 1 ≤ R.cells) (hslots : slots + N' ≤ R.slots) (hdg : decode cc pc = .ok (.anewarray index, 3))
    (kk : ∀ (q : Nat) (H1 : Heap), va_P D vwCl (ws ++ [(q, .inl (cN, N', .inr (.inr (.inr (.inr (fun _ => none))))))]) H1 → va_D A (ws ++ [(q, .inl (cN, N', .inr (.inr (.inr (.inr (fun _ => none))))))]) → va_S A s.heap H1 locs →
      W p l e R s m args below meth c H1 locs (cells + 1) (slots + N') Q (F0 m (pc + 3) ls (.ref q :: rest))) : W p l e R s m args below meth c H locs cells slots Q (F0 m pc ls (.int k :: rest)) := by
  subst hcls
  refine va_newq hexec hb hown hclink hK.2.2.2 hK.1 hP hD hS hA hn hN hbytes hcells hslots hdg (fun q cA' H1 hK1 hP1 hD1 hS1 => ?_)
  obtain ⟨_, _, _, _, _, h1⟩ := (hK.1.2 3 _ rfl).2
  obtain ⟨_, _, _, _, _, h2⟩ := (hK1.2 4 (cA', .object "ChildCoins$Now") rfl).2
  have e : cA' = cN := Option.some.inj (h2.symm.trans h1)
  subst e
  exact kk q H1 hP1 hD1 hS1
end CALLS

theorem nfX5_25 {U : State} {a : Array Value} (h : NW U) : (Cond.fieldLinkNest RX5 25 "ChildCoins$Land" "coins" "I" "ChildCoins").before a U = true := va_Nw.use rfl (h.1 (RX5, 25, "ChildCoins$Land", "coins", "I", "ChildCoins") (List.mem_of_getElem? (i := 0) rfl))
theorem nfX2_29 {U : State} {a : Array Value} (h : NW U) : (Cond.fieldLinkNest RX2 29 "ChildCoins$Land" "coins" "I" "ChildCoins").before a U = true := va_Nw.use rfl (h.1 (RX2, 29, "ChildCoins$Land", "coins", "I", "ChildCoins") (List.mem_of_getElem? (i := 1) rfl))
theorem nfX3_64 {U : State} {a : Array Value} (h : NW U) : (Cond.fieldLinkNest RX3 64 "ChildCoins$Land" "coins" "I" "ChildCoins").before a U = true := va_Nw.use rfl (h.1 (RX3, 64, "ChildCoins$Land", "coins", "I", "ChildCoins") (List.mem_of_getElem? (i := 2) rfl))
theorem nfX6_254 {U : State} {a : Array Value} (h : NW U) : (Cond.fieldLinkNest RX6 254 "ChildCoins$Land" "coins" "I" "ChildCoins").before a U = true := va_Nw.use rfl (h.1 (RX6, 254, "ChildCoins$Land", "coins", "I", "ChildCoins") (List.mem_of_getElem? (i := 3) rfl))
theorem nfX3_71 {U : State} {a : Array Value} (h : NW U) : (Cond.fieldLinkNest RX3 71 "ChildCoins$Land" "struck" "[I" "ChildCoins").before a U = true := va_Nw.use rfl (h.1 (RX3, 71, "ChildCoins$Land", "struck", "[I", "ChildCoins") (List.mem_of_getElem? (i := 4) rfl))
theorem nfX6_91 {U : State} {a : Array Value} (h : NW U) : (Cond.fieldLinkNest RX6 91 "ChildCoins$Land" "struck" "[I" "ChildCoins").before a U = true := va_Nw.use rfl (h.1 (RX6, 91, "ChildCoins$Land", "struck", "[I", "ChildCoins") (List.mem_of_getElem? (i := 5) rfl))
theorem nfX5_36 {U : State} {a : Array Value} (h : NW U) : (Cond.fieldLinkNest RX5 36 "ChildCoins$Land" "worth" "[I" "ChildCoins").before a U = true := va_Nw.use rfl (h.1 (RX5, 36, "ChildCoins$Land", "worth", "[I", "ChildCoins") (List.mem_of_getElem? (i := 6) rfl))
theorem nfX3_74 {U : State} {a : Array Value} (h : NW U) : (Cond.fieldLinkNest RX3 74 "ChildCoins$Land" "worth" "[I" "ChildCoins").before a U = true := va_Nw.use rfl (h.1 (RX3, 74, "ChildCoins$Land", "worth", "[I", "ChildCoins") (List.mem_of_getElem? (i := 7) rfl))
theorem nfX2_58 {U : State} {a : Array Value} (h : NW U) : (Cond.fieldLinkNest RX2 58 "ChildCoins$Land" "worth" "[I" "ChildCoins").before a U = true := va_Nw.use rfl (h.1 (RX2, 58, "ChildCoins$Land", "worth", "[I", "ChildCoins") (List.mem_of_getElem? (i := 8) rfl))
theorem nfX6_94 {U : State} {a : Array Value} (h : NW U) : (Cond.fieldLinkNest RX6 94 "ChildCoins$Land" "worth" "[I" "ChildCoins").before a U = true := va_Nw.use rfl (h.1 (RX6, 94, "ChildCoins$Land", "worth", "[I", "ChildCoins") (List.mem_of_getElem? (i := 9) rfl))
theorem nfX3_81 {U : State} {a : Array Value} (h : NW U) : (Cond.fieldLinkNest RX3 81 "ChildCoins$Land" "people" "I" "ChildCoins").before a U = true := va_Nw.use rfl (h.1 (RX3, 81, "ChildCoins$Land", "people", "I", "ChildCoins") (List.mem_of_getElem? (i := 10) rfl))
theorem nfX6_201 {U : State} {a : Array Value} (h : NW U) : (Cond.fieldLinkNest RX6 201 "ChildCoins$Land" "people" "I" "ChildCoins").before a U = true := va_Nw.use rfl (h.1 (RX6, 201, "ChildCoins$Land", "people", "I", "ChildCoins") (List.mem_of_getElem? (i := 11) rfl))
theorem nfX3_84 {U : State} {a : Array Value} (h : NW U) : (Cond.fieldLinkNest RX3 84 "ChildCoins$Land" "born" "[I" "ChildCoins").before a U = true := va_Nw.use rfl (h.1 (RX3, 84, "ChildCoins$Land", "born", "[I", "ChildCoins") (List.mem_of_getElem? (i := 12) rfl))
theorem nfX6_107 {U : State} {a : Array Value} (h : NW U) : (Cond.fieldLinkNest RX6 107 "ChildCoins$Land" "born" "[I" "ChildCoins").before a U = true := va_Nw.use rfl (h.1 (RX6, 107, "ChildCoins$Land", "born", "[I", "ChildCoins") (List.mem_of_getElem? (i := 13) rfl))
theorem nfX1_22 {U : State} {a : Array Value} (h : NW U) : (Cond.fieldLinkNest RX1 22 "ChildCoins$Land" "toldHolds" "[I" "ChildCoins").before a U = true := va_Nw.use rfl (h.1 (RX1, 22, "ChildCoins$Land", "toldHolds", "[I", "ChildCoins") (List.mem_of_getElem? (i := 14) rfl))
theorem nfX3_87 {U : State} {a : Array Value} (h : NW U) : (Cond.fieldLinkNest RX3 87 "ChildCoins$Land" "toldHolds" "[I" "ChildCoins").before a U = true := va_Nw.use rfl (h.1 (RX3, 87, "ChildCoins$Land", "toldHolds", "[I", "ChildCoins") (List.mem_of_getElem? (i := 15) rfl))
theorem nfX1_36 {U : State} {a : Array Value} (h : NW U) : (Cond.fieldLinkNest RX1 36 "ChildCoins$Land" "debts" "I" "ChildCoins").before a U = true := va_Nw.use rfl (h.1 (RX1, 36, "ChildCoins$Land", "debts", "I", "ChildCoins") (List.mem_of_getElem? (i := 16) rfl))
theorem nfX4_41 {U : State} {a : Array Value} (h : NW U) : (Cond.fieldLinkNest RX4 41 "ChildCoins$Land" "debts" "I" "ChildCoins").before a U = true := va_Nw.use rfl (h.1 (RX4, 41, "ChildCoins$Land", "debts", "I", "ChildCoins") (List.mem_of_getElem? (i := 17) rfl))
theorem nfX3_90 {U : State} {a : Array Value} (h : NW U) : (Cond.fieldLinkNest RX3 90 "ChildCoins$Land" "debts" "I" "ChildCoins").before a U = true := va_Nw.use rfl (h.1 (RX3, 90, "ChildCoins$Land", "debts", "I", "ChildCoins") (List.mem_of_getElem? (i := 18) rfl))
theorem nfX6_257 {U : State} {a : Array Value} (h : NW U) : (Cond.fieldLinkNest RX6 257 "ChildCoins$Land" "debts" "I" "ChildCoins").before a U = true := va_Nw.use rfl (h.1 (RX6, 257, "ChildCoins$Land", "debts", "I", "ChildCoins") (List.mem_of_getElem? (i := 19) rfl))
theorem nfX2_44 {U : State} {a : Array Value} (h : NW U) : (Cond.fieldLinkNest RX2 44 "ChildCoins$Land" "debtor" "[I" "ChildCoins").before a U = true := va_Nw.use rfl (h.1 (RX2, 44, "ChildCoins$Land", "debtor", "[I", "ChildCoins") (List.mem_of_getElem? (i := 20) rfl))
theorem nfX4_72 {U : State} {a : Array Value} (h : NW U) : (Cond.fieldLinkNest RX4 72 "ChildCoins$Land" "debtor" "[I" "ChildCoins").before a U = true := va_Nw.use rfl (h.1 (RX4, 72, "ChildCoins$Land", "debtor", "[I", "ChildCoins") (List.mem_of_getElem? (i := 21) rfl))
theorem nfX3_93 {U : State} {a : Array Value} (h : NW U) : (Cond.fieldLinkNest RX3 93 "ChildCoins$Land" "debtor" "[I" "ChildCoins").before a U = true := va_Nw.use rfl (h.1 (RX3, 93, "ChildCoins$Land", "debtor", "[I", "ChildCoins") (List.mem_of_getElem? (i := 22) rfl))
theorem nfX6_126 {U : State} {a : Array Value} (h : NW U) : (Cond.fieldLinkNest RX6 126 "ChildCoins$Land" "debtor" "[I" "ChildCoins").before a U = true := va_Nw.use rfl (h.1 (RX6, 126, "ChildCoins$Land", "debtor", "[I", "ChildCoins") (List.mem_of_getElem? (i := 23) rfl))
theorem nfX1_33 {U : State} {a : Array Value} (h : NW U) : (Cond.fieldLinkNest RX1 33 "ChildCoins$Land" "firstCreditor" "[I" "ChildCoins").before a U = true := va_Nw.use rfl (h.1 (RX1, 33, "ChildCoins$Land", "firstCreditor", "[I", "ChildCoins") (List.mem_of_getElem? (i := 24) rfl))
theorem nfX3_96 {U : State} {a : Array Value} (h : NW U) : (Cond.fieldLinkNest RX3 96 "ChildCoins$Land" "firstCreditor" "[I" "ChildCoins").before a U = true := va_Nw.use rfl (h.1 (RX3, 96, "ChildCoins$Land", "firstCreditor", "[I", "ChildCoins") (List.mem_of_getElem? (i := 25) rfl))
theorem nfX5_28 {U : State} {a : Array Value} (h : NW U) : (Cond.fieldLinkNest RX5 28 "ChildCoins$Land" "sum" "[I" "ChildCoins").before a U = true := va_Nw.use rfl (h.1 (RX5, 28, "ChildCoins$Land", "sum", "[I", "ChildCoins") (List.mem_of_getElem? (i := 26) rfl))
theorem nfX2_47 {U : State} {a : Array Value} (h : NW U) : (Cond.fieldLinkNest RX2 47 "ChildCoins$Land" "sum" "[I" "ChildCoins").before a U = true := va_Nw.use rfl (h.1 (RX2, 47, "ChildCoins$Land", "sum", "[I", "ChildCoins") (List.mem_of_getElem? (i := 27) rfl))
theorem nfX3_99 {U : State} {a : Array Value} (h : NW U) : (Cond.fieldLinkNest RX3 99 "ChildCoins$Land" "sum" "[I" "ChildCoins").before a U = true := va_Nw.use rfl (h.1 (RX3, 99, "ChildCoins$Land", "sum", "[I", "ChildCoins") (List.mem_of_getElem? (i := 28) rfl))
theorem nfX6_132 {U : State} {a : Array Value} (h : NW U) : (Cond.fieldLinkNest RX6 132 "ChildCoins$Land" "sum" "[I" "ChildCoins").before a U = true := va_Nw.use rfl (h.1 (RX6, 132, "ChildCoins$Land", "sum", "[I", "ChildCoins") (List.mem_of_getElem? (i := 29) rfl))
theorem nfX3_106 {U : State} {a : Array Value} (h : NW U) : (Cond.fieldLinkNest RX3 106 "ChildCoins$Land" "span" "I" "ChildCoins").before a U = true := va_Nw.use rfl (h.1 (RX3, 106, "ChildCoins$Land", "span", "I", "ChildCoins") (List.mem_of_getElem? (i := 30) rfl))
theorem nfX6_260 {U : State} {a : Array Value} (h : NW U) : (Cond.fieldLinkNest RX6 260 "ChildCoins$Land" "span" "I" "ChildCoins").before a U = true := va_Nw.use rfl (h.1 (RX6, 260, "ChildCoins$Land", "span", "I", "ChildCoins") (List.mem_of_getElem? (i := 31) rfl))
theorem nfX3_102 {U : State} {a : Array Value} (h : NW U) : (Cond.fieldLinkNest RX3 102 "ChildCoins$Land" "spanTold" "Z" "ChildCoins").before a U = true := va_Nw.use rfl (h.1 (RX3, 102, "ChildCoins$Land", "spanTold", "Z", "ChildCoins") (List.mem_of_getElem? (i := 32) rfl))
theorem nfX6_172 {U : State} {a : Array Value} (h : NW U) : (Cond.fieldLinkNest RX6 172 "ChildCoins$Now" "known" "I" "ChildCoins").before a U = true := va_Nw.use rfl (h.1 (RX6, 172, "ChildCoins$Now", "known", "I", "ChildCoins") (List.mem_of_getElem? (i := 33) rfl))
theorem nfX4_75 {U : State} {a : Array Value} (h : NW U) : (Cond.fieldLinkNest RX4 75 "ChildCoins$Payment" "used" "[I" "ChildCoins").before a U = true := va_Nw.use rfl (h.1 (RX4, 75, "ChildCoins$Payment", "used", "[I", "ChildCoins") (List.mem_of_getElem? (i := 34) rfl))
theorem nfX6_157 {U : State} {a : Array Value} (h : NW U) : (Cond.fieldLinkNest RX6 157 "ChildCoins$Payment" "used" "[I" "ChildCoins").before a U = true := va_Nw.use rfl (h.1 (RX6, 157, "ChildCoins$Payment", "used", "[I", "ChildCoins") (List.mem_of_getElem? (i := 35) rfl))
theorem nfX6_141 {U : State} {a : Array Value} (h : NW U) : (Cond.fieldLinkNest RX6 141 "ChildCoins$Payment" "total" "I" "ChildCoins").before a U = true := va_Nw.use rfl (h.1 (RX6, 141, "ChildCoins$Payment", "total", "I", "ChildCoins") (List.mem_of_getElem? (i := 36) rfl))
theorem nfX6_198 {U : State} {a : Array Value} (h : NW U) : (Cond.fieldLinkNest RX6 198 "ChildCoins$Rows" "best" "[I" "ChildCoins").before a U = true := va_Nw.use rfl (h.1 (RX6, 198, "ChildCoins$Rows", "best", "[I", "ChildCoins") (List.mem_of_getElem? (i := 37) rfl))
theorem nfX6_195 {U : State} {a : Array Value} (h : NW U) : (Cond.fieldLinkNest RX6 195 "ChildCoins$Rows" "bestLength" "I" "ChildCoins").before a U = true := va_Nw.use rfl (h.1 (RX6, 195, "ChildCoins$Rows", "bestLength", "I", "ChildCoins") (List.mem_of_getElem? (i := 38) rfl))
theorem nmX6_19 {U : State} (h : NW U) : va_Nw (.methodLinkNest RX6 19 yX3_init "ChildCoins") U := h.2.1 (RX6, 19, yX3_init, "ChildCoins") (List.mem_of_getElem? (i := 0) rfl)
theorem nmX6_26 {U : State} (h : NW U) : va_Nw (.methodLinkNest RX6 26 yX0_init "ChildCoins") U := h.2.1 (RX6, 26, yX0_init, "ChildCoins") (List.mem_of_getElem? (i := 1) rfl)
theorem nmX6_36 {U : State} (h : NW U) : va_Nw (.methodLinkNest RX6 36 yX1_init "ChildCoins") U := h.2.1 (RX6, 36, yX1_init, "ChildCoins") (List.mem_of_getElem? (i := 2) rfl)
theorem nmX6_50 {U : State} (h : NW U) : va_Nw (.methodLinkNest RX6 50 yX2_init "ChildCoins") U := h.2.1 (RX6, 50, yX2_init, "ChildCoins") (List.mem_of_getElem? (i := 3) rfl)
theorem nmX6_57 {U : State} (h : NW U) : va_Nw (.methodLinkNest RX6 57 yX5_init "ChildCoins") U := h.2.1 (RX6, 57, yX5_init, "ChildCoins") (List.mem_of_getElem? (i := 4) rfl)
theorem nmX6_64 {U : State} (h : NW U) : va_Nw (.methodLinkNest RX6 64 yX4_init "ChildCoins") U := h.2.1 (RX6, 64, yX4_init, "ChildCoins") (List.mem_of_getElem? (i := 5) rfl)
theorem nmX4_11 {U : State} (h : NW U) : va_Nw (.methodLinkNest RX4 11 yX1_init "ChildCoins") U := h.2.1 (RX4, 11, yX1_init, "ChildCoins") (List.mem_of_getElem? (i := 6) rfl)
theorem nmX6_79 {U : State} (h : NW U) : va_Nw (.methodLinkNest RX6 79 yX3_read "ChildCoins") U := h.2.1 (RX6, 79, yX3_read, "ChildCoins") (List.mem_of_getElem? (i := 7) rfl)
theorem nmX3_37 {U : State} (h : NW U) : va_Nw (.methodLinkNest RX3 37 yX0_empty "ChildCoins") U := h.2.1 (RX3, 37, yX0_empty, "ChildCoins") (List.mem_of_getElem? (i := 8) rfl)
theorem nmX6_83 {U : State} (h : NW U) : va_Nw (.methodLinkNest RX6 83 yX1_begin "ChildCoins") U := h.2.1 (RX6, 83, yX1_begin, "ChildCoins") (List.mem_of_getElem? (i := 9) rfl)
theorem nmX6_87 {U : State} (h : NW U) : va_Nw (.methodLinkNest RX6 87 yX0_hasCoin "ChildCoins") U := h.2.1 (RX6, 87, yX0_hasCoin, "ChildCoins") (List.mem_of_getElem? (i := 10) rfl)
theorem nmX6_97 {U : State} (h : NW U) : va_Nw (.methodLinkNest RX6 97 yX0_peopleFor "ChildCoins") U := h.2.1 (RX6, 97, yX0_peopleFor, "ChildCoins") (List.mem_of_getElem? (i := 11) rfl)
theorem nmX6_101 {U : State} (h : NW U) : va_Nw (.methodLinkNest RX6 101 yX1_inAll "ChildCoins") U := h.2.1 (RX6, 101, yX1_inAll, "ChildCoins") (List.mem_of_getElem? (i := 12) rfl)
theorem nmX6_104 {U : State} (h : NW U) : va_Nw (.methodLinkNest RX6 104 yX0_hasPerson "ChildCoins") U := h.2.1 (RX6, 104, yX0_hasPerson, "ChildCoins") (List.mem_of_getElem? (i := 13) rfl)
theorem nmX6_110 {U : State} (h : NW U) : va_Nw (.methodLinkNest RX6 110 yX0_coinsFor "ChildCoins") U := h.2.1 (RX6, 110, yX0_coinsFor, "ChildCoins") (List.mem_of_getElem? (i := 14) rfl)
theorem nmX6_119 {U : State} (h : NW U) : va_Nw (.methodLinkNest RX6 119 yX1_held "ChildCoins") U := h.2.1 (RX6, 119, yX1_held, "ChildCoins") (List.mem_of_getElem? (i := 15) rfl)
theorem nmX6_269 {U : State} (h : NW U) : va_Nw (.methodLinkNest RX6 269 yX0_does "ChildCoins") U := h.2.1 (RX6, 269, yX0_does, "ChildCoins") (List.mem_of_getElem? (i := 16) rfl)
theorem nmX6_123 {U : State} (h : NW U) : va_Nw (.methodLinkNest RX6 123 yX0_hasDebt "ChildCoins") U := h.2.1 (RX6, 123, yX0_hasDebt, "ChildCoins") (List.mem_of_getElem? (i := 17) rfl)
theorem nmX6_129 {U : State} (h : NW U) : va_Nw (.methodLinkNest RX6 129 yX1_creditor "ChildCoins") U := h.2.1 (RX6, 129, yX1_creditor, "ChildCoins") (List.mem_of_getElem? (i := 18) rfl)
theorem nmX6_135 {U : State} (h : NW U) : va_Nw (.methodLinkNest RX6 135 yX1_isOpen "ChildCoins") U := h.2.1 (RX6, 135, yX1_isOpen, "ChildCoins") (List.mem_of_getElem? (i := 19) rfl)
theorem nmX6_263 {U : State} (h : NW U) : va_Nw (.methodLinkNest RX6 263 yX2_find "ChildCoins") U := h.2.1 (RX6, 263, yX2_find, "ChildCoins") (List.mem_of_getElem? (i := 20) rfl)
theorem nmX2_40 {U : State} (h : NW U) : va_Nw (.methodLinkNest RX2 40 yX0_does "ChildCoins") U := h.2.1 (RX2, 40, yX0_does, "ChildCoins") (List.mem_of_getElem? (i := 21) rfl)
theorem nmX2_34 {U : State} (h : NW U) : va_Nw (.methodLinkNest RX2 34 yX1_held "ChildCoins") U := h.2.1 (RX2, 34, yX1_held, "ChildCoins") (List.mem_of_getElem? (i := 22) rfl)
theorem nmX6_207 {U : State} (h : NW U) : va_Nw (.methodLinkNest RX6 207 yX5_gather "ChildCoins") U := h.2.1 (RX6, 207, yX5_gather, "ChildCoins") (List.mem_of_getElem? (i := 23) rfl)
theorem nmX5_30 {U : State} (h : NW U) : va_Nw (.methodLinkNest RX5 30 yX1_creditor "ChildCoins") U := h.2.1 (RX5, 30, yX1_creditor, "ChildCoins") (List.mem_of_getElem? (i := 24) rfl)
theorem nmX5_37 {U : State} (h : NW U) : va_Nw (.methodLinkNest RX5 37 yX0_does "ChildCoins") U := h.2.1 (RX5, 37, yX0_does, "ChildCoins") (List.mem_of_getElem? (i := 25) rfl)
theorem nmX5_41 {U : State} (h : NW U) : va_Nw (.methodLinkNest RX5 41 yX1_inAll "ChildCoins") U := h.2.1 (RX5, 41, yX1_inAll, "ChildCoins") (List.mem_of_getElem? (i := 26) rfl)
theorem nmX6_266 {U : State} (h : NW U) : va_Nw (.methodLinkNest RX6 266 yX5_paysWithout "ChildCoins") U := h.2.1 (RX6, 266, yX5_paysWithout, "ChildCoins") (List.mem_of_getElem? (i := 27) rfl)
theorem nmX6_150 {U : State} (h : NW U) : va_Nw (.methodLinkNest RX6 150 yX2_settles "ChildCoins") U := h.2.1 (RX6, 150, yX2_settles, "ChildCoins") (List.mem_of_getElem? (i := 28) rfl)
theorem nmX6_154 {U : State} (h : NW U) : va_Nw (.methodLinkNest RX6 154 yX1_remember "ChildCoins") U := h.2.1 (RX6, 154, yX1_remember, "ChildCoins") (List.mem_of_getElem? (i := 29) rfl)
theorem nmX6_160 {U : State} (h : NW U) : va_Nw (.methodLinkNest RX6 160 yX1_settle "ChildCoins") U := h.2.1 (RX6, 160, yX1_settle, "ChildCoins") (List.mem_of_getElem? (i := 30) rfl)
theorem nmX6_164 {U : State} (h : NW U) : va_Nw (.methodLinkNest RX6 164 yX1_add "ChildCoins") U := h.2.1 (RX6, 164, yX1_add, "ChildCoins") (List.mem_of_getElem? (i := 31) rfl)
theorem nmX6_168 {U : State} (h : NW U) : va_Nw (.methodLinkNest RX6 168 yX1_setCreditor "ChildCoins") U := h.2.1 (RX6, 168, yX1_setCreditor, "ChildCoins") (List.mem_of_getElem? (i := 32) rfl)
theorem nmX6_175 {U : State} (h : NW U) : va_Nw (.methodLinkNest RX6 175 yX1_stepBack "ChildCoins") U := h.2.1 (RX6, 175, yX1_stepBack, "ChildCoins") (List.mem_of_getElem? (i := 33) rfl)
theorem nmX6_178 {U : State} (h : NW U) : va_Nw (.methodLinkNest RX6 178 yX1_openBits "ChildCoins") U := h.2.1 (RX6, 178, yX1_openBits, "ChildCoins") (List.mem_of_getElem? (i := 34) rfl)
theorem nmX6_191 {U : State} (h : NW U) : va_Nw (.methodLinkNest RX6 191 yX4_search "ChildCoins") U := h.2.1 (RX6, 191, yX4_search, "ChildCoins") (List.mem_of_getElem? (i := 35) rfl)
theorem nmX4_29 {U : State} (h : NW U) : va_Nw (.methodLinkNest RX4 29 yX1_becomeAnew "ChildCoins") U := h.2.1 (RX4, 29, yX1_becomeAnew, "ChildCoins") (List.mem_of_getElem? (i := 36) rfl)
theorem nmX4_46 {U : State} (h : NW U) : va_Nw (.methodLinkNest RX4 46 yX1_openBits "ChildCoins") U := h.2.1 (RX4, 46, yX1_openBits, "ChildCoins") (List.mem_of_getElem? (i := 37) rfl)
theorem nmX4_56 {U : State} (h : NW U) : va_Nw (.methodLinkNest RX4 56 yX1_isOpen "ChildCoins") U := h.2.1 (RX4, 56, yX1_isOpen, "ChildCoins") (List.mem_of_getElem? (i := 38) rfl)
theorem nmX4_60 {U : State} (h : NW U) : va_Nw (.methodLinkNest RX4 60 yX1_creditor "ChildCoins") U := h.2.1 (RX4, 60, yX1_creditor, "ChildCoins") (List.mem_of_getElem? (i := 39) rfl)
theorem nmX4_63 {U : State} (h : NW U) : va_Nw (.methodLinkNest RX4 63 yX2_settles "ChildCoins") U := h.2.1 (RX4, 63, yX2_settles, "ChildCoins") (List.mem_of_getElem? (i := 40) rfl)
theorem nmX4_69 {U : State} (h : NW U) : va_Nw (.methodLinkNest RX4 69 yX1_remember "ChildCoins") U := h.2.1 (RX4, 69, yX1_remember, "ChildCoins") (List.mem_of_getElem? (i := 41) rfl)
theorem nmX4_78 {U : State} (h : NW U) : va_Nw (.methodLinkNest RX4 78 yX1_settle "ChildCoins") U := h.2.1 (RX4, 78, yX1_settle, "ChildCoins") (List.mem_of_getElem? (i := 42) rfl)
theorem nmX4_82 {U : State} (h : NW U) : va_Nw (.methodLinkNest RX4 82 yX1_stepBack "ChildCoins") U := h.2.1 (RX4, 82, yX1_stepBack, "ChildCoins") (List.mem_of_getElem? (i := 43) rfl)
theorem nmX6_204 {U : State} (h : NW U) : va_Nw (.methodLinkNest RX6 204 yX1_holdsAnything "ChildCoins") U := h.2.1 (RX6, 204, yX1_holdsAnything, "ChildCoins") (List.mem_of_getElem? (i := 44) rfl)
theorem nmX6_211 {U : State} (h : NW U) : va_Nw (.methodLinkNest RX6 211 yX5_fewestKindsToCorner "ChildCoins") U := h.2.1 (RX6, 211, yX5_fewestKindsToCorner, "ChildCoins") (List.mem_of_getElem? (i := 45) rfl)
theorem nmX6_214 {U : State} (h : NW U) : va_Nw (.methodLinkNest RX6 214 yX5_oddsUpper "ChildCoins") U := h.2.1 (RX6, 214, yX5_oddsUpper, "ChildCoins") (List.mem_of_getElem? (i := 46) rfl)
theorem nmX6_217 {U : State} (h : NW U) : va_Nw (.methodLinkNest RX6 217 yX5_oddsLower "ChildCoins") U := h.2.1 (RX6, 217, yX5_oddsLower, "ChildCoins") (List.mem_of_getElem? (i := 47) rfl)
theorem nmX6_273 {U : State} (h : NW U) : va_Nw (.methodLinkNest RX6 273 yX0_isAbout "ChildCoins") U := h.2.1 (RX6, 273, yX0_isAbout, "ChildCoins") (List.mem_of_getElem? (i := 48) rfl)
theorem nmX6_245 {U : State} (h : NW U) : va_Nw (.methodLinkNest RX6 245 yX1_become "ChildCoins") U := h.2.1 (RX6, 245, yX1_become, "ChildCoins") (List.mem_of_getElem? (i := 49) rfl)
