/-! THE CLAIM OUT OF ONE WALK OF THE LAW'S BODY. Your part is whole_start (and what it stands on); all else here is the same for every law, but numbers. -/
def R_law : String := "ChildCoinsLaw"
def lw_P (b : Addr) (xs : List Int32) (args : Array Value) (s : State) : Prop := args = #[.ref b] ∧ s.IntsAt b xs ∧ xs.length ≤ 2560 ∧ (Jvm.Cond.and given_1 narrow_1).before args s = true
def lw_Q (_ : Array Value) (s : State) (o : Outcome) (t : State) : Prop := o = .returned (some (.int 1)) ∧ Framed s o t [] 600000 7302250
def lw_Z (below : List Frame) (a : Array Value) (s : State) : State → Prop := fun t => ∃ o, t.status = .running ∧ Ended t below o ∧ lw_Q a s o t
/-- the law's own end, with 1 on the stack, nothing written that was there before, its room as the claim has it -/
theorem lw_ret {p : Program} {l : Launch} {e : Env} {s : State} {m : MethodId} {below : List Frame} {meth : Method} {c : Code} {b : Nat} (hx : p.tables.exec = Jvm.exec) (hb : c.code = code) (hr : meth.sig.returnType = ret) (hlocks : meth.locks = false) {pc : Nat} {H : Heap} {ls : Array Slot} (hdg : decode code pc = .ok (.ireturn, 1)) : W p l e room_1 s m #[Value.ref b] below meth c H [] 600000 7302250 (lw_Z below #[Value.ref b] s) (F0 m pc ls [.int 1]) := by
  intro T hT X
  obtain ⟨fs, hret, hrun, hended, hW, hframe⟩ := X.leave (v := some (.int 1)) (hlocks := hlocks) (fun h => by rw [hr] at h; cases h)
  have hmeth' : T.vm.method? m = some meth := X.method'
  refine ⟨T.setFrames fs, ?_, .returned (some (.int 1)), hrun, hended, rfl, ⟨_, rfl⟩, hW, hframe⟩
  jvm_step X.here [X.here.top, hx, hb, hdg, hmeth', hr, ret, narrow_b1]
  (try refine ⟨rfl, ?_⟩); (try refine ⟨rfl, ?_⟩)
  first | (intro acts; rw [hret _ acts rfl rfl rfl]) | rw [hret _ _ rfl rfl rfl]
  exact Steps.refl _
/-- what holds at the law's entry: the machine, the code, the tables' words (any of lw_tbl by 'hts w (by decide +kernel)'), the script of L ints xs at the cell b, what the Statement gives of the start (any of its parts by flat_of_before) -/
def lw_At (p : Program) (s : State) (m : MethodId) (meth : Method) (c : Code) (b L : Nat) (xs : Nat → Int32) : Prop :=
  p.tables.exec = Jvm.exec ∧ c.code = code ∧ meth.sig.returnType = ret ∧ c.maxLocals = 4 ∧ s.vm.findClass R_law = some m.cls ∧ (∀ w ∈ lw_tbl, w.before #[Value.ref b] s = true) ∧ va_X b L xs s s.heap ∧ b < s.heap.size ∧ meth.locks = false ∧ (Jvm.Cond.and given_1 narrow_1).before #[Value.ref b] s = true

theorem gtr {ws : List Cond} (g : GoodIn wsL_law ws) : GoodIn lw_tbl ws := fun w h => ⟨(wl_all w (g w h).1).1, (g w h).2⟩
theorem law_sw (x : Int32) : x &&& 31 = 0 ∨ x &&& 31 = 1 ∨ x &&& 31 = 2 ∨ x &&& 31 = 3 ∨ x &&& 31 = 4 ∨ x &&& 31 = 5 ∨ x &&& 31 = 6 ∨ x &&& 31 = 7 ∨ x &&& 31 = 8 ∨ x &&& 31 = 9 ∨ x &&& 31 = 10 ∨ x &&& 31 = 11 ∨ x &&& 31 = 12 ∨ x &&& 31 = 13 ∨ x &&& 31 = 14 ∨ x &&& 31 = 15 ∨ x &&& 31 = 16 ∨ x &&& 31 = 17 ∨ x &&& 31 = 18 ∨ x &&& 31 = 19 ∨ x &&& 31 = 20 ∨ x &&& 31 = 21 ∨ x &&& 31 = 22 ∨ x &&& 31 = 23 ∨ x &&& 31 = 24 ∨ x &&& 31 = 25 ∨ x &&& 31 = 26 ∨ ((x &&& 31).toInt < 0 ∨ (26 : Int) < (x &&& 31).toInt) := by
  obtain ⟨j, hj, e⟩ := pk_andE x (m := 31) 5 (by decide)
  rw [e]
  by_cases h : j < 27
  · have key : ∀ i : Fin 27, nI i.val = 0 ∨ nI i.val = 1 ∨ nI i.val = 2 ∨ nI i.val = 3 ∨ nI i.val = 4 ∨ nI i.val = 5 ∨ nI i.val = 6 ∨ nI i.val = 7 ∨ nI i.val = 8 ∨ nI i.val = 9 ∨ nI i.val = 10 ∨ nI i.val = 11 ∨ nI i.val = 12 ∨ nI i.val = 13 ∨ nI i.val = 14 ∨ nI i.val = 15 ∨ nI i.val = 16 ∨ nI i.val = 17 ∨ nI i.val = 18 ∨ nI i.val = 19 ∨ nI i.val = 20 ∨ nI i.val = 21 ∨ nI i.val = 22 ∨ nI i.val = 23 ∨ nI i.val = 24 ∨ nI i.val = 25 ∨ nI i.val = 26 ∨ ((nI i.val).toInt < 0 ∨ (26 : Int) < (nI i.val).toInt) := by decide +kernel
    exact key ⟨j, h⟩
  · have h2 : (26 : Int) < (nI j).toInt := by rw [nI_toInt (by omega)]; omega
    exact Or.inr (Or.inr (Or.inr (Or.inr (Or.inr (Or.inr (Or.inr (Or.inr (Or.inr (Or.inr (Or.inr (Or.inr (Or.inr (Or.inr (Or.inr (Or.inr (Or.inr (Or.inr (Or.inr (Or.inr (Or.inr (Or.inr (Or.inr (Or.inr (Or.inr (Or.inr (Or.inr (Or.inr h2)))))))))))))))))))))))))))

set_option maxRecDepth 20000 in
theorem nwF_tbl : nwF.map (fun q => Cond.fieldLinkNest q.1 q.2.1 q.2.2.1 q.2.2.2.1 q.2.2.2.2.1 q.2.2.2.2.2) = ([145, 146, 147, 148, 150, 151, 153, 154, 155, 156, 158, 159, 161, 162, 164, 165, 167, 168, 169, 170, 172, 173, 174, 175, 177, 178, 180, 181, 182, 183, 185, 186, 188, 223, 240, 241, 244, 284, 286] : List Nat).filterMap (fun i => lw_tbl[i]?) := by decide +kernel
set_option maxRecDepth 20000 in
theorem nwM_tbl : nwM.map (fun q => Cond.methodLinkNest q.1 q.2.1 q.2.2.1 q.2.2.2) = ([114, 140, 216, 234, 256, 275, 280, 351, 358, 409, 420, 424, 436, 448, 452, 460, 465, 474, 478, 482, 490, 494, 495, 513, 517, 518, 519, 520, 528, 537, 541, 554, 567, 575, 583, 607, 611, 623, 630, 631, 632, 633, 634, 635, 640, 648, 658, 666, 689, 729] : List Nat).filterMap (fun i => lw_tbl[i]?) := by decide +kernel
theorem mem_pos {big : List Cond} {ps : List Nat} {w : Cond} (h : w ∈ ps.filterMap (fun i => big[i]?)) : w ∈ big := by
  obtain ⟨i, -, hi⟩ := List.mem_filterMap.mp h
  exact List.mem_of_getElem? hi
set_option maxHeartbeats 4000000 in
/-- what the tables give at the start -/
theorem law_known {s : State} {args : Array Value} (hts : ∀ w ∈ lw_tbl, w.before args s = true) : ∃ (D : va_G) (cI cB cZ cN : ClassId), KN D cI cB cZ cN s := by
  obtain ⟨c0, iS0, hKn0⟩ := u_known (C := RX0) (T := TX0) (N := 12) (n := 12) hts inX0 (hts (.instantiable RX0 12) (List.mem_of_getElem? (i := 139) (by decide +kernel)))
  obtain ⟨c1, iS1, hKn1⟩ := u_known (C := RX1) (T := TX1) (N := 3) (n := 3) hts inX1 (hts (.instantiable RX1 3) (List.mem_of_getElem? (i := 215) (by decide +kernel)))
  obtain ⟨c2, iS2, hKn2⟩ := u_known (C := RX2) (T := TX2) (N := 4) (n := 4) hts inX2 (hts (.instantiable RX2 4) (List.mem_of_getElem? (i := 233) (by decide +kernel)))
  obtain ⟨c3, iS3, hKn3⟩ := u_known (C := RX3) (T := TX3) (N := 6) (n := 6) hts inX3 (hts (.instantiable RX3 6) (List.mem_of_getElem? (i := 113) (by decide +kernel)))
  obtain ⟨c4, iS4, hKn4⟩ := u_known (C := RX4) (T := TX4) (N := 4) (n := 4) hts inX4 (hts (.instantiable RX4 4) (List.mem_of_getElem? (i := 274) (by decide +kernel)))
  obtain ⟨c5, iS5, hKn5⟩ := u_known (C := RX5) (T := TX5) (N := 4) (n := 4) hts inX5 (hts (.instantiable RX5 4) (List.mem_of_getElem? (i := 255) (by decide +kernel)))
  obtain ⟨c6, iS6, hKn6⟩ := u_known (C := RX6) (T := TX6) (N := 14) (n := 14) hts inX6 (hts (.instantiable RX6 14) (List.mem_of_getElem? (i := 105) (by decide +kernel)))
  obtain ⟨c7, iS7, hKn7⟩ := u_known (C := RX7) (T := TX7) (N := 29) (n := 29) hts inX7 (hts (.instantiable RX7 29) (List.mem_of_getElem? (i := 746) (by decide +kernel)))
  obtain ⟨aI, kI, pI, fI, hI, gI⟩ := Cond.arrayClass_spec (hts (.arrayClass .int) (List.mem_of_getElem? (i := 137) (by decide +kernel)))
  obtain ⟨aB, kB, pB, fB, hB, gB⟩ := Cond.arrayClass_spec (hts (.arrayClass .byte) (List.mem_of_getElem? (i := 847) (by decide +kernel)))
  obtain ⟨aZ, kZ, pZ, fZ, hZ, gZ⟩ := Cond.arrayClass_spec (hts (.arrayClass .boolean) (List.mem_of_getElem? (i := 848) (by decide +kernel)))
  have hov : (Cond.arrayOver (.object "ChildCoins$Now")).before args s = true := hts _ (List.mem_of_getElem? (i := 231) (by decide +kernel))
  obtain ⟨pN, aN, kN, e1, e2, e3, e4, e5⟩ := Cond.arrayOver_spec hov
  refine ⟨(fun k => match k with | 0 => c0 | 1 => c1 | 2 => c2 | 3 => c3 | 4 => c4 | 5 => c5 | 6 => c6 | _ => c7, fun k => match k with | 0 => iS0 | 1 => iS1 | 2 => iS2 | 3 => iS3 | 4 => iS4 | 5 => iS5 | 6 => iS6 | _ => iS7), aI, aB, aZ, aN, ⟨?_, ?_⟩, ?_, ?_, va_AO.of hov⟩
  · intro k q hq
    match k, hq with
    | 0, hq => cases hq; exact hKn0
    | 1, hq => cases hq; exact hKn1
    | 2, hq => cases hq; exact hKn2
    | 3, hq => cases hq; exact hKn3
    | 4, hq => cases hq; exact hKn4
    | 5, hq => cases hq; exact hKn5
    | 6, hq => cases hq; exact hKn6
    | 7, hq => cases hq; exact hKn7
    | k + 8, hq => simp [vwCl] at hq
  · intro k q hq
    match k, hq with
    | 0, hq => cases hq; exact ⟨fun n z => ⟨fun k h => (by cases h), kI, hI, pI, gI⟩, fI⟩
    | 1, hq => cases hq; exact ⟨fun n z => ⟨fun k h => (by cases h), kB, hB, pB, gB⟩, fB⟩
    | 2, hq => cases hq; exact ⟨fun n z => ⟨fun k h => (by cases h), kZ, hZ, pZ, gZ⟩, fZ⟩
    | 3, hq => cases hq; exact ⟨fun n z => ⟨fun k h => (by cases h), kN, e3, pN, e4⟩, kN, pN, e3, e4, e1, e5⟩
    | k + 4, hq => simp [tyl] at hq
  · intro q hq
    exact va_Nw.of rfl (hts _ (mem_pos (nwF_tbl ▸ List.mem_map_of_mem hq)))
  · intro q hq
    exact va_Nw.of rfl (hts _ (mem_pos (nwM_tbl ▸ List.mem_map_of_mem hq)))
theorem dL_law_18 : decode cL_law 18 = .ok (.iload_n 3, 1) := by decide +kernel
theorem dL_law_19 : decode cL_law 19 = .ok (.aload_n 0, 1) := by decide +kernel
theorem dL_law_20 : decode cL_law 20 = .ok (.arraylength, 1) := by decide +kernel
theorem dL_law_21 : decode cL_law 21 = .ok (.iconst 5, 1) := by decide +kernel
theorem dL_law_22 : decode cL_law 22 = .ok (.isub, 1) := by decide +kernel
theorem dL_law_23 : decode cL_law 23 = .ok (.if_icmp .gt 850, 3) := by decide +kernel
theorem dL_law_26 : decode cL_law 26 = .ok (.aload_n 0, 1) := by decide +kernel
theorem dL_law_27 : decode cL_law 27 = .ok (.iload_n 3, 1) := by decide +kernel
theorem dL_law_28 : decode cL_law 28 = .ok (.iaload, 1) := by decide +kernel
theorem dL_law_29 : decode cL_law 29 = .ok (.bipush 31, 2) := by decide +kernel
theorem dL_law_31 : decode cL_law 31 = .ok (.iand, 1) := by decide +kernel
theorem dL_law_32 : decode cL_law 32 = .ok (.tableswitch 835 0 26 #[124, 147, 160, 173, 206, 239, 272, 305, 328, 381, 414, 447, 480, 493, 516, 549, 572, 595, 618, 661, 684, 697, 720, 753, 776, 799, 822], 124) := by decide +kernel
theorem dL_law_867 : decode cL_law 867 = .ok (.iinc 3 5, 3) := by decide +kernel
theorem dL_law_870 : decode cL_law 870 = .ok (.goto (-852), 3) := by decide +kernel
theorem dL_law_873 : decode cL_law 873 = .ok (.iconst 1, 1) := by decide +kernel
theorem dL_law_874 : decode cL_law 874 = .ok (.ireturn, 1) := by decide +kernel
