section G5
variable {p : Program} {l : Launch} {e : Env} {R : Room} {s : State} {m : MethodId} {args : Array Value} {below : List Frame} {meth : Method} {c : Code} {H : Heap} {locs : List Loc} {cells slots : Nat} {Q : State → Prop} {cc : ByteArray} {pc : Nat} {ls : Array Slot} {rest : List Value} {a b : Nat} {off : Int} {tgt : Nat}
theorem nb_gt5 (hexec : p.tables.exec = Jvm.exec) (hb : c.code = cc) (hdg : decode cc pc = .ok (.if_icmp .gt off, 3)) (ht : (pc : Int) + off = (tgt : Int)) (h1 : a < 2 ^ 30) (h2 : b < 2 ^ 30) (kt : b < a + 5 → W p l e R s m args below meth c H locs cells slots Q (F0 m tgt ls rest)) (kf : a + 5 ≤ b → W p l e R s m args below meth c H locs cells slots Q (F0 m (pc + 3) ls rest)) : W p l e R s m args below meth c H locs cells slots Q (F0 m pc ls (.int (nI b - nI 5) :: .int (nI a) :: rest)) := by
  have key : nI b - nI 5 < nI a ↔ b < a + 5 := by
    rw [ic_toInt_lt, pk_sub_toInt h2 (by decide), nI_toInt (by omega)]
    omega
  exact lv_icmp_gt hexec hb hdg ht (fun h => kt (key.mp h)) (fun h => kf (Nat.le_of_not_lt (fun q => h (key.mpr q))))
end G5
set_option maxHeartbeats 4000000 in
set_option maxRecDepth 100000 in
theorem law_all {p : Program} {l : Launch} {e : Env} {s : State} {m : MethodId} {below : List Frame} {meth : Method} {c : Code} {D : va_G} {cI cB cZ cN : ClassId} {A : Nat → Prop} {b L : Nat} {xs : Nat → Int32} {H : Heap} {locs : List Loc} {ls : Array Slot} {a : Nat → Nat} {S : Nat → Nat → Nat → Nat} {tx tz : Int64} (C0 : lw_At p s m meth c b L xs) (hK : KN D cI cB cZ cN s) (hA : ∀ q : Nat, s.heap.size ≤ q → A q) (hAf : ∀ q : Nat, A q → s.heap.size ≤ q) (hL2 : L ≤ 2560) (hR : RelB S tx tz) (hP : va_P D vwCl (LW cI cB cZ cN a S tx tz) H) (hD : va_D A (LW cI cB cZ cN a S tx tz)) (hS : va_S A s.heap H locs) (hl : lv_has ls 4 [(0, .ref b), (1, .ref (a 0)), (2, .ref (a 44)), (3, .int (nI (5 * 0)))]) : W p l e room_1 s m #[Value.ref b] below meth c H locs 65 4410 (lw_Z below #[Value.ref b] s) (F0 m 18 ls []) := by
  obtain ⟨hx, hb, hr, hml, hown, hts, hXs, hbl, hlk, hgv⟩ := id C0
  have hbA : ¬ A b := fun q => absurd (hAf b q) (Nat.not_le.mpr hbl)
  refine loopS (σ := (Nat → Nat) × (Nat → Nat → Nat → Nat) × Int64 × Int64) (D := D) (A := A) (fun i z => RelB z.2.1 z.2.2.1 z.2.2.2) (fun i z => (LW cI cB cZ cN z.1 z.2.1 z.2.2.1 z.2.2.2)) (fun i z => [(0, .ref b), (1, .ref (z.1 0)), (2, .ref (z.1 44)), (3, .int (nI (5 * i)))]) 18 4 (L / 5) 0 (Nat.zero_le _) ?_ ?_ (a, S, tx, tz) hR _ _ ls hP hD hS hl
  · intro z hRz H locs ls hP hD hS hl
    have hl : lv_has ls 4 [(0, .ref b), (1, .ref (z.1 0)), (2, .ref (z.1 44)), (3, .int (nI (5 * (L / 5))))] := hl
    refine lv_iload_n hx hb dL_law_18 rfl (lv_at hl 3 rfl) ?_
    refine lv_aload_n hx hb dL_law_19 rfl (lv_at hl 0 rfl) ?_
    refine va_slen hx hb hXs hbl hbA hS dL_law_20 ?_
    refine set_i (y := nI L) rfl ?_
    refine lv_iconst (v := nI 5) hx hb dL_law_21 (by decide) ?_
    refine lv_isub hx hb dL_law_22 ?_
    refine nb_gt5 (tgt := 873) hx hb dL_law_23 (by decide) (by omega) (by omega) (fun hq => ?_) (fun hq => absurd hq (by omega))
    refine lv_iconst (v := 1) hx hb dL_law_873 (by decide) ?_
    refine va_forget (fun q hq => hAf _ (hS.2.2 q hq)) ?_
    refine W.widen (k := 600000) (n := 7302250) (Nat.le_of_ble_eq_true rfl) (Nat.le_of_ble_eq_true rfl) ?_
    exact lw_ret hx hb hr hlk dL_law_874
  · intro i hi0 hi z hRz ih H locs ls hP hD hS hl
    have hl : lv_has ls 4 [(0, .ref b), (1, .ref (z.1 0)), (2, .ref (z.1 44)), (3, .int (nI (5 * i)))] := hl
    refine lv_iload_n hx hb dL_law_18 rfl (lv_at hl 3 rfl) ?_
    refine lv_aload_n hx hb dL_law_19 rfl (lv_at hl 0 rfl) ?_
    refine va_slen hx hb hXs hbl hbA hS dL_law_20 ?_
    refine set_i (y := nI L) rfl ?_
    refine lv_iconst (v := nI 5) hx hb dL_law_21 (by decide) ?_
    refine lv_isub hx hb dL_law_22 ?_
    refine nb_gt5 (tgt := 873) hx hb dL_law_23 (by decide) (by omega) (by omega) (fun hq => absurd hq (by omega)) (fun hq => ?_)
    have hi5 : 5 * i + 5 ≤ L := by omega
    have kk : ∀ (a : Nat → Nat) (S : Nat → Nat → Nat → Nat) (tx tz : Int64), RelB S tx tz → ∀ (H : Heap) (locs : List Loc) (ls : Array Slot), va_P D vwCl (LW cI cB cZ cN a S tx tz) H → va_D A (LW cI cB cZ cN a S tx tz) → va_S A s.heap H locs → lv_has ls 4 [(0, .ref b), (1, .ref (a 0)), (2, .ref (a 44)), (3, .int (nI (5 * i)))] → W p l e room_1 s m #[Value.ref b] below meth c H locs 65 4410 (lw_Z below #[Value.ref b] s) (F0 m 867 ls []) := by
      intro a S tx tz hR H locs ls hP hD hS hl
      refine lv_iinc (v := nI (5 * i + 5)) (lv' := [(3, .int (nI (5 * i + 5))), (0, .ref b), (1, .ref (a 0)), (2, .ref (a 44))]) hx hb dL_law_867 hl (k := 3) rfl (nI_add (5 * i) 5) (by decide) rfl (fun ls hl => ?_)
      refine lv_goto (tgt := 18) hx hb dL_law_870 (by decide) ?_
      exact ih (a, S, tx, tz) hR _ _ _ hP hD hS (lv_sub hl [1, 2, 3, 0] rfl)
    refine lv_aload_n hx hb dL_law_26 rfl (lv_at hl 0 rfl) ?_
    refine lv_iload_n hx hb dL_law_27 rfl (lv_at hl 3 rfl) ?_
    refine va_sld hx hb hXs hbl hbA hS (vp_in_nI (n := 5 * i) (N := L) (by omega) (by omega)) dL_law_28 ?_
    refine set_i (y := xs (5 * i)) (congrArg xs (nI_clamp (by omega))) ?_
    refine lv_bipush (v := 31) hx hb dL_law_29 (by decide) ?_
    refine lv_iand hx hb dL_law_31 ?_
    rcases law_sw (xs (5 * i)) with hc | hc | hc | hc | hc | hc | hc | hc | hc | hc | hc | hc | hc | hc | hc | hc | hc | hc | hc | hc | hc | hc | hc | hc | hc | hc | hc | hc
    · refine set_i (y := 0) hc ?_
      refine lv_tableIn (tgt := 156) (off := 124) hx hb dL_law_32 (by decide) (by decide) (by decide) (by decide) ?_
      exact law_0 C0 hK hA hAf hL2 hi5 hRz hP hD hS hl kk
    · refine set_i (y := 1) hc ?_
      refine lv_tableIn (tgt := 179) (off := 147) hx hb dL_law_32 (by decide) (by decide) (by decide) (by decide) ?_
      exact law_1 C0 hK hA hAf hL2 hi5 hRz hP hD hS hl kk
    · refine set_i (y := 2) hc ?_
      refine lv_tableIn (tgt := 192) (off := 160) hx hb dL_law_32 (by decide) (by decide) (by decide) (by decide) ?_
      exact law_2 C0 hK hA hAf hL2 hi5 hRz hP hD hS hl kk
    · refine set_i (y := 3) hc ?_
      refine lv_tableIn (tgt := 205) (off := 173) hx hb dL_law_32 (by decide) (by decide) (by decide) (by decide) ?_
      exact law_3 C0 hK hA hAf hL2 hi5 hRz hP hD hS hl kk
    · refine set_i (y := 4) hc ?_
      refine lv_tableIn (tgt := 238) (off := 206) hx hb dL_law_32 (by decide) (by decide) (by decide) (by decide) ?_
      exact law_4 C0 hK hA hAf hL2 hi5 hRz hP hD hS hl kk
    · refine set_i (y := 5) hc ?_
      refine lv_tableIn (tgt := 271) (off := 239) hx hb dL_law_32 (by decide) (by decide) (by decide) (by decide) ?_
      exact law_5 C0 hK hA hAf hL2 hi5 hRz hP hD hS hl kk
    · refine set_i (y := 6) hc ?_
      refine lv_tableIn (tgt := 304) (off := 272) hx hb dL_law_32 (by decide) (by decide) (by decide) (by decide) ?_
      exact law_6 C0 hK hA hAf hL2 hi5 hRz hP hD hS hl kk
    · refine set_i (y := 7) hc ?_
      refine lv_tableIn (tgt := 337) (off := 305) hx hb dL_law_32 (by decide) (by decide) (by decide) (by decide) ?_
      exact law_7 C0 hK hA hAf hL2 hi5 hRz hP hD hS hl kk
    · refine set_i (y := 8) hc ?_
      refine lv_tableIn (tgt := 360) (off := 328) hx hb dL_law_32 (by decide) (by decide) (by decide) (by decide) ?_
      exact law_8 C0 hK hA hAf hL2 hi5 hRz hP hD hS hl kk
    · refine set_i (y := 9) hc ?_
      refine lv_tableIn (tgt := 413) (off := 381) hx hb dL_law_32 (by decide) (by decide) (by decide) (by decide) ?_
      exact law_9 C0 hK hA hAf hL2 hi5 hRz hP hD hS hl kk
    · refine set_i (y := 10) hc ?_
      refine lv_tableIn (tgt := 446) (off := 414) hx hb dL_law_32 (by decide) (by decide) (by decide) (by decide) ?_
      exact law_10 C0 hK hA hAf hL2 hi5 hRz hP hD hS hl kk
    · refine set_i (y := 11) hc ?_
      refine lv_tableIn (tgt := 479) (off := 447) hx hb dL_law_32 (by decide) (by decide) (by decide) (by decide) ?_
      exact law_11 C0 hK hA hAf hL2 hi5 hRz hP hD hS hl kk
    · refine set_i (y := 12) hc ?_
      refine lv_tableIn (tgt := 512) (off := 480) hx hb dL_law_32 (by decide) (by decide) (by decide) (by decide) ?_
      exact law_12 C0 hK hA hAf hL2 hi5 hRz hP hD hS hl kk
    · refine set_i (y := 13) hc ?_
      refine lv_tableIn (tgt := 525) (off := 493) hx hb dL_law_32 (by decide) (by decide) (by decide) (by decide) ?_
      exact law_13 C0 hK hA hAf hL2 hi5 hRz hP hD hS hl kk
    · refine set_i (y := 14) hc ?_
      refine lv_tableIn (tgt := 548) (off := 516) hx hb dL_law_32 (by decide) (by decide) (by decide) (by decide) ?_
      exact law_14 C0 hK hA hAf hL2 hi5 hRz hP hD hS hl kk
    · refine set_i (y := 15) hc ?_
      refine lv_tableIn (tgt := 581) (off := 549) hx hb dL_law_32 (by decide) (by decide) (by decide) (by decide) ?_
      exact law_15 C0 hK hA hAf hL2 hi5 hRz hP hD hS hl kk
    · refine set_i (y := 16) hc ?_
      refine lv_tableIn (tgt := 604) (off := 572) hx hb dL_law_32 (by decide) (by decide) (by decide) (by decide) ?_
      exact law_16 C0 hK hA hAf hL2 hi5 hRz hP hD hS hl kk
    · refine set_i (y := 17) hc ?_
      refine lv_tableIn (tgt := 627) (off := 595) hx hb dL_law_32 (by decide) (by decide) (by decide) (by decide) ?_
      exact law_17 C0 hK hA hAf hL2 hi5 hRz hP hD hS hl kk
    · refine set_i (y := 18) hc ?_
      refine lv_tableIn (tgt := 650) (off := 618) hx hb dL_law_32 (by decide) (by decide) (by decide) (by decide) ?_
      exact law_18 C0 hK hA hAf hL2 hi5 hRz hP hD hS hl kk
    · refine set_i (y := 19) hc ?_
      refine lv_tableIn (tgt := 693) (off := 661) hx hb dL_law_32 (by decide) (by decide) (by decide) (by decide) ?_
      exact law_19 C0 hK hA hAf hL2 hi5 hRz hP hD hS hl kk
    · refine set_i (y := 20) hc ?_
      refine lv_tableIn (tgt := 716) (off := 684) hx hb dL_law_32 (by decide) (by decide) (by decide) (by decide) ?_
      exact law_20 C0 hK hA hAf hL2 hi5 hRz hP hD hS hl kk
    · refine set_i (y := 21) hc ?_
      refine lv_tableIn (tgt := 729) (off := 697) hx hb dL_law_32 (by decide) (by decide) (by decide) (by decide) ?_
      exact law_21 C0 hK hA hAf hL2 hi5 hRz hP hD hS hl kk
    · refine set_i (y := 22) hc ?_
      refine lv_tableIn (tgt := 752) (off := 720) hx hb dL_law_32 (by decide) (by decide) (by decide) (by decide) ?_
      exact law_22 C0 hK hA hAf hL2 hi5 hRz hP hD hS hl kk
    · refine set_i (y := 23) hc ?_
      refine lv_tableIn (tgt := 785) (off := 753) hx hb dL_law_32 (by decide) (by decide) (by decide) (by decide) ?_
      exact law_23 C0 hK hA hAf hL2 hi5 hRz hP hD hS hl kk
    · refine set_i (y := 24) hc ?_
      refine lv_tableIn (tgt := 808) (off := 776) hx hb dL_law_32 (by decide) (by decide) (by decide) (by decide) ?_
      exact law_24 C0 hK hA hAf hL2 hi5 hRz hP hD hS hl kk
    · refine set_i (y := 25) hc ?_
      refine lv_tableIn (tgt := 831) (off := 799) hx hb dL_law_32 (by decide) (by decide) (by decide) (by decide) ?_
      exact law_25 C0 hK hA hAf hL2 hi5 hRz hP hD hS hl kk
    · refine set_i (y := 26) hc ?_
      refine lv_tableIn (tgt := 854) (off := 822) hx hb dL_law_32 (by decide) (by decide) (by decide) (by decide) ?_
      exact law_26 C0 hK hA hAf hL2 hi5 hRz hP hD hS hl kk
    · refine lv_tableOut (tgt := 867) hx hb dL_law_32 hc (by decide) ?_
      exact kk _ _ _ _ hRz _ _ _ hP hD hS hl
