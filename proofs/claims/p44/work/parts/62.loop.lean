theorem z_aC {ty : FieldType} {args : Array Value} {s : State} (h : (Cond.arrayClass ty).before args s = true) : ∃ cA : ClassId, ArrOfT s cA ty ∧ s.vm.findClass ("[" ++ ty.toString) = some cA := by
  obtain ⟨cA, kA, comp, h1, h2, h3⟩ := Cond.arrayClass_spec h
  exact ⟨cA, fun n z => ⟨fun k h => (by cases h), kA, h2, comp, h3⟩, h1⟩
theorem z_aO {C : String} {args : Array Value} {s : State} (h : (Cond.arrayOver (.object C)).before args s = true) : ∃ cA : ClassId, ArrOfT s cA (.object C) ∧ va_RA s cA (.object C) := by
  obtain ⟨comp, cA, kA, hcomp, hidx, hk, hkind, hname⟩ := Cond.arrayOver_spec h
  exact ⟨cA, fun n z => ⟨fun k h => (by cases h), kA, hk, comp, hkind⟩, kA, comp, hk, hkind, hcomp, hname⟩
theorem z_tab (x : Int32) : ∃ j : Nat, j < 64 ∧ x &&& 63 = nI j ∧ (x &&& 63).toInt = j := by
  obtain ⟨j, hj, e⟩ := pk_andE x (m := 63) 6 (by decide)
  exact ⟨j, hj, e, by rw [e]; exact nI_toInt (by omega)⟩

set_option maxHeartbeats 8000000 in
set_option maxRecDepth 100000 in
theorem law_K {args : Array Value} {s : State} (hts : ∀ w ∈ lw_tbl, w.before args s = true) : ∃ (dC : Nat → ClassId) (dI : Nat → Nat → Nat) (cB cI cJ cZ cP cQ : ClassId), va_K (dC, dI) vwCl (zT cB cI cJ cZ cP cQ) s := by
  obtain ⟨c0, iS0, hKn0⟩ := u_known (C := RX0) (T := TX0) (N := 1) (n := 1) hts inX0 (hts (.instantiable RX0 1) (by decide +kernel))
  obtain ⟨c1, iS1, hKn1⟩ := u_known (C := RX1) (T := TX1) (N := 3) (n := 3) hts inX1 (hts (.instantiable RX1 3) (by decide +kernel))
  obtain ⟨c2, iS2, hKn2⟩ := u_known (C := RX2) (T := TX2) (N := 2) (n := 2) hts inX2 (hts (.instantiable RX2 2) (by decide +kernel))
  obtain ⟨c3, iS3, hKn3⟩ := u_known (C := RX3) (T := TX3) (N := 16) (n := 16) hts inX3 (hts (.instantiable RX3 16) (by decide +kernel))
  obtain ⟨c4, iS4, hKn4⟩ := u_known (C := RX4) (T := TX4) (N := 3) (n := 3) hts inX4 (hts (.instantiable RX4 3) (by decide +kernel))
  obtain ⟨c5, iS5, hKn5⟩ := u_known (C := RX5) (T := TX5) (N := 7) (n := 7) hts inX5 (hts (.instantiable RX5 7) (by decide +kernel))
  obtain ⟨c6, iS6, hKn6⟩ := u_known (C := RX6) (T := TX6) (N := 11) (n := 11) hts inX6 (hts (.instantiable RX6 11) (by decide +kernel))
  obtain ⟨c7, iS7, hKn7⟩ := u_known (C := RX7) (T := TX7) (N := 8) (n := 8) hts inX7 (hts (.instantiable RX7 8) (by decide +kernel))
  obtain ⟨c8, iS8, hKn8⟩ := u_known (C := RX8) (T := TX8) (N := 10) (n := 10) hts inX8 (hts (.instantiable RX8 10) (by decide +kernel))
  obtain ⟨c9, iS9, hKn9⟩ := u_known (C := RX9) (T := TX9) (N := 60) (n := 60) hts inX9 (hts (.instantiable RX9 60) (by decide +kernel))
  obtain ⟨cB, h1B, h2B⟩ := z_aC (hts (.arrayClass .byte) (by decide +kernel))
  obtain ⟨cI, h1I, h2I⟩ := z_aC (hts (.arrayClass .int) (by decide +kernel))
  obtain ⟨cJ, h1J, h2J⟩ := z_aC (hts (.arrayClass .long) (by decide +kernel))
  obtain ⟨cZ, h1Z, h2Z⟩ := z_aC (hts (.arrayClass .boolean) (by decide +kernel))
  obtain ⟨cP, h1P, h2P⟩ := z_aO (hts (.arrayOver (.object RX2)) (by decide +kernel))
  obtain ⟨cQ, h1Q, h2Q⟩ := z_aO (hts (.arrayOver (.object RX4)) (by decide +kernel))
  refine ⟨fun k => match k with | 0 => c0 | 1 => c1 | 2 => c2 | 3 => c3 | 4 => c4 | 5 => c5 | 6 => c6 | 7 => c7 | 8 => c8 | _ => c9, fun k => match k with | 0 => iS0 | 1 => iS1 | 2 => iS2 | 3 => iS3 | 4 => iS4 | 5 => iS5 | 6 => iS6 | 7 => iS7 | 8 => iS8 | _ => iS9, cB, cI, cJ, cZ, cP, cQ, ?_, ?_⟩
  · intro k q hq
    match k, hq with
    | 0, hq => cases hq; exact hKn0
    | 1, hq => cases hq; exact hKn1
    | 2, hq => cases hq; exact hKn2
    | 3, hq => cases hq; exact hKn3
    | 4, hq => cases hq; exact hKn4
    | 5, hq => cases hq; exact hKn5
    | 6, hq => cases hq; exact hKn6
    | 7, hq => cases hq; exact hKn7
    | 8, hq => cases hq; exact hKn8
    | 9, hq => cases hq; exact hKn9
    | k + 10, hq => simp [vwCl] at hq
  · intro k q hq
    match k, hq with
    | 0, hq => cases hq; exact ⟨h1B, h2B⟩
    | 1, hq => cases hq; exact ⟨h1I, h2I⟩
    | 2, hq => cases hq; exact ⟨h1J, h2J⟩
    | 3, hq => cases hq; exact ⟨h1Z, h2Z⟩
    | 4, hq => cases hq; exact ⟨h1P, h2P⟩
    | 5, hq => cases hq; exact ⟨h1Q, h2Q⟩
    | k + 6, hq => simp [zT] at hq
set_option maxHeartbeats 8000000 in
set_option maxRecDepth 100000 in
theorem law_X {args : Array Value} {s : State} (hts : ∀ w ∈ lw_tbl, w.before args s = true) : zX zNW zAO s := by
  refine ⟨fun q hq => va_Nw.of (A := args) rfl ?_, fun C hC => va_AO.of (A := args) ?_⟩
  · have h : ∀ q ∈ zNW, Cond.methodLinkNest q.1 q.2.1 q.2.2.1 q.2.2.2 ∈ lw_tbl := by decide +kernel
    exact hts _ (h q hq)
  · have h : ∀ C ∈ zAO, Cond.arrayOver (.object C) ∈ lw_tbl := by decide +kernel
    exact hts _ (h C hC)
set_option maxHeartbeats 8000000 in
set_option maxRecDepth 100000 in
theorem law_loop {p : Program} {e : Env} {s : State} {m : MethodId} {below : List Frame} {meth : Method} {c : Code} {b L : Nat} {xs : Nat → Int32} (l : Launch) (dC : Nat → ClassId) (dI : Nat → Nat → Nat) (cB cI cJ cZ cP cQ : ClassId) (adK adV : Nat → Nat) (q0 : Option Nat) (a1 a2 : Nat) (C0 : lw_At p s m meth c b L xs) (hL : L ≤ 3072) (hK : va_K (dC, dI) vwCl (zT cB cI cJ cZ cP cQ) s) (hX : zX zNW zAO s) (hE : zE adK adV q0 (fun q : Nat => s.heap.size ≤ q) s s.heap) : ∀ (n i : Nat) (x3 : Int32) (cells slots : Nat), L < n + i → x3.toInt = i → i ≤ L + 5 → cells + 3 * (L + 6 - i) ≤ 500000 → slots + 254 * (L + 6 - i) ≤ 7000000 → ∀ (ob : Nat → Int32), ∀ (w1 w2 : va_W), IX cB cI cJ cZ cP cQ a1 ob w1 → IM cB cI cJ cZ cP cQ a2 ob w2 → ∀ (H : Heap) (locs : List Loc), va_P (dC, dI) vwCl (w1 ++ w2) H → va_D (fun q : Nat => s.heap.size ≤ q) (w1 ++ w2) → va_S (fun q : Nat => s.heap.size ≤ q) s.heap H locs → ∀ (ls : Array Slot), lv_has ls 4 [(3, .int x3), (2, .ref a2), (1, .ref a1), (0, .ref b)] → W p l e room_1 s m #[Value.ref b] below meth c H locs cells slots (lw_Z below #[Value.ref b] s) (F0 m 18 ls []) := by
  obtain ⟨hx, hb, hr, hml, hown, hts, hXs, hbl, hlocks, hgv⟩ := id C0
  have hbA : ¬ (fun q : Nat => s.heap.size ≤ q) b := Nat.not_le.mpr hbl
  intro n
  induction n with
  | zero =>
    intro i x3 cells slots hn hi hiL hc hs ob w1 w2 I1 I2 H locs hP hD hS ls hl
    refine lv_iload_n hx hb dL_law_18 rfl (lv_at hl 0 rfl) ?_
    refine lv_aload_n hx hb dL_law_19 rfl (lv_at hl 3 rfl) ?_
    refine va_slen hx hb hXs hbl hbA hS dL_law_20 ?_
    refine lv_bipush (v := 6) hx hb dL_law_21 (by decide) ?_
    refine lv_isub hx hb dL_law_23 ?_
    refine lv_topi (fun r h => ?_)
    have f : r.toInt = (L : Int) - 6 := z_isub h (nI_toInt (by omega)) (show Int32.toInt 6 = 6 from by decide) (by omega) (by omega)
    refine lv_icmp_gt (tgt := 1621) hx hb dL_law_24 (by decide) (fun _ => ?_) (fun c => absurd (z_nlt rfl rfl c) (by omega))
    refine lv_iconst (v := 1) hx hb dL_law_1621 (by decide) ?_
    refine va_forget (fun q hq => hS.2.2 q hq) ?_
    refine W.widen (k := 600000) (n := 7302250) (by omega) (by omega) ?_
    exact lw_ret hx hb hr hlocks dL_law_1622
  | succ n ih =>
    intro i x3 cells slots hn hi hiL hc hs ob w1 w2 I1 I2 H locs hP hD hS ls hl
    refine lv_iload_n hx hb dL_law_18 rfl (lv_at hl 0 rfl) ?_
    refine lv_aload_n hx hb dL_law_19 rfl (lv_at hl 3 rfl) ?_
    refine va_slen hx hb hXs hbl hbA hS dL_law_20 ?_
    refine lv_bipush (v := 6) hx hb dL_law_21 (by decide) ?_
    refine lv_isub hx hb dL_law_23 ?_
    refine lv_topi (fun r h => ?_)
    have f : r.toInt = (L : Int) - 6 := z_isub h (nI_toInt (by omega)) (show Int32.toInt 6 = 6 from by decide) (by omega) (by omega)
    refine lv_icmp_gt (tgt := 1621) hx hb dL_law_24 (by decide) (fun _ => ?_) (fun c9 => ?_)
    · refine lv_iconst (v := 1) hx hb dL_law_1621 (by decide) ?_
      refine va_forget (fun q hq => hS.2.2 q hq) ?_
      refine W.widen (k := 600000) (n := 7302250) (by omega) (by omega) ?_
      exact lw_ret hx hb hr hlocks dL_law_1622
    have h9 := z_nlt rfl rfl c9
    have hiL6 : i + 6 ≤ L := by omega
    have kk : ∀ (ob : Nat → Int32) (w1 w2 : va_W) (H : Heap) (locs : List Loc) (ls : Array Slot), IX cB cI cJ cZ cP cQ a1 ob w1 → IM cB cI cJ cZ cP cQ a2 ob w2 → va_P (dC, dI) vwCl (w1 ++ w2) H → va_D (fun q : Nat => s.heap.size ≤ q) (w1 ++ w2) → va_S (fun q : Nat => s.heap.size ≤ q) s.heap H locs → lv_has ls 4 [(3, .int x3), (2, .ref a2), (1, .ref a1), (0, .ref b)] → W p l e room_1 s m #[Value.ref b] below meth c H locs (cells + 18) (slots + 1522) (lw_Z below #[Value.ref b] s) (F0 m 1615 ls []) := by
      intro ob w1 w2 H locs ls I1 I2 hP hD hS hl
      obtain ⟨y, hy⟩ : ∃ y : Int32, y = x3 + 6 := ⟨_, rfl⟩
      have fy : y.toInt = x3.toInt + 6 := z_iadd hy rfl (show Int32.toInt 6 = 6 from by decide) (by omega) (by omega)
      refine lv_iinc (v := y) (lv' := [(3, .int y), (2, .ref a2), (1, .ref a1), (0, .ref b)]) hx hb dL_law_1615 hl (k := 0) rfl hy.symm (by decide) rfl (fun ls hl => ?_)
      refine lv_goto (tgt := 18) hx hb dL_law_1618 (by decide) ?_
      exact ih (i + 6) y (cells + 18) (slots + 1522) (by omega) (by omega) (by omega) (by omega) (by omega) ob w1 w2 I1 I2 H locs hP hD hS ls hl
    refine lv_aload_n hx hb dL_law_27 rfl (lv_at hl 3 rfl) ?_
    refine lv_iload_n hx hb dL_law_28 rfl (lv_at hl 0 rfl) ?_
    refine va_sld hx hb hXs hbl hbA hS (z_in rfl (by omega) (by omega)) dL_law_29 ?_
    refine lv_bipush (v := 63) hx hb dL_law_30 (by decide) ?_
    refine lv_iand hx hb dL_law_32 ?_
    obtain ⟨j, hj, ej, et⟩ := z_tab (xs x3.toNatClampNeg)
    rcases (show j = 0 ∨ j = 1 ∨ j = 2 ∨ j = 3 ∨ j = 4 ∨ j = 5 ∨ j = 6 ∨ j = 7 ∨ j = 8 ∨ j = 9 ∨ j = 10 ∨ j = 11 ∨ j = 12 ∨ j = 13 ∨ j = 14 ∨ j = 15 ∨ j = 16 ∨ j = 17 ∨ j = 18 ∨ j = 19 ∨ j = 20 ∨ j = 21 ∨ j = 22 ∨ j = 23 ∨ j = 24 ∨ j = 25 ∨ j = 26 ∨ j = 27 ∨ j = 28 ∨ j = 29 ∨ j = 30 ∨ j = 31 ∨ j = 32 ∨ j = 33 ∨ j = 34 ∨ j = 35 ∨ j = 36 ∨ j = 37 ∨ j = 38 ∨ j = 39 ∨ j = 40 ∨ j = 41 ∨ j = 42 ∨ 43 ≤ j by omega) with rfl | rfl | rfl | rfl | rfl | rfl | rfl | rfl | rfl | rfl | rfl | rfl | rfl | rfl | rfl | rfl | rfl | rfl | rfl | rfl | rfl | rfl | rfl | rfl | rfl | rfl | rfl | rfl | rfl | rfl | rfl | rfl | rfl | rfl | rfl | rfl | rfl | rfl | rfl | rfl | rfl | rfl | rfl | hj2
    · refine lv_tableIn (off := 187) (tgt := 220) hx hb dL_law_33 (by rw [et]; decide) (by rw [et]; decide) (by rw [et]; decide) (by decide) ?_
      exact law_case0 l dC dI cB cI cJ cZ cP cQ adK adV q0 a1 a2 x3 C0 hL hK hX hE i cells slots hi hiL6 (by omega) (by omega) ob w1 w2 I1 I2 H locs hP hD hS ls hl kk
    · refine lv_tableIn (off := 250) (tgt := 283) hx hb dL_law_33 (by rw [et]; decide) (by rw [et]; decide) (by rw [et]; decide) (by decide) ?_
      exact law_case1 l dC dI cB cI cJ cZ cP cQ adK adV q0 a1 a2 x3 C0 hL hK hX hE i cells slots hi hiL6 (by omega) (by omega) ob w1 w2 I1 I2 H locs hP hD hS ls hl kk
    · refine lv_tableIn (off := 273) (tgt := 306) hx hb dL_law_33 (by rw [et]; decide) (by rw [et]; decide) (by rw [et]; decide) (by decide) ?_
      exact law_case2 l dC dI cB cI cJ cZ cP cQ adK adV q0 a1 a2 x3 C0 hL hK hX hE i cells slots hi hiL6 (by omega) (by omega) ob w1 w2 I1 I2 H locs hP hD hS ls hl kk
    · refine lv_tableIn (off := 286) (tgt := 319) hx hb dL_law_33 (by rw [et]; decide) (by rw [et]; decide) (by rw [et]; decide) (by decide) ?_
      exact law_case3 l dC dI cB cI cJ cZ cP cQ adK adV q0 a1 a2 x3 C0 hL hK hX hE i cells slots hi hiL6 (by omega) (by omega) ob w1 w2 I1 I2 H locs hP hD hS ls hl kk
    · refine lv_tableIn (off := 309) (tgt := 342) hx hb dL_law_33 (by rw [et]; decide) (by rw [et]; decide) (by rw [et]; decide) (by decide) ?_
      exact law_case4 l dC dI cB cI cJ cZ cP cQ adK adV q0 a1 a2 x3 C0 hL hK hX hE i cells slots hi hiL6 (by omega) (by omega) ob w1 w2 I1 I2 H locs hP hD hS ls hl kk
    · refine lv_tableIn (off := 342) (tgt := 375) hx hb dL_law_33 (by rw [et]; decide) (by rw [et]; decide) (by rw [et]; decide) (by decide) ?_
      exact law_case5 l dC dI cB cI cJ cZ cP cQ adK adV q0 a1 a2 x3 C0 hL hK hX hE i cells slots hi hiL6 (by omega) (by omega) ob w1 w2 I1 I2 H locs hP hD hS ls hl kk
    · refine lv_tableIn (off := 375) (tgt := 408) hx hb dL_law_33 (by rw [et]; decide) (by rw [et]; decide) (by rw [et]; decide) (by decide) ?_
      exact law_case6 l dC dI cB cI cJ cZ cP cQ adK adV q0 a1 a2 x3 C0 hL hK hX hE i cells slots hi hiL6 (by omega) (by omega) ob w1 w2 I1 I2 H locs hP hD hS ls hl kk
    · refine lv_tableIn (off := 428) (tgt := 461) hx hb dL_law_33 (by rw [et]; decide) (by rw [et]; decide) (by rw [et]; decide) (by decide) ?_
      exact law_case7 l dC dI cB cI cJ cZ cP cQ adK adV q0 a1 a2 x3 C0 hL hK hX hE i cells slots hi hiL6 (by omega) (by omega) ob w1 w2 I1 I2 H locs hP hD hS ls hl kk
    · refine lv_tableIn (off := 461) (tgt := 494) hx hb dL_law_33 (by rw [et]; decide) (by rw [et]; decide) (by rw [et]; decide) (by decide) ?_
      exact law_case8 l dC dI cB cI cJ cZ cP cQ adK adV q0 a1 a2 x3 C0 hL hK hX hE i cells slots hi hiL6 (by omega) (by omega) ob w1 w2 I1 I2 H locs hP hD hS ls hl kk
    · refine lv_tableIn (off := 514) (tgt := 547) hx hb dL_law_33 (by rw [et]; decide) (by rw [et]; decide) (by rw [et]; decide) (by decide) ?_
      exact law_case9 l dC dI cB cI cJ cZ cP cQ adK adV q0 a1 a2 x3 C0 hL hK hX hE i cells slots hi hiL6 (by omega) (by omega) ob w1 w2 I1 I2 H locs hP hD hS ls hl kk
    · refine lv_tableIn (off := 547) (tgt := 580) hx hb dL_law_33 (by rw [et]; decide) (by rw [et]; decide) (by rw [et]; decide) (by decide) ?_
      exact law_case10 l dC dI cB cI cJ cZ cP cQ adK adV q0 a1 a2 x3 C0 hL hK hX hE i cells slots hi hiL6 (by omega) (by omega) ob w1 w2 I1 I2 H locs hP hD hS ls hl kk
    · refine lv_tableIn (off := 580) (tgt := 613) hx hb dL_law_33 (by rw [et]; decide) (by rw [et]; decide) (by rw [et]; decide) (by decide) ?_
      exact law_case11 l dC dI cB cI cJ cZ cP cQ adK adV q0 a1 a2 x3 C0 hL hK hX hE i cells slots hi hiL6 (by omega) (by omega) ob w1 w2 I1 I2 H locs hP hD hS ls hl kk
    · refine lv_tableIn (off := 603) (tgt := 636) hx hb dL_law_33 (by rw [et]; decide) (by rw [et]; decide) (by rw [et]; decide) (by decide) ?_
      exact law_case12 l dC dI cB cI cJ cZ cP cQ adK adV q0 a1 a2 x3 C0 hL hK hX hE i cells slots hi hiL6 (by omega) (by omega) ob w1 w2 I1 I2 H locs hP hD hS ls hl kk
    · refine lv_tableIn (off := 636) (tgt := 669) hx hb dL_law_33 (by rw [et]; decide) (by rw [et]; decide) (by rw [et]; decide) (by decide) ?_
      exact law_case13 l dC dI cB cI cJ cZ cP cQ adK adV q0 a1 a2 x3 C0 hL hK hX hE i cells slots hi hiL6 (by omega) (by omega) ob w1 w2 I1 I2 H locs hP hD hS ls hl kk
    · refine lv_tableIn (off := 649) (tgt := 682) hx hb dL_law_33 (by rw [et]; decide) (by rw [et]; decide) (by rw [et]; decide) (by decide) ?_
      exact law_case14 l dC dI cB cI cJ cZ cP cQ adK adV q0 a1 a2 x3 C0 hL hK hX hE i cells slots hi hiL6 (by omega) (by omega) ob w1 w2 I1 I2 H locs hP hD hS ls hl kk
    · refine lv_tableIn (off := 672) (tgt := 705) hx hb dL_law_33 (by rw [et]; decide) (by rw [et]; decide) (by rw [et]; decide) (by decide) ?_
      exact law_case15 l dC dI cB cI cJ cZ cP cQ adK adV q0 a1 a2 x3 C0 hL hK hX hE i cells slots hi hiL6 (by omega) (by omega) ob w1 w2 I1 I2 H locs hP hD hS ls hl kk
    · refine lv_tableIn (off := 685) (tgt := 718) hx hb dL_law_33 (by rw [et]; decide) (by rw [et]; decide) (by rw [et]; decide) (by decide) ?_
      exact law_case16 l dC dI cB cI cJ cZ cP cQ adK adV q0 a1 a2 x3 C0 hL hK hX hE i cells slots hi hiL6 (by omega) (by omega) ob w1 w2 I1 I2 H locs hP hD hS ls hl kk
    · refine lv_tableIn (off := 698) (tgt := 731) hx hb dL_law_33 (by rw [et]; decide) (by rw [et]; decide) (by rw [et]; decide) (by decide) ?_
      exact law_case17 l dC dI cB cI cJ cZ cP cQ adK adV q0 a1 a2 x3 C0 hL hK hX hE i cells slots hi hiL6 (by omega) (by omega) ob w1 w2 I1 I2 H locs hP hD hS ls hl kk
    · refine lv_tableIn (off := 721) (tgt := 754) hx hb dL_law_33 (by rw [et]; decide) (by rw [et]; decide) (by rw [et]; decide) (by decide) ?_
      exact law_case18 l dC dI cB cI cJ cZ cP cQ adK adV q0 a1 a2 x3 C0 hL hK hX hE i cells slots hi hiL6 (by omega) (by omega) ob w1 w2 I1 I2 H locs hP hD hS ls hl kk
    · refine lv_tableIn (off := 744) (tgt := 777) hx hb dL_law_33 (by rw [et]; decide) (by rw [et]; decide) (by rw [et]; decide) (by decide) ?_
      exact law_case19 l dC dI cB cI cJ cZ cP cQ adK adV q0 a1 a2 x3 C0 hL hK hX hE i cells slots hi hiL6 (by omega) (by omega) ob w1 w2 I1 I2 H locs hP hD hS ls hl kk
    · refine lv_tableIn (off := 757) (tgt := 790) hx hb dL_law_33 (by rw [et]; decide) (by rw [et]; decide) (by rw [et]; decide) (by decide) ?_
      exact law_case20 l dC dI cB cI cJ cZ cP cQ adK adV q0 a1 a2 x3 C0 hL hK hX hE i cells slots hi hiL6 (by omega) (by omega) ob w1 w2 I1 I2 H locs hP hD hS ls hl kk
    · refine lv_tableIn (off := 800) (tgt := 833) hx hb dL_law_33 (by rw [et]; decide) (by rw [et]; decide) (by rw [et]; decide) (by decide) ?_
      exact law_case21 l dC dI cB cI cJ cZ cP cQ adK adV q0 a1 a2 x3 C0 hL hK hX hE i cells slots hi hiL6 (by omega) (by omega) ob w1 w2 I1 I2 H locs hP hD hS ls hl kk
    · refine lv_tableIn (off := 843) (tgt := 876) hx hb dL_law_33 (by rw [et]; decide) (by rw [et]; decide) (by rw [et]; decide) (by decide) ?_
      exact law_case22 l dC dI cB cI cJ cZ cP cQ adK adV q0 a1 a2 x3 C0 hL hK hX hE i cells slots hi hiL6 (by omega) (by omega) ob w1 w2 I1 I2 H locs hP hD hS ls hl kk
    · refine lv_tableIn (off := 886) (tgt := 919) hx hb dL_law_33 (by rw [et]; decide) (by rw [et]; decide) (by rw [et]; decide) (by decide) ?_
      exact law_case23 l dC dI cB cI cJ cZ cP cQ adK adV q0 a1 a2 x3 C0 hL hK hX hE i cells slots hi hiL6 (by omega) (by omega) ob w1 w2 I1 I2 H locs hP hD hS ls hl kk
    · refine lv_tableIn (off := 939) (tgt := 972) hx hb dL_law_33 (by rw [et]; decide) (by rw [et]; decide) (by rw [et]; decide) (by decide) ?_
      exact law_case24 l dC dI cB cI cJ cZ cP cQ adK adV q0 a1 a2 x3 C0 hL hK hX hE i cells slots hi hiL6 (by omega) (by omega) ob w1 w2 I1 I2 H locs hP hD hS ls hl kk
    · refine lv_tableIn (off := 962) (tgt := 995) hx hb dL_law_33 (by rw [et]; decide) (by rw [et]; decide) (by rw [et]; decide) (by decide) ?_
      exact law_case25 l dC dI cB cI cJ cZ cP cQ adK adV q0 a1 a2 x3 C0 hL hK hX hE i cells slots hi hiL6 (by omega) (by omega) ob w1 w2 I1 I2 H locs hP hD hS ls hl kk
    · refine lv_tableIn (off := 995) (tgt := 1028) hx hb dL_law_33 (by rw [et]; decide) (by rw [et]; decide) (by rw [et]; decide) (by decide) ?_
      exact law_case26 l dC dI cB cI cJ cZ cP cQ adK adV q0 a1 a2 x3 C0 hL hK hX hE i cells slots hi hiL6 (by omega) (by omega) ob w1 w2 I1 I2 H locs hP hD hS ls hl kk
    · refine lv_tableIn (off := 1018) (tgt := 1051) hx hb dL_law_33 (by rw [et]; decide) (by rw [et]; decide) (by rw [et]; decide) (by decide) ?_
      exact law_case27 l dC dI cB cI cJ cZ cP cQ adK adV q0 a1 a2 x3 C0 hL hK hX hE i cells slots hi hiL6 (by omega) (by omega) ob w1 w2 I1 I2 H locs hP hD hS ls hl kk
    · refine lv_tableIn (off := 1041) (tgt := 1074) hx hb dL_law_33 (by rw [et]; decide) (by rw [et]; decide) (by rw [et]; decide) (by decide) ?_
      exact law_case28 l dC dI cB cI cJ cZ cP cQ adK adV q0 a1 a2 x3 C0 hL hK hX hE i cells slots hi hiL6 (by omega) (by omega) ob w1 w2 I1 I2 H locs hP hD hS ls hl kk
    · refine lv_tableIn (off := 1080) (tgt := 1113) hx hb dL_law_33 (by rw [et]; decide) (by rw [et]; decide) (by rw [et]; decide) (by decide) ?_
      exact law_case29 l dC dI cB cI cJ cZ cP cQ adK adV q0 a1 a2 x3 C0 hL hK hX hE i cells slots hi hiL6 (by omega) (by omega) ob w1 w2 I1 I2 H locs hP hD hS ls hl kk
    · refine lv_tableIn (off := 1113) (tgt := 1146) hx hb dL_law_33 (by rw [et]; decide) (by rw [et]; decide) (by rw [et]; decide) (by decide) ?_
      exact law_case30 l dC dI cB cI cJ cZ cP cQ adK adV q0 a1 a2 x3 C0 hL hK hX hE i cells slots hi hiL6 (by omega) (by omega) ob w1 w2 I1 I2 H locs hP hD hS ls hl kk
    · refine lv_tableIn (off := 1136) (tgt := 1169) hx hb dL_law_33 (by rw [et]; decide) (by rw [et]; decide) (by rw [et]; decide) (by decide) ?_
      exact law_case31 l dC dI cB cI cJ cZ cP cQ adK adV q0 a1 a2 x3 C0 hL hK hX hE i cells slots hi hiL6 (by omega) (by omega) ob w1 w2 I1 I2 H locs hP hD hS ls hl kk
    · refine lv_tableIn (off := 1169) (tgt := 1202) hx hb dL_law_33 (by rw [et]; decide) (by rw [et]; decide) (by rw [et]; decide) (by decide) ?_
      exact law_case32 l dC dI cB cI cJ cZ cP cQ adK adV q0 a1 a2 x3 C0 hL hK hX hE i cells slots hi hiL6 (by omega) (by omega) ob w1 w2 I1 I2 H locs hP hD hS ls hl kk
    · refine lv_tableIn (off := 1202) (tgt := 1235) hx hb dL_law_33 (by rw [et]; decide) (by rw [et]; decide) (by rw [et]; decide) (by decide) ?_
      exact law_case33 l dC dI cB cI cJ cZ cP cQ adK adV q0 a1 a2 x3 C0 hL hK hX hE i cells slots hi hiL6 (by omega) (by omega) ob w1 w2 I1 I2 H locs hP hD hS ls hl kk
    · refine lv_tableIn (off := 1265) (tgt := 1298) hx hb dL_law_33 (by rw [et]; decide) (by rw [et]; decide) (by rw [et]; decide) (by decide) ?_
      exact law_case34 l dC dI cB cI cJ cZ cP cQ adK adV q0 a1 a2 x3 C0 hL hK hX hE i cells slots hi hiL6 (by omega) (by omega) ob w1 w2 I1 I2 H locs hP hD hS ls hl kk
    · refine lv_tableIn (off := 1288) (tgt := 1321) hx hb dL_law_33 (by rw [et]; decide) (by rw [et]; decide) (by rw [et]; decide) (by decide) ?_
      exact law_case35 l dC dI cB cI cJ cZ cP cQ adK adV q0 a1 a2 x3 C0 hL hK hX hE i cells slots hi hiL6 (by omega) (by omega) ob w1 w2 I1 I2 H locs hP hD hS ls hl kk
    · refine lv_tableIn (off := 1311) (tgt := 1344) hx hb dL_law_33 (by rw [et]; decide) (by rw [et]; decide) (by rw [et]; decide) (by decide) ?_
      exact law_case36 l dC dI cB cI cJ cZ cP cQ adK adV q0 a1 a2 x3 C0 hL hK hX hE i cells slots hi hiL6 (by omega) (by omega) ob w1 w2 I1 I2 H locs hP hD hS ls hl kk
    · refine lv_tableIn (off := 1334) (tgt := 1367) hx hb dL_law_33 (by rw [et]; decide) (by rw [et]; decide) (by rw [et]; decide) (by decide) ?_
      exact law_case37 l dC dI cB cI cJ cZ cP cQ adK adV q0 a1 a2 x3 C0 hL hK hX hE i cells slots hi hiL6 (by omega) (by omega) ob w1 w2 I1 I2 H locs hP hD hS ls hl kk
    · refine lv_tableIn (off := 1357) (tgt := 1390) hx hb dL_law_33 (by rw [et]; decide) (by rw [et]; decide) (by rw [et]; decide) (by decide) ?_
      exact law_case38 l dC dI cB cI cJ cZ cP cQ adK adV q0 a1 a2 x3 C0 hL hK hX hE i cells slots hi hiL6 (by omega) (by omega) ob w1 w2 I1 I2 H locs hP hD hS ls hl kk
    · refine lv_tableIn (off := 1380) (tgt := 1413) hx hb dL_law_33 (by rw [et]; decide) (by rw [et]; decide) (by rw [et]; decide) (by decide) ?_
      exact law_case39 l dC dI cB cI cJ cZ cP cQ adK adV q0 a1 a2 x3 C0 hL hK hX hE i cells slots hi hiL6 (by omega) (by omega) ob w1 w2 I1 I2 H locs hP hD hS ls hl kk
    · refine lv_tableIn (off := 1403) (tgt := 1436) hx hb dL_law_33 (by rw [et]; decide) (by rw [et]; decide) (by rw [et]; decide) (by decide) ?_
      exact law_case40 l dC dI cB cI cJ cZ cP cQ adK adV q0 a1 a2 x3 C0 hL hK hX hE i cells slots hi hiL6 (by omega) (by omega) ob w1 w2 I1 I2 H locs hP hD hS ls hl kk
    · refine lv_tableIn (off := 1446) (tgt := 1479) hx hb dL_law_33 (by rw [et]; decide) (by rw [et]; decide) (by rw [et]; decide) (by decide) ?_
      exact law_case41 l dC dI cB cI cJ cZ cP cQ adK adV q0 a1 a2 x3 C0 hL hK hX hE i cells slots hi hiL6 (by omega) (by omega) ob w1 w2 I1 I2 H locs hP hD hS ls hl kk
    · refine lv_tableIn (off := 1519) (tgt := 1552) hx hb dL_law_33 (by rw [et]; decide) (by rw [et]; decide) (by rw [et]; decide) (by decide) ?_
      exact law_case42 l dC dI cB cI cJ cZ cP cQ adK adV q0 a1 a2 x3 C0 hL hK hX hE i cells slots hi hiL6 (by omega) (by omega) ob w1 w2 I1 I2 H locs hP hD hS ls hl kk
    · refine lv_tableOut (tgt := 1615) hx hb dL_law_33 (by rw [et]; omega) (by decide) ?_
      refine W.widen (k := cells + 18) (n := slots + 1522) (by omega) (by omega) ?_
      exact kk ob w1 w2 H locs ls I1 I2 hP hD hS hl
