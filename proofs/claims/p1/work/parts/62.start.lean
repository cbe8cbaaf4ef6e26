theorem z_aC {ty : FieldType} {args : Array Value} {s : State} (h : (Cond.arrayClass ty).before args s = true) : ∃ cA : ClassId, ArrOfT s cA ty ∧ s.vm.findClass ("[" ++ ty.toString) = some cA := by
  obtain ⟨cA, kA, comp, h1, h2, h3⟩ := Cond.arrayClass_spec h
  exact ⟨cA, fun n z => ⟨fun k h => (by cases h), kA, h2, comp, h3⟩, h1⟩
theorem z_aO {C : String} {args : Array Value} {s : State} (h : (Cond.arrayOver (.object C)).before args s = true) : ∃ cA : ClassId, ArrOfT s cA (.object C) ∧ va_RA s cA (.object C) := by
  obtain ⟨comp, cA, kA, hcomp, hidx, hk, hkind, hname⟩ := Cond.arrayOver_spec h
  exact ⟨cA, fun n z => ⟨fun k h => (by cases h), kA, hk, comp, hkind⟩, kA, comp, hk, hkind, hcomp, hname⟩

set_option maxHeartbeats 4000000 in
set_option maxRecDepth 100000 in
theorem law_K {args : Array Value} {s : State} (hts : ∀ w ∈ lw_tbl, w.before args s = true) : ∃ (dC : Nat → ClassId) (dI : Nat → Nat → Nat) (cB cI cJ cZ cP cQ : ClassId), va_K (dC, dI) vwCl (zT cB cI cJ cZ cP cQ) s := by
  obtain ⟨c0, iS0, hKn0⟩ := u_known (C := RX0) (T := TX0) (N := 1) (n := 1) hts inX0 (hts (.instantiable RX0 1) (by decide +kernel))
  obtain ⟨c1, iS1, hKn1⟩ := u_known (C := RX1) (T := TX1) (N := 3) (n := 3) hts inX1 (hts (.instantiable RX1 3) (by decide +kernel))
  obtain ⟨c2, iS2, hKn2⟩ := u_known (C := RX2) (T := TX2) (N := 2) (n := 2) hts inX2 (hts (.instantiable RX2 2) (by decide +kernel))
  obtain ⟨c3, iS3, hKn3⟩ := u_known (C := RX3) (T := TX3) (N := 16) (n := 16) hts inX3 (hts (.instantiable RX3 16) (by decide +kernel))
  obtain ⟨c4, iS4, hKn4⟩ := u_known (C := RX4) (T := TX4) (N := 3) (n := 3) hts inX4 (hts (.instantiable RX4 3) (by decide +kernel))
  obtain ⟨c5, iS5, hKn5⟩ := u_known (C := RX5) (T := TX5) (N := 7) (n := 7) hts inX5 (hts (.instantiable RX5 7) (by decide +kernel))
  obtain ⟨c6, iS6, hKn6⟩ := u_known (C := RX6) (T := TX6) (N := 11) (n := 11) hts inX6 (hts (.instantiable RX6 11) (by decide +kernel))
  obtain ⟨c7, iS7, hKn7⟩ := u_known (C := RX7) (T := TX7) (N := 8) (n := 8) hts inX7 (hts (.instantiable RX7 8) (by decide +kernel))
  obtain ⟨c8, iS8, hKn8⟩ := u_known (C := RX8) (T := TX8) (N := 10) (n := 10) hts inX8 (hts (.instantiable RX8 10) (by decide +kernel))
  obtain ⟨c9, iS9, hKn9⟩ := u_known (C := RX9) (T := TX9) (N := 60) (n := 60) hts inX9 (hts (.instantiable RX9 60) (by decide +kernel))
  obtain ⟨cB, h1B, h2B⟩ := z_aC (hts (.arrayClass .byte) (by decide +kernel))
  obtain ⟨cI, h1I, h2I⟩ := z_aC (hts (.arrayClass .int) (by decide +kernel))
  obtain ⟨cJ, h1J, h2J⟩ := z_aC (hts (.arrayClass .long) (by decide +kernel))
  obtain ⟨cZ, h1Z, h2Z⟩ := z_aC (hts (.arrayClass .boolean) (by decide +kernel))
  obtain ⟨cP, h1P, h2P⟩ := z_aO (hts (.arrayOver (.object RX2)) (by decide +kernel))
  obtain ⟨cQ, h1Q, h2Q⟩ := z_aO (hts (.arrayOver (.object RX4)) (by decide +kernel))
  refine ⟨fun k => match k with | 0 => c0 | 1 => c1 | 2 => c2 | 3 => c3 | 4 => c4 | 5 => c5 | 6 => c6 | 7 => c7 | 8 => c8 | _ => c9, fun k => match k with | 0 => iS0 | 1 => iS1 | 2 => iS2 | 3 => iS3 | 4 => iS4 | 5 => iS5 | 6 => iS6 | 7 => iS7 | 8 => iS8 | _ => iS9, cB, cI, cJ, cZ, cP, cQ, ?_, ?_⟩
  · intro k q hq
    match k, hq with
    | 0, hq => cases hq; exact hKn0
    | 1, hq => cases hq; exact hKn1
    | 2, hq => cases hq; exact hKn2
    | 3, hq => cases hq; exact hKn3
    | 4, hq => cases hq; exact hKn4
    | 5, hq => cases hq; exact hKn5
    | 6, hq => cases hq; exact hKn6
    | 7, hq => cases hq; exact hKn7
    | 8, hq => cases hq; exact hKn8
    | 9, hq => cases hq; exact hKn9
    | k + 10, hq => simp [vwCl] at hq
  · intro k q hq
    match k, hq with
    | 0, hq => cases hq; exact ⟨h1B, h2B⟩
    | 1, hq => cases hq; exact ⟨h1I, h2I⟩
    | 2, hq => cases hq; exact ⟨h1J, h2J⟩
    | 3, hq => cases hq; exact ⟨h1Z, h2Z⟩
    | 4, hq => cases hq; exact ⟨h1P, h2P⟩
    | 5, hq => cases hq; exact ⟨h1Q, h2Q⟩
    | k + 6, hq => simp [zT] at hq
set_option maxHeartbeats 4000000 in
set_option maxRecDepth 100000 in
theorem law_X {args : Array Value} {s : State} (hts : ∀ w ∈ lw_tbl, w.before args s = true) : zX [(RX1, 44, yX8_thousandths, "MonthPush"), (RX2, 18, yX5_init, "MonthPush"), (RX8, 380, yX2_init, "MonthPush"), (RX8, 9, yX7_init, "MonthPush"), (RX8, 28, yX5_init, "MonthPush"), (RX8, 38, yX0_init, "MonthPush"), (RX8, 45, yX6_init, "MonthPush"), (RX8, 52, yX1_init, "MonthPush"), (RX8, 69, yX4_init, "MonthPush")] [RX2, RX4] s := by
  refine ⟨fun q hq => va_Nw.of (A := args) rfl ?_, fun C hC => va_AO.of (A := args) ?_⟩
  · have h : ∀ q ∈ ([(RX1, 44, yX8_thousandths, "MonthPush"), (RX2, 18, yX5_init, "MonthPush"), (RX8, 380, yX2_init, "MonthPush"), (RX8, 9, yX7_init, "MonthPush"), (RX8, 28, yX5_init, "MonthPush"), (RX8, 38, yX0_init, "MonthPush"), (RX8, 45, yX6_init, "MonthPush"), (RX8, 52, yX1_init, "MonthPush"), (RX8, 69, yX4_init, "MonthPush")] : List (String × Nat × MethodName × String)), Cond.methodLinkNest q.1 q.2.1 q.2.2.1 q.2.2.2 ∈ lw_tbl := by decide +kernel
    exact hts _ (h q hq)
  · have h : ∀ C ∈ ([RX2, RX4] : List String), Cond.arrayOver (.object C) ∈ lw_tbl := by decide +kernel
    exact hts _ (h C hC)
theorem z_tab (x : Int32) : ∃ j : Nat, j < 64 ∧ x &&& 63 = nI j ∧ (x &&& 63).toInt = j := by
  obtain ⟨j, hj, e⟩ := pk_andE x (m := 63) 6 (by decide)
  exact ⟨j, hj, e, by rw [e]; exact nI_toInt (by omega)⟩
set_option maxHeartbeats 4000000 in
set_option maxRecDepth 100000 in
theorem law_head {p : Program} {e : Env} {s : State} {m : MethodId} {below : List Frame} {meth : Method} {c : Code} {b L : Nat} {xs : Nat → Int32} (l : Launch) (dC : Nat → ClassId) (dI : Nat → Nat → Nat) (cB cI cJ cZ cP cQ : ClassId) (ad am : Nat → Nat) (hL : L ≤ 6) (C0 : lw_At p s m meth c b L xs) (H : Heap) (locs : List Loc) (hK : va_K (dC, dI) vwCl (zT cB cI cJ cZ cP cQ) s) (hP : va_P (dC, dI) vwCl (zxw cB cI cJ cZ cP cQ ad ++ zmw cB cI cJ cZ cP cQ am) H) (hD : va_D (fun q : Nat => s.heap.size ≤ q) (zxw cB cI cJ cZ cP cQ ad ++ zmw cB cI cJ cZ cP cQ am)) (hS : va_S (fun q : Nat => s.heap.size ≤ q) s.heap H locs) (hX : zX [(RX1, 44, yX8_thousandths, "MonthPush"), (RX2, 18, yX5_init, "MonthPush"), (RX8, 380, yX2_init, "MonthPush")] [] s) (ls : Array Slot) (hl : lv_has ls 4 [(3, .int 0), (2, .ref (am 0)), (1, .ref (ad 0)), (0, .ref b)]) : W p l e room_1 s m #[Value.ref b] below meth c H locs 90 14039 (lw_Z below #[Value.ref b] s) (F0 m 18 ls []) := by
  obtain ⟨hx, hb, hr, hml, hown, hts, hXs, hbl, hlocks, hgv⟩ := id C0
  have hbA : ¬ (fun q : Nat => s.heap.size ≤ q) b := Nat.not_le.mpr hbl
  refine lv_iload_n hx hb dL_law_18 rfl (lv_at hl 0 rfl) ?_
  refine lv_aload_n hx hb dL_law_19 rfl (lv_at hl 3 rfl) ?_
  refine va_slen hx hb hXs hbl hbA hS dL_law_20 ?_
  refine lv_bipush (v := 6) hx hb dL_law_21 (by decide) ?_
  refine lv_isub hx hb dL_law_23 ?_
  rcases Nat.lt_or_ge L 6 with h6 | h6
  · refine lv_icmp_gt (tgt := 1631) hx hb dL_law_24 (by decide) (fun _ => ?_) (fun c => absurd (pk_sneg (a := L) (b := 6) (by decide) h6) c)
    refine lv_iconst (v := 1) hx hb dL_law_1631 (by decide) ?_
    refine va_forget (fun q hq => hS.2.2 q hq) ?_
    refine W.widen (k := 600000) (n := 7302250) (by decide) (by decide) ?_
    exact lw_ret hx hb hr hlocks dL_law_1632
  · obtain rfl : L = 6 := by omega
    refine z_topi (y := 0) (by decide) ?_
    refine lv_icmp_gt (tgt := 1631) hx hb dL_law_24 (by decide) (fun c => absurd c (by decide)) (fun _ => ?_)
    refine lv_aload_n hx hb dL_law_27 rfl (lv_at hl 3 rfl) ?_
    refine lv_iload_n hx hb dL_law_28 rfl (lv_at hl 0 rfl) ?_
    refine va_sld hx hb hXs hbl hbA hS (z_in (a := 0) (by decide) (by decide) (by decide)) dL_law_29 ?_
    refine lv_bipush (v := 63) hx hb dL_law_30 (by decide) ?_
    refine lv_iand hx hb dL_law_32 ?_
    obtain ⟨j, hj, ej, et⟩ := z_tab (xs (Int32.toNatClampNeg 0))
    rcases (show j = 0 ∨ j = 1 ∨ j = 2 ∨ j = 3 ∨ j = 4 ∨ j = 5 ∨ j = 6 ∨ j = 7 ∨ j = 8 ∨ j = 9 ∨ j = 10 ∨ j = 11 ∨ j = 12 ∨ j = 13 ∨ j = 14 ∨ j = 15 ∨ j = 16 ∨ j = 17 ∨ j = 18 ∨ j = 19 ∨ j = 20 ∨ j = 21 ∨ j = 22 ∨ j = 23 ∨ j = 24 ∨ j = 25 ∨ j = 26 ∨ j = 27 ∨ j = 28 ∨ j = 29 ∨ j = 30 ∨ j = 31 ∨ j = 32 ∨ j = 33 ∨ j = 34 ∨ j = 35 ∨ j = 36 ∨ j = 37 ∨ j = 38 ∨ j = 39 ∨ j = 40 ∨ j = 41 ∨ j = 42 ∨ 43 ≤ j by omega) with rfl | rfl | rfl | rfl | rfl | rfl | rfl | rfl | rfl | rfl | rfl | rfl | rfl | rfl | rfl | rfl | rfl | rfl | rfl | rfl | rfl | rfl | rfl | rfl | rfl | rfl | rfl | rfl | rfl | rfl | rfl | rfl | rfl | rfl | rfl | rfl | rfl | rfl | rfl | rfl | rfl | rfl | rfl | hj2
    · refine lv_tableIn (off := 187) (tgt := 220) hx hb dL_law_33 (by rw [et]; decide) (by rw [et]; decide) (by rw [et]; decide) (by decide) ?_
      exact law_case0 l dC dI cB cI cJ cZ cP cQ ad am C0 H locs hK hP hD hS hX ls hl
    · refine lv_tableIn (off := 250) (tgt := 283) hx hb dL_law_33 (by rw [et]; decide) (by rw [et]; decide) (by rw [et]; decide) (by decide) ?_
      exact law_case1 l dC dI cB cI cJ cZ cP cQ ad am C0 H locs hK hP hD hS hX ls hl
    · refine lv_tableIn (off := 273) (tgt := 306) hx hb dL_law_33 (by rw [et]; decide) (by rw [et]; decide) (by rw [et]; decide) (by decide) ?_
      exact law_case2 l dC dI cB cI cJ cZ cP cQ ad am C0 H locs hK hP hD hS hX ls hl
    · refine lv_tableIn (off := 286) (tgt := 319) hx hb dL_law_33 (by rw [et]; decide) (by rw [et]; decide) (by rw [et]; decide) (by decide) ?_
      exact law_case3 l dC dI cB cI cJ cZ cP cQ ad am C0 H locs hK hP hD hS hX ls hl
    · refine lv_tableIn (off := 309) (tgt := 342) hx hb dL_law_33 (by rw [et]; decide) (by rw [et]; decide) (by rw [et]; decide) (by decide) ?_
      exact law_case4 l dC dI cB cI cJ cZ cP cQ ad am C0 H locs hK hP hD hS hX ls hl
    · refine lv_tableIn (off := 342) (tgt := 375) hx hb dL_law_33 (by rw [et]; decide) (by rw [et]; decide) (by rw [et]; decide) (by decide) ?_
      exact law_case5 l dC dI cB cI cJ cZ cP cQ ad am C0 H locs hK hP hD hS hX ls hl
    · refine lv_tableIn (off := 375) (tgt := 408) hx hb dL_law_33 (by rw [et]; decide) (by rw [et]; decide) (by rw [et]; decide) (by decide) ?_
      exact law_case6 l dC dI cB cI cJ cZ cP cQ ad am C0 H locs hK hP hD hS hX ls hl
    · refine lv_tableIn (off := 428) (tgt := 461) hx hb dL_law_33 (by rw [et]; decide) (by rw [et]; decide) (by rw [et]; decide) (by decide) ?_
      exact law_case7 l dC dI cB cI cJ cZ cP cQ ad am C0 H locs hK hP hD hS hX ls hl
    · refine lv_tableIn (off := 461) (tgt := 494) hx hb dL_law_33 (by rw [et]; decide) (by rw [et]; decide) (by rw [et]; decide) (by decide) ?_
      exact law_case8 l dC dI cB cI cJ cZ cP cQ ad am C0 H locs hK hP hD hS hX ls hl
    · refine lv_tableIn (off := 514) (tgt := 547) hx hb dL_law_33 (by rw [et]; decide) (by rw [et]; decide) (by rw [et]; decide) (by decide) ?_
      exact law_case9 l dC dI cB cI cJ cZ cP cQ ad am C0 H locs hK hP hD hS hX ls hl
    · refine lv_tableIn (off := 547) (tgt := 580) hx hb dL_law_33 (by rw [et]; decide) (by rw [et]; decide) (by rw [et]; decide) (by decide) ?_
      exact law_case10 l dC dI cB cI cJ cZ cP cQ ad am C0 H locs hK hP hD hS hX ls hl
    · refine lv_tableIn (off := 580) (tgt := 613) hx hb dL_law_33 (by rw [et]; decide) (by rw [et]; decide) (by rw [et]; decide) (by decide) ?_
      exact law_case11 l dC dI cB cI cJ cZ cP cQ ad am C0 H locs hK hP hD hS hX ls hl
    · refine lv_tableIn (off := 603) (tgt := 636) hx hb dL_law_33 (by rw [et]; decide) (by rw [et]; decide) (by rw [et]; decide) (by decide) ?_
      exact law_case12 l dC dI cB cI cJ cZ cP cQ ad am C0 H locs hK hP hD hS hX ls hl
    · refine lv_tableIn (off := 636) (tgt := 669) hx hb dL_law_33 (by rw [et]; decide) (by rw [et]; decide) (by rw [et]; decide) (by decide) ?_
      exact law_case13 l dC dI cB cI cJ cZ cP cQ ad am C0 H locs hK hP hD hS hX ls hl
    · refine lv_tableIn (off := 650) (tgt := 683) hx hb dL_law_33 (by rw [et]; decide) (by rw [et]; decide) (by rw [et]; decide) (by decide) ?_
      exact law_case14 l dC dI cB cI cJ cZ cP cQ ad am C0 H locs hK hP hD hS hX ls hl
    · refine lv_tableIn (off := 674) (tgt := 707) hx hb dL_law_33 (by rw [et]; decide) (by rw [et]; decide) (by rw [et]; decide) (by decide) ?_
      exact law_case15 l dC dI cB cI cJ cZ cP cQ ad am C0 H locs hK hP hD hS hX ls hl
    · refine lv_tableIn (off := 688) (tgt := 721) hx hb dL_law_33 (by rw [et]; decide) (by rw [et]; decide) (by rw [et]; decide) (by decide) ?_
      exact law_case16 l dC dI cB cI cJ cZ cP cQ ad am C0 H locs hK hP hD hS hX ls hl
    · refine lv_tableIn (off := 701) (tgt := 734) hx hb dL_law_33 (by rw [et]; decide) (by rw [et]; decide) (by rw [et]; decide) (by decide) ?_
      exact law_case17 l dC dI cB cI cJ cZ cP cQ ad am C0 H locs hK hP hD hS hX ls hl
    · refine lv_tableIn (off := 725) (tgt := 758) hx hb dL_law_33 (by rw [et]; decide) (by rw [et]; decide) (by rw [et]; decide) (by decide) ?_
      exact law_case18 l dC dI cB cI cJ cZ cP cQ ad am C0 H locs hK hP hD hS hX ls hl
    · refine lv_tableIn (off := 749) (tgt := 782) hx hb dL_law_33 (by rw [et]; decide) (by rw [et]; decide) (by rw [et]; decide) (by decide) ?_
      exact law_case19 l dC dI cB cI cJ cZ cP cQ ad am C0 H locs hK hP hD hS hX ls hl
    · refine lv_tableIn (off := 762) (tgt := 795) hx hb dL_law_33 (by rw [et]; decide) (by rw [et]; decide) (by rw [et]; decide) (by decide) ?_
      exact law_case20 l dC dI cB cI cJ cZ cP cQ ad am C0 H locs hK hP hD hS hX ls hl
    · refine lv_tableIn (off := 805) (tgt := 838) hx hb dL_law_33 (by rw [et]; decide) (by rw [et]; decide) (by rw [et]; decide) (by decide) ?_
      exact law_case21 l dC dI cB cI cJ cZ cP cQ ad am C0 H locs hK hP hD hS hX ls hl
    · refine lv_tableIn (off := 848) (tgt := 881) hx hb dL_law_33 (by rw [et]; decide) (by rw [et]; decide) (by rw [et]; decide) (by decide) ?_
      exact law_case22 l dC dI cB cI cJ cZ cP cQ ad am C0 H locs hK hP hD hS hX ls hl
    · refine lv_tableIn (off := 891) (tgt := 924) hx hb dL_law_33 (by rw [et]; decide) (by rw [et]; decide) (by rw [et]; decide) (by decide) ?_
      exact law_case23 l dC dI cB cI cJ cZ cP cQ ad am C0 H locs hK hP hD hS hX ls hl
    · refine lv_tableIn (off := 944) (tgt := 977) hx hb dL_law_33 (by rw [et]; decide) (by rw [et]; decide) (by rw [et]; decide) (by decide) ?_
      exact law_case24 l dC dI cB cI cJ cZ cP cQ ad am C0 H locs hK hP hD hS hX ls hl
    · refine lv_tableIn (off := 968) (tgt := 1001) hx hb dL_law_33 (by rw [et]; decide) (by rw [et]; decide) (by rw [et]; decide) (by decide) ?_
      exact law_case25 l dC dI cB cI cJ cZ cP cQ ad am C0 H locs hK hP hD hS hX ls hl
    · refine lv_tableIn (off := 1002) (tgt := 1035) hx hb dL_law_33 (by rw [et]; decide) (by rw [et]; decide) (by rw [et]; decide) (by decide) ?_
      exact law_case26 l dC dI cB cI cJ cZ cP cQ ad am C0 H locs hK hP hD hS hX ls hl
    · refine lv_tableIn (off := 1026) (tgt := 1059) hx hb dL_law_33 (by rw [et]; decide) (by rw [et]; decide) (by rw [et]; decide) (by decide) ?_
      exact law_case27 l dC dI cB cI cJ cZ cP cQ ad am C0 H locs hK hP hD hS hX ls hl
    · refine lv_tableIn (off := 1049) (tgt := 1082) hx hb dL_law_33 (by rw [et]; decide) (by rw [et]; decide) (by rw [et]; decide) (by decide) ?_
      exact law_case28 l dC dI cB cI cJ cZ cP cQ ad am C0 H locs hK hP hD hS hX ls hl
    · refine lv_tableIn (off := 1089) (tgt := 1122) hx hb dL_law_33 (by rw [et]; decide) (by rw [et]; decide) (by rw [et]; decide) (by decide) ?_
      exact law_case29 l dC dI cB cI cJ cZ cP cQ ad am C0 H locs hK hP hD hS hX ls hl
    · refine lv_tableIn (off := 1123) (tgt := 1156) hx hb dL_law_33 (by rw [et]; decide) (by rw [et]; decide) (by rw [et]; decide) (by decide) ?_
      exact law_case30 l dC dI cB cI cJ cZ cP cQ ad am C0 H locs hK hP hD hS hX ls hl
    · refine lv_tableIn (off := 1146) (tgt := 1179) hx hb dL_law_33 (by rw [et]; decide) (by rw [et]; decide) (by rw [et]; decide) (by decide) ?_
      exact law_case31 l dC dI cB cI cJ cZ cP cQ ad am C0 H locs hK hP hD hS hX ls hl
    · refine lv_tableIn (off := 1179) (tgt := 1212) hx hb dL_law_33 (by rw [et]; decide) (by rw [et]; decide) (by rw [et]; decide) (by decide) ?_
      exact law_case32 l dC dI cB cI cJ cZ cP cQ ad am C0 H locs hK hP hD hS hX ls hl
    · refine lv_tableIn (off := 1212) (tgt := 1245) hx hb dL_law_33 (by rw [et]; decide) (by rw [et]; decide) (by rw [et]; decide) (by decide) ?_
      exact law_case33 l dC dI cB cI cJ cZ cP cQ ad am C0 H locs hK hP hD hS hX ls hl
    · refine lv_tableIn (off := 1275) (tgt := 1308) hx hb dL_law_33 (by rw [et]; decide) (by rw [et]; decide) (by rw [et]; decide) (by decide) ?_
      exact law_case34 l dC dI cB cI cJ cZ cP cQ ad am C0 H locs hK hP hD hS hX ls hl
    · refine lv_tableIn (off := 1298) (tgt := 1331) hx hb dL_law_33 (by rw [et]; decide) (by rw [et]; decide) (by rw [et]; decide) (by decide) ?_
      exact law_case35 l dC dI cB cI cJ cZ cP cQ ad am C0 H locs hK hP hD hS hX ls hl
    · refine lv_tableIn (off := 1321) (tgt := 1354) hx hb dL_law_33 (by rw [et]; decide) (by rw [et]; decide) (by rw [et]; decide) (by decide) ?_
      exact law_case36 l dC dI cB cI cJ cZ cP cQ ad am C0 H locs hK hP hD hS hX ls hl
    · refine lv_tableIn (off := 1344) (tgt := 1377) hx hb dL_law_33 (by rw [et]; decide) (by rw [et]; decide) (by rw [et]; decide) (by decide) ?_
      exact law_case37 l dC dI cB cI cJ cZ cP cQ ad am C0 H locs hK hP hD hS hX ls hl
    · refine lv_tableIn (off := 1367) (tgt := 1400) hx hb dL_law_33 (by rw [et]; decide) (by rw [et]; decide) (by rw [et]; decide) (by decide) ?_
      exact law_case38 l dC dI cB cI cJ cZ cP cQ ad am C0 H locs hK hP hD hS hX ls hl
    · refine lv_tableIn (off := 1390) (tgt := 1423) hx hb dL_law_33 (by rw [et]; decide) (by rw [et]; decide) (by rw [et]; decide) (by decide) ?_
      exact law_case39 l dC dI cB cI cJ cZ cP cQ ad am C0 H locs hK hP hD hS hX ls hl
    · refine lv_tableIn (off := 1413) (tgt := 1446) hx hb dL_law_33 (by rw [et]; decide) (by rw [et]; decide) (by rw [et]; decide) (by decide) ?_
      exact law_case40 l dC dI cB cI cJ cZ cP cQ ad am C0 H locs hK hP hD hS hX ls hl
    · refine lv_tableIn (off := 1456) (tgt := 1489) hx hb dL_law_33 (by rw [et]; decide) (by rw [et]; decide) (by rw [et]; decide) (by decide) ?_
      exact law_case41 l dC dI cB cI cJ cZ cP cQ ad am C0 H locs hK hP hD hS hX ls hl
    · refine lv_tableIn (off := 1529) (tgt := 1562) hx hb dL_law_33 (by rw [et]; decide) (by rw [et]; decide) (by rw [et]; decide) (by decide) ?_
      exact law_case42 l dC dI cB cI cJ cZ cP cQ ad am C0 H locs hK hP hD hS hX ls hl
    · refine lv_tableOut (tgt := 1625) hx hb dL_law_33 (by rw [et]; omega) (by decide) ?_
      exact law_tail C0 hS (by decide) (by decide) hl
set_option maxHeartbeats 4000000 in
set_option maxRecDepth 100000 in
/-- YOUR PART: from the entry, for every script of at most 6 ints, the law comes to its end with true -/
theorem whole_start {p : Program} {e : Env} {s : State} {m : MethodId} {below : List Frame} {meth : Method} {c : Code} (l : Launch) {b L : Nat} {xs : Nat → Int32} (hL : L ≤ 6) (C0 : lw_At p s m meth c b L xs) : W p l e room_1 s m #[Value.ref b] below meth c s.heap [] 0 0 (lw_Z below #[Value.ref b] s) (entryFrame m ([Value.ref b] : List Value).toArray 4) := by
  obtain ⟨hx, hb, hr, hml, hown, hts0, hXs, hbl, hlocks, hgv⟩ := id C0
  have hown : s.vm.findClass RL = some m.cls := hown
  have hts := hts0
  have hA : ∀ q : Nat, s.heap.size ≤ q → (fun q : Nat => s.heap.size ≤ q) q := fun _ h => h
  obtain ⟨dC, dI, cB, cI, cJ, cZ, cP, cQ, hK⟩ := law_K hts0
  have hX := law_X hts0
  have hS : va_S (fun q : Nat => s.heap.size ≤ q) s.heap s.heap [] := va_S.rf
  have hP : va_P (dC, dI) vwCl [] s.heap := fun k q h => by simp at h
  have hD : va_D (fun q : Nat => s.heap.size ≤ q) [] := ⟨fun i j p q h => by simp at h, fun k q h => by simp at h⟩
  have hl := lv_entry ([.ref b]) (n := 4) (Nat.le_of_ble_eq_true rfl)
  rw [lg_entry_eq]
  generalize (lg_sl ([.ref b]) ++ List.replicate (4 - (lg_sl ([.ref b])).length) Slot.unset).toArray = ls at hl ⊢
  have hl : lv_has ls 4 [(0, .ref b)] := hl
  refine va_new (ci := 8) (fs := [.null, .null, .null, .null, .null, .null, .null, .null, .null, .null]) (C := RX8) (T := TX8) (N := 10) hx hb hts inX8 tyX8 tyX8_ok hown (hts (.classLink RL 7 RX8) (by decide +kernel)) (hts (.instantiable RX8 10) (by decide +kernel)) (hts (.initialized RX8) (by decide +kernel)) hK hP hD hS hA rfl (z_fs8) (Nat.le_of_ble_eq_true rfl) (Nat.le_of_ble_eq_true rfl) dL_law_0 (fun q0 H hP hD hS => ?_)
  have hP : va_P (dC, dI) vwCl ([(q0, .inr (8, [.null, .null, .null, .null, .null, .null, .null, .null, .null, .null]))]) H := hP
  have hD : va_D (fun q : Nat => s.heap.size ≤ q) ([(q0, .inr (8, [.null, .null, .null, .null, .null, .null, .null, .null, .null, .null]))]) := hD
  refine W.widen (k := 1) (n := 10) (by decide) (by decide) ?_
  refine lv_dup hx hb dL_law_3 rfl ?_
  refine z_finv (w' := fun (u : Nat → Nat) => zxw cB cI cJ cZ cP cQ (fun k => match k with | 0 => q0 | k + 1 => u k)) (va_runI (As := []) (rest := [.ref q0]) ⟨hx, hb, hml, hown, hts⟩ (c_X8_init_8 l dC dI cB cI cJ cZ cP cQ q0 H.size) (cwI 0 hts gT_X8_init rfl rfl rfl (hts (.initialized RX8) (by decide +kernel)) (hts (.methodLink RL 9 yX8_init) (by decide +kernel)) (hts (.instanceMethod yX8_init) (by decide +kernel)) rfl (by decide +kernel) ⟨Nat.le_of_ble_eq_true rfl, Nat.le_of_ble_eq_true rfl⟩) (z_pS hK hP hD (zX_sub hX (by decide +kernel) (by decide +kernel)) [0] (by decide) rfl) rfl rfl hl.1 rfl (lv_room (Nat.le_of_ble_eq_true rfl)) dL_law_4 ⟨Nat.le_of_ble_eq_true rfl, Nat.le_of_ble_eq_true rfl⟩) hP hD hS hA [0] [] [0, 1, 2, 3, 4, 5, 6, 7, 8, 9, 10, 11, 12, 13, 14, 15, 16, 17, 18, 19, 20, 21, 22, 23, 24, 25, 26, 27, 28, 29, 30, 31, 32, 33, 34, 35, 36, 37, 38, 39, 40, 41, 42, 43, 44, 45, 46, 47, 48, 49, 50, 51, 52] rfl rfl (by decide) (by decide) (fun _ => rfl) (by decide) (fun u0 H locs _ hP hD hS => ?_)
  have hP : va_P (dC, dI) vwCl (zxw cB cI cJ cZ cP cQ (fun k => match k with | 0 => q0 | k + 1 => u0 k)) H := hP
  have hD : va_D (fun q : Nat => s.heap.size ≤ q) (zxw cB cI cJ cZ cP cQ (fun k => match k with | 0 => q0 | k + 1 => u0 k)) := hD
  refine W.widen (k := 53) (n := 4148) (by decide) (by decide) ?_
  refine lv_astore_n (lv' := [(1, .ref q0), (0, .ref b)]) hx hb dL_law_7 rfl hl (by decide) rfl (fun ls hl => ?_)
  refine va_new (ci := 9) (fs := [.int 0, .null, .null, .null, .null, .null, .int 0, .int 0, .int 0, .int 0, .int 0, .long 0, .int 0, .int 0, .int 0, .int 0, .null, .null, .null, .null, .null, .null, .null, .null, .null, .null, .null, .null, .null, .null, .null, .null, .null, .null, .null, .null, .null, .null, .null, .null, .null, .null, .long 0, .int 0, .long 0, .long 0, .long 0, .long 0, .long 0, .long 0, .long 0, .long 0, .null, .int 0, .null, .null, .null, .long 0, .long 0, .null]) (C := RX9) (T := TX9) (N := 60) hx hb hts inX9 tyX9 tyX9_ok hown (hts (.classLink RL 10 RX9) (by decide +kernel)) (hts (.instantiable RX9 60) (by decide +kernel)) (hts (.initialized RX9) (by decide +kernel)) hK hP hD hS hA rfl (z_fs9) (Nat.le_of_ble_eq_true rfl) (Nat.le_of_ble_eq_true rfl) dL_law_8 (fun q1 H hP hD hS => ?_)
  have hP : va_P (dC, dI) vwCl (zxw cB cI cJ cZ cP cQ (fun k => match k with | 0 => q0 | k + 1 => u0 k) ++ [(q1, .inr (9, [.int 0, .null, .null, .null, .null, .null, .int 0, .int 0, .int 0, .int 0, .int 0, .long 0, .int 0, .int 0, .int 0, .int 0, .null, .null, .null, .null, .null, .null, .null, .null, .null, .null, .null, .null, .null, .null, .null, .null, .null, .null, .null, .null, .null, .null, .null, .null, .null, .null, .long 0, .int 0, .long 0, .long 0, .long 0, .long 0, .long 0, .long 0, .long 0, .long 0, .null, .int 0, .null, .null, .null, .long 0, .long 0, .null]))]) H := hP
  have hD : va_D (fun q : Nat => s.heap.size ≤ q) (zxw cB cI cJ cZ cP cQ (fun k => match k with | 0 => q0 | k + 1 => u0 k) ++ [(q1, .inr (9, [.int 0, .null, .null, .null, .null, .null, .int 0, .int 0, .int 0, .int 0, .int 0, .long 0, .int 0, .int 0, .int 0, .int 0, .null, .null, .null, .null, .null, .null, .null, .null, .null, .null, .null, .null, .null, .null, .null, .null, .null, .null, .null, .null, .null, .null, .null, .null, .null, .null, .long 0, .int 0, .long 0, .long 0, .long 0, .long 0, .long 0, .long 0, .long 0, .long 0, .null, .int 0, .null, .null, .null, .long 0, .long 0, .null]))]) := hD
  refine W.widen (k := 54) (n := 4208) (by decide) (by decide) ?_
  refine lv_dup hx hb dL_law_11 rfl ?_
  refine z_finv (w' := fun (u : Nat → Nat) => zxw cB cI cJ cZ cP cQ (fun k => match k with | 0 => q0 | k + 1 => u0 k) ++ zmw cB cI cJ cZ cP cQ (fun k => match k with | 0 => q1 | k + 1 => u k)) (va_runI (As := []) (rest := [.ref q1]) ⟨hx, hb, hml, hown, hts⟩ (c_X9_init_9 l dC dI cB cI cJ cZ cP cQ q1 H.size) (cwI 0 hts gT_X9_init rfl rfl rfl (hts (.initialized RX9) (by decide +kernel)) (hts (.methodLink RL 12 yX9_init) (by decide +kernel)) (hts (.instanceMethod yX9_init) (by decide +kernel)) rfl (by decide +kernel) ⟨Nat.le_of_ble_eq_true rfl, Nat.le_of_ble_eq_true rfl⟩) (z_pS hK hP hD (zX_sub hX (by decide +kernel) (by decide +kernel)) [53] (by decide) rfl) rfl rfl hl.1 rfl (lv_room (Nat.le_of_ble_eq_true rfl)) dL_law_12 ⟨Nat.le_of_ble_eq_true rfl, Nat.le_of_ble_eq_true rfl⟩) hP hD hS hA [53] [0, 1, 2, 3, 4, 5, 6, 7, 8, 9, 10, 11, 12, 13, 14, 15, 16, 17, 18, 19, 20, 21, 22, 23, 24, 25, 26, 27, 28, 29, 30, 31, 32, 33, 34, 35, 36, 37, 38, 39, 40, 41, 42, 43, 44, 45, 46, 47, 48, 49, 50, 51, 52] [0, 1, 2, 3, 4, 5, 6, 7, 8, 9, 10, 11, 12, 13, 14, 15, 16, 17, 18, 19, 20, 21, 22, 23, 24, 25, 26, 27, 28, 29, 30, 31, 32, 33, 34, 35, 36, 37, 38, 39, 40, 41, 42, 43, 44, 45, 46, 47, 48, 49, 50, 51, 52, 53, 54, 55, 56, 57, 58, 59, 60, 61, 62, 63, 64, 65, 66, 67, 68, 69, 70, 71, 72, 73, 74, 75, 76, 77, 78, 79, 80, 81, 82, 83, 84, 85, 86, 87, 88, 89] rfl rfl (by decide) (by decide) (fun _ => rfl) (by decide) (fun u1 H locs _ hP hD hS => ?_)
  have hP : va_P (dC, dI) vwCl (zxw cB cI cJ cZ cP cQ (fun k => match k with | 0 => q0 | k + 1 => u0 k) ++ zmw cB cI cJ cZ cP cQ (fun k => match k with | 0 => q1 | k + 1 => u1 k)) H := hP
  have hD : va_D (fun q : Nat => s.heap.size ≤ q) (zxw cB cI cJ cZ cP cQ (fun k => match k with | 0 => q0 | k + 1 => u0 k) ++ zmw cB cI cJ cZ cP cQ (fun k => match k with | 0 => q1 | k + 1 => u1 k)) := hD
  refine W.widen (k := 90) (n := 14039) (by decide) (by decide) ?_
  refine lv_astore_n (lv' := [(2, .ref q1), (1, .ref q0), (0, .ref b)]) hx hb dL_law_15 rfl hl (by decide) rfl (fun ls hl => ?_)
  refine lv_iconst (v := 0) hx hb dL_law_16 (by decide) ?_
  refine lv_istore_n (lv' := [(3, .int 0), (2, .ref q1), (1, .ref q0), (0, .ref b)]) hx hb dL_law_17 rfl hl (by decide) rfl (fun ls hl => ?_)
  exact law_head l dC dI cB cI cJ cZ cP cQ (fun k => match k with | 0 => q0 | k + 1 => u0 k) (fun k => match k with | 0 => q1 | k + 1 => u1 k) hL C0 H locs hK hP hD hS (zX_sub hX (by decide +kernel) (by decide +kernel)) ls hl
