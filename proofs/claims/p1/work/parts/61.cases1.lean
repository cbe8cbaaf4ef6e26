set_option maxHeartbeats 4000000 in
set_option maxRecDepth 100000 in
theorem law_case11 {p : Program} {e : Env} {s : State} {m : MethodId} {below : List Frame} {meth : Method} {c : Code} {b : Nat} {xs : Nat → Int32} (l : Launch) (dC : Nat → ClassId) (dI : Nat → Nat → Nat) (cB cI cJ cZ cP cQ : ClassId) (ad am : Nat → Nat) (C0 : lw_At p s m meth c b 6 xs) (H : Heap) (locs : List Loc) (hK : va_K (dC, dI) vwCl (zT cB cI cJ cZ cP cQ) s) (hP : va_P (dC, dI) vwCl (zxw cB cI cJ cZ cP cQ ad ++ zmw cB cI cJ cZ cP cQ am) H) (hD : va_D (fun q : Nat => s.heap.size ≤ q) (zxw cB cI cJ cZ cP cQ ad ++ zmw cB cI cJ cZ cP cQ am)) (hS : va_S (fun q : Nat => s.heap.size ≤ q) s.heap H locs) (hX : zX [(RX1, 44, yX8_thousandths, "MonthPush"), (RX2, 18, yX5_init, "MonthPush"), (RX8, 380, yX2_init, "MonthPush")] [] s) (ls : Array Slot) (hl : lv_has ls 4 [(3, .int 0), (2, .ref (am 0)), (1, .ref (ad 0)), (0, .ref b)]) : W p l e room_1 s m #[Value.ref b] below meth c H locs 90 14039 (lw_Z below #[Value.ref b] s) (F0 m 613 ls []) := by
  obtain ⟨hx, hb, hr, hml, hown, hts, hXs, hbl, hlocks, hgv⟩ := id C0
  have hown : s.vm.findClass RL = some m.cls := hown
  have hA : ∀ q : Nat, s.heap.size ≤ q → (fun q : Nat => s.heap.size ≤ q) q := fun _ h => h
  have hbA : ¬ (fun q : Nat => s.heap.size ≤ q) b := Nat.not_le.mpr hbl
  refine lv_aload_n hx hb dL_law_613 rfl (lv_at hl 2 rfl) ?_
  refine lv_aload_n hx hb dL_law_614 rfl (lv_at hl 3 rfl) ?_
  refine lv_iload_n hx hb dL_law_615 rfl (lv_at hl 0 rfl) ?_
  refine lv_iconst (v := 1) hx hb dL_law_616 (by decide) ?_
  refine lv_iadd hx hb dL_law_617 ?_
  refine z_topi (y := 1) (by decide +kernel) ?_
  refine va_sld hx hb hXs hbl hbA hS (z_in (a := 1) (by decide) (by decide) (by decide)) dL_law_618 ?_
  refine z_topi (y := xs 1) rfl ?_
  refine z_fini (w' := fun (_ : Unit) => [(am 0, .inr (9, mf0 am)), (am 25, .inl (cI, 5, .inl (fun _ => 0)))]) (va_runV (As := [.int (xs 1)]) (rest := []) ⟨hx, hb, hml, hown, hts⟩ (c_X8_worth_41 l dC dI cB cI cJ cZ cP cQ ad H.size (xs 1)) (cwV 1 hts gT_X8_worth rfl rfl rfl (by decide +kernel) ⟨Nat.le_of_ble_eq_true rfl, Nat.le_of_ble_eq_true rfl⟩) (z_pV (ci := 8) hK hP hD zX_nil [0, 23] (by decide) rfl rfl 0 rfl) rfl rfl hl.1 rfl (lv_room (Nat.le_of_ble_eq_true rfl)) dL_law_619 ⟨Nat.le_of_ble_eq_true rfl, Nat.le_of_ble_eq_true rfl⟩) hP hD hS hA [0, 23] [53, 78] [0, 1] rfl rfl (by decide) (by decide) (fun _ => rfl) (by decide) (fun r1 u2 H locs hp3 hP hD hS => ?_)
  have hP : va_P (dC, dI) vwCl [(am 0, .inr (9, mf0 am)), (am 25, .inl (cI, 5, .inl (fun _ => 0)))] H := hP
  have hD : va_D (fun q : Nat => s.heap.size ≤ q) [(am 0, .inr (9, mf0 am)), (am 25, .inl (cI, 5, .inl (fun _ => 0)))] := hD
  refine W.widen (k := 90) (n := 14039) (by decide) (by decide) ?_
  refine lv_aload_n hx hb dL_law_622 rfl (lv_at hl 1 rfl) ?_
  refine lv_aload_n hx hb dL_law_623 rfl (lv_at hl 3 rfl) ?_
  refine lv_iload_n hx hb dL_law_624 rfl (lv_at hl 0 rfl) ?_
  refine lv_iconst (v := 1) hx hb dL_law_625 (by decide) ?_
  refine lv_iadd hx hb dL_law_626 ?_
  refine z_topi (y := 1) (by decide +kernel) ?_
  refine va_sld hx hb hXs hbl hbA hS (z_in (a := 1) (by decide) (by decide) (by decide)) dL_law_627 ?_
  refine z_topi (y := xs 1) rfl ?_
  refine z_fini (w' := fun (_ : Unit) => []) (va_runV (As := [.int (xs 1)]) (rest := [.int r1]) ⟨hx, hb, hml, hown, hts⟩ (c_X9_worth_182 l dC dI cB cI cJ cZ cP cQ am H.size (xs 1)) (cwV 1 hts gT_X9_worth rfl rfl rfl (by decide +kernel) ⟨Nat.le_of_ble_eq_true rfl, Nat.le_of_ble_eq_true rfl⟩) (z_pV (ci := 9) hK hP hD zX_nil [0, 1] (by decide) rfl rfl 0 rfl) rfl rfl hl.1 rfl (lv_room (Nat.le_of_ble_eq_true rfl)) dL_law_628 ⟨Nat.le_of_ble_eq_true rfl, Nat.le_of_ble_eq_true rfl⟩) hP hD hS hA [0, 1] [] [] rfl rfl (by decide) (by decide) (fun _ => rfl) (by decide) (fun r4 u5 H locs hp6 hP hD hS => ?_)
  have hP : va_P (dC, dI) vwCl [] H := hP
  have hD : va_D (fun q : Nat => s.heap.size ≤ q) [] := hD
  refine W.widen (k := 90) (n := 14039) (by decide) (by decide) ?_
  have heq : r1 = r4 := by
    rcases hp3 with ⟨rfl, a0⟩ | ⟨rfl, a0⟩ <;> (rcases hp6 with ⟨rfl, b0⟩ | ⟨rfl, b0⟩ <;> first | rfl | (exfalso; omega))
  refine lv_icmp_eq (tgt := 1625) hx hb dL_law_631 (by decide) (fun _ => ?_) (fun c => absurd heq c)
  exact law_tail C0 hS (by decide) (by decide) (lv_sub hl [0, 1, 2, 3] rfl)
set_option maxHeartbeats 4000000 in
set_option maxRecDepth 100000 in
theorem law_case12 {p : Program} {e : Env} {s : State} {m : MethodId} {below : List Frame} {meth : Method} {c : Code} {b : Nat} {xs : Nat → Int32} (l : Launch) (dC : Nat → ClassId) (dI : Nat → Nat → Nat) (cB cI cJ cZ cP cQ : ClassId) (ad am : Nat → Nat) (C0 : lw_At p s m meth c b 6 xs) (H : Heap) (locs : List Loc) (hK : va_K (dC, dI) vwCl (zT cB cI cJ cZ cP cQ) s) (hP : va_P (dC, dI) vwCl (zxw cB cI cJ cZ cP cQ ad ++ zmw cB cI cJ cZ cP cQ am) H) (hD : va_D (fun q : Nat => s.heap.size ≤ q) (zxw cB cI cJ cZ cP cQ ad ++ zmw cB cI cJ cZ cP cQ am)) (hS : va_S (fun q : Nat => s.heap.size ≤ q) s.heap H locs) (hX : zX [(RX1, 44, yX8_thousandths, "MonthPush"), (RX2, 18, yX5_init, "MonthPush"), (RX8, 380, yX2_init, "MonthPush")] [] s) (ls : Array Slot) (hl : lv_has ls 4 [(3, .int 0), (2, .ref (am 0)), (1, .ref (ad 0)), (0, .ref b)]) : W p l e room_1 s m #[Value.ref b] below meth c H locs 90 14039 (lw_Z below #[Value.ref b] s) (F0 m 636 ls []) := by
  obtain ⟨hx, hb, hr, hml, hown, hts, hXs, hbl, hlocks, hgv⟩ := id C0
  have hown : s.vm.findClass RL = some m.cls := hown
  have hA : ∀ q : Nat, s.heap.size ≤ q → (fun q : Nat => s.heap.size ≤ q) q := fun _ h => h
  have hbA : ¬ (fun q : Nat => s.heap.size ≤ q) b := Nat.not_le.mpr hbl
  refine lv_aload_n hx hb dL_law_636 rfl (lv_at hl 2 rfl) ?_
  refine lv_aload_n hx hb dL_law_637 rfl (lv_at hl 3 rfl) ?_
  refine lv_iload_n hx hb dL_law_638 rfl (lv_at hl 0 rfl) ?_
  refine lv_iconst (v := 1) hx hb dL_law_639 (by decide) ?_
  refine lv_iadd hx hb dL_law_640 ?_
  refine z_topi (y := 1) (by decide +kernel) ?_
  refine va_sld hx hb hXs hbl hbA hS (z_in (a := 1) (by decide) (by decide) (by decide)) dL_law_641 ?_
  refine z_topi (y := xs 1) rfl ?_
  refine lv_aload_n hx hb dL_law_642 rfl (lv_at hl 3 rfl) ?_
  refine lv_iload_n hx hb dL_law_643 rfl (lv_at hl 0 rfl) ?_
  refine lv_iconst (v := 2) hx hb dL_law_644 (by decide) ?_
  refine lv_iadd hx hb dL_law_645 ?_
  refine z_topi (y := 2) (by decide +kernel) ?_
  refine va_sld hx hb hXs hbl hbA hS (z_in (a := 2) (by decide) (by decide) (by decide)) dL_law_646 ?_
  refine z_topi (y := xs 2) rfl ?_
  refine z_fini (w' := fun (_ : Unit) => [(am 0, .inr (9, mf0 am)), (am 25, .inl (cI, 5, .inl (fun _ => 0)))]) (va_runV (As := [.int (xs 1), .int (xs 2)]) (rest := []) ⟨hx, hb, hml, hown, hts⟩ (c_X8_month_44 l dC dI cB cI cJ cZ cP cQ ad H.size (xs 1) (xs 2)) (cwV 2 hts gT_X8_month rfl rfl rfl (by decide +kernel) ⟨Nat.le_of_ble_eq_true rfl, Nat.le_of_ble_eq_true rfl⟩) (z_pV (ci := 8) hK hP hD zX_nil [0, 23] (by decide) rfl rfl 0 rfl) rfl rfl hl.1 rfl (lv_room (Nat.le_of_ble_eq_true rfl)) dL_law_647 ⟨Nat.le_of_ble_eq_true rfl, Nat.le_of_ble_eq_true rfl⟩) hP hD hS hA [0, 23] [53, 78] [0, 1] rfl rfl (by decide) (by decide) (fun _ => rfl) (by decide) (fun r1 u2 H locs hp3 hP hD hS => ?_)
  have hP : va_P (dC, dI) vwCl [(am 0, .inr (9, mf0 am)), (am 25, .inl (cI, 5, .inl (fun _ => 0)))] H := hP
  have hD : va_D (fun q : Nat => s.heap.size ≤ q) [(am 0, .inr (9, mf0 am)), (am 25, .inl (cI, 5, .inl (fun _ => 0)))] := hD
  refine W.widen (k := 90) (n := 14039) (by decide) (by decide) ?_
  refine lv_aload_n hx hb dL_law_650 rfl (lv_at hl 1 rfl) ?_
  refine lv_aload_n hx hb dL_law_651 rfl (lv_at hl 3 rfl) ?_
  refine lv_iload_n hx hb dL_law_652 rfl (lv_at hl 0 rfl) ?_
  refine lv_iconst (v := 1) hx hb dL_law_653 (by decide) ?_
  refine lv_iadd hx hb dL_law_654 ?_
  refine z_topi (y := 1) (by decide +kernel) ?_
  refine va_sld hx hb hXs hbl hbA hS (z_in (a := 1) (by decide) (by decide) (by decide)) dL_law_655 ?_
  refine z_topi (y := xs 1) rfl ?_
  refine lv_aload_n hx hb dL_law_656 rfl (lv_at hl 3 rfl) ?_
  refine lv_iload_n hx hb dL_law_657 rfl (lv_at hl 0 rfl) ?_
  refine lv_iconst (v := 2) hx hb dL_law_658 (by decide) ?_
  refine lv_iadd hx hb dL_law_659 ?_
  refine z_topi (y := 2) (by decide +kernel) ?_
  refine va_sld hx hb hXs hbl hbA hS (z_in (a := 2) (by decide) (by decide) (by decide)) dL_law_660 ?_
  refine z_topi (y := xs 2) rfl ?_
  refine z_fini (w' := fun (_ : Unit) => []) (va_runV (As := [.int (xs 1), .int (xs 2)]) (rest := [.int r1]) ⟨hx, hb, hml, hown, hts⟩ (c_X9_month_184 l dC dI cB cI cJ cZ cP cQ am H.size (xs 1) (xs 2)) (cwV 2 hts gT_X9_month rfl rfl rfl (by decide +kernel) ⟨Nat.le_of_ble_eq_true rfl, Nat.le_of_ble_eq_true rfl⟩) (z_pV (ci := 9) hK hP hD zX_nil [0, 1] (by decide) rfl rfl 0 rfl) rfl rfl hl.1 rfl (lv_room (Nat.le_of_ble_eq_true rfl)) dL_law_661 ⟨Nat.le_of_ble_eq_true rfl, Nat.le_of_ble_eq_true rfl⟩) hP hD hS hA [0, 1] [] [] rfl rfl (by decide) (by decide) (fun _ => rfl) (by decide) (fun r4 u5 H locs hp6 hP hD hS => ?_)
  have hP : va_P (dC, dI) vwCl [] H := hP
  have hD : va_D (fun q : Nat => s.heap.size ≤ q) [] := hD
  refine W.widen (k := 90) (n := 14039) (by decide) (by decide) ?_
  have heq : r1 = r4 := by
    rcases hp3 with ⟨rfl, a0⟩ | ⟨rfl, a0, a1⟩ | ⟨rfl, a0, a1, a2⟩ | ⟨rfl, a0, a1, a2, a3⟩ | ⟨rfl, a0, a1, a2, a3⟩ <;> (rcases hp6 with ⟨rfl, b0⟩ | ⟨rfl, b0, b1⟩ | ⟨rfl, b0, b1, b2⟩ | ⟨rfl, b0, b1, b2, b3⟩ | ⟨rfl, b0, b1, b2, b3⟩ <;> first | rfl | (exfalso; omega))
  refine lv_icmp_eq (tgt := 1625) hx hb dL_law_664 (by decide) (fun _ => ?_) (fun c => absurd heq c)
  exact law_tail C0 hS (by decide) (by decide) (lv_sub hl [0, 1, 2, 3] rfl)
set_option maxHeartbeats 4000000 in
set_option maxRecDepth 100000 in
theorem law_case13 {p : Program} {e : Env} {s : State} {m : MethodId} {below : List Frame} {meth : Method} {c : Code} {b : Nat} {xs : Nat → Int32} (l : Launch) (dC : Nat → ClassId) (dI : Nat → Nat → Nat) (cB cI cJ cZ cP cQ : ClassId) (ad am : Nat → Nat) (C0 : lw_At p s m meth c b 6 xs) (H : Heap) (locs : List Loc) (hK : va_K (dC, dI) vwCl (zT cB cI cJ cZ cP cQ) s) (hP : va_P (dC, dI) vwCl (zxw cB cI cJ cZ cP cQ ad ++ zmw cB cI cJ cZ cP cQ am) H) (hD : va_D (fun q : Nat => s.heap.size ≤ q) (zxw cB cI cJ cZ cP cQ ad ++ zmw cB cI cJ cZ cP cQ am)) (hS : va_S (fun q : Nat => s.heap.size ≤ q) s.heap H locs) (hX : zX [(RX1, 44, yX8_thousandths, "MonthPush"), (RX2, 18, yX5_init, "MonthPush"), (RX8, 380, yX2_init, "MonthPush")] [] s) (ls : Array Slot) (hl : lv_has ls 4 [(3, .int 0), (2, .ref (am 0)), (1, .ref (ad 0)), (0, .ref b)]) : W p l e room_1 s m #[Value.ref b] below meth c H locs 90 14039 (lw_Z below #[Value.ref b] s) (F0 m 669 ls []) := by
  obtain ⟨hx, hb, hr, hml, hown, hts, hXs, hbl, hlocks, hgv⟩ := id C0
  have hown : s.vm.findClass RL = some m.cls := hown
  have hA : ∀ q : Nat, s.heap.size ≤ q → (fun q : Nat => s.heap.size ≤ q) q := fun _ h => h
  have hbA : ¬ (fun q : Nat => s.heap.size ≤ q) b := Nat.not_le.mpr hbl
  refine lv_aload_n hx hb dL_law_669 rfl (lv_at hl 2 rfl) ?_
  refine z_finl (w' := fun (_ : Unit) => [(am 0, .inr (9, mf0 am)), (am 25, .inl (cI, 5, .inl (fun _ => 0)))]) (va_runV (As := []) (rest := []) ⟨hx, hb, hml, hown, hts⟩ (c_X8_plain_49 l dC dI cB cI cJ cZ cP cQ ad H.size) (cwV 0 hts gT_X8_plain rfl rfl rfl (by decide +kernel) ⟨Nat.le_of_ble_eq_true rfl, Nat.le_of_ble_eq_true rfl⟩) (z_pV (ci := 8) hK hP hD zX_nil [0, 23, 38] (by decide) rfl rfl 0 rfl) rfl rfl hl.1 rfl (lv_room (Nat.le_of_ble_eq_true rfl)) dL_law_670 ⟨Nat.le_of_ble_eq_true rfl, Nat.le_of_ble_eq_true rfl⟩) hP hD hS hA [0, 23, 38] [53, 78] [0, 1] rfl rfl (by decide) (by decide) (fun _ => rfl) (by decide) (fun r1 u2 H locs hp3 hP hD hS => ?_)
  have hP : va_P (dC, dI) vwCl [(am 0, .inr (9, mf0 am)), (am 25, .inl (cI, 5, .inl (fun _ => 0)))] H := hP
  have hD : va_D (fun q : Nat => s.heap.size ≤ q) [(am 0, .inr (9, mf0 am)), (am 25, .inl (cI, 5, .inl (fun _ => 0)))] := hD
  refine W.widen (k := 90) (n := 14039) (by decide) (by decide) ?_
  refine lv_aload_n hx hb dL_law_673 rfl (lv_at hl 1 rfl) ?_
  refine z_finl (w' := fun (_ : Unit) => []) (va_runV (As := []) (rest := [.long r1]) ⟨hx, hb, hml, hown, hts⟩ (c_X9_plain_189 l dC dI cB cI cJ cZ cP cQ am H.size) (cwV 0 hts gT_X9_plain rfl rfl rfl (by decide +kernel) ⟨Nat.le_of_ble_eq_true rfl, Nat.le_of_ble_eq_true rfl⟩) (z_pV (ci := 9) hK hP hD zX_nil [0, 1] (by decide) rfl rfl 0 rfl) rfl rfl hl.1 rfl (lv_room (Nat.le_of_ble_eq_true rfl)) dL_law_674 ⟨Nat.le_of_ble_eq_true rfl, Nat.le_of_ble_eq_true rfl⟩) hP hD hS hA [0, 1] [] [] rfl rfl (by decide) (by decide) (fun _ => rfl) (by decide) (fun r4 u5 H locs hp6 hP hD hS => ?_)
  have hP : va_P (dC, dI) vwCl [] H := hP
  have hD : va_D (fun q : Nat => s.heap.size ≤ q) [] := hD
  refine W.widen (k := 90) (n := 14039) (by decide) (by decide) ?_
  have heq : r1 = r4 := by
    obtain rfl : r1 = (-2000000000) := hp3 <;> (obtain rfl : r4 = (-2000000000) := hp6 <;> first | rfl | (exfalso; omega))
  refine W.lcmp hx hb dL_law_677 ?_
  refine z_topi (y := 0) (by rw [heq]; exact z_cmp0) ?_
  refine lv_if_eq (tgt := 1625) hx hb dL_law_678 (by decide) (fun _ => ?_) (fun c => absurd (by decide) c)
  exact law_tail C0 hS (by decide) (by decide) (lv_sub hl [0, 1, 2, 3] rfl)
set_option maxHeartbeats 4000000 in
set_option maxRecDepth 100000 in
theorem law_case14 {p : Program} {e : Env} {s : State} {m : MethodId} {below : List Frame} {meth : Method} {c : Code} {b : Nat} {xs : Nat → Int32} (l : Launch) (dC : Nat → ClassId) (dI : Nat → Nat → Nat) (cB cI cJ cZ cP cQ : ClassId) (ad am : Nat → Nat) (C0 : lw_At p s m meth c b 6 xs) (H : Heap) (locs : List Loc) (hK : va_K (dC, dI) vwCl (zT cB cI cJ cZ cP cQ) s) (hP : va_P (dC, dI) vwCl (zxw cB cI cJ cZ cP cQ ad ++ zmw cB cI cJ cZ cP cQ am) H) (hD : va_D (fun q : Nat => s.heap.size ≤ q) (zxw cB cI cJ cZ cP cQ ad ++ zmw cB cI cJ cZ cP cQ am)) (hS : va_S (fun q : Nat => s.heap.size ≤ q) s.heap H locs) (hX : zX [(RX1, 44, yX8_thousandths, "MonthPush"), (RX2, 18, yX5_init, "MonthPush"), (RX8, 380, yX2_init, "MonthPush")] [] s) (ls : Array Slot) (hl : lv_has ls 4 [(3, .int 0), (2, .ref (am 0)), (1, .ref (ad 0)), (0, .ref b)]) : W p l e room_1 s m #[Value.ref b] below meth c H locs 90 14039 (lw_Z below #[Value.ref b] s) (F0 m 683 ls []) := by
  obtain ⟨hx, hb, hr, hml, hown, hts, hXs, hbl, hlocks, hgv⟩ := id C0
  have hown : s.vm.findClass RL = some m.cls := hown
  have hA : ∀ q : Nat, s.heap.size ≤ q → (fun q : Nat => s.heap.size ≤ q) q := fun _ h => h
  have hbA : ¬ (fun q : Nat => s.heap.size ≤ q) b := Nat.not_le.mpr hbl
  refine lv_aload_n hx hb dL_law_683 rfl (lv_at hl 2 rfl) ?_
  refine lv_aload_n hx hb dL_law_684 rfl (lv_at hl 3 rfl) ?_
  refine lv_iload_n hx hb dL_law_685 rfl (lv_at hl 0 rfl) ?_
  refine lv_iconst (v := 1) hx hb dL_law_686 (by decide) ?_
  refine lv_iadd hx hb dL_law_687 ?_
  refine z_topi (y := 1) (by decide +kernel) ?_
  refine va_sld hx hb hXs hbl hbA hS (z_in (a := 1) (by decide) (by decide) (by decide)) dL_law_688 ?_
  refine z_topi (y := xs 1) rfl ?_
  refine z_finl (w' := fun (_ : Unit) => [(am 0, .inr (9, mf0 am)), (am 25, .inl (cI, 5, .inl (fun _ => 0)))]) (va_runV (As := [.int (xs 1)]) (rest := []) ⟨hx, hb, hml, hown, hts⟩ (c_X8_by_57 l dC dI cB cI cJ cZ cP cQ ad H.size (xs 1)) (cwV 1 hts gT_X8_by rfl rfl rfl (by decide +kernel) ⟨Nat.le_of_ble_eq_true rfl, Nat.le_of_ble_eq_true rfl⟩) (z_pV (ci := 8) hK hP hD zX_nil [0, 23, 38] (by decide) rfl rfl 0 rfl) rfl rfl hl.1 rfl (lv_room (Nat.le_of_ble_eq_true rfl)) dL_law_689 ⟨Nat.le_of_ble_eq_true rfl, Nat.le_of_ble_eq_true rfl⟩) hP hD hS hA [0, 23, 38] [53, 78] [0, 1] rfl rfl (by decide) (by decide) (fun _ => rfl) (by decide) (fun r1 u2 H locs hp3 hP hD hS => ?_)
  have hP : va_P (dC, dI) vwCl [(am 0, .inr (9, mf0 am)), (am 25, .inl (cI, 5, .inl (fun _ => 0)))] H := hP
  have hD : va_D (fun q : Nat => s.heap.size ≤ q) [(am 0, .inr (9, mf0 am)), (am 25, .inl (cI, 5, .inl (fun _ => 0)))] := hD
  refine W.widen (k := 90) (n := 14039) (by decide) (by decide) ?_
  refine lv_aload_n hx hb dL_law_692 rfl (lv_at hl 1 rfl) ?_
  refine lv_aload_n hx hb dL_law_693 rfl (lv_at hl 3 rfl) ?_
  refine lv_iload_n hx hb dL_law_694 rfl (lv_at hl 0 rfl) ?_
  refine lv_iconst (v := 1) hx hb dL_law_695 (by decide) ?_
  refine lv_iadd hx hb dL_law_696 ?_
  refine z_topi (y := 1) (by decide +kernel) ?_
  refine va_sld hx hb hXs hbl hbA hS (z_in (a := 1) (by decide) (by decide) (by decide)) dL_law_697 ?_
  refine z_topi (y := xs 1) rfl ?_
  refine z_finl (w' := fun (_ : Unit) => []) (va_runV (As := [.int (xs 1)]) (rest := [.long r1]) ⟨hx, hb, hml, hown, hts⟩ (c_X9_by_197 l dC dI cB cI cJ cZ cP cQ am H.size (xs 1)) (cwV 1 hts gT_X9_by rfl rfl rfl (by decide +kernel) ⟨Nat.le_of_ble_eq_true rfl, Nat.le_of_ble_eq_true rfl⟩) (z_pV (ci := 9) hK hP hD zX_nil [0, 1] (by decide) rfl rfl 0 rfl) rfl rfl hl.1 rfl (lv_room (Nat.le_of_ble_eq_true rfl)) dL_law_698 ⟨Nat.le_of_ble_eq_true rfl, Nat.le_of_ble_eq_true rfl⟩) hP hD hS hA [0, 1] [] [] rfl rfl (by decide) (by decide) (fun _ => rfl) (by decide) (fun r4 u5 H locs hp6 hP hD hS => ?_)
  have hP : va_P (dC, dI) vwCl [] H := hP
  have hD : va_D (fun q : Nat => s.heap.size ≤ q) [] := hD
  refine W.widen (k := 90) (n := 14039) (by decide) (by decide) ?_
  have heq : r1 = r4 := by
    rcases hp3 with ⟨rfl, a0⟩ | ⟨rfl, a0, a1⟩ | ⟨rfl, a0, a1⟩ <;> (rcases hp6 with ⟨rfl, b0⟩ | ⟨rfl, b0, b1⟩ | ⟨rfl, b0, b1⟩ <;> first | rfl | (exfalso; omega))
  refine W.lcmp hx hb dL_law_701 ?_
  refine z_topi (y := 0) (by rw [heq]; exact z_cmp0) ?_
  refine lv_if_eq (tgt := 1625) hx hb dL_law_702 (by decide) (fun _ => ?_) (fun c => absurd (by decide) c)
  exact law_tail C0 hS (by decide) (by decide) (lv_sub hl [0, 1, 2, 3] rfl)
set_option maxHeartbeats 4000000 in
set_option maxRecDepth 100000 in
theorem law_case15 {p : Program} {e : Env} {s : State} {m : MethodId} {below : List Frame} {meth : Method} {c : Code} {b : Nat} {xs : Nat → Int32} (l : Launch) (dC : Nat → ClassId) (dI : Nat → Nat → Nat) (cB cI cJ cZ cP cQ : ClassId) (ad am : Nat → Nat) (C0 : lw_At p s m meth c b 6 xs) (H : Heap) (locs : List Loc) (hK : va_K (dC, dI) vwCl (zT cB cI cJ cZ cP cQ) s) (hP : va_P (dC, dI) vwCl (zxw cB cI cJ cZ cP cQ ad ++ zmw cB cI cJ cZ cP cQ am) H) (hD : va_D (fun q : Nat => s.heap.size ≤ q) (zxw cB cI cJ cZ cP cQ ad ++ zmw cB cI cJ cZ cP cQ am)) (hS : va_S (fun q : Nat => s.heap.size ≤ q) s.heap H locs) (hX : zX [(RX1, 44, yX8_thousandths, "MonthPush"), (RX2, 18, yX5_init, "MonthPush"), (RX8, 380, yX2_init, "MonthPush")] [] s) (ls : Array Slot) (hl : lv_has ls 4 [(3, .int 0), (2, .ref (am 0)), (1, .ref (ad 0)), (0, .ref b)]) : W p l e room_1 s m #[Value.ref b] below meth c H locs 90 14039 (lw_Z below #[Value.ref b] s) (F0 m 707 ls []) := by
  obtain ⟨hx, hb, hr, hml, hown, hts, hXs, hbl, hlocks, hgv⟩ := id C0
  have hown : s.vm.findClass RL = some m.cls := hown
  have hA : ∀ q : Nat, s.heap.size ≤ q → (fun q : Nat => s.heap.size ≤ q) q := fun _ h => h
  have hbA : ¬ (fun q : Nat => s.heap.size ≤ q) b := Nat.not_le.mpr hbl
  refine lv_aload_n hx hb dL_law_707 rfl (lv_at hl 2 rfl) ?_
  refine z_finl (w' := fun (_ : Unit) => [(am 0, .inr (9, mf0 am)), (am 25, .inl (cI, 5, .inl (fun _ => 0))), (am 33, .inl (cJ, 72, .inr (.inl (fun _ => 0)))), (am 34, .inl (cJ, 72, .inr (.inl (fun _ => 0)))), (am 35, .inl (cJ, 72, .inr (.inl (fun _ => 0))))]) (va_runV (As := []) (rest := []) ⟨hx, hb, hml, hown, hts⟩ (c_X8_many_61 l dC dI cB cI cJ cZ cP cQ ad H.size) (cwV 0 hts gT_X8_many rfl rfl rfl (by decide +kernel) ⟨Nat.le_of_ble_eq_true rfl, Nat.le_of_ble_eq_true rfl⟩) (z_pV (ci := 8) hK hP hD (zX_sub hX (by decide +kernel) (by decide +kernel)) [0, 23, 39, 40, 41, 42] (by decide) rfl rfl 0 rfl) rfl rfl hl.1 rfl (lv_room (Nat.le_of_ble_eq_true rfl)) dL_law_708 ⟨Nat.le_of_ble_eq_true rfl, Nat.le_of_ble_eq_true rfl⟩) hP hD hS hA [0, 23, 39, 40, 41, 42] [53, 78, 86, 87, 88] [0, 1, 2, 3, 4] rfl rfl (by decide) (by decide) (fun _ => rfl) (by decide) (fun r1 u2 H locs hp3 hP hD hS => ?_)
  have hP : va_P (dC, dI) vwCl [(am 0, .inr (9, mf0 am)), (am 25, .inl (cI, 5, .inl (fun _ => 0))), (am 33, .inl (cJ, 72, .inr (.inl (fun _ => 0)))), (am 34, .inl (cJ, 72, .inr (.inl (fun _ => 0)))), (am 35, .inl (cJ, 72, .inr (.inl (fun _ => 0))))] H := hP
  have hD : va_D (fun q : Nat => s.heap.size ≤ q) [(am 0, .inr (9, mf0 am)), (am 25, .inl (cI, 5, .inl (fun _ => 0))), (am 33, .inl (cJ, 72, .inr (.inl (fun _ => 0)))), (am 34, .inl (cJ, 72, .inr (.inl (fun _ => 0)))), (am 35, .inl (cJ, 72, .inr (.inl (fun _ => 0))))] := hD
  refine W.widen (k := 90) (n := 14039) (by decide) (by decide) ?_
  refine lv_aload_n hx hb dL_law_711 rfl (lv_at hl 1 rfl) ?_
  refine z_finl (w' := fun (_ : Unit) => []) (va_runV (As := []) (rest := [.long r1]) ⟨hx, hb, hml, hown, hts⟩ (c_X9_many_200 l dC dI cB cI cJ cZ cP cQ am H.size) (cwV 0 hts gT_X9_many rfl rfl rfl (by decide +kernel) ⟨Nat.le_of_ble_eq_true rfl, Nat.le_of_ble_eq_true rfl⟩) (z_pV (ci := 9) hK hP hD zX_nil [0, 1, 2, 3, 4] (by decide) rfl rfl 0 rfl) rfl rfl hl.1 rfl (lv_room (Nat.le_of_ble_eq_true rfl)) dL_law_712 ⟨Nat.le_of_ble_eq_true rfl, Nat.le_of_ble_eq_true rfl⟩) hP hD hS hA [0, 1, 2, 3, 4] [] [] rfl rfl (by decide) (by decide) (fun _ => rfl) (by decide) (fun r4 u5 H locs hp6 hP hD hS => ?_)
  have hP : va_P (dC, dI) vwCl [] H := hP
  have hD : va_D (fun q : Nat => s.heap.size ≤ q) [] := hD
  refine W.widen (k := 90) (n := 14039) (by decide) (by decide) ?_
  have heq : r1 = r4 := by
    obtain rfl : r1 = (-2000000000) := hp3 <;> (obtain rfl : r4 = (-2000000000) := hp6 <;> first | rfl | (exfalso; omega))
  refine W.lcmp hx hb dL_law_715 ?_
  refine z_topi (y := 0) (by rw [heq]; exact z_cmp0) ?_
  refine lv_if_eq (tgt := 1625) hx hb dL_law_716 (by decide) (fun _ => ?_) (fun c => absurd (by decide) c)
  exact law_tail C0 hS (by decide) (by decide) (lv_sub hl [0, 1, 2, 3] rfl)
set_option maxHeartbeats 4000000 in
set_option maxRecDepth 100000 in
theorem law_case16 {p : Program} {e : Env} {s : State} {m : MethodId} {below : List Frame} {meth : Method} {c : Code} {b : Nat} {xs : Nat → Int32} (l : Launch) (dC : Nat → ClassId) (dI : Nat → Nat → Nat) (cB cI cJ cZ cP cQ : ClassId) (ad am : Nat → Nat) (C0 : lw_At p s m meth c b 6 xs) (H : Heap) (locs : List Loc) (hK : va_K (dC, dI) vwCl (zT cB cI cJ cZ cP cQ) s) (hP : va_P (dC, dI) vwCl (zxw cB cI cJ cZ cP cQ ad ++ zmw cB cI cJ cZ cP cQ am) H) (hD : va_D (fun q : Nat => s.heap.size ≤ q) (zxw cB cI cJ cZ cP cQ ad ++ zmw cB cI cJ cZ cP cQ am)) (hS : va_S (fun q : Nat => s.heap.size ≤ q) s.heap H locs) (hX : zX [(RX1, 44, yX8_thousandths, "MonthPush"), (RX2, 18, yX5_init, "MonthPush"), (RX8, 380, yX2_init, "MonthPush")] [] s) (ls : Array Slot) (hl : lv_has ls 4 [(3, .int 0), (2, .ref (am 0)), (1, .ref (ad 0)), (0, .ref b)]) : W p l e room_1 s m #[Value.ref b] below meth c H locs 90 14039 (lw_Z below #[Value.ref b] s) (F0 m 721 ls []) := by
  obtain ⟨hx, hb, hr, hml, hown, hts, hXs, hbl, hlocks, hgv⟩ := id C0
  have hown : s.vm.findClass RL = some m.cls := hown
  have hA : ∀ q : Nat, s.heap.size ≤ q → (fun q : Nat => s.heap.size ≤ q) q := fun _ h => h
  have hbA : ¬ (fun q : Nat => s.heap.size ≤ q) b := Nat.not_le.mpr hbl
  refine lv_aload_n hx hb dL_law_721 rfl (lv_at hl 2 rfl) ?_
  refine z_fini (w' := fun (_ : Unit) => [(am 0, .inr (9, mf0 am)), (am 25, .inl (cI, 5, .inl (fun _ => 0))), (am 33, .inl (cJ, 72, .inr (.inl (fun _ => 0)))), (am 34, .inl (cJ, 72, .inr (.inl (fun _ => 0)))), (am 35, .inl (cJ, 72, .inr (.inl (fun _ => 0))))]) (va_runV (As := []) (rest := []) ⟨hx, hb, hml, hown, hts⟩ (c_X8_groups_63 l dC dI cB cI cJ cZ cP cQ ad H.size) (cwV 0 hts gT_X8_groups rfl rfl rfl (by decide +kernel) ⟨Nat.le_of_ble_eq_true rfl, Nat.le_of_ble_eq_true rfl⟩) (z_pV (ci := 8) hK hP hD zX_nil [0, 23, 39, 40, 41, 42] (by decide) rfl rfl 0 rfl) rfl rfl hl.1 rfl (lv_room (Nat.le_of_ble_eq_true rfl)) dL_law_722 ⟨Nat.le_of_ble_eq_true rfl, Nat.le_of_ble_eq_true rfl⟩) hP hD hS hA [0, 23, 39, 40, 41, 42] [53, 78, 86, 87, 88] [0, 1, 2, 3, 4] rfl rfl (by decide) (by decide) (fun _ => rfl) (by decide) (fun r1 u2 H locs hp3 hP hD hS => ?_)
  have hP : va_P (dC, dI) vwCl [(am 0, .inr (9, mf0 am)), (am 25, .inl (cI, 5, .inl (fun _ => 0))), (am 33, .inl (cJ, 72, .inr (.inl (fun _ => 0)))), (am 34, .inl (cJ, 72, .inr (.inl (fun _ => 0)))), (am 35, .inl (cJ, 72, .inr (.inl (fun _ => 0))))] H := hP
  have hD : va_D (fun q : Nat => s.heap.size ≤ q) [(am 0, .inr (9, mf0 am)), (am 25, .inl (cI, 5, .inl (fun _ => 0))), (am 33, .inl (cJ, 72, .inr (.inl (fun _ => 0)))), (am 34, .inl (cJ, 72, .inr (.inl (fun _ => 0)))), (am 35, .inl (cJ, 72, .inr (.inl (fun _ => 0))))] := hD
  refine W.widen (k := 90) (n := 14039) (by decide) (by decide) ?_
  refine lv_aload_n hx hb dL_law_725 rfl (lv_at hl 1 rfl) ?_
  refine z_fini (w' := fun (_ : Unit) => []) (va_runV (As := []) (rest := [.int r1]) ⟨hx, hb, hml, hown, hts⟩ (c_X9_groups_201 l dC dI cB cI cJ cZ cP cQ am H.size) (cwV 0 hts gT_X9_groups rfl rfl rfl (by decide +kernel) ⟨Nat.le_of_ble_eq_true rfl, Nat.le_of_ble_eq_true rfl⟩) (z_pV (ci := 9) hK hP hD zX_nil [0, 1, 2, 3, 4] (by decide) rfl rfl 0 rfl) rfl rfl hl.1 rfl (lv_room (Nat.le_of_ble_eq_true rfl)) dL_law_726 ⟨Nat.le_of_ble_eq_true rfl, Nat.le_of_ble_eq_true rfl⟩) hP hD hS hA [0, 1, 2, 3, 4] [] [] rfl rfl (by decide) (by decide) (fun _ => rfl) (by decide) (fun r4 u5 H locs hp6 hP hD hS => ?_)
  have hP : va_P (dC, dI) vwCl [] H := hP
  have hD : va_D (fun q : Nat => s.heap.size ≤ q) [] := hD
  refine W.widen (k := 90) (n := 14039) (by decide) (by decide) ?_
  have heq : r1 = r4 := by
    obtain rfl : r1 = 0 := hp3 <;> (obtain rfl : r4 = 0 := hp6 <;> first | rfl | (exfalso; omega))
  refine lv_icmp_eq (tgt := 1625) hx hb dL_law_729 (by decide) (fun _ => ?_) (fun c => absurd heq c)
  exact law_tail C0 hS (by decide) (by decide) (lv_sub hl [0, 1, 2, 3] rfl)
set_option maxHeartbeats 4000000 in
set_option maxRecDepth 100000 in
theorem law_case17 {p : Program} {e : Env} {s : State} {m : MethodId} {below : List Frame} {meth : Method} {c : Code} {b : Nat} {xs : Nat → Int32} (l : Launch) (dC : Nat → ClassId) (dI : Nat → Nat → Nat) (cB cI cJ cZ cP cQ : ClassId) (ad am : Nat → Nat) (C0 : lw_At p s m meth c b 6 xs) (H : Heap) (locs : List Loc) (hK : va_K (dC, dI) vwCl (zT cB cI cJ cZ cP cQ) s) (hP : va_P (dC, dI) vwCl (zxw cB cI cJ cZ cP cQ ad ++ zmw cB cI cJ cZ cP cQ am) H) (hD : va_D (fun q : Nat => s.heap.size ≤ q) (zxw cB cI cJ cZ cP cQ ad ++ zmw cB cI cJ cZ cP cQ am)) (hS : va_S (fun q : Nat => s.heap.size ≤ q) s.heap H locs) (hX : zX [(RX1, 44, yX8_thousandths, "MonthPush"), (RX2, 18, yX5_init, "MonthPush"), (RX8, 380, yX2_init, "MonthPush")] [] s) (ls : Array Slot) (hl : lv_has ls 4 [(3, .int 0), (2, .ref (am 0)), (1, .ref (ad 0)), (0, .ref b)]) : W p l e room_1 s m #[Value.ref b] below meth c H locs 90 14039 (lw_Z below #[Value.ref b] s) (F0 m 734 ls []) := by
  obtain ⟨hx, hb, hr, hml, hown, hts, hXs, hbl, hlocks, hgv⟩ := id C0
  have hown : s.vm.findClass RL = some m.cls := hown
  have hA : ∀ q : Nat, s.heap.size ≤ q → (fun q : Nat => s.heap.size ≤ q) q := fun _ h => h
  have hbA : ¬ (fun q : Nat => s.heap.size ≤ q) b := Nat.not_le.mpr hbl
  refine lv_aload_n hx hb dL_law_734 rfl (lv_at hl 2 rfl) ?_
  refine lv_aload_n hx hb dL_law_735 rfl (lv_at hl 3 rfl) ?_
  refine lv_iload_n hx hb dL_law_736 rfl (lv_at hl 0 rfl) ?_
  refine lv_iconst (v := 1) hx hb dL_law_737 (by decide) ?_
  refine lv_iadd hx hb dL_law_738 ?_
  refine z_topi (y := 1) (by decide +kernel) ?_
  refine va_sld hx hb hXs hbl hbA hS (z_in (a := 1) (by decide) (by decide) (by decide)) dL_law_739 ?_
  refine z_topi (y := xs 1) rfl ?_
  refine z_finl (w' := fun (_ : Unit) => [(am 0, .inr (9, mf0 am)), (am 25, .inl (cI, 5, .inl (fun _ => 0)))]) (va_runV (As := [.int (xs 1)]) (rest := []) ⟨hx, hb, hml, hown, hts⟩ (c_X8_moves_65 l dC dI cB cI cJ cZ cP cQ ad H.size (xs 1)) (cwV 1 hts gT_X8_moves rfl rfl rfl (by decide +kernel) ⟨Nat.le_of_ble_eq_true rfl, Nat.le_of_ble_eq_true rfl⟩) (z_pV (ci := 8) hK hP hD zX_nil [0, 23, 38] (by decide) rfl rfl 0 rfl) rfl rfl hl.1 rfl (lv_room (Nat.le_of_ble_eq_true rfl)) dL_law_740 ⟨Nat.le_of_ble_eq_true rfl, Nat.le_of_ble_eq_true rfl⟩) hP hD hS hA [0, 23, 38] [53, 78] [0, 1] rfl rfl (by decide) (by decide) (fun _ => rfl) (by decide) (fun r1 u2 H locs hp3 hP hD hS => ?_)
  have hP : va_P (dC, dI) vwCl [(am 0, .inr (9, mf0 am)), (am 25, .inl (cI, 5, .inl (fun _ => 0)))] H := hP
  have hD : va_D (fun q : Nat => s.heap.size ≤ q) [(am 0, .inr (9, mf0 am)), (am 25, .inl (cI, 5, .inl (fun _ => 0)))] := hD
  refine W.widen (k := 90) (n := 14039) (by decide) (by decide) ?_
  refine lv_aload_n hx hb dL_law_743 rfl (lv_at hl 1 rfl) ?_
  refine lv_aload_n hx hb dL_law_744 rfl (lv_at hl 3 rfl) ?_
  refine lv_iload_n hx hb dL_law_745 rfl (lv_at hl 0 rfl) ?_
  refine lv_iconst (v := 1) hx hb dL_law_746 (by decide) ?_
  refine lv_iadd hx hb dL_law_747 ?_
  refine z_topi (y := 1) (by decide +kernel) ?_
  refine va_sld hx hb hXs hbl hbA hS (z_in (a := 1) (by decide) (by decide) (by decide)) dL_law_748 ?_
  refine z_topi (y := xs 1) rfl ?_
  refine z_finl (w' := fun (_ : Unit) => []) (va_runV (As := [.int (xs 1)]) (rest := [.long r1]) ⟨hx, hb, hml, hown, hts⟩ (c_X9_moves_202 l dC dI cB cI cJ cZ cP cQ am H.size (xs 1)) (cwV 1 hts gT_X9_moves rfl rfl rfl (by decide +kernel) ⟨Nat.le_of_ble_eq_true rfl, Nat.le_of_ble_eq_true rfl⟩) (z_pV (ci := 9) hK hP hD zX_nil [0, 1] (by decide) rfl rfl 0 rfl) rfl rfl hl.1 rfl (lv_room (Nat.le_of_ble_eq_true rfl)) dL_law_749 ⟨Nat.le_of_ble_eq_true rfl, Nat.le_of_ble_eq_true rfl⟩) hP hD hS hA [0, 1] [] [] rfl rfl (by decide) (by decide) (fun _ => rfl) (by decide) (fun r4 u5 H locs hp6 hP hD hS => ?_)
  have hP : va_P (dC, dI) vwCl [] H := hP
  have hD : va_D (fun q : Nat => s.heap.size ≤ q) [] := hD
  refine W.widen (k := 90) (n := 14039) (by decide) (by decide) ?_
  have heq : r1 = r4 := by
    rcases hp3 with ⟨rfl, a0⟩ | ⟨rfl, a0, a1⟩ | ⟨rfl, a0, a1⟩ <;> (rcases hp6 with ⟨rfl, b0⟩ | ⟨rfl, b0, b1⟩ | ⟨rfl, b0, b1⟩ <;> first | rfl | (exfalso; omega))
  refine W.lcmp hx hb dL_law_752 ?_
  refine z_topi (y := 0) (by rw [heq]; exact z_cmp0) ?_
  refine lv_if_eq (tgt := 1625) hx hb dL_law_753 (by decide) (fun _ => ?_) (fun c => absurd (by decide) c)
  exact law_tail C0 hS (by decide) (by decide) (lv_sub hl [0, 1, 2, 3] rfl)
set_option maxHeartbeats 4000000 in
set_option maxRecDepth 100000 in
theorem law_case18 {p : Program} {e : Env} {s : State} {m : MethodId} {below : List Frame} {meth : Method} {c : Code} {b : Nat} {xs : Nat → Int32} (l : Launch) (dC : Nat → ClassId) (dI : Nat → Nat → Nat) (cB cI cJ cZ cP cQ : ClassId) (ad am : Nat → Nat) (C0 : lw_At p s m meth c b 6 xs) (H : Heap) (locs : List Loc) (hK : va_K (dC, dI) vwCl (zT cB cI cJ cZ cP cQ) s) (hP : va_P (dC, dI) vwCl (zxw cB cI cJ cZ cP cQ ad ++ zmw cB cI cJ cZ cP cQ am) H) (hD : va_D (fun q : Nat => s.heap.size ≤ q) (zxw cB cI cJ cZ cP cQ ad ++ zmw cB cI cJ cZ cP cQ am)) (hS : va_S (fun q : Nat => s.heap.size ≤ q) s.heap H locs) (hX : zX [(RX1, 44, yX8_thousandths, "MonthPush"), (RX2, 18, yX5_init, "MonthPush"), (RX8, 380, yX2_init, "MonthPush")] [] s) (ls : Array Slot) (hl : lv_has ls 4 [(3, .int 0), (2, .ref (am 0)), (1, .ref (ad 0)), (0, .ref b)]) : W p l e room_1 s m #[Value.ref b] below meth c H locs 90 14039 (lw_Z below #[Value.ref b] s) (F0 m 758 ls []) := by
  obtain ⟨hx, hb, hr, hml, hown, hts, hXs, hbl, hlocks, hgv⟩ := id C0
  have hown : s.vm.findClass RL = some m.cls := hown
  have hA : ∀ q : Nat, s.heap.size ≤ q → (fun q : Nat => s.heap.size ≤ q) q := fun _ h => h
  have hbA : ¬ (fun q : Nat => s.heap.size ≤ q) b := Nat.not_le.mpr hbl
  refine lv_aload_n hx hb dL_law_758 rfl (lv_at hl 2 rfl) ?_
  refine lv_aload_n hx hb dL_law_759 rfl (lv_at hl 3 rfl) ?_
  refine lv_iload_n hx hb dL_law_760 rfl (lv_at hl 0 rfl) ?_
  refine lv_iconst (v := 1) hx hb dL_law_761 (by decide) ?_
  refine lv_iadd hx hb dL_law_762 ?_
  refine z_topi (y := 1) (by decide +kernel) ?_
  refine va_sld hx hb hXs hbl hbA hS (z_in (a := 1) (by decide) (by decide) (by decide)) dL_law_763 ?_
  refine z_topi (y := xs 1) rfl ?_
  refine z_finl (w' := fun (_ : Unit) => [(am 0, .inr (9, mf0 am)), (am 25, .inl (cI, 5, .inl (fun _ => 0)))]) (va_runV (As := [.int (xs 1)]) (rest := []) ⟨hx, hb, hml, hown, hts⟩ (c_X8_strong_68 l dC dI cB cI cJ cZ cP cQ ad H.size (xs 1)) (cwV 1 hts gT_X8_strong rfl rfl rfl (by decide +kernel) ⟨Nat.le_of_ble_eq_true rfl, Nat.le_of_ble_eq_true rfl⟩) (z_pV (ci := 8) hK hP hD zX_nil [0, 23, 38] (by decide) rfl rfl 0 rfl) rfl rfl hl.1 rfl (lv_room (Nat.le_of_ble_eq_true rfl)) dL_law_764 ⟨Nat.le_of_ble_eq_true rfl, Nat.le_of_ble_eq_true rfl⟩) hP hD hS hA [0, 23, 38] [53, 78] [0, 1] rfl rfl (by decide) (by decide) (fun _ => rfl) (by decide) (fun r1 u2 H locs hp3 hP hD hS => ?_)
  have hP : va_P (dC, dI) vwCl [(am 0, .inr (9, mf0 am)), (am 25, .inl (cI, 5, .inl (fun _ => 0)))] H := hP
  have hD : va_D (fun q : Nat => s.heap.size ≤ q) [(am 0, .inr (9, mf0 am)), (am 25, .inl (cI, 5, .inl (fun _ => 0)))] := hD
  refine W.widen (k := 90) (n := 14039) (by decide) (by decide) ?_
  refine lv_aload_n hx hb dL_law_767 rfl (lv_at hl 1 rfl) ?_
  refine lv_aload_n hx hb dL_law_768 rfl (lv_at hl 3 rfl) ?_
  refine lv_iload_n hx hb dL_law_769 rfl (lv_at hl 0 rfl) ?_
  refine lv_iconst (v := 1) hx hb dL_law_770 (by decide) ?_
  refine lv_iadd hx hb dL_law_771 ?_
  refine z_topi (y := 1) (by decide +kernel) ?_
  refine va_sld hx hb hXs hbl hbA hS (z_in (a := 1) (by decide) (by decide) (by decide)) dL_law_772 ?_
  refine z_topi (y := xs 1) rfl ?_
  refine z_finl (w' := fun (_ : Unit) => []) (va_runV (As := [.int (xs 1)]) (rest := [.long r1]) ⟨hx, hb, hml, hown, hts⟩ (c_X9_strong_208 l dC dI cB cI cJ cZ cP cQ am H.size (xs 1)) (cwV 1 hts gT_X9_strong rfl rfl rfl (by decide +kernel) ⟨Nat.le_of_ble_eq_true rfl, Nat.le_of_ble_eq_true rfl⟩) (z_pV (ci := 9) hK hP hD zX_nil [0, 1] (by decide) rfl rfl 0 rfl) rfl rfl hl.1 rfl (lv_room (Nat.le_of_ble_eq_true rfl)) dL_law_773 ⟨Nat.le_of_ble_eq_true rfl, Nat.le_of_ble_eq_true rfl⟩) hP hD hS hA [0, 1] [] [] rfl rfl (by decide) (by decide) (fun _ => rfl) (by decide) (fun r4 u5 H locs hp6 hP hD hS => ?_)
  have hP : va_P (dC, dI) vwCl [] H := hP
  have hD : va_D (fun q : Nat => s.heap.size ≤ q) [] := hD
  refine W.widen (k := 90) (n := 14039) (by decide) (by decide) ?_
  have heq : r1 = r4 := by
    rcases hp3 with ⟨rfl, a0⟩ | ⟨rfl, a0, a1⟩ | ⟨rfl, a0, a1⟩ <;> (rcases hp6 with ⟨rfl, b0⟩ | ⟨rfl, b0, b1⟩ | ⟨rfl, b0, b1⟩ <;> first | rfl | (exfalso; omega))
  refine W.lcmp hx hb dL_law_776 ?_
  refine z_topi (y := 0) (by rw [heq]; exact z_cmp0) ?_
  refine lv_if_eq (tgt := 1625) hx hb dL_law_777 (by decide) (fun _ => ?_) (fun c => absurd (by decide) c)
  exact law_tail C0 hS (by decide) (by decide) (lv_sub hl [0, 1, 2, 3] rfl)
set_option maxHeartbeats 4000000 in
set_option maxRecDepth 100000 in
theorem law_case19 {p : Program} {e : Env} {s : State} {m : MethodId} {below : List Frame} {meth : Method} {c : Code} {b : Nat} {xs : Nat → Int32} (l : Launch) (dC : Nat → ClassId) (dI : Nat → Nat → Nat) (cB cI cJ cZ cP cQ : ClassId) (ad am : Nat → Nat) (C0 : lw_At p s m meth c b 6 xs) (H : Heap) (locs : List Loc) (hK : va_K (dC, dI) vwCl (zT cB cI cJ cZ cP cQ) s) (hP : va_P (dC, dI) vwCl (zxw cB cI cJ cZ cP cQ ad ++ zmw cB cI cJ cZ cP cQ am) H) (hD : va_D (fun q : Nat => s.heap.size ≤ q) (zxw cB cI cJ cZ cP cQ ad ++ zmw cB cI cJ cZ cP cQ am)) (hS : va_S (fun q : Nat => s.heap.size ≤ q) s.heap H locs) (hX : zX [(RX1, 44, yX8_thousandths, "MonthPush"), (RX2, 18, yX5_init, "MonthPush"), (RX8, 380, yX2_init, "MonthPush")] [] s) (ls : Array Slot) (hl : lv_has ls 4 [(3, .int 0), (2, .ref (am 0)), (1, .ref (ad 0)), (0, .ref b)]) : W p l e room_1 s m #[Value.ref b] below meth c H locs 90 14039 (lw_Z below #[Value.ref b] s) (F0 m 782 ls []) := by
  obtain ⟨hx, hb, hr, hml, hown, hts, hXs, hbl, hlocks, hgv⟩ := id C0
  have hown : s.vm.findClass RL = some m.cls := hown
  have hA : ∀ q : Nat, s.heap.size ≤ q → (fun q : Nat => s.heap.size ≤ q) q := fun _ h => h
  have hbA : ¬ (fun q : Nat => s.heap.size ≤ q) b := Nat.not_le.mpr hbl
  refine lv_aload_n hx hb dL_law_782 rfl (lv_at hl 2 rfl) ?_
  refine z_fini (w' := fun (_ : Unit) => [(am 0, .inr (9, mf0 am)), (am 25, .inl (cI, 5, .inl (fun _ => 0)))]) (va_runV (As := []) (rest := []) ⟨hx, hb, hml, hown, hts⟩ (c_X8_strongest_69 l dC dI cB cI cJ cZ cP cQ ad H.size) (cwV 0 hts gT_X8_strongest rfl rfl rfl (by decide +kernel) ⟨Nat.le_of_ble_eq_true rfl, Nat.le_of_ble_eq_true rfl⟩) (z_pV (ci := 8) hK hP hD zX_nil [0, 23, 38] (by decide) rfl rfl 0 rfl) rfl rfl hl.1 rfl (lv_room (Nat.le_of_ble_eq_true rfl)) dL_law_783 ⟨Nat.le_of_ble_eq_true rfl, Nat.le_of_ble_eq_true rfl⟩) hP hD hS hA [0, 23, 38] [53, 78] [0, 1] rfl rfl (by decide) (by decide) (fun _ => rfl) (by decide) (fun r1 u2 H locs hp3 hP hD hS => ?_)
  have hP : va_P (dC, dI) vwCl [(am 0, .inr (9, mf0 am)), (am 25, .inl (cI, 5, .inl (fun _ => 0)))] H := hP
  have hD : va_D (fun q : Nat => s.heap.size ≤ q) [(am 0, .inr (9, mf0 am)), (am 25, .inl (cI, 5, .inl (fun _ => 0)))] := hD
  refine W.widen (k := 90) (n := 14039) (by decide) (by decide) ?_
  refine lv_aload_n hx hb dL_law_786 rfl (lv_at hl 1 rfl) ?_
  refine z_fini (w' := fun (_ : Unit) => []) (va_runV (As := []) (rest := [.int r1]) ⟨hx, hb, hml, hown, hts⟩ (c_X9_strongest_209 l dC dI cB cI cJ cZ cP cQ am H.size) (cwV 0 hts gT_X9_strongest rfl rfl rfl (by decide +kernel) ⟨Nat.le_of_ble_eq_true rfl, Nat.le_of_ble_eq_true rfl⟩) (z_pV (ci := 9) hK hP hD zX_nil [0, 1] (by decide) rfl rfl 0 rfl) rfl rfl hl.1 rfl (lv_room (Nat.le_of_ble_eq_true rfl)) dL_law_787 ⟨Nat.le_of_ble_eq_true rfl, Nat.le_of_ble_eq_true rfl⟩) hP hD hS hA [0, 1] [] [] rfl rfl (by decide) (by decide) (fun _ => rfl) (by decide) (fun r4 u5 H locs hp6 hP hD hS => ?_)
  have hP : va_P (dC, dI) vwCl [] H := hP
  have hD : va_D (fun q : Nat => s.heap.size ≤ q) [] := hD
  refine W.widen (k := 90) (n := 14039) (by decide) (by decide) ?_
  have heq : r1 = r4 := by
    obtain rfl : r1 = (-1) := hp3 <;> (obtain rfl : r4 = (-1) := hp6 <;> first | rfl | (exfalso; omega))
  refine lv_icmp_eq (tgt := 1625) hx hb dL_law_790 (by decide) (fun _ => ?_) (fun c => absurd heq c)
  exact law_tail C0 hS (by decide) (by decide) (lv_sub hl [0, 1, 2, 3] rfl)
set_option maxHeartbeats 4000000 in
set_option maxRecDepth 100000 in
theorem law_case20 {p : Program} {e : Env} {s : State} {m : MethodId} {below : List Frame} {meth : Method} {c : Code} {b : Nat} {xs : Nat → Int32} (l : Launch) (dC : Nat → ClassId) (dI : Nat → Nat → Nat) (cB cI cJ cZ cP cQ : ClassId) (ad am : Nat → Nat) (C0 : lw_At p s m meth c b 6 xs) (H : Heap) (locs : List Loc) (hK : va_K (dC, dI) vwCl (zT cB cI cJ cZ cP cQ) s) (hP : va_P (dC, dI) vwCl (zxw cB cI cJ cZ cP cQ ad ++ zmw cB cI cJ cZ cP cQ am) H) (hD : va_D (fun q : Nat => s.heap.size ≤ q) (zxw cB cI cJ cZ cP cQ ad ++ zmw cB cI cJ cZ cP cQ am)) (hS : va_S (fun q : Nat => s.heap.size ≤ q) s.heap H locs) (hX : zX [(RX1, 44, yX8_thousandths, "MonthPush"), (RX2, 18, yX5_init, "MonthPush"), (RX8, 380, yX2_init, "MonthPush")] [] s) (ls : Array Slot) (hl : lv_has ls 4 [(3, .int 0), (2, .ref (am 0)), (1, .ref (ad 0)), (0, .ref b)]) : W p l e room_1 s m #[Value.ref b] below meth c H locs 90 14039 (lw_Z below #[Value.ref b] s) (F0 m 795 ls []) := by
  obtain ⟨hx, hb, hr, hml, hown, hts, hXs, hbl, hlocks, hgv⟩ := id C0
  have hown : s.vm.findClass RL = some m.cls := hown
  have hA : ∀ q : Nat, s.heap.size ≤ q → (fun q : Nat => s.heap.size ≤ q) q := fun _ h => h
  have hbA : ¬ (fun q : Nat => s.heap.size ≤ q) b := Nat.not_le.mpr hbl
  refine lv_aload_n hx hb dL_law_795 rfl (lv_at hl 2 rfl) ?_
  refine lv_aload_n hx hb dL_law_796 rfl (lv_at hl 3 rfl) ?_
  refine lv_iload_n hx hb dL_law_797 rfl (lv_at hl 0 rfl) ?_
  refine lv_iconst (v := 1) hx hb dL_law_798 (by decide) ?_
  refine lv_iadd hx hb dL_law_799 ?_
  refine z_topi (y := 1) (by decide +kernel) ?_
  refine va_sld hx hb hXs hbl hbA hS (z_in (a := 1) (by decide) (by decide) (by decide)) dL_law_800 ?_
  refine z_topi (y := xs 1) rfl ?_
  refine lv_aload_n hx hb dL_law_801 rfl (lv_at hl 3 rfl) ?_
  refine lv_iload_n hx hb dL_law_802 rfl (lv_at hl 0 rfl) ?_
  refine lv_iconst (v := 2) hx hb dL_law_803 (by decide) ?_
  refine lv_iadd hx hb dL_law_804 ?_
  refine z_topi (y := 2) (by decide +kernel) ?_
  refine va_sld hx hb hXs hbl hbA hS (z_in (a := 2) (by decide) (by decide) (by decide)) dL_law_805 ?_
  refine z_topi (y := xs 2) rfl ?_
  refine lv_aload_n hx hb dL_law_806 rfl (lv_at hl 3 rfl) ?_
  refine lv_iload_n hx hb dL_law_807 rfl (lv_at hl 0 rfl) ?_
  refine lv_iconst (v := 3) hx hb dL_law_808 (by decide) ?_
  refine lv_iadd hx hb dL_law_809 ?_
  refine z_topi (y := 3) (by decide +kernel) ?_
  refine va_sld hx hb hXs hbl hbA hS (z_in (a := 3) (by decide) (by decide) (by decide)) dL_law_810 ?_
  refine z_topi (y := xs 3) rfl ?_
  refine z_fini (w' := fun (_ : Unit) => [(am 0, .inr (9, mf0 am)), (am 25, .inl (cI, 5, .inl (fun _ => 0)))]) (va_runV (As := [.int (xs 1), .int (xs 2), .int (xs 3)]) (rest := []) ⟨hx, hb, hml, hown, hts⟩ (c_X8_span_71 l dC dI cB cI cJ cZ cP cQ ad H.size (xs 1) (xs 2) (xs 3)) (cwV 3 hts gT_X8_span rfl rfl rfl (by decide +kernel) ⟨Nat.le_of_ble_eq_true rfl, Nat.le_of_ble_eq_true rfl⟩) (z_pV (ci := 8) hK hP hD zX_nil [0, 23, 38] (by decide) rfl rfl 0 rfl) rfl rfl hl.1 rfl (lv_room (Nat.le_of_ble_eq_true rfl)) dL_law_811 ⟨Nat.le_of_ble_eq_true rfl, Nat.le_of_ble_eq_true rfl⟩) hP hD hS hA [0, 23, 38] [53, 78] [0, 1] rfl rfl (by decide) (by decide) (fun _ => rfl) (by decide) (fun r1 u2 H locs hp3 hP hD hS => ?_)
  have hP : va_P (dC, dI) vwCl [(am 0, .inr (9, mf0 am)), (am 25, .inl (cI, 5, .inl (fun _ => 0)))] H := hP
  have hD : va_D (fun q : Nat => s.heap.size ≤ q) [(am 0, .inr (9, mf0 am)), (am 25, .inl (cI, 5, .inl (fun _ => 0)))] := hD
  refine W.widen (k := 90) (n := 14039) (by decide) (by decide) ?_
  refine lv_aload_n hx hb dL_law_814 rfl (lv_at hl 1 rfl) ?_
  refine lv_aload_n hx hb dL_law_815 rfl (lv_at hl 3 rfl) ?_
  refine lv_iload_n hx hb dL_law_816 rfl (lv_at hl 0 rfl) ?_
  refine lv_iconst (v := 1) hx hb dL_law_817 (by decide) ?_
  refine lv_iadd hx hb dL_law_818 ?_
  refine z_topi (y := 1) (by decide +kernel) ?_
  refine va_sld hx hb hXs hbl hbA hS (z_in (a := 1) (by decide) (by decide) (by decide)) dL_law_819 ?_
  refine z_topi (y := xs 1) rfl ?_
  refine lv_aload_n hx hb dL_law_820 rfl (lv_at hl 3 rfl) ?_
  refine lv_iload_n hx hb dL_law_821 rfl (lv_at hl 0 rfl) ?_
  refine lv_iconst (v := 2) hx hb dL_law_822 (by decide) ?_
  refine lv_iadd hx hb dL_law_823 ?_
  refine z_topi (y := 2) (by decide +kernel) ?_
  refine va_sld hx hb hXs hbl hbA hS (z_in (a := 2) (by decide) (by decide) (by decide)) dL_law_824 ?_
  refine z_topi (y := xs 2) rfl ?_
  refine lv_aload_n hx hb dL_law_825 rfl (lv_at hl 3 rfl) ?_
  refine lv_iload_n hx hb dL_law_826 rfl (lv_at hl 0 rfl) ?_
  refine lv_iconst (v := 3) hx hb dL_law_827 (by decide) ?_
  refine lv_iadd hx hb dL_law_828 ?_
  refine z_topi (y := 3) (by decide +kernel) ?_
  refine va_sld hx hb hXs hbl hbA hS (z_in (a := 3) (by decide) (by decide) (by decide)) dL_law_829 ?_
  refine z_topi (y := xs 3) rfl ?_
  refine z_fini (w' := fun (_ : Unit) => []) (va_runV (As := [.int (xs 1), .int (xs 2), .int (xs 3)]) (rest := [.int r1]) ⟨hx, hb, hml, hown, hts⟩ (c_X9_span_215 l dC dI cB cI cJ cZ cP cQ am H.size (xs 1) (xs 2) (xs 3)) (cwV 3 hts gT_X9_span rfl rfl rfl (by decide +kernel) ⟨Nat.le_of_ble_eq_true rfl, Nat.le_of_ble_eq_true rfl⟩) (z_pV (ci := 9) hK hP hD zX_nil [0, 1] (by decide) rfl rfl 0 rfl) rfl rfl hl.1 rfl (lv_room (Nat.le_of_ble_eq_true rfl)) dL_law_830 ⟨Nat.le_of_ble_eq_true rfl, Nat.le_of_ble_eq_true rfl⟩) hP hD hS hA [0, 1] [] [] rfl rfl (by decide) (by decide) (fun _ => rfl) (by decide) (fun r4 u5 H locs hp6 hP hD hS => ?_)
  have hP : va_P (dC, dI) vwCl [] H := hP
  have hD : va_D (fun q : Nat => s.heap.size ≤ q) [] := hD
  refine W.widen (k := 90) (n := 14039) (by decide) (by decide) ?_
  have heq : r1 = r4 := by
    rcases hp3 with ⟨rfl, a0⟩ | ⟨rfl, a0, a1⟩ | ⟨rfl, a0, a1, a2⟩ | ⟨rfl, a0, a1, a2, a3⟩ | ⟨rfl, a0, a1, a2, a3, a4⟩ | ⟨rfl, a0, a1, a2, a3, a4, a5⟩ | ⟨rfl, a0, a1, a2, a3, a4, a5⟩ <;> (rcases hp6 with ⟨rfl, b0⟩ | ⟨rfl, b0, b1⟩ | ⟨rfl, b0, b1, b2⟩ | ⟨rfl, b0, b1, b2, b3⟩ | ⟨rfl, b0, b1, b2, b3, b4⟩ | ⟨rfl, b0, b1, b2, b3, b4, b5⟩ | ⟨rfl, b0, b1, b2, b3, b4, b5⟩ <;> first | rfl | (exfalso; omega))
  refine lv_icmp_eq (tgt := 1625) hx hb dL_law_833 (by decide) (fun _ => ?_) (fun c => absurd heq c)
  exact law_tail C0 hS (by decide) (by decide) (lv_sub hl [0, 1, 2, 3] rfl)
set_option maxHeartbeats 4000000 in
set_option maxRecDepth 100000 in
theorem law_case21 {p : Program} {e : Env} {s : State} {m : MethodId} {below : List Frame} {meth : Method} {c : Code} {b : Nat} {xs : Nat → Int32} (l : Launch) (dC : Nat → ClassId) (dI : Nat → Nat → Nat) (cB cI cJ cZ cP cQ : ClassId) (ad am : Nat → Nat) (C0 : lw_At p s m meth c b 6 xs) (H : Heap) (locs : List Loc) (hK : va_K (dC, dI) vwCl (zT cB cI cJ cZ cP cQ) s) (hP : va_P (dC, dI) vwCl (zxw cB cI cJ cZ cP cQ ad ++ zmw cB cI cJ cZ cP cQ am) H) (hD : va_D (fun q : Nat => s.heap.size ≤ q) (zxw cB cI cJ cZ cP cQ ad ++ zmw cB cI cJ cZ cP cQ am)) (hS : va_S (fun q : Nat => s.heap.size ≤ q) s.heap H locs) (hX : zX [(RX1, 44, yX8_thousandths, "MonthPush"), (RX2, 18, yX5_init, "MonthPush"), (RX8, 380, yX2_init, "MonthPush")] [] s) (ls : Array Slot) (hl : lv_has ls 4 [(3, .int 0), (2, .ref (am 0)), (1, .ref (ad 0)), (0, .ref b)]) : W p l e room_1 s m #[Value.ref b] below meth c H locs 90 14039 (lw_Z below #[Value.ref b] s) (F0 m 838 ls []) := by
  obtain ⟨hx, hb, hr, hml, hown, hts, hXs, hbl, hlocks, hgv⟩ := id C0
  have hown : s.vm.findClass RL = some m.cls := hown
  have hA : ∀ q : Nat, s.heap.size ≤ q → (fun q : Nat => s.heap.size ≤ q) q := fun _ h => h
  have hbA : ¬ (fun q : Nat => s.heap.size ≤ q) b := Nat.not_le.mpr hbl
  refine lv_aload_n hx hb dL_law_838 rfl (lv_at hl 2 rfl) ?_
  refine lv_aload_n hx hb dL_law_839 rfl (lv_at hl 3 rfl) ?_
  refine lv_iload_n hx hb dL_law_840 rfl (lv_at hl 0 rfl) ?_
  refine lv_iconst (v := 1) hx hb dL_law_841 (by decide) ?_
  refine lv_iadd hx hb dL_law_842 ?_
  refine z_topi (y := 1) (by decide +kernel) ?_
  refine va_sld hx hb hXs hbl hbA hS (z_in (a := 1) (by decide) (by decide) (by decide)) dL_law_843 ?_
  refine z_topi (y := xs 1) rfl ?_
  refine lv_aload_n hx hb dL_law_844 rfl (lv_at hl 3 rfl) ?_
  refine lv_iload_n hx hb dL_law_845 rfl (lv_at hl 0 rfl) ?_
  refine lv_iconst (v := 2) hx hb dL_law_846 (by decide) ?_
  refine lv_iadd hx hb dL_law_847 ?_
  refine z_topi (y := 2) (by decide +kernel) ?_
  refine va_sld hx hb hXs hbl hbA hS (z_in (a := 2) (by decide) (by decide) (by decide)) dL_law_848 ?_
  refine z_topi (y := xs 2) rfl ?_
  refine lv_aload_n hx hb dL_law_849 rfl (lv_at hl 3 rfl) ?_
  refine lv_iload_n hx hb dL_law_850 rfl (lv_at hl 0 rfl) ?_
  refine lv_iconst (v := 3) hx hb dL_law_851 (by decide) ?_
  refine lv_iadd hx hb dL_law_852 ?_
  refine z_topi (y := 3) (by decide +kernel) ?_
  refine va_sld hx hb hXs hbl hbA hS (z_in (a := 3) (by decide) (by decide) (by decide)) dL_law_853 ?_
  refine z_topi (y := xs 3) rfl ?_
  refine z_fini (w' := fun (_ : Unit) => [(am 0, .inr (9, mf0 am)), (am 25, .inl (cI, 5, .inl (fun _ => 0)))]) (va_runV (As := [.int (xs 1), .int (xs 2), .int (xs 3)]) (rest := []) ⟨hx, hb, hml, hown, hts⟩ (c_X8_usual_73 l dC dI cB cI cJ cZ cP cQ ad H.size (xs 1) (xs 2) (xs 3)) (cwV 3 hts gT_X8_usual rfl rfl rfl (by decide +kernel) ⟨Nat.le_of_ble_eq_true rfl, Nat.le_of_ble_eq_true rfl⟩) (z_pV (ci := 8) hK hP hD zX_nil [0, 23, 38] (by decide) rfl rfl 0 rfl) rfl rfl hl.1 rfl (lv_room (Nat.le_of_ble_eq_true rfl)) dL_law_854 ⟨Nat.le_of_ble_eq_true rfl, Nat.le_of_ble_eq_true rfl⟩) hP hD hS hA [0, 23, 38] [53, 78] [0, 1] rfl rfl (by decide) (by decide) (fun _ => rfl) (by decide) (fun r1 u2 H locs hp3 hP hD hS => ?_)
  have hP : va_P (dC, dI) vwCl [(am 0, .inr (9, mf0 am)), (am 25, .inl (cI, 5, .inl (fun _ => 0)))] H := hP
  have hD : va_D (fun q : Nat => s.heap.size ≤ q) [(am 0, .inr (9, mf0 am)), (am 25, .inl (cI, 5, .inl (fun _ => 0)))] := hD
  refine W.widen (k := 90) (n := 14039) (by decide) (by decide) ?_
  refine lv_aload_n hx hb dL_law_857 rfl (lv_at hl 1 rfl) ?_
  refine lv_aload_n hx hb dL_law_858 rfl (lv_at hl 3 rfl) ?_
  refine lv_iload_n hx hb dL_law_859 rfl (lv_at hl 0 rfl) ?_
  refine lv_iconst (v := 1) hx hb dL_law_860 (by decide) ?_
  refine lv_iadd hx hb dL_law_861 ?_
  refine z_topi (y := 1) (by decide +kernel) ?_
  refine va_sld hx hb hXs hbl hbA hS (z_in (a := 1) (by decide) (by decide) (by decide)) dL_law_862 ?_
  refine z_topi (y := xs 1) rfl ?_
  refine lv_aload_n hx hb dL_law_863 rfl (lv_at hl 3 rfl) ?_
  refine lv_iload_n hx hb dL_law_864 rfl (lv_at hl 0 rfl) ?_
  refine lv_iconst (v := 2) hx hb dL_law_865 (by decide) ?_
  refine lv_iadd hx hb dL_law_866 ?_
  refine z_topi (y := 2) (by decide +kernel) ?_
  refine va_sld hx hb hXs hbl hbA hS (z_in (a := 2) (by decide) (by decide) (by decide)) dL_law_867 ?_
  refine z_topi (y := xs 2) rfl ?_
  refine lv_aload_n hx hb dL_law_868 rfl (lv_at hl 3 rfl) ?_
  refine lv_iload_n hx hb dL_law_869 rfl (lv_at hl 0 rfl) ?_
  refine lv_iconst (v := 3) hx hb dL_law_870 (by decide) ?_
  refine lv_iadd hx hb dL_law_871 ?_
  refine z_topi (y := 3) (by decide +kernel) ?_
  refine va_sld hx hb hXs hbl hbA hS (z_in (a := 3) (by decide) (by decide) (by decide)) dL_law_872 ?_
  refine z_topi (y := xs 3) rfl ?_
  refine z_fini (w' := fun (_ : Unit) => []) (va_runV (As := [.int (xs 1), .int (xs 2), .int (xs 3)]) (rest := [.int r1]) ⟨hx, hb, hml, hown, hts⟩ (c_X9_usual_217 l dC dI cB cI cJ cZ cP cQ am H.size (xs 1) (xs 2) (xs 3)) (cwV 3 hts gT_X9_usual rfl rfl rfl (by decide +kernel) ⟨Nat.le_of_ble_eq_true rfl, Nat.le_of_ble_eq_true rfl⟩) (z_pV (ci := 9) hK hP hD zX_nil [0, 1] (by decide) rfl rfl 0 rfl) rfl rfl hl.1 rfl (lv_room (Nat.le_of_ble_eq_true rfl)) dL_law_873 ⟨Nat.le_of_ble_eq_true rfl, Nat.le_of_ble_eq_true rfl⟩) hP hD hS hA [0, 1] [] [] rfl rfl (by decide) (by decide) (fun _ => rfl) (by decide) (fun r4 u5 H locs hp6 hP hD hS => ?_)
  have hP : va_P (dC, dI) vwCl [] H := hP
  have hD : va_D (fun q : Nat => s.heap.size ≤ q) [] := hD
  refine W.widen (k := 90) (n := 14039) (by decide) (by decide) ?_
  have heq : r1 = r4 := by
    rcases hp3 with ⟨rfl, a0⟩ | ⟨rfl, a0, a1⟩ | ⟨rfl, a0, a1, a2⟩ | ⟨rfl, a0, a1, a2, a3⟩ | ⟨rfl, a0, a1, a2, a3, a4⟩ | ⟨rfl, a0, a1, a2, a3, a4, a5⟩ | ⟨rfl, a0, a1, a2, a3, a4, a5⟩ <;> (rcases hp6 with ⟨rfl, b0⟩ | ⟨rfl, b0, b1⟩ | ⟨rfl, b0, b1, b2⟩ | ⟨rfl, b0, b1, b2, b3⟩ | ⟨rfl, b0, b1, b2, b3, b4⟩ | ⟨rfl, b0, b1, b2, b3, b4, b5⟩ | ⟨rfl, b0, b1, b2, b3, b4, b5⟩ <;> first | rfl | (exfalso; omega))
  refine lv_icmp_eq (tgt := 1625) hx hb dL_law_876 (by decide) (fun _ => ?_) (fun c => absurd heq c)
  exact law_tail C0 hS (by decide) (by decide) (lv_sub hl [0, 1, 2, 3] rfl)
