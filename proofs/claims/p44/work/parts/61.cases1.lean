set_option maxHeartbeats 8000000 in
set_option maxRecDepth 100000 in
theorem law_case11 {p : Program} {e : Env} {s : State} {m : MethodId} {below : List Frame} {meth : Method} {c : Code} {b L : Nat} {xs : Nat → Int32} (l : Launch) (dC : Nat → ClassId) (dI : Nat → Nat → Nat) (cB cI cJ cZ cP cQ : ClassId) (adK adV : Nat → Nat) (q0 : Option Nat) (a1 a2 : Nat) (x3 : Int32) (C0 : lw_At p s m meth c b L xs) (hL : L ≤ 3072) (hK : va_K (dC, dI) vwCl (zT cB cI cJ cZ cP cQ) s) (hX : zX zNW zAO s) (hE : zE adK adV q0 (fun q : Nat => s.heap.size ≤ q) s s.heap) (i cells slots : Nat) (hi : x3.toInt = i) (hiL : i + 6 ≤ L) (hc : cells + 18 ≤ 600000) (hs : slots + 1522 ≤ 7302250) (ob : Nat → Int32) (w1 w2 : va_W) (I1 : IX cB cI cJ cZ cP cQ a1 ob w1) (I2 : IM cB cI cJ cZ cP cQ a2 ob w2) (H : Heap) (locs : List Loc) (hP : va_P (dC, dI) vwCl (w1 ++ w2) H) (hD : va_D (fun q : Nat => s.heap.size ≤ q) (w1 ++ w2)) (hS : va_S (fun q : Nat => s.heap.size ≤ q) s.heap H locs) (ls : Array Slot) (hl : lv_has ls 4 [(3, .int x3), (2, .ref a2), (1, .ref a1), (0, .ref b)]) (kk : ∀ (ob : Nat → Int32) (w1 w2 : va_W) (H : Heap) (locs : List Loc) (ls : Array Slot), IX cB cI cJ cZ cP cQ a1 ob w1 → IM cB cI cJ cZ cP cQ a2 ob w2 → va_P (dC, dI) vwCl (w1 ++ w2) H → va_D (fun q : Nat => s.heap.size ≤ q) (w1 ++ w2) → va_S (fun q : Nat => s.heap.size ≤ q) s.heap H locs → lv_has ls 4 [(3, .int x3), (2, .ref a2), (1, .ref a1), (0, .ref b)] → W p l e room_1 s m #[Value.ref b] below meth c H locs (cells + 18) (slots + 1522) (lw_Z below #[Value.ref b] s) (F0 m 1615 ls [])) : W p l e room_1 s m #[Value.ref b] below meth c H locs cells slots (lw_Z below #[Value.ref b] s) (F0 m 613 ls []) := by
  obtain ⟨hx, hb, hr, hml, hown, hts, hXs, hbl, hlocks, hgv⟩ := id C0
  have hown : s.vm.findClass RL = some m.cls := hown
  have hA : ∀ q : Nat, s.heap.size ≤ q → (fun q : Nat => s.heap.size ≤ q) q := fun _ h => h
  have hbA : ¬ (fun q : Nat => s.heap.size ≤ q) b := Nat.not_le.mpr hbl
  refine lv_aload_n hx hb dL_law_613 rfl (lv_at hl 2 rfl) ?_
  refine lv_aload_n hx hb dL_law_614 rfl (lv_at hl 3 rfl) ?_
  refine lv_iload_n hx hb dL_law_615 rfl (lv_at hl 0 rfl) ?_
  refine lv_iconst (v := 1) hx hb dL_law_616 (by decide) ?_
  refine lv_iadd hx hb dL_law_617 ?_
  refine lv_topi (fun r1 h2 => ?_)
  have f3 : r1.toInt = x3.toInt + 1 := z_iadd h2 rfl (show Int32.toInt 1 = 1 from by decide) (by omega) (by omega)
  refine va_sld hx hb hXs hbl hbA hS (z_in rfl (by omega) (by omega)) dL_law_618 ?_
  refine lv_topi (fun a4 h5 => ?_)
  refine f_fini (va_runV (As := [.int a4]) (rest := []) ⟨hx, hb, hml, hown, hts⟩ (q_X8_worth l dC dI cB cI cJ cZ cP cQ adK adV q0 a1 H.size ob w1 a4 I1) (cwV 1 hts gT_X8_worth rfl rfl rfl (by decide +kernel) ⟨Nat.le_of_ble_eq_true rfl, Nat.le_of_ble_eq_true rfl⟩) (f_pV (ci := 8) hE hS hA hK hP hD hX rfl (IX_recv I1)) rfl rfl hl.1 rfl (lv_room (Nat.le_of_ble_eq_true rfl)) dL_law_619 ⟨by show _ + 0 ≤ 600000; omega, by show _ + 0 ≤ 7302250; omega⟩) hP hD hS hA (fun r6 w1 H locs hp hP hD hS => ?_)
  obtain ⟨I1, h7⟩ := hp
  refine lv_pop hx hb dL_law_622 rfl ?_
  refine lv_aload_n hx hb dL_law_623 rfl (lv_at hl 1 rfl) ?_
  refine lv_aload_n hx hb dL_law_624 rfl (lv_at hl 3 rfl) ?_
  refine lv_iload_n hx hb dL_law_625 rfl (lv_at hl 0 rfl) ?_
  refine lv_iconst (v := 1) hx hb dL_law_626 (by decide) ?_
  refine lv_iadd hx hb dL_law_627 ?_
  refine lv_topi (fun r8 h9 => ?_)
  have f10 : r8.toInt = x3.toInt + 1 := z_iadd h9 rfl (show Int32.toInt 1 = 1 from by decide) (by omega) (by omega)
  refine va_sld hx hb hXs hbl hbA hS (z_in rfl (by omega) (by omega)) dL_law_628 ?_
  refine lv_topi (fun a11 h12 => ?_)
  have hP : va_P (dC, dI) vwCl (w2 ++ w1) H := f_Pm List.perm_append_comm hP
  have hD : va_D (fun q : Nat => s.heap.size ≤ q) (w2 ++ w1) := f_Dm List.perm_append_comm hD
  refine f_fini (va_runV (As := [.int a11]) (rest := []) ⟨hx, hb, hml, hown, hts⟩ (q_X9_worth l dC dI cB cI cJ cZ cP cQ adK adV q0 a2 H.size ob w2 a11 I2) (cwV 1 hts gT_X9_worth rfl rfl rfl (by decide +kernel) ⟨Nat.le_of_ble_eq_true rfl, Nat.le_of_ble_eq_true rfl⟩) (f_pV (ci := 9) hE hS hA hK hP hD hX rfl (IM_recv I2)) rfl rfl hl.1 rfl (lv_room (Nat.le_of_ble_eq_true rfl)) dL_law_629 ⟨by show _ + 0 ≤ 600000; omega, by show _ + 0 ≤ 7302250; omega⟩) hP hD hS hA (fun r13 w2 H locs hp hP hD hS => ?_)
  obtain ⟨I2, h14⟩ := hp
  have hP : va_P (dC, dI) vwCl (w1 ++ w2) H := f_Pm List.perm_append_comm hP
  have hD : va_D (fun q : Nat => s.heap.size ≤ q) (w1 ++ w2) := f_Dm List.perm_append_comm hD
  refine lv_pop hx hb dL_law_632 rfl ?_
  refine lv_goto (tgt := 1615) hx hb dL_law_633 (by decide) ?_
  refine W.widen (k := cells + 18) (n := slots + 1522) (by omega) (by omega) ?_
  exact kk ob w1 w2 H locs ls I1 I2 hP hD hS (lv_sub hl [0, 1, 2, 3] rfl)
set_option maxHeartbeats 8000000 in
set_option maxRecDepth 100000 in
theorem law_case12 {p : Program} {e : Env} {s : State} {m : MethodId} {below : List Frame} {meth : Method} {c : Code} {b L : Nat} {xs : Nat → Int32} (l : Launch) (dC : Nat → ClassId) (dI : Nat → Nat → Nat) (cB cI cJ cZ cP cQ : ClassId) (adK adV : Nat → Nat) (q0 : Option Nat) (a1 a2 : Nat) (x3 : Int32) (C0 : lw_At p s m meth c b L xs) (hL : L ≤ 3072) (hK : va_K (dC, dI) vwCl (zT cB cI cJ cZ cP cQ) s) (hX : zX zNW zAO s) (hE : zE adK adV q0 (fun q : Nat => s.heap.size ≤ q) s s.heap) (i cells slots : Nat) (hi : x3.toInt = i) (hiL : i + 6 ≤ L) (hc : cells + 18 ≤ 600000) (hs : slots + 1522 ≤ 7302250) (ob : Nat → Int32) (w1 w2 : va_W) (I1 : IX cB cI cJ cZ cP cQ a1 ob w1) (I2 : IM cB cI cJ cZ cP cQ a2 ob w2) (H : Heap) (locs : List Loc) (hP : va_P (dC, dI) vwCl (w1 ++ w2) H) (hD : va_D (fun q : Nat => s.heap.size ≤ q) (w1 ++ w2)) (hS : va_S (fun q : Nat => s.heap.size ≤ q) s.heap H locs) (ls : Array Slot) (hl : lv_has ls 4 [(3, .int x3), (2, .ref a2), (1, .ref a1), (0, .ref b)]) (kk : ∀ (ob : Nat → Int32) (w1 w2 : va_W) (H : Heap) (locs : List Loc) (ls : Array Slot), IX cB cI cJ cZ cP cQ a1 ob w1 → IM cB cI cJ cZ cP cQ a2 ob w2 → va_P (dC, dI) vwCl (w1 ++ w2) H → va_D (fun q : Nat => s.heap.size ≤ q) (w1 ++ w2) → va_S (fun q : Nat => s.heap.size ≤ q) s.heap H locs → lv_has ls 4 [(3, .int x3), (2, .ref a2), (1, .ref a1), (0, .ref b)] → W p l e room_1 s m #[Value.ref b] below meth c H locs (cells + 18) (slots + 1522) (lw_Z below #[Value.ref b] s) (F0 m 1615 ls [])) : W p l e room_1 s m #[Value.ref b] below meth c H locs cells slots (lw_Z below #[Value.ref b] s) (F0 m 636 ls []) := by
  obtain ⟨hx, hb, hr, hml, hown, hts, hXs, hbl, hlocks, hgv⟩ := id C0
  have hown : s.vm.findClass RL = some m.cls := hown
  have hA : ∀ q : Nat, s.heap.size ≤ q → (fun q : Nat => s.heap.size ≤ q) q := fun _ h => h
  have hbA : ¬ (fun q : Nat => s.heap.size ≤ q) b := Nat.not_le.mpr hbl
  refine lv_aload_n hx hb dL_law_636 rfl (lv_at hl 2 rfl) ?_
  refine lv_aload_n hx hb dL_law_637 rfl (lv_at hl 3 rfl) ?_
  refine lv_iload_n hx hb dL_law_638 rfl (lv_at hl 0 rfl) ?_
  refine lv_iconst (v := 1) hx hb dL_law_639 (by decide) ?_
  refine lv_iadd hx hb dL_law_640 ?_
  refine lv_topi (fun r1 h2 => ?_)
  have f3 : r1.toInt = x3.toInt + 1 := z_iadd h2 rfl (show Int32.toInt 1 = 1 from by decide) (by omega) (by omega)
  refine va_sld hx hb hXs hbl hbA hS (z_in rfl (by omega) (by omega)) dL_law_641 ?_
  refine lv_topi (fun a4 h5 => ?_)
  refine lv_aload_n hx hb dL_law_642 rfl (lv_at hl 3 rfl) ?_
  refine lv_iload_n hx hb dL_law_643 rfl (lv_at hl 0 rfl) ?_
  refine lv_iconst (v := 2) hx hb dL_law_644 (by decide) ?_
  refine lv_iadd hx hb dL_law_645 ?_
  refine lv_topi (fun r6 h7 => ?_)
  have f8 : r6.toInt = x3.toInt + 2 := z_iadd h7 rfl (show Int32.toInt 2 = 2 from by decide) (by omega) (by omega)
  refine va_sld hx hb hXs hbl hbA hS (z_in rfl (by omega) (by omega)) dL_law_646 ?_
  refine lv_topi (fun a9 h10 => ?_)
  refine f_fini (va_runV (As := [.int a4, .int a9]) (rest := []) ⟨hx, hb, hml, hown, hts⟩ (q_X8_month l dC dI cB cI cJ cZ cP cQ adK adV q0 a1 H.size ob w1 a4 a9 I1) (cwV 2 hts gT_X8_month rfl rfl rfl (by decide +kernel) ⟨Nat.le_of_ble_eq_true rfl, Nat.le_of_ble_eq_true rfl⟩) (f_pV (ci := 8) hE hS hA hK hP hD hX rfl (IX_recv I1)) rfl rfl hl.1 rfl (lv_room (Nat.le_of_ble_eq_true rfl)) dL_law_647 ⟨by show _ + 0 ≤ 600000; omega, by show _ + 0 ≤ 7302250; omega⟩) hP hD hS hA (fun r11 w1 H locs hp hP hD hS => ?_)
  obtain ⟨I1, h12⟩ := hp
  refine lv_pop hx hb dL_law_650 rfl ?_
  refine lv_aload_n hx hb dL_law_651 rfl (lv_at hl 1 rfl) ?_
  refine lv_aload_n hx hb dL_law_652 rfl (lv_at hl 3 rfl) ?_
  refine lv_iload_n hx hb dL_law_653 rfl (lv_at hl 0 rfl) ?_
  refine lv_iconst (v := 1) hx hb dL_law_654 (by decide) ?_
  refine lv_iadd hx hb dL_law_655 ?_
  refine lv_topi (fun r13 h14 => ?_)
  have f15 : r13.toInt = x3.toInt + 1 := z_iadd h14 rfl (show Int32.toInt 1 = 1 from by decide) (by omega) (by omega)
  refine va_sld hx hb hXs hbl hbA hS (z_in rfl (by omega) (by omega)) dL_law_656 ?_
  refine lv_topi (fun a16 h17 => ?_)
  refine lv_aload_n hx hb dL_law_657 rfl (lv_at hl 3 rfl) ?_
  refine lv_iload_n hx hb dL_law_658 rfl (lv_at hl 0 rfl) ?_
  refine lv_iconst (v := 2) hx hb dL_law_659 (by decide) ?_
  refine lv_iadd hx hb dL_law_660 ?_
  refine lv_topi (fun r18 h19 => ?_)
  have f20 : r18.toInt = x3.toInt + 2 := z_iadd h19 rfl (show Int32.toInt 2 = 2 from by decide) (by omega) (by omega)
  refine va_sld hx hb hXs hbl hbA hS (z_in rfl (by omega) (by omega)) dL_law_661 ?_
  refine lv_topi (fun a21 h22 => ?_)
  have hP : va_P (dC, dI) vwCl (w2 ++ w1) H := f_Pm List.perm_append_comm hP
  have hD : va_D (fun q : Nat => s.heap.size ≤ q) (w2 ++ w1) := f_Dm List.perm_append_comm hD
  refine f_fini (va_runV (As := [.int a16, .int a21]) (rest := []) ⟨hx, hb, hml, hown, hts⟩ (q_X9_month l dC dI cB cI cJ cZ cP cQ adK adV q0 a2 H.size ob w2 a16 a21 I2) (cwV 2 hts gT_X9_month rfl rfl rfl (by decide +kernel) ⟨Nat.le_of_ble_eq_true rfl, Nat.le_of_ble_eq_true rfl⟩) (f_pV (ci := 9) hE hS hA hK hP hD hX rfl (IM_recv I2)) rfl rfl hl.1 rfl (lv_room (Nat.le_of_ble_eq_true rfl)) dL_law_662 ⟨by show _ + 0 ≤ 600000; omega, by show _ + 0 ≤ 7302250; omega⟩) hP hD hS hA (fun r23 w2 H locs hp hP hD hS => ?_)
  obtain ⟨I2, h24⟩ := hp
  have hP : va_P (dC, dI) vwCl (w1 ++ w2) H := f_Pm List.perm_append_comm hP
  have hD : va_D (fun q : Nat => s.heap.size ≤ q) (w1 ++ w2) := f_Dm List.perm_append_comm hD
  refine lv_pop hx hb dL_law_665 rfl ?_
  refine lv_goto (tgt := 1615) hx hb dL_law_666 (by decide) ?_
  refine W.widen (k := cells + 18) (n := slots + 1522) (by omega) (by omega) ?_
  exact kk ob w1 w2 H locs ls I1 I2 hP hD hS (lv_sub hl [0, 1, 2, 3] rfl)
set_option maxHeartbeats 8000000 in
set_option maxRecDepth 100000 in
theorem law_case13 {p : Program} {e : Env} {s : State} {m : MethodId} {below : List Frame} {meth : Method} {c : Code} {b L : Nat} {xs : Nat → Int32} (l : Launch) (dC : Nat → ClassId) (dI : Nat → Nat → Nat) (cB cI cJ cZ cP cQ : ClassId) (adK adV : Nat → Nat) (q0 : Option Nat) (a1 a2 : Nat) (x3 : Int32) (C0 : lw_At p s m meth c b L xs) (hL : L ≤ 3072) (hK : va_K (dC, dI) vwCl (zT cB cI cJ cZ cP cQ) s) (hX : zX zNW zAO s) (hE : zE adK adV q0 (fun q : Nat => s.heap.size ≤ q) s s.heap) (i cells slots : Nat) (hi : x3.toInt = i) (hiL : i + 6 ≤ L) (hc : cells + 18 ≤ 600000) (hs : slots + 1522 ≤ 7302250) (ob : Nat → Int32) (w1 w2 : va_W) (I1 : IX cB cI cJ cZ cP cQ a1 ob w1) (I2 : IM cB cI cJ cZ cP cQ a2 ob w2) (H : Heap) (locs : List Loc) (hP : va_P (dC, dI) vwCl (w1 ++ w2) H) (hD : va_D (fun q : Nat => s.heap.size ≤ q) (w1 ++ w2)) (hS : va_S (fun q : Nat => s.heap.size ≤ q) s.heap H locs) (ls : Array Slot) (hl : lv_has ls 4 [(3, .int x3), (2, .ref a2), (1, .ref a1), (0, .ref b)]) (kk : ∀ (ob : Nat → Int32) (w1 w2 : va_W) (H : Heap) (locs : List Loc) (ls : Array Slot), IX cB cI cJ cZ cP cQ a1 ob w1 → IM cB cI cJ cZ cP cQ a2 ob w2 → va_P (dC, dI) vwCl (w1 ++ w2) H → va_D (fun q : Nat => s.heap.size ≤ q) (w1 ++ w2) → va_S (fun q : Nat => s.heap.size ≤ q) s.heap H locs → lv_has ls 4 [(3, .int x3), (2, .ref a2), (1, .ref a1), (0, .ref b)] → W p l e room_1 s m #[Value.ref b] below meth c H locs (cells + 18) (slots + 1522) (lw_Z below #[Value.ref b] s) (F0 m 1615 ls [])) : W p l e room_1 s m #[Value.ref b] below meth c H locs cells slots (lw_Z below #[Value.ref b] s) (F0 m 669 ls []) := by
  obtain ⟨hx, hb, hr, hml, hown, hts, hXs, hbl, hlocks, hgv⟩ := id C0
  have hown : s.vm.findClass RL = some m.cls := hown
  have hA : ∀ q : Nat, s.heap.size ≤ q → (fun q : Nat => s.heap.size ≤ q) q := fun _ h => h
  have hbA : ¬ (fun q : Nat => s.heap.size ≤ q) b := Nat.not_le.mpr hbl
  refine lv_aload_n hx hb dL_law_669 rfl (lv_at hl 2 rfl) ?_
  refine f_finl (va_runV (As := []) (rest := []) ⟨hx, hb, hml, hown, hts⟩ (q_X8_plain l dC dI cB cI cJ cZ cP cQ adK adV q0 a1 H.size ob w1 I1) (cwV 0 hts gT_X8_plain rfl rfl rfl (by decide +kernel) ⟨Nat.le_of_ble_eq_true rfl, Nat.le_of_ble_eq_true rfl⟩) (f_pV (ci := 8) hE hS hA hK hP hD hX rfl (IX_recv I1)) rfl rfl hl.1 rfl (lv_room (Nat.le_of_ble_eq_true rfl)) dL_law_670 ⟨by show _ + 0 ≤ 600000; omega, by show _ + 0 ≤ 7302250; omega⟩) hP hD hS hA (fun r1 w1 H locs hp hP hD hS => ?_)
  obtain ⟨I1, h2⟩ := hp
  refine lv_pop2_2 hx hb dL_law_673 rfl ?_
  refine lv_aload_n hx hb dL_law_674 rfl (lv_at hl 1 rfl) ?_
  have hP : va_P (dC, dI) vwCl (w2 ++ w1) H := f_Pm List.perm_append_comm hP
  have hD : va_D (fun q : Nat => s.heap.size ≤ q) (w2 ++ w1) := f_Dm List.perm_append_comm hD
  refine f_finl (va_runV (As := []) (rest := []) ⟨hx, hb, hml, hown, hts⟩ (q_X9_plain l dC dI cB cI cJ cZ cP cQ adK adV q0 a2 H.size ob w2 I2) (cwV 0 hts gT_X9_plain rfl rfl rfl (by decide +kernel) ⟨Nat.le_of_ble_eq_true rfl, Nat.le_of_ble_eq_true rfl⟩) (f_pV (ci := 9) hE hS hA hK hP hD hX rfl (IM_recv I2)) rfl rfl hl.1 rfl (lv_room (Nat.le_of_ble_eq_true rfl)) dL_law_675 ⟨by show _ + 0 ≤ 600000; omega, by show _ + 0 ≤ 7302250; omega⟩) hP hD hS hA (fun r3 w2 H locs hp hP hD hS => ?_)
  obtain ⟨I2, h4⟩ := hp
  have hP : va_P (dC, dI) vwCl (w1 ++ w2) H := f_Pm List.perm_append_comm hP
  have hD : va_D (fun q : Nat => s.heap.size ≤ q) (w1 ++ w2) := f_Dm List.perm_append_comm hD
  refine lv_pop2_2 hx hb dL_law_678 rfl ?_
  refine lv_goto (tgt := 1615) hx hb dL_law_679 (by decide) ?_
  refine W.widen (k := cells + 18) (n := slots + 1522) (by omega) (by omega) ?_
  exact kk ob w1 w2 H locs ls I1 I2 hP hD hS (lv_sub hl [0, 1, 2, 3] rfl)
set_option maxHeartbeats 8000000 in
set_option maxRecDepth 100000 in
theorem law_case14 {p : Program} {e : Env} {s : State} {m : MethodId} {below : List Frame} {meth : Method} {c : Code} {b L : Nat} {xs : Nat → Int32} (l : Launch) (dC : Nat → ClassId) (dI : Nat → Nat → Nat) (cB cI cJ cZ cP cQ : ClassId) (adK adV : Nat → Nat) (q0 : Option Nat) (a1 a2 : Nat) (x3 : Int32) (C0 : lw_At p s m meth c b L xs) (hL : L ≤ 3072) (hK : va_K (dC, dI) vwCl (zT cB cI cJ cZ cP cQ) s) (hX : zX zNW zAO s) (hE : zE adK adV q0 (fun q : Nat => s.heap.size ≤ q) s s.heap) (i cells slots : Nat) (hi : x3.toInt = i) (hiL : i + 6 ≤ L) (hc : cells + 18 ≤ 600000) (hs : slots + 1522 ≤ 7302250) (ob : Nat → Int32) (w1 w2 : va_W) (I1 : IX cB cI cJ cZ cP cQ a1 ob w1) (I2 : IM cB cI cJ cZ cP cQ a2 ob w2) (H : Heap) (locs : List Loc) (hP : va_P (dC, dI) vwCl (w1 ++ w2) H) (hD : va_D (fun q : Nat => s.heap.size ≤ q) (w1 ++ w2)) (hS : va_S (fun q : Nat => s.heap.size ≤ q) s.heap H locs) (ls : Array Slot) (hl : lv_has ls 4 [(3, .int x3), (2, .ref a2), (1, .ref a1), (0, .ref b)]) (kk : ∀ (ob : Nat → Int32) (w1 w2 : va_W) (H : Heap) (locs : List Loc) (ls : Array Slot), IX cB cI cJ cZ cP cQ a1 ob w1 → IM cB cI cJ cZ cP cQ a2 ob w2 → va_P (dC, dI) vwCl (w1 ++ w2) H → va_D (fun q : Nat => s.heap.size ≤ q) (w1 ++ w2) → va_S (fun q : Nat => s.heap.size ≤ q) s.heap H locs → lv_has ls 4 [(3, .int x3), (2, .ref a2), (1, .ref a1), (0, .ref b)] → W p l e room_1 s m #[Value.ref b] below meth c H locs (cells + 18) (slots + 1522) (lw_Z below #[Value.ref b] s) (F0 m 1615 ls [])) : W p l e room_1 s m #[Value.ref b] below meth c H locs cells slots (lw_Z below #[Value.ref b] s) (F0 m 682 ls []) := by
  obtain ⟨hx, hb, hr, hml, hown, hts, hXs, hbl, hlocks, hgv⟩ := id C0
  have hown : s.vm.findClass RL = some m.cls := hown
  have hA : ∀ q : Nat, s.heap.size ≤ q → (fun q : Nat => s.heap.size ≤ q) q := fun _ h => h
  have hbA : ¬ (fun q : Nat => s.heap.size ≤ q) b := Nat.not_le.mpr hbl
  refine lv_aload_n hx hb dL_law_682 rfl (lv_at hl 2 rfl) ?_
  refine lv_aload_n hx hb dL_law_683 rfl (lv_at hl 3 rfl) ?_
  refine lv_iload_n hx hb dL_law_684 rfl (lv_at hl 0 rfl) ?_
  refine lv_iconst (v := 1) hx hb dL_law_685 (by decide) ?_
  refine lv_iadd hx hb dL_law_686 ?_
  refine lv_topi (fun r1 h2 => ?_)
  have f3 : r1.toInt = x3.toInt + 1 := z_iadd h2 rfl (show Int32.toInt 1 = 1 from by decide) (by omega) (by omega)
  refine va_sld hx hb hXs hbl hbA hS (z_in rfl (by omega) (by omega)) dL_law_687 ?_
  refine lv_topi (fun a4 h5 => ?_)
  refine f_finl (va_runV (As := [.int a4]) (rest := []) ⟨hx, hb, hml, hown, hts⟩ (q_X8_by l dC dI cB cI cJ cZ cP cQ adK adV q0 a1 H.size ob w1 a4 I1) (cwV 1 hts gT_X8_by rfl rfl rfl (by decide +kernel) ⟨Nat.le_of_ble_eq_true rfl, Nat.le_of_ble_eq_true rfl⟩) (f_pV (ci := 8) hE hS hA hK hP hD hX rfl (IX_recv I1)) rfl rfl hl.1 rfl (lv_room (Nat.le_of_ble_eq_true rfl)) dL_law_688 ⟨by show _ + 0 ≤ 600000; omega, by show _ + 0 ≤ 7302250; omega⟩) hP hD hS hA (fun r6 w1 H locs hp hP hD hS => ?_)
  obtain ⟨I1, h7⟩ := hp
  refine lv_pop2_2 hx hb dL_law_691 rfl ?_
  refine lv_aload_n hx hb dL_law_692 rfl (lv_at hl 1 rfl) ?_
  refine lv_aload_n hx hb dL_law_693 rfl (lv_at hl 3 rfl) ?_
  refine lv_iload_n hx hb dL_law_694 rfl (lv_at hl 0 rfl) ?_
  refine lv_iconst (v := 1) hx hb dL_law_695 (by decide) ?_
  refine lv_iadd hx hb dL_law_696 ?_
  refine lv_topi (fun r8 h9 => ?_)
  have f10 : r8.toInt = x3.toInt + 1 := z_iadd h9 rfl (show Int32.toInt 1 = 1 from by decide) (by omega) (by omega)
  refine va_sld hx hb hXs hbl hbA hS (z_in rfl (by omega) (by omega)) dL_law_697 ?_
  refine lv_topi (fun a11 h12 => ?_)
  have hP : va_P (dC, dI) vwCl (w2 ++ w1) H := f_Pm List.perm_append_comm hP
  have hD : va_D (fun q : Nat => s.heap.size ≤ q) (w2 ++ w1) := f_Dm List.perm_append_comm hD
  refine f_finl (va_runV (As := [.int a11]) (rest := []) ⟨hx, hb, hml, hown, hts⟩ (q_X9_by l dC dI cB cI cJ cZ cP cQ adK adV q0 a2 H.size ob w2 a11 I2) (cwV 1 hts gT_X9_by rfl rfl rfl (by decide +kernel) ⟨Nat.le_of_ble_eq_true rfl, Nat.le_of_ble_eq_true rfl⟩) (f_pV (ci := 9) hE hS hA hK hP hD hX rfl (IM_recv I2)) rfl rfl hl.1 rfl (lv_room (Nat.le_of_ble_eq_true rfl)) dL_law_698 ⟨by show _ + 0 ≤ 600000; omega, by show _ + 0 ≤ 7302250; omega⟩) hP hD hS hA (fun r13 w2 H locs hp hP hD hS => ?_)
  obtain ⟨I2, h14⟩ := hp
  have hP : va_P (dC, dI) vwCl (w1 ++ w2) H := f_Pm List.perm_append_comm hP
  have hD : va_D (fun q : Nat => s.heap.size ≤ q) (w1 ++ w2) := f_Dm List.perm_append_comm hD
  refine lv_pop2_2 hx hb dL_law_701 rfl ?_
  refine lv_goto (tgt := 1615) hx hb dL_law_702 (by decide) ?_
  refine W.widen (k := cells + 18) (n := slots + 1522) (by omega) (by omega) ?_
  exact kk ob w1 w2 H locs ls I1 I2 hP hD hS (lv_sub hl [0, 1, 2, 3] rfl)
set_option maxHeartbeats 8000000 in
set_option maxRecDepth 100000 in
theorem law_case15 {p : Program} {e : Env} {s : State} {m : MethodId} {below : List Frame} {meth : Method} {c : Code} {b L : Nat} {xs : Nat → Int32} (l : Launch) (dC : Nat → ClassId) (dI : Nat → Nat → Nat) (cB cI cJ cZ cP cQ : ClassId) (adK adV : Nat → Nat) (q0 : Option Nat) (a1 a2 : Nat) (x3 : Int32) (C0 : lw_At p s m meth c b L xs) (hL : L ≤ 3072) (hK : va_K (dC, dI) vwCl (zT cB cI cJ cZ cP cQ) s) (hX : zX zNW zAO s) (hE : zE adK adV q0 (fun q : Nat => s.heap.size ≤ q) s s.heap) (i cells slots : Nat) (hi : x3.toInt = i) (hiL : i + 6 ≤ L) (hc : cells + 18 ≤ 600000) (hs : slots + 1522 ≤ 7302250) (ob : Nat → Int32) (w1 w2 : va_W) (I1 : IX cB cI cJ cZ cP cQ a1 ob w1) (I2 : IM cB cI cJ cZ cP cQ a2 ob w2) (H : Heap) (locs : List Loc) (hP : va_P (dC, dI) vwCl (w1 ++ w2) H) (hD : va_D (fun q : Nat => s.heap.size ≤ q) (w1 ++ w2)) (hS : va_S (fun q : Nat => s.heap.size ≤ q) s.heap H locs) (ls : Array Slot) (hl : lv_has ls 4 [(3, .int x3), (2, .ref a2), (1, .ref a1), (0, .ref b)]) (kk : ∀ (ob : Nat → Int32) (w1 w2 : va_W) (H : Heap) (locs : List Loc) (ls : Array Slot), IX cB cI cJ cZ cP cQ a1 ob w1 → IM cB cI cJ cZ cP cQ a2 ob w2 → va_P (dC, dI) vwCl (w1 ++ w2) H → va_D (fun q : Nat => s.heap.size ≤ q) (w1 ++ w2) → va_S (fun q : Nat => s.heap.size ≤ q) s.heap H locs → lv_has ls 4 [(3, .int x3), (2, .ref a2), (1, .ref a1), (0, .ref b)] → W p l e room_1 s m #[Value.ref b] below meth c H locs (cells + 18) (slots + 1522) (lw_Z below #[Value.ref b] s) (F0 m 1615 ls [])) : W p l e room_1 s m #[Value.ref b] below meth c H locs cells slots (lw_Z below #[Value.ref b] s) (F0 m 705 ls []) := by
  obtain ⟨hx, hb, hr, hml, hown, hts, hXs, hbl, hlocks, hgv⟩ := id C0
  have hown : s.vm.findClass RL = some m.cls := hown
  have hA : ∀ q : Nat, s.heap.size ≤ q → (fun q : Nat => s.heap.size ≤ q) q := fun _ h => h
  have hbA : ¬ (fun q : Nat => s.heap.size ≤ q) b := Nat.not_le.mpr hbl
  refine lv_aload_n hx hb dL_law_705 rfl (lv_at hl 2 rfl) ?_
  refine f_finl (va_runV (As := []) (rest := []) ⟨hx, hb, hml, hown, hts⟩ (q_X8_many l dC dI cB cI cJ cZ cP cQ adK adV q0 a1 H.size ob w1 I1) (cwV 0 hts gT_X8_many rfl rfl rfl (by decide +kernel) ⟨Nat.le_of_ble_eq_true rfl, Nat.le_of_ble_eq_true rfl⟩) (f_pV (ci := 8) hE hS hA hK hP hD hX rfl (IX_recv I1)) rfl rfl hl.1 rfl (lv_room (Nat.le_of_ble_eq_true rfl)) dL_law_706 ⟨by show _ + 0 ≤ 600000; omega, by show _ + 0 ≤ 7302250; omega⟩) hP hD hS hA (fun r1 w1 H locs hp hP hD hS => ?_)
  obtain ⟨I1, h2⟩ := hp
  refine lv_pop2_2 hx hb dL_law_709 rfl ?_
  refine lv_aload_n hx hb dL_law_710 rfl (lv_at hl 1 rfl) ?_
  have hP : va_P (dC, dI) vwCl (w2 ++ w1) H := f_Pm List.perm_append_comm hP
  have hD : va_D (fun q : Nat => s.heap.size ≤ q) (w2 ++ w1) := f_Dm List.perm_append_comm hD
  refine f_finl (va_runV (As := []) (rest := []) ⟨hx, hb, hml, hown, hts⟩ (q_X9_many l dC dI cB cI cJ cZ cP cQ adK adV q0 a2 H.size ob w2 I2) (cwV 0 hts gT_X9_many rfl rfl rfl (by decide +kernel) ⟨Nat.le_of_ble_eq_true rfl, Nat.le_of_ble_eq_true rfl⟩) (f_pV (ci := 9) hE hS hA hK hP hD hX rfl (IM_recv I2)) rfl rfl hl.1 rfl (lv_room (Nat.le_of_ble_eq_true rfl)) dL_law_711 ⟨by show _ + 0 ≤ 600000; omega, by show _ + 0 ≤ 7302250; omega⟩) hP hD hS hA (fun r3 w2 H locs hp hP hD hS => ?_)
  obtain ⟨I2, h4⟩ := hp
  have hP : va_P (dC, dI) vwCl (w1 ++ w2) H := f_Pm List.perm_append_comm hP
  have hD : va_D (fun q : Nat => s.heap.size ≤ q) (w1 ++ w2) := f_Dm List.perm_append_comm hD
  refine lv_pop2_2 hx hb dL_law_714 rfl ?_
  refine lv_goto (tgt := 1615) hx hb dL_law_715 (by decide) ?_
  refine W.widen (k := cells + 18) (n := slots + 1522) (by omega) (by omega) ?_
  exact kk ob w1 w2 H locs ls I1 I2 hP hD hS (lv_sub hl [0, 1, 2, 3] rfl)
set_option maxHeartbeats 8000000 in
set_option maxRecDepth 100000 in
theorem law_case16 {p : Program} {e : Env} {s : State} {m : MethodId} {below : List Frame} {meth : Method} {c : Code} {b L : Nat} {xs : Nat → Int32} (l : Launch) (dC : Nat → ClassId) (dI : Nat → Nat → Nat) (cB cI cJ cZ cP cQ : ClassId) (adK adV : Nat → Nat) (q0 : Option Nat) (a1 a2 : Nat) (x3 : Int32) (C0 : lw_At p s m meth c b L xs) (hL : L ≤ 3072) (hK : va_K (dC, dI) vwCl (zT cB cI cJ cZ cP cQ) s) (hX : zX zNW zAO s) (hE : zE adK adV q0 (fun q : Nat => s.heap.size ≤ q) s s.heap) (i cells slots : Nat) (hi : x3.toInt = i) (hiL : i + 6 ≤ L) (hc : cells + 18 ≤ 600000) (hs : slots + 1522 ≤ 7302250) (ob : Nat → Int32) (w1 w2 : va_W) (I1 : IX cB cI cJ cZ cP cQ a1 ob w1) (I2 : IM cB cI cJ cZ cP cQ a2 ob w2) (H : Heap) (locs : List Loc) (hP : va_P (dC, dI) vwCl (w1 ++ w2) H) (hD : va_D (fun q : Nat => s.heap.size ≤ q) (w1 ++ w2)) (hS : va_S (fun q : Nat => s.heap.size ≤ q) s.heap H locs) (ls : Array Slot) (hl : lv_has ls 4 [(3, .int x3), (2, .ref a2), (1, .ref a1), (0, .ref b)]) (kk : ∀ (ob : Nat → Int32) (w1 w2 : va_W) (H : Heap) (locs : List Loc) (ls : Array Slot), IX cB cI cJ cZ cP cQ a1 ob w1 → IM cB cI cJ cZ cP cQ a2 ob w2 → va_P (dC, dI) vwCl (w1 ++ w2) H → va_D (fun q : Nat => s.heap.size ≤ q) (w1 ++ w2) → va_S (fun q : Nat => s.heap.size ≤ q) s.heap H locs → lv_has ls 4 [(3, .int x3), (2, .ref a2), (1, .ref a1), (0, .ref b)] → W p l e room_1 s m #[Value.ref b] below meth c H locs (cells + 18) (slots + 1522) (lw_Z below #[Value.ref b] s) (F0 m 1615 ls [])) : W p l e room_1 s m #[Value.ref b] below meth c H locs cells slots (lw_Z below #[Value.ref b] s) (F0 m 718 ls []) := by
  obtain ⟨hx, hb, hr, hml, hown, hts, hXs, hbl, hlocks, hgv⟩ := id C0
  have hown : s.vm.findClass RL = some m.cls := hown
  have hA : ∀ q : Nat, s.heap.size ≤ q → (fun q : Nat => s.heap.size ≤ q) q := fun _ h => h
  have hbA : ¬ (fun q : Nat => s.heap.size ≤ q) b := Nat.not_le.mpr hbl
  refine lv_aload_n hx hb dL_law_718 rfl (lv_at hl 2 rfl) ?_
  refine f_fini (va_runV (As := []) (rest := []) ⟨hx, hb, hml, hown, hts⟩ (q_X8_groups l dC dI cB cI cJ cZ cP cQ adK adV q0 a1 H.size ob w1 I1) (cwV 0 hts gT_X8_groups rfl rfl rfl (by decide +kernel) ⟨Nat.le_of_ble_eq_true rfl, Nat.le_of_ble_eq_true rfl⟩) (f_pV (ci := 8) hE hS hA hK hP hD hX rfl (IX_recv I1)) rfl rfl hl.1 rfl (lv_room (Nat.le_of_ble_eq_true rfl)) dL_law_719 ⟨by show _ + 0 ≤ 600000; omega, by show _ + 0 ≤ 7302250; omega⟩) hP hD hS hA (fun r1 w1 H locs hp hP hD hS => ?_)
  obtain ⟨I1, h2⟩ := hp
  refine lv_pop hx hb dL_law_722 rfl ?_
  refine lv_aload_n hx hb dL_law_723 rfl (lv_at hl 1 rfl) ?_
  have hP : va_P (dC, dI) vwCl (w2 ++ w1) H := f_Pm List.perm_append_comm hP
  have hD : va_D (fun q : Nat => s.heap.size ≤ q) (w2 ++ w1) := f_Dm List.perm_append_comm hD
  refine f_fini (va_runV (As := []) (rest := []) ⟨hx, hb, hml, hown, hts⟩ (q_X9_groups l dC dI cB cI cJ cZ cP cQ adK adV q0 a2 H.size ob w2 I2) (cwV 0 hts gT_X9_groups rfl rfl rfl (by decide +kernel) ⟨Nat.le_of_ble_eq_true rfl, Nat.le_of_ble_eq_true rfl⟩) (f_pV (ci := 9) hE hS hA hK hP hD hX rfl (IM_recv I2)) rfl rfl hl.1 rfl (lv_room (Nat.le_of_ble_eq_true rfl)) dL_law_724 ⟨by show _ + 0 ≤ 600000; omega, by show _ + 0 ≤ 7302250; omega⟩) hP hD hS hA (fun r3 w2 H locs hp hP hD hS => ?_)
  obtain ⟨I2, h4⟩ := hp
  have hP : va_P (dC, dI) vwCl (w1 ++ w2) H := f_Pm List.perm_append_comm hP
  have hD : va_D (fun q : Nat => s.heap.size ≤ q) (w1 ++ w2) := f_Dm List.perm_append_comm hD
  refine lv_pop hx hb dL_law_727 rfl ?_
  refine lv_goto (tgt := 1615) hx hb dL_law_728 (by decide) ?_
  refine W.widen (k := cells + 18) (n := slots + 1522) (by omega) (by omega) ?_
  exact kk ob w1 w2 H locs ls I1 I2 hP hD hS (lv_sub hl [0, 1, 2, 3] rfl)
set_option maxHeartbeats 8000000 in
set_option maxRecDepth 100000 in
theorem law_case17 {p : Program} {e : Env} {s : State} {m : MethodId} {below : List Frame} {meth : Method} {c : Code} {b L : Nat} {xs : Nat → Int32} (l : Launch) (dC : Nat → ClassId) (dI : Nat → Nat → Nat) (cB cI cJ cZ cP cQ : ClassId) (adK adV : Nat → Nat) (q0 : Option Nat) (a1 a2 : Nat) (x3 : Int32) (C0 : lw_At p s m meth c b L xs) (hL : L ≤ 3072) (hK : va_K (dC, dI) vwCl (zT cB cI cJ cZ cP cQ) s) (hX : zX zNW zAO s) (hE : zE adK adV q0 (fun q : Nat => s.heap.size ≤ q) s s.heap) (i cells slots : Nat) (hi : x3.toInt = i) (hiL : i + 6 ≤ L) (hc : cells + 18 ≤ 600000) (hs : slots + 1522 ≤ 7302250) (ob : Nat → Int32) (w1 w2 : va_W) (I1 : IX cB cI cJ cZ cP cQ a1 ob w1) (I2 : IM cB cI cJ cZ cP cQ a2 ob w2) (H : Heap) (locs : List Loc) (hP : va_P (dC, dI) vwCl (w1 ++ w2) H) (hD : va_D (fun q : Nat => s.heap.size ≤ q) (w1 ++ w2)) (hS : va_S (fun q : Nat => s.heap.size ≤ q) s.heap H locs) (ls : Array Slot) (hl : lv_has ls 4 [(3, .int x3), (2, .ref a2), (1, .ref a1), (0, .ref b)]) (kk : ∀ (ob : Nat → Int32) (w1 w2 : va_W) (H : Heap) (locs : List Loc) (ls : Array Slot), IX cB cI cJ cZ cP cQ a1 ob w1 → IM cB cI cJ cZ cP cQ a2 ob w2 → va_P (dC, dI) vwCl (w1 ++ w2) H → va_D (fun q : Nat => s.heap.size ≤ q) (w1 ++ w2) → va_S (fun q : Nat => s.heap.size ≤ q) s.heap H locs → lv_has ls 4 [(3, .int x3), (2, .ref a2), (1, .ref a1), (0, .ref b)] → W p l e room_1 s m #[Value.ref b] below meth c H locs (cells + 18) (slots + 1522) (lw_Z below #[Value.ref b] s) (F0 m 1615 ls [])) : W p l e room_1 s m #[Value.ref b] below meth c H locs cells slots (lw_Z below #[Value.ref b] s) (F0 m 731 ls []) := by
  obtain ⟨hx, hb, hr, hml, hown, hts, hXs, hbl, hlocks, hgv⟩ := id C0
  have hown : s.vm.findClass RL = some m.cls := hown
  have hA : ∀ q : Nat, s.heap.size ≤ q → (fun q : Nat => s.heap.size ≤ q) q := fun _ h => h
  have hbA : ¬ (fun q : Nat => s.heap.size ≤ q) b := Nat.not_le.mpr hbl
  refine lv_aload_n hx hb dL_law_731 rfl (lv_at hl 2 rfl) ?_
  refine lv_aload_n hx hb dL_law_732 rfl (lv_at hl 3 rfl) ?_
  refine lv_iload_n hx hb dL_law_733 rfl (lv_at hl 0 rfl) ?_
  refine lv_iconst (v := 1) hx hb dL_law_734 (by decide) ?_
  refine lv_iadd hx hb dL_law_735 ?_
  refine lv_topi (fun r1 h2 => ?_)
  have f3 : r1.toInt = x3.toInt + 1 := z_iadd h2 rfl (show Int32.toInt 1 = 1 from by decide) (by omega) (by omega)
  refine va_sld hx hb hXs hbl hbA hS (z_in rfl (by omega) (by omega)) dL_law_736 ?_
  refine lv_topi (fun a4 h5 => ?_)
  refine f_finl (va_runV (As := [.int a4]) (rest := []) ⟨hx, hb, hml, hown, hts⟩ (q_X8_moves l dC dI cB cI cJ cZ cP cQ adK adV q0 a1 H.size ob w1 a4 I1) (cwV 1 hts gT_X8_moves rfl rfl rfl (by decide +kernel) ⟨Nat.le_of_ble_eq_true rfl, Nat.le_of_ble_eq_true rfl⟩) (f_pV (ci := 8) hE hS hA hK hP hD hX rfl (IX_recv I1)) rfl rfl hl.1 rfl (lv_room (Nat.le_of_ble_eq_true rfl)) dL_law_737 ⟨by show _ + 0 ≤ 600000; omega, by show _ + 0 ≤ 7302250; omega⟩) hP hD hS hA (fun r6 w1 H locs hp hP hD hS => ?_)
  obtain ⟨I1, h7⟩ := hp
  refine lv_pop2_2 hx hb dL_law_740 rfl ?_
  refine lv_aload_n hx hb dL_law_741 rfl (lv_at hl 1 rfl) ?_
  refine lv_aload_n hx hb dL_law_742 rfl (lv_at hl 3 rfl) ?_
  refine lv_iload_n hx hb dL_law_743 rfl (lv_at hl 0 rfl) ?_
  refine lv_iconst (v := 1) hx hb dL_law_744 (by decide) ?_
  refine lv_iadd hx hb dL_law_745 ?_
  refine lv_topi (fun r8 h9 => ?_)
  have f10 : r8.toInt = x3.toInt + 1 := z_iadd h9 rfl (show Int32.toInt 1 = 1 from by decide) (by omega) (by omega)
  refine va_sld hx hb hXs hbl hbA hS (z_in rfl (by omega) (by omega)) dL_law_746 ?_
  refine lv_topi (fun a11 h12 => ?_)
  have hP : va_P (dC, dI) vwCl (w2 ++ w1) H := f_Pm List.perm_append_comm hP
  have hD : va_D (fun q : Nat => s.heap.size ≤ q) (w2 ++ w1) := f_Dm List.perm_append_comm hD
  refine f_finl (va_runV (As := [.int a11]) (rest := []) ⟨hx, hb, hml, hown, hts⟩ (q_X9_moves l dC dI cB cI cJ cZ cP cQ adK adV q0 a2 H.size ob w2 a11 I2) (cwV 1 hts gT_X9_moves rfl rfl rfl (by decide +kernel) ⟨Nat.le_of_ble_eq_true rfl, Nat.le_of_ble_eq_true rfl⟩) (f_pV (ci := 9) hE hS hA hK hP hD hX rfl (IM_recv I2)) rfl rfl hl.1 rfl (lv_room (Nat.le_of_ble_eq_true rfl)) dL_law_747 ⟨by show _ + 0 ≤ 600000; omega, by show _ + 0 ≤ 7302250; omega⟩) hP hD hS hA (fun r13 w2 H locs hp hP hD hS => ?_)
  obtain ⟨I2, h14⟩ := hp
  have hP : va_P (dC, dI) vwCl (w1 ++ w2) H := f_Pm List.perm_append_comm hP
  have hD : va_D (fun q : Nat => s.heap.size ≤ q) (w1 ++ w2) := f_Dm List.perm_append_comm hD
  refine lv_pop2_2 hx hb dL_law_750 rfl ?_
  refine lv_goto (tgt := 1615) hx hb dL_law_751 (by decide) ?_
  refine W.widen (k := cells + 18) (n := slots + 1522) (by omega) (by omega) ?_
  exact kk ob w1 w2 H locs ls I1 I2 hP hD hS (lv_sub hl [0, 1, 2, 3] rfl)
set_option maxHeartbeats 8000000 in
set_option maxRecDepth 100000 in
theorem law_case18 {p : Program} {e : Env} {s : State} {m : MethodId} {below : List Frame} {meth : Method} {c : Code} {b L : Nat} {xs : Nat → Int32} (l : Launch) (dC : Nat → ClassId) (dI : Nat → Nat → Nat) (cB cI cJ cZ cP cQ : ClassId) (adK adV : Nat → Nat) (q0 : Option Nat) (a1 a2 : Nat) (x3 : Int32) (C0 : lw_At p s m meth c b L xs) (hL : L ≤ 3072) (hK : va_K (dC, dI) vwCl (zT cB cI cJ cZ cP cQ) s) (hX : zX zNW zAO s) (hE : zE adK adV q0 (fun q : Nat => s.heap.size ≤ q) s s.heap) (i cells slots : Nat) (hi : x3.toInt = i) (hiL : i + 6 ≤ L) (hc : cells + 18 ≤ 600000) (hs : slots + 1522 ≤ 7302250) (ob : Nat → Int32) (w1 w2 : va_W) (I1 : IX cB cI cJ cZ cP cQ a1 ob w1) (I2 : IM cB cI cJ cZ cP cQ a2 ob w2) (H : Heap) (locs : List Loc) (hP : va_P (dC, dI) vwCl (w1 ++ w2) H) (hD : va_D (fun q : Nat => s.heap.size ≤ q) (w1 ++ w2)) (hS : va_S (fun q : Nat => s.heap.size ≤ q) s.heap H locs) (ls : Array Slot) (hl : lv_has ls 4 [(3, .int x3), (2, .ref a2), (1, .ref a1), (0, .ref b)]) (kk : ∀ (ob : Nat → Int32) (w1 w2 : va_W) (H : Heap) (locs : List Loc) (ls : Array Slot), IX cB cI cJ cZ cP cQ a1 ob w1 → IM cB cI cJ cZ cP cQ a2 ob w2 → va_P (dC, dI) vwCl (w1 ++ w2) H → va_D (fun q : Nat => s.heap.size ≤ q) (w1 ++ w2) → va_S (fun q : Nat => s.heap.size ≤ q) s.heap H locs → lv_has ls 4 [(3, .int x3), (2, .ref a2), (1, .ref a1), (0, .ref b)] → W p l e room_1 s m #[Value.ref b] below meth c H locs (cells + 18) (slots + 1522) (lw_Z below #[Value.ref b] s) (F0 m 1615 ls [])) : W p l e room_1 s m #[Value.ref b] below meth c H locs cells slots (lw_Z below #[Value.ref b] s) (F0 m 754 ls []) := by
  obtain ⟨hx, hb, hr, hml, hown, hts, hXs, hbl, hlocks, hgv⟩ := id C0
  have hown : s.vm.findClass RL = some m.cls := hown
  have hA : ∀ q : Nat, s.heap.size ≤ q → (fun q : Nat => s.heap.size ≤ q) q := fun _ h => h
  have hbA : ¬ (fun q : Nat => s.heap.size ≤ q) b := Nat.not_le.mpr hbl
  refine lv_aload_n hx hb dL_law_754 rfl (lv_at hl 2 rfl) ?_
  refine lv_aload_n hx hb dL_law_755 rfl (lv_at hl 3 rfl) ?_
  refine lv_iload_n hx hb dL_law_756 rfl (lv_at hl 0 rfl) ?_
  refine lv_iconst (v := 1) hx hb dL_law_757 (by decide) ?_
  refine lv_iadd hx hb dL_law_758 ?_
  refine lv_topi (fun r1 h2 => ?_)
  have f3 : r1.toInt = x3.toInt + 1 := z_iadd h2 rfl (show Int32.toInt 1 = 1 from by decide) (by omega) (by omega)
  refine va_sld hx hb hXs hbl hbA hS (z_in rfl (by omega) (by omega)) dL_law_759 ?_
  refine lv_topi (fun a4 h5 => ?_)
  refine f_finl (va_runV (As := [.int a4]) (rest := []) ⟨hx, hb, hml, hown, hts⟩ (q_X8_strong l dC dI cB cI cJ cZ cP cQ adK adV q0 a1 H.size ob w1 a4 I1) (cwV 1 hts gT_X8_strong rfl rfl rfl (by decide +kernel) ⟨Nat.le_of_ble_eq_true rfl, Nat.le_of_ble_eq_true rfl⟩) (f_pV (ci := 8) hE hS hA hK hP hD hX rfl (IX_recv I1)) rfl rfl hl.1 rfl (lv_room (Nat.le_of_ble_eq_true rfl)) dL_law_760 ⟨by show _ + 0 ≤ 600000; omega, by show _ + 0 ≤ 7302250; omega⟩) hP hD hS hA (fun r6 w1 H locs hp hP hD hS => ?_)
  obtain ⟨I1, h7⟩ := hp
  refine lv_pop2_2 hx hb dL_law_763 rfl ?_
  refine lv_aload_n hx hb dL_law_764 rfl (lv_at hl 1 rfl) ?_
  refine lv_aload_n hx hb dL_law_765 rfl (lv_at hl 3 rfl) ?_
  refine lv_iload_n hx hb dL_law_766 rfl (lv_at hl 0 rfl) ?_
  refine lv_iconst (v := 1) hx hb dL_law_767 (by decide) ?_
  refine lv_iadd hx hb dL_law_768 ?_
  refine lv_topi (fun r8 h9 => ?_)
  have f10 : r8.toInt = x3.toInt + 1 := z_iadd h9 rfl (show Int32.toInt 1 = 1 from by decide) (by omega) (by omega)
  refine va_sld hx hb hXs hbl hbA hS (z_in rfl (by omega) (by omega)) dL_law_769 ?_
  refine lv_topi (fun a11 h12 => ?_)
  have hP : va_P (dC, dI) vwCl (w2 ++ w1) H := f_Pm List.perm_append_comm hP
  have hD : va_D (fun q : Nat => s.heap.size ≤ q) (w2 ++ w1) := f_Dm List.perm_append_comm hD
  refine f_finl (va_runV (As := [.int a11]) (rest := []) ⟨hx, hb, hml, hown, hts⟩ (q_X9_strong l dC dI cB cI cJ cZ cP cQ adK adV q0 a2 H.size ob w2 a11 I2) (cwV 1 hts gT_X9_strong rfl rfl rfl (by decide +kernel) ⟨Nat.le_of_ble_eq_true rfl, Nat.le_of_ble_eq_true rfl⟩) (f_pV (ci := 9) hE hS hA hK hP hD hX rfl (IM_recv I2)) rfl rfl hl.1 rfl (lv_room (Nat.le_of_ble_eq_true rfl)) dL_law_770 ⟨by show _ + 0 ≤ 600000; omega, by show _ + 0 ≤ 7302250; omega⟩) hP hD hS hA (fun r13 w2 H locs hp hP hD hS => ?_)
  obtain ⟨I2, h14⟩ := hp
  have hP : va_P (dC, dI) vwCl (w1 ++ w2) H := f_Pm List.perm_append_comm hP
  have hD : va_D (fun q : Nat => s.heap.size ≤ q) (w1 ++ w2) := f_Dm List.perm_append_comm hD
  refine lv_pop2_2 hx hb dL_law_773 rfl ?_
  refine lv_goto (tgt := 1615) hx hb dL_law_774 (by decide) ?_
  refine W.widen (k := cells + 18) (n := slots + 1522) (by omega) (by omega) ?_
  exact kk ob w1 w2 H locs ls I1 I2 hP hD hS (lv_sub hl [0, 1, 2, 3] rfl)
set_option maxHeartbeats 8000000 in
set_option maxRecDepth 100000 in
theorem law_case19 {p : Program} {e : Env} {s : State} {m : MethodId} {below : List Frame} {meth : Method} {c : Code} {b L : Nat} {xs : Nat → Int32} (l : Launch) (dC : Nat → ClassId) (dI : Nat → Nat → Nat) (cB cI cJ cZ cP cQ : ClassId) (adK adV : Nat → Nat) (q0 : Option Nat) (a1 a2 : Nat) (x3 : Int32) (C0 : lw_At p s m meth c b L xs) (hL : L ≤ 3072) (hK : va_K (dC, dI) vwCl (zT cB cI cJ cZ cP cQ) s) (hX : zX zNW zAO s) (hE : zE adK adV q0 (fun q : Nat => s.heap.size ≤ q) s s.heap) (i cells slots : Nat) (hi : x3.toInt = i) (hiL : i + 6 ≤ L) (hc : cells + 18 ≤ 600000) (hs : slots + 1522 ≤ 7302250) (ob : Nat → Int32) (w1 w2 : va_W) (I1 : IX cB cI cJ cZ cP cQ a1 ob w1) (I2 : IM cB cI cJ cZ cP cQ a2 ob w2) (H : Heap) (locs : List Loc) (hP : va_P (dC, dI) vwCl (w1 ++ w2) H) (hD : va_D (fun q : Nat => s.heap.size ≤ q) (w1 ++ w2)) (hS : va_S (fun q : Nat => s.heap.size ≤ q) s.heap H locs) (ls : Array Slot) (hl : lv_has ls 4 [(3, .int x3), (2, .ref a2), (1, .ref a1), (0, .ref b)]) (kk : ∀ (ob : Nat → Int32) (w1 w2 : va_W) (H : Heap) (locs : List Loc) (ls : Array Slot), IX cB cI cJ cZ cP cQ a1 ob w1 → IM cB cI cJ cZ cP cQ a2 ob w2 → va_P (dC, dI) vwCl (w1 ++ w2) H → va_D (fun q : Nat => s.heap.size ≤ q) (w1 ++ w2) → va_S (fun q : Nat => s.heap.size ≤ q) s.heap H locs → lv_has ls 4 [(3, .int x3), (2, .ref a2), (1, .ref a1), (0, .ref b)] → W p l e room_1 s m #[Value.ref b] below meth c H locs (cells + 18) (slots + 1522) (lw_Z below #[Value.ref b] s) (F0 m 1615 ls [])) : W p l e room_1 s m #[Value.ref b] below meth c H locs cells slots (lw_Z below #[Value.ref b] s) (F0 m 777 ls []) := by
  obtain ⟨hx, hb, hr, hml, hown, hts, hXs, hbl, hlocks, hgv⟩ := id C0
  have hown : s.vm.findClass RL = some m.cls := hown
  have hA : ∀ q : Nat, s.heap.size ≤ q → (fun q : Nat => s.heap.size ≤ q) q := fun _ h => h
  have hbA : ¬ (fun q : Nat => s.heap.size ≤ q) b := Nat.not_le.mpr hbl
  refine lv_aload_n hx hb dL_law_777 rfl (lv_at hl 2 rfl) ?_
  refine f_fini (va_runV (As := []) (rest := []) ⟨hx, hb, hml, hown, hts⟩ (q_X8_strongest l dC dI cB cI cJ cZ cP cQ adK adV q0 a1 H.size ob w1 I1) (cwV 0 hts gT_X8_strongest rfl rfl rfl (by decide +kernel) ⟨Nat.le_of_ble_eq_true rfl, Nat.le_of_ble_eq_true rfl⟩) (f_pV (ci := 8) hE hS hA hK hP hD hX rfl (IX_recv I1)) rfl rfl hl.1 rfl (lv_room (Nat.le_of_ble_eq_true rfl)) dL_law_778 ⟨by show _ + 0 ≤ 600000; omega, by show _ + 0 ≤ 7302250; omega⟩) hP hD hS hA (fun r1 w1 H locs hp hP hD hS => ?_)
  obtain ⟨I1, h2⟩ := hp
  refine lv_pop hx hb dL_law_781 rfl ?_
  refine lv_aload_n hx hb dL_law_782 rfl (lv_at hl 1 rfl) ?_
  have hP : va_P (dC, dI) vwCl (w2 ++ w1) H := f_Pm List.perm_append_comm hP
  have hD : va_D (fun q : Nat => s.heap.size ≤ q) (w2 ++ w1) := f_Dm List.perm_append_comm hD
  refine f_fini (va_runV (As := []) (rest := []) ⟨hx, hb, hml, hown, hts⟩ (q_X9_strongest l dC dI cB cI cJ cZ cP cQ adK adV q0 a2 H.size ob w2 I2) (cwV 0 hts gT_X9_strongest rfl rfl rfl (by decide +kernel) ⟨Nat.le_of_ble_eq_true rfl, Nat.le_of_ble_eq_true rfl⟩) (f_pV (ci := 9) hE hS hA hK hP hD hX rfl (IM_recv I2)) rfl rfl hl.1 rfl (lv_room (Nat.le_of_ble_eq_true rfl)) dL_law_783 ⟨by show _ + 0 ≤ 600000; omega, by show _ + 0 ≤ 7302250; omega⟩) hP hD hS hA (fun r3 w2 H locs hp hP hD hS => ?_)
  obtain ⟨I2, h4⟩ := hp
  have hP : va_P (dC, dI) vwCl (w1 ++ w2) H := f_Pm List.perm_append_comm hP
  have hD : va_D (fun q : Nat => s.heap.size ≤ q) (w1 ++ w2) := f_Dm List.perm_append_comm hD
  refine lv_pop hx hb dL_law_786 rfl ?_
  refine lv_goto (tgt := 1615) hx hb dL_law_787 (by decide) ?_
  refine W.widen (k := cells + 18) (n := slots + 1522) (by omega) (by omega) ?_
  exact kk ob w1 w2 H locs ls I1 I2 hP hD hS (lv_sub hl [0, 1, 2, 3] rfl)
set_option maxHeartbeats 8000000 in
set_option maxRecDepth 100000 in
theorem law_case20 {p : Program} {e : Env} {s : State} {m : MethodId} {below : List Frame} {meth : Method} {c : Code} {b L : Nat} {xs : Nat → Int32} (l : Launch) (dC : Nat → ClassId) (dI : Nat → Nat → Nat) (cB cI cJ cZ cP cQ : ClassId) (adK adV : Nat → Nat) (q0 : Option Nat) (a1 a2 : Nat) (x3 : Int32) (C0 : lw_At p s m meth c b L xs) (hL : L ≤ 3072) (hK : va_K (dC, dI) vwCl (zT cB cI cJ cZ cP cQ) s) (hX : zX zNW zAO s) (hE : zE adK adV q0 (fun q : Nat => s.heap.size ≤ q) s s.heap) (i cells slots : Nat) (hi : x3.toInt = i) (hiL : i + 6 ≤ L) (hc : cells + 18 ≤ 600000) (hs : slots + 1522 ≤ 7302250) (ob : Nat → Int32) (w1 w2 : va_W) (I1 : IX cB cI cJ cZ cP cQ a1 ob w1) (I2 : IM cB cI cJ cZ cP cQ a2 ob w2) (H : Heap) (locs : List Loc) (hP : va_P (dC, dI) vwCl (w1 ++ w2) H) (hD : va_D (fun q : Nat => s.heap.size ≤ q) (w1 ++ w2)) (hS : va_S (fun q : Nat => s.heap.size ≤ q) s.heap H locs) (ls : Array Slot) (hl : lv_has ls 4 [(3, .int x3), (2, .ref a2), (1, .ref a1), (0, .ref b)]) (kk : ∀ (ob : Nat → Int32) (w1 w2 : va_W) (H : Heap) (locs : List Loc) (ls : Array Slot), IX cB cI cJ cZ cP cQ a1 ob w1 → IM cB cI cJ cZ cP cQ a2 ob w2 → va_P (dC, dI) vwCl (w1 ++ w2) H → va_D (fun q : Nat => s.heap.size ≤ q) (w1 ++ w2) → va_S (fun q : Nat => s.heap.size ≤ q) s.heap H locs → lv_has ls 4 [(3, .int x3), (2, .ref a2), (1, .ref a1), (0, .ref b)] → W p l e room_1 s m #[Value.ref b] below meth c H locs (cells + 18) (slots + 1522) (lw_Z below #[Value.ref b] s) (F0 m 1615 ls [])) : W p l e room_1 s m #[Value.ref b] below meth c H locs cells slots (lw_Z below #[Value.ref b] s) (F0 m 790 ls []) := by
  obtain ⟨hx, hb, hr, hml, hown, hts, hXs, hbl, hlocks, hgv⟩ := id C0
  have hown : s.vm.findClass RL = some m.cls := hown
  have hA : ∀ q : Nat, s.heap.size ≤ q → (fun q : Nat => s.heap.size ≤ q) q := fun _ h => h
  have hbA : ¬ (fun q : Nat => s.heap.size ≤ q) b := Nat.not_le.mpr hbl
  refine lv_aload_n hx hb dL_law_790 rfl (lv_at hl 2 rfl) ?_
  refine lv_aload_n hx hb dL_law_791 rfl (lv_at hl 3 rfl) ?_
  refine lv_iload_n hx hb dL_law_792 rfl (lv_at hl 0 rfl) ?_
  refine lv_iconst (v := 1) hx hb dL_law_793 (by decide) ?_
  refine lv_iadd hx hb dL_law_794 ?_
  refine lv_topi (fun r1 h2 => ?_)
  have f3 : r1.toInt = x3.toInt + 1 := z_iadd h2 rfl (show Int32.toInt 1 = 1 from by decide) (by omega) (by omega)
  refine va_sld hx hb hXs hbl hbA hS (z_in rfl (by omega) (by omega)) dL_law_795 ?_
  refine lv_topi (fun a4 h5 => ?_)
  refine lv_aload_n hx hb dL_law_796 rfl (lv_at hl 3 rfl) ?_
  refine lv_iload_n hx hb dL_law_797 rfl (lv_at hl 0 rfl) ?_
  refine lv_iconst (v := 2) hx hb dL_law_798 (by decide) ?_
  refine lv_iadd hx hb dL_law_799 ?_
  refine lv_topi (fun r6 h7 => ?_)
  have f8 : r6.toInt = x3.toInt + 2 := z_iadd h7 rfl (show Int32.toInt 2 = 2 from by decide) (by omega) (by omega)
  refine va_sld hx hb hXs hbl hbA hS (z_in rfl (by omega) (by omega)) dL_law_800 ?_
  refine lv_topi (fun a9 h10 => ?_)
  refine lv_aload_n hx hb dL_law_801 rfl (lv_at hl 3 rfl) ?_
  refine lv_iload_n hx hb dL_law_802 rfl (lv_at hl 0 rfl) ?_
  refine lv_iconst (v := 3) hx hb dL_law_803 (by decide) ?_
  refine lv_iadd hx hb dL_law_804 ?_
  refine lv_topi (fun r11 h12 => ?_)
  have f13 : r11.toInt = x3.toInt + 3 := z_iadd h12 rfl (show Int32.toInt 3 = 3 from by decide) (by omega) (by omega)
  refine va_sld hx hb hXs hbl hbA hS (z_in rfl (by omega) (by omega)) dL_law_805 ?_
  refine lv_topi (fun a14 h15 => ?_)
  refine f_fini (va_runV (As := [.int a4, .int a9, .int a14]) (rest := []) ⟨hx, hb, hml, hown, hts⟩ (q_X8_span l dC dI cB cI cJ cZ cP cQ adK adV q0 a1 H.size ob w1 a4 a9 a14 I1) (cwV 3 hts gT_X8_span rfl rfl rfl (by decide +kernel) ⟨Nat.le_of_ble_eq_true rfl, Nat.le_of_ble_eq_true rfl⟩) (f_pV (ci := 8) hE hS hA hK hP hD hX rfl (IX_recv I1)) rfl rfl hl.1 rfl (lv_room (Nat.le_of_ble_eq_true rfl)) dL_law_806 ⟨by show _ + 0 ≤ 600000; omega, by show _ + 0 ≤ 7302250; omega⟩) hP hD hS hA (fun r16 w1 H locs hp hP hD hS => ?_)
  obtain ⟨I1, h17⟩ := hp
  refine lv_pop hx hb dL_law_809 rfl ?_
  refine lv_aload_n hx hb dL_law_810 rfl (lv_at hl 1 rfl) ?_
  refine lv_aload_n hx hb dL_law_811 rfl (lv_at hl 3 rfl) ?_
  refine lv_iload_n hx hb dL_law_812 rfl (lv_at hl 0 rfl) ?_
  refine lv_iconst (v := 1) hx hb dL_law_813 (by decide) ?_
  refine lv_iadd hx hb dL_law_814 ?_
  refine lv_topi (fun r18 h19 => ?_)
  have f20 : r18.toInt = x3.toInt + 1 := z_iadd h19 rfl (show Int32.toInt 1 = 1 from by decide) (by omega) (by omega)
  refine va_sld hx hb hXs hbl hbA hS (z_in rfl (by omega) (by omega)) dL_law_815 ?_
  refine lv_topi (fun a21 h22 => ?_)
  refine lv_aload_n hx hb dL_law_816 rfl (lv_at hl 3 rfl) ?_
  refine lv_iload_n hx hb dL_law_817 rfl (lv_at hl 0 rfl) ?_
  refine lv_iconst (v := 2) hx hb dL_law_818 (by decide) ?_
  refine lv_iadd hx hb dL_law_819 ?_
  refine lv_topi (fun r23 h24 => ?_)
  have f25 : r23.toInt = x3.toInt + 2 := z_iadd h24 rfl (show Int32.toInt 2 = 2 from by decide) (by omega) (by omega)
  refine va_sld hx hb hXs hbl hbA hS (z_in rfl (by omega) (by omega)) dL_law_820 ?_
  refine lv_topi (fun a26 h27 => ?_)
  refine lv_aload_n hx hb dL_law_821 rfl (lv_at hl 3 rfl) ?_
  refine lv_iload_n hx hb dL_law_822 rfl (lv_at hl 0 rfl) ?_
  refine lv_iconst (v := 3) hx hb dL_law_823 (by decide) ?_
  refine lv_iadd hx hb dL_law_824 ?_
  refine lv_topi (fun r28 h29 => ?_)
  have f30 : r28.toInt = x3.toInt + 3 := z_iadd h29 rfl (show Int32.toInt 3 = 3 from by decide) (by omega) (by omega)
  refine va_sld hx hb hXs hbl hbA hS (z_in rfl (by omega) (by omega)) dL_law_825 ?_
  refine lv_topi (fun a31 h32 => ?_)
  have hP : va_P (dC, dI) vwCl (w2 ++ w1) H := f_Pm List.perm_append_comm hP
  have hD : va_D (fun q : Nat => s.heap.size ≤ q) (w2 ++ w1) := f_Dm List.perm_append_comm hD
  refine f_fini (va_runV (As := [.int a21, .int a26, .int a31]) (rest := []) ⟨hx, hb, hml, hown, hts⟩ (q_X9_span l dC dI cB cI cJ cZ cP cQ adK adV q0 a2 H.size ob w2 a21 a26 a31 I2) (cwV 3 hts gT_X9_span rfl rfl rfl (by decide +kernel) ⟨Nat.le_of_ble_eq_true rfl, Nat.le_of_ble_eq_true rfl⟩) (f_pV (ci := 9) hE hS hA hK hP hD hX rfl (IM_recv I2)) rfl rfl hl.1 rfl (lv_room (Nat.le_of_ble_eq_true rfl)) dL_law_826 ⟨by show _ + 0 ≤ 600000; omega, by show _ + 0 ≤ 7302250; omega⟩) hP hD hS hA (fun r33 w2 H locs hp hP hD hS => ?_)
  obtain ⟨I2, h34⟩ := hp
  have hP : va_P (dC, dI) vwCl (w1 ++ w2) H := f_Pm List.perm_append_comm hP
  have hD : va_D (fun q : Nat => s.heap.size ≤ q) (w1 ++ w2) := f_Dm List.perm_append_comm hD
  refine lv_pop hx hb dL_law_829 rfl ?_
  refine lv_goto (tgt := 1615) hx hb dL_law_830 (by decide) ?_
  refine W.widen (k := cells + 18) (n := slots + 1522) (by omega) (by omega) ?_
  exact kk ob w1 w2 H locs ls I1 I2 hP hD hS (lv_sub hl [0, 1, 2, 3] rfl)
set_option maxHeartbeats 8000000 in
set_option maxRecDepth 100000 in
theorem law_case21 {p : Program} {e : Env} {s : State} {m : MethodId} {below : List Frame} {meth : Method} {c : Code} {b L : Nat} {xs : Nat → Int32} (l : Launch) (dC : Nat → ClassId) (dI : Nat → Nat → Nat) (cB cI cJ cZ cP cQ : ClassId) (adK adV : Nat → Nat) (q0 : Option Nat) (a1 a2 : Nat) (x3 : Int32) (C0 : lw_At p s m meth c b L xs) (hL : L ≤ 3072) (hK : va_K (dC, dI) vwCl (zT cB cI cJ cZ cP cQ) s) (hX : zX zNW zAO s) (hE : zE adK adV q0 (fun q : Nat => s.heap.size ≤ q) s s.heap) (i cells slots : Nat) (hi : x3.toInt = i) (hiL : i + 6 ≤ L) (hc : cells + 18 ≤ 600000) (hs : slots + 1522 ≤ 7302250) (ob : Nat → Int32) (w1 w2 : va_W) (I1 : IX cB cI cJ cZ cP cQ a1 ob w1) (I2 : IM cB cI cJ cZ cP cQ a2 ob w2) (H : Heap) (locs : List Loc) (hP : va_P (dC, dI) vwCl (w1 ++ w2) H) (hD : va_D (fun q : Nat => s.heap.size ≤ q) (w1 ++ w2)) (hS : va_S (fun q : Nat => s.heap.size ≤ q) s.heap H locs) (ls : Array Slot) (hl : lv_has ls 4 [(3, .int x3), (2, .ref a2), (1, .ref a1), (0, .ref b)]) (kk : ∀ (ob : Nat → Int32) (w1 w2 : va_W) (H : Heap) (locs : List Loc) (ls : Array Slot), IX cB cI cJ cZ cP cQ a1 ob w1 → IM cB cI cJ cZ cP cQ a2 ob w2 → va_P (dC, dI) vwCl (w1 ++ w2) H → va_D (fun q : Nat => s.heap.size ≤ q) (w1 ++ w2) → va_S (fun q : Nat => s.heap.size ≤ q) s.heap H locs → lv_has ls 4 [(3, .int x3), (2, .ref a2), (1, .ref a1), (0, .ref b)] → W p l e room_1 s m #[Value.ref b] below meth c H locs (cells + 18) (slots + 1522) (lw_Z below #[Value.ref b] s) (F0 m 1615 ls [])) : W p l e room_1 s m #[Value.ref b] below meth c H locs cells slots (lw_Z below #[Value.ref b] s) (F0 m 833 ls []) := by
  obtain ⟨hx, hb, hr, hml, hown, hts, hXs, hbl, hlocks, hgv⟩ := id C0
  have hown : s.vm.findClass RL = some m.cls := hown
  have hA : ∀ q : Nat, s.heap.size ≤ q → (fun q : Nat => s.heap.size ≤ q) q := fun _ h => h
  have hbA : ¬ (fun q : Nat => s.heap.size ≤ q) b := Nat.not_le.mpr hbl
  refine lv_aload_n hx hb dL_law_833 rfl (lv_at hl 2 rfl) ?_
  refine lv_aload_n hx hb dL_law_834 rfl (lv_at hl 3 rfl) ?_
  refine lv_iload_n hx hb dL_law_835 rfl (lv_at hl 0 rfl) ?_
  refine lv_iconst (v := 1) hx hb dL_law_836 (by decide) ?_
  refine lv_iadd hx hb dL_law_837 ?_
  refine lv_topi (fun r1 h2 => ?_)
  have f3 : r1.toInt = x3.toInt + 1 := z_iadd h2 rfl (show Int32.toInt 1 = 1 from by decide) (by omega) (by omega)
  refine va_sld hx hb hXs hbl hbA hS (z_in rfl (by omega) (by omega)) dL_law_838 ?_
  refine lv_topi (fun a4 h5 => ?_)
  refine lv_aload_n hx hb dL_law_839 rfl (lv_at hl 3 rfl) ?_
  refine lv_iload_n hx hb dL_law_840 rfl (lv_at hl 0 rfl) ?_
  refine lv_iconst (v := 2) hx hb dL_law_841 (by decide) ?_
  refine lv_iadd hx hb dL_law_842 ?_
  refine lv_topi (fun r6 h7 => ?_)
  have f8 : r6.toInt = x3.toInt + 2 := z_iadd h7 rfl (show Int32.toInt 2 = 2 from by decide) (by omega) (by omega)
  refine va_sld hx hb hXs hbl hbA hS (z_in rfl (by omega) (by omega)) dL_law_843 ?_
  refine lv_topi (fun a9 h10 => ?_)
  refine lv_aload_n hx hb dL_law_844 rfl (lv_at hl 3 rfl) ?_
  refine lv_iload_n hx hb dL_law_845 rfl (lv_at hl 0 rfl) ?_
  refine lv_iconst (v := 3) hx hb dL_law_846 (by decide) ?_
  refine lv_iadd hx hb dL_law_847 ?_
  refine lv_topi (fun r11 h12 => ?_)
  have f13 : r11.toInt = x3.toInt + 3 := z_iadd h12 rfl (show Int32.toInt 3 = 3 from by decide) (by omega) (by omega)
  refine va_sld hx hb hXs hbl hbA hS (z_in rfl (by omega) (by omega)) dL_law_848 ?_
  refine lv_topi (fun a14 h15 => ?_)
  refine f_fini (va_runV (As := [.int a4, .int a9, .int a14]) (rest := []) ⟨hx, hb, hml, hown, hts⟩ (q_X8_usual l dC dI cB cI cJ cZ cP cQ adK adV q0 a1 H.size ob w1 a4 a9 a14 I1) (cwV 3 hts gT_X8_usual rfl rfl rfl (by decide +kernel) ⟨Nat.le_of_ble_eq_true rfl, Nat.le_of_ble_eq_true rfl⟩) (f_pV (ci := 8) hE hS hA hK hP hD hX rfl (IX_recv I1)) rfl rfl hl.1 rfl (lv_room (Nat.le_of_ble_eq_true rfl)) dL_law_849 ⟨by show _ + 0 ≤ 600000; omega, by show _ + 0 ≤ 7302250; omega⟩) hP hD hS hA (fun r16 w1 H locs hp hP hD hS => ?_)
  obtain ⟨I1, h17⟩ := hp
  refine lv_pop hx hb dL_law_852 rfl ?_
  refine lv_aload_n hx hb dL_law_853 rfl (lv_at hl 1 rfl) ?_
  refine lv_aload_n hx hb dL_law_854 rfl (lv_at hl 3 rfl) ?_
  refine lv_iload_n hx hb dL_law_855 rfl (lv_at hl 0 rfl) ?_
  refine lv_iconst (v := 1) hx hb dL_law_856 (by decide) ?_
  refine lv_iadd hx hb dL_law_857 ?_
  refine lv_topi (fun r18 h19 => ?_)
  have f20 : r18.toInt = x3.toInt + 1 := z_iadd h19 rfl (show Int32.toInt 1 = 1 from by decide) (by omega) (by omega)
  refine va_sld hx hb hXs hbl hbA hS (z_in rfl (by omega) (by omega)) dL_law_858 ?_
  refine lv_topi (fun a21 h22 => ?_)
  refine lv_aload_n hx hb dL_law_859 rfl (lv_at hl 3 rfl) ?_
  refine lv_iload_n hx hb dL_law_860 rfl (lv_at hl 0 rfl) ?_
  refine lv_iconst (v := 2) hx hb dL_law_861 (by decide) ?_
  refine lv_iadd hx hb dL_law_862 ?_
  refine lv_topi (fun r23 h24 => ?_)
  have f25 : r23.toInt = x3.toInt + 2 := z_iadd h24 rfl (show Int32.toInt 2 = 2 from by decide) (by omega) (by omega)
  refine va_sld hx hb hXs hbl hbA hS (z_in rfl (by omega) (by omega)) dL_law_863 ?_
  refine lv_topi (fun a26 h27 => ?_)
  refine lv_aload_n hx hb dL_law_864 rfl (lv_at hl 3 rfl) ?_
  refine lv_iload_n hx hb dL_law_865 rfl (lv_at hl 0 rfl) ?_
  refine lv_iconst (v := 3) hx hb dL_law_866 (by decide) ?_
  refine lv_iadd hx hb dL_law_867 ?_
  refine lv_topi (fun r28 h29 => ?_)
  have f30 : r28.toInt = x3.toInt + 3 := z_iadd h29 rfl (show Int32.toInt 3 = 3 from by decide) (by omega) (by omega)
  refine va_sld hx hb hXs hbl hbA hS (z_in rfl (by omega) (by omega)) dL_law_868 ?_
  refine lv_topi (fun a31 h32 => ?_)
  have hP : va_P (dC, dI) vwCl (w2 ++ w1) H := f_Pm List.perm_append_comm hP
  have hD : va_D (fun q : Nat => s.heap.size ≤ q) (w2 ++ w1) := f_Dm List.perm_append_comm hD
  refine f_fini (va_runV (As := [.int a21, .int a26, .int a31]) (rest := []) ⟨hx, hb, hml, hown, hts⟩ (q_X9_usual l dC dI cB cI cJ cZ cP cQ adK adV q0 a2 H.size ob w2 a21 a26 a31 I2) (cwV 3 hts gT_X9_usual rfl rfl rfl (by decide +kernel) ⟨Nat.le_of_ble_eq_true rfl, Nat.le_of_ble_eq_true rfl⟩) (f_pV (ci := 9) hE hS hA hK hP hD hX rfl (IM_recv I2)) rfl rfl hl.1 rfl (lv_room (Nat.le_of_ble_eq_true rfl)) dL_law_869 ⟨by show _ + 0 ≤ 600000; omega, by show _ + 0 ≤ 7302250; omega⟩) hP hD hS hA (fun r33 w2 H locs hp hP hD hS => ?_)
  obtain ⟨I2, h34⟩ := hp
  have hP : va_P (dC, dI) vwCl (w1 ++ w2) H := f_Pm List.perm_append_comm hP
  have hD : va_D (fun q : Nat => s.heap.size ≤ q) (w1 ++ w2) := f_Dm List.perm_append_comm hD
  refine lv_pop hx hb dL_law_872 rfl ?_
  refine lv_goto (tgt := 1615) hx hb dL_law_873 (by decide) ?_
  refine W.widen (k := cells + 18) (n := slots + 1522) (by omega) (by omega) ?_
  exact kk ob w1 w2 H locs ls I1 I2 hP hD hS (lv_sub hl [0, 1, 2, 3] rfl)
